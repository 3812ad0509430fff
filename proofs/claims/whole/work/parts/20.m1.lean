abbrev rm_M_thrown : Room := { frames := 0, cells := 0, slots := 0, locals := 0 }
set_option maxHeartbeats 4000000 in
set_option maxRecDepth 100000 in
theorem c_M_thrown (l : Launch) (E : xE) (hm ms mf mc my mb mz mp mo mm ml md me mg : Nat) (re : Int32) (wr : Nat) (sp rp fi : Bool) (gd : Nat) (la : Int32) (lst : Int64) : xCp l E y_M_thrown (.code y_M_thrown prog_10_method_2_code 1 (some .int)) rm_M_thrown [.ref hm] [(hm, .inr (5, [.int (re), .ref ms, .ref mf, .ref mc, .ref my, .ref mb, .ref mz, .ref mp, .ref mo, .ref mm, .ref ml, .ref md, .int (nI (wr)), .int (bI sp), .int (bI rp), .int (bI fi), .int (nI (gd)), .ref me, .ref mg, .int (la), .int (nI 0), .long (lst), .int 0]))] (.inl (some (.int (re)))) := by
  refine x_ofP (own := "LineCoderModel") (mn := "thrown") (lv := [(0, .ref hm)]) (plainFor_of_name (by decide)) rfl rfl (Nat.le_of_ble_eq_true rfl) rfl ?_
  intro p_ e_ s_ m_ ar_ be_ me_ c_ hB
  refine x_aload_n 1 hB d_M_thrown_0 rfl rfl ?_
  refine x_get 4 hB 0 fg_M_61_5 rfl rfl d_M_thrown_1 rfl ?_
  exact x_iretP hB (rfl) (by decide) (by decide) d_M_thrown_4
abbrev rm_M_refused0 : Room := { frames := 0, cells := 0, slots := 0, locals := 0 }
set_option maxHeartbeats 4000000 in
set_option maxRecDepth 100000 in
theorem c_M_refused0 (l : Launch) (E : xE) (hm ms mf mc my mb mz mp mo mm ml md me mg : Nat) (re : Int32) (wr : Nat) (sp rp fi : Bool) (gd : Nat) (la : Int32) (lst : Int64) : xC l E y_M_refused (.code y_M_refused prog_10_method_3_code 2 (some .boolean)) rm_M_refused0 [.ref hm, .int (nI 0)] [(hm, .inr (5, [.int (re), .ref ms, .ref mf, .ref mc, .ref my, .ref mb, .ref mz, .ref mp, .ref mo, .ref mm, .ref ml, .ref md, .int (nI (wr)), .int (bI sp), .int (bI rp), .int (bI fi), .int (nI (gd)), .ref me, .ref mg, .int (la), .int (nI 0), .long (lst), .int 0]))] (xRet (some (.int (nI 0))) [(hm, .inr (5, [.int (nI 0), .ref ms, .ref mf, .ref mc, .ref my, .ref mb, .ref mz, .ref mp, .ref mo, .ref mm, .ref ml, .ref md, .int (nI (wr)), .int (bI sp), .int (bI rp), .int (bI fi), .int (nI (gd)), .ref me, .ref mg, .int (la), .int (nI 0), .long (lst), .int 0]))]) := by
  refine x_of' (own := "LineCoderModel") (mn := "refused") (lv := [(0, .ref hm), (1, .int (nI 0))]) (plainFor_of_name (by decide)) rfl rfl (Nat.le_of_ble_eq_true rfl) rfl ?_
  intro p_ e_ s_ m_ ar_ be_ me_ c_ A_ hA hB
  refine x_aload_n 1 hB d_M_refused_0 rfl rfl ?_
  refine x_iload_n 2 hB d_M_refused_1 rfl rfl ?_
  refine x_put 5 hB 0 (ws' := [(hm, .inr (5, [.int (nI 0), .ref ms, .ref mf, .ref mc, .ref my, .ref mb, .ref mz, .ref mp, .ref mo, .ref mm, .ref ml, .ref md, .int (nI (wr)), .int (bI sp), .int (bI rp), .int (bI fi), .int (nI (gd)), .ref me, .ref mg, .int (la), .int (nI 0), .long (lst), .int 0]))]) fp_M_61_5 rfl (rfl) (rfl) (Nat.le_of_ble_eq_true rfl) rfl d_M_refused_2 rfl ?_
  refine x_iload_n 6 hB d_M_refused_5 rfl rfl ?_
  refine x_if_le 13 9 hB d_M_refused_6 (by decide) rfl (fun _ => ?_) (fun hc => absurd (by decide) hc)
  refine x_iconst (v := nI 0) 14 hB d_M_refused_13 rfl (by decide) ?_
  exact x_zret hB (by decide) (w' := [(hm, .inr (5, [.int (nI 0), .ref ms, .ref mf, .ref mc, .ref my, .ref mb, .ref mz, .ref mp, .ref mo, .ref mm, .ref ml, .ref md, .int (nI (wr)), .int (bI sp), .int (bI rp), .int (bI fi), .int (nI (gd)), .ref me, .ref mg, .int (la), .int (nI 0), .long (lst), .int 0]))]) hA [0] rfl rfl (xRet_i) (by decide) (by decide) d_M_refused_14
abbrev rm_M_refused1 : Room := { frames := 0, cells := 0, slots := 0, locals := 0 }
set_option maxHeartbeats 4000000 in
set_option maxRecDepth 100000 in
theorem c_M_refused1 (l : Launch) (E : xE) (hm ms mf mc my mb mz mp mo mm ml md me mg : Nat) (re : Int32) (wr : Nat) (sp rp fi : Bool) (gd : Nat) (la : Int32) (lst : Int64) : xC l E y_M_refused (.code y_M_refused prog_10_method_3_code 2 (some .boolean)) rm_M_refused1 [.ref hm, .int (nI 1)] [(hm, .inr (5, [.int (re), .ref ms, .ref mf, .ref mc, .ref my, .ref mb, .ref mz, .ref mp, .ref mo, .ref mm, .ref ml, .ref md, .int (nI (wr)), .int (bI sp), .int (bI rp), .int (bI fi), .int (nI (gd)), .ref me, .ref mg, .int (la), .int (nI 0), .long (lst), .int 0]))] (xRet (some (.int (nI 1))) [(hm, .inr (5, [.int (nI 1), .ref ms, .ref mf, .ref mc, .ref my, .ref mb, .ref mz, .ref mp, .ref mo, .ref mm, .ref ml, .ref md, .int (nI (wr)), .int (bI sp), .int (bI rp), .int (bI fi), .int (nI (gd)), .ref me, .ref mg, .int (la), .int (nI 0), .long (lst), .int 0]))]) := by
  refine x_of' (own := "LineCoderModel") (mn := "refused") (lv := [(0, .ref hm), (1, .int (nI 1))]) (plainFor_of_name (by decide)) rfl rfl (Nat.le_of_ble_eq_true rfl) rfl ?_
  intro p_ e_ s_ m_ ar_ be_ me_ c_ A_ hA hB
  refine x_aload_n 1 hB d_M_refused_0 rfl rfl ?_
  refine x_iload_n 2 hB d_M_refused_1 rfl rfl ?_
  refine x_put 5 hB 0 (ws' := [(hm, .inr (5, [.int (nI 1), .ref ms, .ref mf, .ref mc, .ref my, .ref mb, .ref mz, .ref mp, .ref mo, .ref mm, .ref ml, .ref md, .int (nI (wr)), .int (bI sp), .int (bI rp), .int (bI fi), .int (nI (gd)), .ref me, .ref mg, .int (la), .int (nI 0), .long (lst), .int 0]))]) fp_M_61_5 rfl (rfl) (rfl) (Nat.le_of_ble_eq_true rfl) rfl d_M_refused_2 rfl ?_
  refine x_iload_n 6 hB d_M_refused_5 rfl rfl ?_
  refine x_if_le 13 9 hB d_M_refused_6 (by decide) rfl (fun hc => absurd hc (by decide)) (fun _ => ?_)
  refine x_iconst (v := nI 1) 10 hB d_M_refused_9 rfl (by decide) ?_
  refine x_goto 14 hB d_M_refused_10 (by decide) ?_
  exact x_zret hB (by decide) (w' := [(hm, .inr (5, [.int (nI 1), .ref ms, .ref mf, .ref mc, .ref my, .ref mb, .ref mz, .ref mp, .ref mo, .ref mm, .ref ml, .ref md, .int (nI (wr)), .int (bI sp), .int (bI rp), .int (bI fi), .int (nI (gd)), .ref me, .ref mg, .int (la), .int (nI 0), .long (lst), .int 0]))]) hA [0] rfl rfl (xRet_i) (by decide) (by decide) d_M_refused_14
abbrev rm_M_refused2 : Room := { frames := 0, cells := 0, slots := 0, locals := 0 }
set_option maxHeartbeats 4000000 in
set_option maxRecDepth 100000 in
theorem c_M_refused2 (l : Launch) (E : xE) (hm ms mf mc my mb mz mp mo mm ml md me mg : Nat) (re : Int32) (wr : Nat) (sp rp fi : Bool) (gd : Nat) (la : Int32) (lst : Int64) : xC l E y_M_refused (.code y_M_refused prog_10_method_3_code 2 (some .boolean)) rm_M_refused2 [.ref hm, .int (nI 2)] [(hm, .inr (5, [.int (re), .ref ms, .ref mf, .ref mc, .ref my, .ref mb, .ref mz, .ref mp, .ref mo, .ref mm, .ref ml, .ref md, .int (nI (wr)), .int (bI sp), .int (bI rp), .int (bI fi), .int (nI (gd)), .ref me, .ref mg, .int (la), .int (nI 0), .long (lst), .int 0]))] (xRet (some (.int (nI 1))) [(hm, .inr (5, [.int (nI 2), .ref ms, .ref mf, .ref mc, .ref my, .ref mb, .ref mz, .ref mp, .ref mo, .ref mm, .ref ml, .ref md, .int (nI (wr)), .int (bI sp), .int (bI rp), .int (bI fi), .int (nI (gd)), .ref me, .ref mg, .int (la), .int (nI 0), .long (lst), .int 0]))]) := by
  refine x_of' (own := "LineCoderModel") (mn := "refused") (lv := [(0, .ref hm), (1, .int (nI 2))]) (plainFor_of_name (by decide)) rfl rfl (Nat.le_of_ble_eq_true rfl) rfl ?_
  intro p_ e_ s_ m_ ar_ be_ me_ c_ A_ hA hB
  refine x_aload_n 1 hB d_M_refused_0 rfl rfl ?_
  refine x_iload_n 2 hB d_M_refused_1 rfl rfl ?_
  refine x_put 5 hB 0 (ws' := [(hm, .inr (5, [.int (nI 2), .ref ms, .ref mf, .ref mc, .ref my, .ref mb, .ref mz, .ref mp, .ref mo, .ref mm, .ref ml, .ref md, .int (nI (wr)), .int (bI sp), .int (bI rp), .int (bI fi), .int (nI (gd)), .ref me, .ref mg, .int (la), .int (nI 0), .long (lst), .int 0]))]) fp_M_61_5 rfl (rfl) (rfl) (Nat.le_of_ble_eq_true rfl) rfl d_M_refused_2 rfl ?_
  refine x_iload_n 6 hB d_M_refused_5 rfl rfl ?_
  refine x_if_le 13 9 hB d_M_refused_6 (by decide) rfl (fun hc => absurd hc (by decide)) (fun _ => ?_)
  refine x_iconst (v := nI 1) 10 hB d_M_refused_9 rfl (by decide) ?_
  refine x_goto 14 hB d_M_refused_10 (by decide) ?_
  exact x_zret hB (by decide) (w' := [(hm, .inr (5, [.int (nI 2), .ref ms, .ref mf, .ref mc, .ref my, .ref mb, .ref mz, .ref mp, .ref mo, .ref mm, .ref ml, .ref md, .int (nI (wr)), .int (bI sp), .int (bI rp), .int (bI fi), .int (nI (gd)), .ref me, .ref mg, .int (la), .int (nI 0), .long (lst), .int 0]))]) hA [0] rfl rfl (xRet_i) (by decide) (by decide) d_M_refused_14
abbrev rm_M_isIn_y : Room := { frames := 0, cells := 0, slots := 0, locals := 0 }
set_option maxHeartbeats 4000000 in
set_option maxRecDepth 100000 in
theorem c_M_isIn_y (l : Launch) (E : xE) (v a b : Int32) (h1 : ¬ v < a) (h2 : ¬ b < v) : xCp l E y_M_isIn (.code y_M_isIn prog_10_method_4_code 3 (some .boolean)) rm_M_isIn_y [.int (v), .int (a), .int (b)] [] (.inl (some (.int (nI 1)))) := by
  refine x_ofP (own := "LineCoderModel") (mn := "isIn") (lv := [(0, .int (v)), (1, .int (a)), (2, .int (b))]) (plainFor_of_name (by decide)) rfl rfl (Nat.le_of_ble_eq_true rfl) rfl ?_
  intro p_ e_ s_ m_ ar_ be_ me_ c_ hB
  refine x_iload_n 1 hB d_M_isIn_0 rfl rfl ?_
  refine x_iload_n 2 hB d_M_isIn_1 rfl rfl ?_
  refine x_icmp_lt 14 5 hB d_M_isIn_2 (by decide) rfl (fun hc => absurd hc (h1)) (fun _ => ?_)
  refine x_iload_n 6 hB d_M_isIn_5 rfl rfl ?_
  refine x_iload_n 7 hB d_M_isIn_6 rfl rfl ?_
  refine x_icmp_gt 14 10 hB d_M_isIn_7 (by decide) rfl (fun hc => absurd hc (h2)) (fun _ => ?_)
  refine x_iconst (v := nI 1) 11 hB d_M_isIn_10 rfl (by decide) ?_
  refine x_goto 15 hB d_M_isIn_11 (by decide) ?_
  exact x_zretP hB (by decide) (rfl) (by decide) (by decide) d_M_isIn_15
abbrev rm_M_isIn_n : Room := { frames := 0, cells := 0, slots := 0, locals := 0 }
set_option maxHeartbeats 4000000 in
set_option maxRecDepth 100000 in
theorem c_M_isIn_n (l : Launch) (E : xE) (v a b : Int32) (h : v < a ∨ b < v) : xCp l E y_M_isIn (.code y_M_isIn prog_10_method_4_code 3 (some .boolean)) rm_M_isIn_n [.int (v), .int (a), .int (b)] [] (.inl (some (.int (nI 0)))) := by
  refine x_ofP (own := "LineCoderModel") (mn := "isIn") (lv := [(0, .int (v)), (1, .int (a)), (2, .int (b))]) (plainFor_of_name (by decide)) rfl rfl (Nat.le_of_ble_eq_true rfl) rfl ?_
  intro p_ e_ s_ m_ ar_ be_ me_ c_ hB
  refine x_iload_n 1 hB d_M_isIn_0 rfl rfl ?_
  refine x_iload_n 2 hB d_M_isIn_1 rfl rfl ?_
  refine x_icmp_lt 14 5 hB d_M_isIn_2 (by decide) rfl (fun h2 => ?_) (fun h2 => ?_)
  · skip
    refine x_iconst (v := nI 0) 15 hB d_M_isIn_14 rfl (by decide) ?_
    exact x_zretP hB (by decide) (rfl) (by decide) (by decide) d_M_isIn_15
  · skip
    refine x_iload_n 6 hB d_M_isIn_5 rfl rfl ?_
    refine x_iload_n 7 hB d_M_isIn_6 rfl rfl ?_
    refine x_icmp_gt 14 10 hB d_M_isIn_7 (by decide) rfl (fun _ => ?_) (fun hc => absurd (h.resolve_left h2) hc)
    refine x_iconst (v := nI 0) 15 hB d_M_isIn_14 rfl (by decide) ?_
    exact x_zretP hB (by decide) (rfl) (by decide) (by decide) d_M_isIn_15
abbrev rm_M_isStream_0 : Room := { frames := 0, cells := 0, slots := 0, locals := 0 }
set_option maxHeartbeats 4000000 in
set_option maxRecDepth 100000 in
theorem c_M_isStream_0 (l : Launch) (E : xE)  : xCp l E y_M_isStream (.code y_M_isStream prog_10_method_26_code 1 (some .boolean)) rm_M_isStream_0 [.int (nI 0)] [] (.inl (some (.int (nI 1)))) := by
  refine x_ofP (own := "LineCoderModel") (mn := "isStream") (lv := [(0, .int (nI 0))]) (plainFor_of_name (by decide)) rfl rfl (Nat.le_of_ble_eq_true rfl) rfl ?_
  intro p_ e_ s_ m_ ar_ be_ me_ c_ hB
  refine x_iload_n 1 hB d_M_isStream_0 rfl rfl ?_
  refine x_if_eq 9 4 hB d_M_isStream_1 (by decide) rfl (fun _ => ?_) (fun hc => absurd (by decide) hc)
  refine x_iconst (v := nI 1) 10 hB d_M_isStream_9 rfl (by decide) ?_
  refine x_goto 14 hB d_M_isStream_10 (by decide) ?_
  exact x_zretP hB (by decide) (rfl) (by decide) (by decide) d_M_isStream_14
abbrev rm_M_isStream_1 : Room := { frames := 0, cells := 0, slots := 0, locals := 0 }
set_option maxHeartbeats 4000000 in
set_option maxRecDepth 100000 in
theorem c_M_isStream_1 (l : Launch) (E : xE)  : xCp l E y_M_isStream (.code y_M_isStream prog_10_method_26_code 1 (some .boolean)) rm_M_isStream_1 [.int (nI 1)] [] (.inl (some (.int (nI 1)))) := by
  refine x_ofP (own := "LineCoderModel") (mn := "isStream") (lv := [(0, .int (nI 1))]) (plainFor_of_name (by decide)) rfl rfl (Nat.le_of_ble_eq_true rfl) rfl ?_
  intro p_ e_ s_ m_ ar_ be_ me_ c_ hB
  refine x_iload_n 1 hB d_M_isStream_0 rfl rfl ?_
  refine x_if_eq 9 4 hB d_M_isStream_1 (by decide) rfl (fun hc => absurd hc (by decide)) (fun _ => ?_)
  refine x_iload_n 5 hB d_M_isStream_4 rfl rfl ?_
  refine x_iconst (v := nI 1) 6 hB d_M_isStream_5 rfl (by decide) ?_
  refine x_icmp_ne 13 9 hB d_M_isStream_6 (by decide) rfl (fun hc => absurd (by decide) hc) (fun _ => ?_)
  refine x_iconst (v := nI 1) 10 hB d_M_isStream_9 rfl (by decide) ?_
  refine x_goto 14 hB d_M_isStream_10 (by decide) ?_
  exact x_zretP hB (by decide) (rfl) (by decide) (by decide) d_M_isStream_14
abbrev rm_M_isStream_n : Room := { frames := 0, cells := 0, slots := 0, locals := 0 }
set_option maxHeartbeats 4000000 in
set_option maxRecDepth 100000 in
theorem c_M_isStream_n (l : Launch) (E : xE) (k : Int32) (h0 : ¬ k = 0) (h1 : ¬ k = 1) : xCp l E y_M_isStream (.code y_M_isStream prog_10_method_26_code 1 (some .boolean)) rm_M_isStream_n [.int (k)] [] (.inl (some (.int (nI 0)))) := by
  refine x_ofP (own := "LineCoderModel") (mn := "isStream") (lv := [(0, .int (k))]) (plainFor_of_name (by decide)) rfl rfl (Nat.le_of_ble_eq_true rfl) rfl ?_
  intro p_ e_ s_ m_ ar_ be_ me_ c_ hB
  refine x_iload_n 1 hB d_M_isStream_0 rfl rfl ?_
  refine x_if_eq 9 4 hB d_M_isStream_1 (by decide) rfl (fun hc => absurd hc (h0)) (fun _ => ?_)
  refine x_iload_n 5 hB d_M_isStream_4 rfl rfl ?_
  refine x_iconst (v := nI 1) 6 hB d_M_isStream_5 rfl (by decide) ?_
  refine x_icmp_ne 13 9 hB d_M_isStream_6 (by decide) rfl (fun _ => ?_) (fun hc => absurd hc (h1))
  refine x_iconst (v := nI 0) 14 hB d_M_isStream_13 rfl (by decide) ?_
  exact x_zretP hB (by decide) (rfl) (by decide) (by decide) d_M_isStream_14
abbrev rm_M_isSymbol_out : Room := { frames := 0, cells := 0, slots := 0, locals := 0 }
set_option maxHeartbeats 4000000 in
set_option maxRecDepth 100000 in
theorem c_M_isSymbol_out (l : Launch) (E : xE) (k : Int32) (hk : k < 0 ∨ nI 512 ≤ k) : xCp l E y_M_isSymbol (.code y_M_isSymbol prog_10_method_7_code 3 (some .boolean)) rm_M_isSymbol_out [.int (k)] [] (.inl (some (.int (nI 0)))) := by
  refine x_ofP (own := "LineCoderModel") (mn := "isSymbol") (lv := [(0, .int (k))]) (plainFor_of_name (by decide)) rfl rfl (Nat.le_of_ble_eq_true rfl) rfl ?_
  intro p_ e_ s_ m_ ar_ be_ me_ c_ hB
  refine x_iload_n 1 hB d_M_isSymbol_0 rfl rfl ?_
  refine x_if_lt 11 4 hB d_M_isSymbol_1 (by decide) rfl (fun h1 => ?_) (fun h1 => ?_)
  · skip
    refine x_iconst (v := nI 0) 12 hB d_M_isSymbol_11 rfl (by decide) ?_
    exact x_zretP hB (by decide) (rfl) (by decide) (by decide) d_M_isSymbol_12
  · skip
    refine x_iload_n 5 hB d_M_isSymbol_4 rfl rfl ?_
    refine x_sipush (v := nI 512) 8 hB d_M_isSymbol_5 rfl (by decide) ?_
    refine x_icmp_lt 13 11 hB d_M_isSymbol_8 (by decide) rfl (fun hc => absurd hc (fun h => absurd h (Int32.not_lt.mpr (hk.resolve_left h1)))) (fun _ => ?_)
    refine x_iconst (v := nI 0) 12 hB d_M_isSymbol_11 rfl (by decide) ?_
    exact x_zretP hB (by decide) (rfl) (by decide) (by decide) d_M_isSymbol_12
abbrev rm_M_isSymbol : Room := { frames := 0, cells := 0, slots := 0, locals := 0 }
set_option maxHeartbeats 4000000 in
set_option maxRecDepth 100000 in
theorem c_M_isSymbol (l : Launch) (E : xE) (s : Nat) (hs : s < 512) : xCp l E y_M_isSymbol (.code y_M_isSymbol prog_10_method_7_code 3 (some .boolean)) rm_M_isSymbol [.int (nI (s))] [] (.inl (some (.int (bI (isS s))))) := by
  refine x_ofP (own := "LineCoderModel") (mn := "isSymbol") (lv := [(0, .int (nI (s)))]) (plainFor_of_name (by decide)) rfl rfl (Nat.le_of_ble_eq_true rfl) rfl ?_
  intro p_ e_ s_ m_ ar_ be_ me_ c_ hB
  refine x_iload_n 1 hB d_M_isSymbol_0 rfl rfl ?_
  refine x_if_lt 11 4 hB d_M_isSymbol_1 (by decide) rfl (fun hc => absurd hc (nI_pos (by omega))) (fun _ => ?_)
  refine x_iload_n 5 hB d_M_isSymbol_4 rfl rfl ?_
  refine x_sipush (v := nI 512) 8 hB d_M_isSymbol_5 rfl (by decide) ?_
  refine x_icmp_lt 13 11 hB d_M_isSymbol_8 (by decide) rfl (fun _ => ?_) (fun hc => absurd (nI_lt hs (by decide)) hc)
  refine x_iload_n 14 hB d_M_isSymbol_13 rfl rfl ?_
  refine x_bipush (v := nI 31) 16 hB d_M_isSymbol_14 rfl (by decide) ?_
  refine x_iand 17 hB d_M_isSymbol_16 rfl ?_
  refine x_top (v' := .int (nI (s % 32))) (congrArg Value.int (an31 hs)) ?_
  refine x_istore_n 18 hB d_M_isSymbol_17 rfl (by decide) (lv' := [(1, .int (nI (s % 32))), (0, .int (nI (s)))]) rfl ?_
  refine x_iload_n 19 hB d_M_isSymbol_18 rfl rfl ?_
  refine x_iconst (v := nI 5) 20 hB d_M_isSymbol_19 rfl (by decide) ?_
  refine x_ishr 21 hB d_M_isSymbol_20 rfl ?_
  refine x_top (v' := .int (nI (s / 32))) (congrArg Value.int (sh5 hs)) ?_
  refine x_bipush (v := nI 7) 23 hB d_M_isSymbol_21 rfl (by decide) ?_
  refine x_iand 24 hB d_M_isSymbol_23 rfl ?_
  refine x_top (v' := .int (nI (s / 32 % 8))) (congrArg Value.int (an7 (by omega))) ?_
  refine x_istore_n 25 hB d_M_isSymbol_24 rfl (by decide) (lv' := [(2, .int (nI (s / 32 % 8))), (1, .int (nI (s % 32))), (0, .int (nI (s)))]) rfl ?_
  refine x_iload_n 26 hB d_M_isSymbol_25 rfl rfl ?_
  refine x_sipush (v := nI 256) 29 hB d_M_isSymbol_26 rfl (by decide) ?_
  refine x_icmp_lt 68 32 hB d_M_isSymbol_29 (by decide) rfl (fun h29 => ?_) (fun h29 => ?_)
  · skip
    have k29 : s < 256 := (nI_ltI (by omega) (by omega)).mp h29
    refine x_iconst (v := nI 1) 69 hB d_M_isSymbol_68 rfl (by decide) ?_
    refine x_goto 73 hB d_M_isSymbol_69 (by decide) ?_
    exact x_zretP hB (by decide) (sVe (bT (by simp [isS, k29]))) (by decide) (by decide) d_M_isSymbol_73
  · skip
    have k29 : ¬ s < 256 := fun h => h29 ((nI_ltI (by omega) (by omega)).mpr h)
    refine x_iload_n 33 hB d_M_isSymbol_32 rfl rfl ?_
    refine x_bipush (v := nI 28) 35 hB d_M_isSymbol_33 rfl (by decide) ?_
    refine x_icmp_eq 68 38 hB d_M_isSymbol_35 (by decide) rfl (fun h35 => ?_) (fun h35 => ?_)
    · skip
      have k35 : s % 32 = 28 := (nI_eq (by omega) (by omega)).mp h35
      refine x_iconst (v := nI 1) 69 hB d_M_isSymbol_68 rfl (by decide) ?_
      refine x_goto 73 hB d_M_isSymbol_69 (by decide) ?_
      exact x_zretP hB (by decide) (sVe (bT (by simp [isS, k35]))) (by decide) (by decide) d_M_isSymbol_73
    · skip
      have k35 : ¬ s % 32 = 28 := fun h => h35 ((nI_eq (by omega) (by omega)).mpr h)
      refine x_iload_n 39 hB d_M_isSymbol_38 rfl rfl ?_
      refine x_bipush (v := nI 7) 41 hB d_M_isSymbol_39 rfl (by decide) ?_
      refine x_icmp_ne 72 44 hB d_M_isSymbol_41 (by decide) rfl (fun h41 => ?_) (fun h41 => ?_)
      · skip
        have k41 : ¬ s / 32 % 8 = 7 := fun h => h41 ((nI_eq (by omega) (by omega)).mpr h)
        refine x_iconst (v := nI 0) 73 hB d_M_isSymbol_72 rfl (by decide) ?_
        exact x_zretP hB (by decide) (sVe (bF0 (by simp [isS, k29, k35, k41]))) (by decide) (by decide) d_M_isSymbol_73
      · skip
        have k41 : s / 32 % 8 = 7 := (nI_eq (by omega) (by omega)).mp h41
        refine x_iload_n 45 hB d_M_isSymbol_44 rfl rfl ?_
        refine x_bipush (v := nI 23) 47 hB d_M_isSymbol_45 rfl (by decide) ?_
        refine x_icmp_eq 68 50 hB d_M_isSymbol_47 (by decide) rfl (fun h47 => ?_) (fun h47 => ?_)
        · skip
          have k47 : s % 32 = 23 := (nI_eq (by omega) (by omega)).mp h47
          refine x_iconst (v := nI 1) 69 hB d_M_isSymbol_68 rfl (by decide) ?_
          refine x_goto 73 hB d_M_isSymbol_69 (by decide) ?_
          exact x_zretP hB (by decide) (sVe (bT (by simp [isS, k41, k47]))) (by decide) (by decide) d_M_isSymbol_73
        · skip
          have k47 : ¬ s % 32 = 23 := fun h => h47 ((nI_eq (by omega) (by omega)).mpr h)
          refine x_iload_n 51 hB d_M_isSymbol_50 rfl rfl ?_
          refine x_bipush (v := nI 27) 53 hB d_M_isSymbol_51 rfl (by decide) ?_
          refine x_icmp_eq 68 56 hB d_M_isSymbol_53 (by decide) rfl (fun h53 => ?_) (fun h53 => ?_)
          · skip
            have k53 : s % 32 = 27 := (nI_eq (by omega) (by omega)).mp h53
            refine x_iconst (v := nI 1) 69 hB d_M_isSymbol_68 rfl (by decide) ?_
            refine x_goto 73 hB d_M_isSymbol_69 (by decide) ?_
            exact x_zretP hB (by decide) (sVe (bT (by simp [isS, k41, k53]))) (by decide) (by decide) d_M_isSymbol_73
          · skip
            have k53 : ¬ s % 32 = 27 := fun h => h53 ((nI_eq (by omega) (by omega)).mpr h)
            refine x_iload_n 57 hB d_M_isSymbol_56 rfl rfl ?_
            refine x_bipush (v := nI 29) 59 hB d_M_isSymbol_57 rfl (by decide) ?_
            refine x_icmp_eq 68 62 hB d_M_isSymbol_59 (by decide) rfl (fun h59 => ?_) (fun h59 => ?_)
            · skip
              have k59 : s % 32 = 29 := (nI_eq (by omega) (by omega)).mp h59
              refine x_iconst (v := nI 1) 69 hB d_M_isSymbol_68 rfl (by decide) ?_
              refine x_goto 73 hB d_M_isSymbol_69 (by decide) ?_
              exact x_zretP hB (by decide) (sVe (bT (by simp [isS, k41, k59]))) (by decide) (by decide) d_M_isSymbol_73
            · skip
              have k59 : ¬ s % 32 = 29 := fun h => h59 ((nI_eq (by omega) (by omega)).mpr h)
              refine x_iload_n 63 hB d_M_isSymbol_62 rfl rfl ?_
              refine x_bipush (v := nI 30) 65 hB d_M_isSymbol_63 rfl (by decide) ?_
              refine x_icmp_ne 72 68 hB d_M_isSymbol_65 (by decide) rfl (fun h65 => ?_) (fun h65 => ?_)
              · skip
                have k65 : ¬ s % 32 = 30 := fun h => h65 ((nI_eq (by omega) (by omega)).mpr h)
                refine x_iconst (v := nI 0) 73 hB d_M_isSymbol_72 rfl (by decide) ?_
                exact x_zretP hB (by decide) (sVe (bF0 (by simp [isS, k29, k35, k47, k53, k59, k65]))) (by decide) (by decide) d_M_isSymbol_73
              · skip
                have k65 : s % 32 = 30 := (nI_eq (by omega) (by omega)).mp h65
                refine x_iconst (v := nI 1) 69 hB d_M_isSymbol_68 rfl (by decide) ?_
                refine x_goto 73 hB d_M_isSymbol_69 (by decide) ?_
                exact x_zretP hB (by decide) (sVe (bT (by simp [isS, k41, k65]))) (by decide) (by decide) d_M_isSymbol_73
abbrev rm_M_ones : Room := { frames := 0, cells := 0, slots := 0, locals := 0 }
set_option maxHeartbeats 4000000 in
set_option maxRecDepth 100000 in
theorem c_M_ones (l : Launch) (E : xE) (v : Nat) (hv : v < 2147483648) : xCp l E y_M_ones (.code y_M_ones prog_10_method_8_code 3 (some .int)) rm_M_ones [.int (nI (v))] [] (.inl (some (.int (nI (onF v 10))))) := by
  refine x_ofP (own := "LineCoderModel") (mn := "ones") (lv := [(0, .int (nI (v)))]) (plainFor_of_name (by decide)) rfl rfl (Nat.le_of_ble_eq_true rfl) rfl ?_
  intro p_ e_ s_ m_ ar_ be_ me_ c_ hB
  refine x_iconst (v := nI 0) 1 hB d_M_ones_0 rfl (by decide) ?_
  refine x_istore_n 2 hB d_M_ones_1 rfl (by decide) (lv' := [(1, .int (nI 0)), (0, .int (nI (v)))]) rfl ?_
  refine x_iconst (v := nI 0) 3 hB d_M_ones_2 rfl (by decide) ?_
  refine x_istore_n 4 hB d_M_ones_3 rfl (by decide) (lv' := [(2, .int (nI 0)), (1, .int (nI 0)), (0, .int (nI (v)))]) rfl ?_
  refine x_lv (lv' := [(0, .int (nI (v))), (1, .int (nI 0)), (2, .int (nI 0))]) [2, 1, 0] rfl ?_
  refine x_loop (fun i : Nat => i ≤ 10) (fun i : Nat => 10 - i) (fun i : Nat => []) (fun i : Nat => [(0, .int (nI (v))), (1, .int (nI (onF v i))), (2, .int (nI (i)))]) (fun i : Nat => []) 0 (Nat.zero_le _) rfl rfl rfl (fun i hI4 IH4 => ?_)
  refine x_iload_n 5 hB d_M_ones_4 rfl rfl ?_
  refine x_bipush (v := nI 10) 7 hB d_M_ones_5 rfl (by decide) ?_
  refine x_icmp_ge 24 10 hB d_M_ones_7 (by decide) rfl (fun h7 => ?_) (fun h7 => ?_)
  · skip
    have hi : 10 = i := by have := (nI_leI (by omega) (by omega)).mp h7; omega
    subst hi
    refine x_iload_n 25 hB d_M_ones_24 rfl rfl ?_
    exact x_iretP hB (rfl) (by decide) (by decide) d_M_ones_25
  · skip
    have k7 : i < 10 := Nat.lt_of_not_le (fun h => h7 (nI_le h (by omega)))
    refine x_iload_n 11 hB d_M_ones_10 rfl rfl ?_
    refine x_iload_n 12 hB d_M_ones_11 rfl rfl ?_
    refine x_iload_n 13 hB d_M_ones_12 rfl rfl ?_
    refine x_ishr 14 hB d_M_ones_13 rfl ?_
    refine x_iconst (v := nI 1) 15 hB d_M_ones_14 rfl (by decide) ?_
    refine x_iand 16 hB d_M_ones_15 rfl ?_
    refine x_top (v' := .int (nI (v / 2 ^ i % 2))) (congrArg Value.int (sbit_N hv (by omega))) ?_
    refine x_iadd 17 hB d_M_ones_16 rfl ?_
    refine x_top (v' := .int (nI (onF v (i + 1)))) (congrArg Value.int (nI_add _ _)) ?_
    refine x_istore_n 18 hB d_M_ones_17 rfl (by decide) (lv' := [(1, .int (nI (onF v (i + 1)))), (0, .int (nI (v))), (2, .int (nI (i)))]) rfl ?_
    refine x_iinc (v := nI (i + 1)) 21 hB d_M_ones_18 rfl 2 rfl ((nI_succ i).symm) (by decide) (lv' := [(2, .int (nI (i + 1))), (1, .int (nI (onF v (i + 1)))), (0, .int (nI (v)))]) rfl ?_
    refine x_goto 4 hB d_M_ones_21 (by decide) ?_
    refine x_lv (lv' := [(0, .int (nI (v))), (1, .int (nI (onF v (i + 1)))), (2, .int (nI (i + 1)))]) [2, 1, 0] rfl ?_
    exact IH4 (i + 1) k7 (by omega)
abbrev rm_M_onesOf : Room := { frames := 0, cells := 0, slots := 0, locals := 0 }
set_option maxHeartbeats 4000000 in
set_option maxRecDepth 100000 in
theorem c_M_onesOf (l : Launch) (E : xE) (v : Nat) (hv : v < 2147483648) : xCp l E y_M_onesOf (.code y_M_onesOf prog_10_method_23_code 3 (some .int)) rm_M_onesOf [.int (nI (v))] [] (.inl (some (.int (nI (onF v 16))))) := by
  refine x_ofP (own := "LineCoderModel") (mn := "onesOf") (lv := [(0, .int (nI (v)))]) (plainFor_of_name (by decide)) rfl rfl (Nat.le_of_ble_eq_true rfl) rfl ?_
  intro p_ e_ s_ m_ ar_ be_ me_ c_ hB
  refine x_iconst (v := nI 0) 1 hB d_M_onesOf_0 rfl (by decide) ?_
  refine x_istore_n 2 hB d_M_onesOf_1 rfl (by decide) (lv' := [(1, .int (nI 0)), (0, .int (nI (v)))]) rfl ?_
  refine x_iconst (v := nI 0) 3 hB d_M_onesOf_2 rfl (by decide) ?_
  refine x_istore_n 4 hB d_M_onesOf_3 rfl (by decide) (lv' := [(2, .int (nI 0)), (1, .int (nI 0)), (0, .int (nI (v)))]) rfl ?_
  refine x_lv (lv' := [(0, .int (nI (v))), (1, .int (nI 0)), (2, .int (nI 0))]) [2, 1, 0] rfl ?_
  refine x_loop (fun i : Nat => i ≤ 16) (fun i : Nat => 16 - i) (fun i : Nat => []) (fun i : Nat => [(0, .int (nI (v))), (1, .int (nI (onF v i))), (2, .int (nI (i)))]) (fun i : Nat => []) 0 (Nat.zero_le _) rfl rfl rfl (fun i hI4 IH4 => ?_)
  refine x_iload_n 5 hB d_M_onesOf_4 rfl rfl ?_
  refine x_bipush (v := nI 16) 7 hB d_M_onesOf_5 rfl (by decide) ?_
  refine x_icmp_ge 24 10 hB d_M_onesOf_7 (by decide) rfl (fun h7 => ?_) (fun h7 => ?_)
  · skip
    have hi : 16 = i := by have := (nI_leI (by omega) (by omega)).mp h7; omega
    subst hi
    refine x_iload_n 25 hB d_M_onesOf_24 rfl rfl ?_
    exact x_iretP hB (rfl) (by decide) (by decide) d_M_onesOf_25
  · skip
    have k7 : i < 16 := Nat.lt_of_not_le (fun h => h7 (nI_le h (by omega)))
    refine x_iload_n 11 hB d_M_onesOf_10 rfl rfl ?_
    refine x_iload_n 12 hB d_M_onesOf_11 rfl rfl ?_
    refine x_iload_n 13 hB d_M_onesOf_12 rfl rfl ?_
    refine x_ishr 14 hB d_M_onesOf_13 rfl ?_
    refine x_iconst (v := nI 1) 15 hB d_M_onesOf_14 rfl (by decide) ?_
    refine x_iand 16 hB d_M_onesOf_15 rfl ?_
    refine x_top (v' := .int (nI (v / 2 ^ i % 2))) (congrArg Value.int (sbit_N hv (by omega))) ?_
    refine x_iadd 17 hB d_M_onesOf_16 rfl ?_
    refine x_top (v' := .int (nI (onF v (i + 1)))) (congrArg Value.int (nI_add _ _)) ?_
    refine x_istore_n 18 hB d_M_onesOf_17 rfl (by decide) (lv' := [(1, .int (nI (onF v (i + 1)))), (0, .int (nI (v))), (2, .int (nI (i)))]) rfl ?_
    refine x_iinc (v := nI (i + 1)) 21 hB d_M_onesOf_18 rfl 2 rfl ((nI_succ i).symm) (by decide) (lv' := [(2, .int (nI (i + 1))), (1, .int (nI (onF v (i + 1)))), (0, .int (nI (v)))]) rfl ?_
    refine x_goto 4 hB d_M_onesOf_21 (by decide) ?_
    refine x_lv (lv' := [(0, .int (nI (v))), (1, .int (nI (onF v (i + 1)))), (2, .int (nI (i + 1)))]) [2, 1, 0] rfl ?_
    exact IH4 (i + 1) k7 (by omega)
abbrev rm_M_behindSix : Room := { frames := 1, cells := 0, slots := 0, locals := 22 }
set_option maxHeartbeats 4000000 in
set_option maxRecDepth 100000 in
theorem c_M_behindSix (l : Launch) (E : xE) (v : Nat) (hv : v < 64) (plus : Bool) : xCp l E y_M_behindSix (.code y_M_behindSix prog_10_method_9_code 3 (some .boolean)) rm_M_behindSix [.int (nI (v)), .int (bI plus)] [] (.inl (some (.int (bI (pb6 v plus))))) := by
  refine x_ofP (own := "LineCoderModel") (mn := "behindSix") (lv := [(0, .int (nI (v))), (1, .int (bI plus))]) (plainFor_of_name (by decide)) rfl rfl (Nat.le_of_ble_eq_true rfl) rfl ?_
  intro p_ e_ s_ m_ ar_ be_ me_ c_ hB
  refine x_iload_n 1 hB d_M_behindSix_0 rfl rfl ?_
  refine x_callP (k' := 0) (n' := 0) (rest := []) (st' := [.int (nI (onF v 10))]) 4 hB (x_pfS (av := [.int (nI (v))]) hB w_615 xHd_code w_7 w_613 w_614 nm_M_ones rfl d_M_behindSix_1) (c_M_ones l E v (by omega)) w_615 xHd_code w_7 [] rfl rfl ⟨by decide, by decide⟩ ⟨by decide, by decide⟩ rfl rfl (Nat.le_of_ble_eq_true rfl) d_M_behindSix_1 rfl rfl ?_
  refine x_top (v' := .int (nI (pc6 v))) (congrArg Value.int (congrArg nI (on10 v hv))) ?_
  have hle := pc6_le v
  refine x_istore_n 5 hB d_M_behindSix_4 rfl (by decide) (lv' := [(2, .int (nI (pc6 v))), (0, .int (nI (v))), (1, .int (bI plus))]) rfl ?_
  refine x_iload_n 6 hB d_M_behindSix_5 rfl rfl ?_
  refine x_iconst (v := nI 3) 7 hB d_M_behindSix_6 rfl (by decide) ?_
  refine x_icmp_gt 31 10 hB d_M_behindSix_7 (by decide) rfl (fun h7 => ?_) (fun h7 => ?_)
  · skip
    have k7 : 3 < pc6 v := (nI_ltI (by omega) (by omega)).mp h7
    refine x_iconst (v := nI 1) 32 hB d_M_behindSix_31 rfl (by decide) ?_
    refine x_goto 36 hB d_M_behindSix_32 (by decide) ?_
    exact x_zretP hB (by decide) (sVe (bT (by rw [pb6, if_pos (by omega)]; exact decide_eq_true k7))) (by decide) (by decide) d_M_behindSix_36
  · skip
    have k7 : ¬ 3 < pc6 v := fun h => h7 ((nI_ltI (by omega) (by omega)).mpr h)
    refine x_iload_n 11 hB d_M_behindSix_10 rfl rfl ?_
    refine x_bipush (v := nI 7) 13 hB d_M_behindSix_11 rfl (by decide) ?_
    refine x_icmp_eq 31 16 hB d_M_behindSix_13 (by decide) rfl (fun h13 => ?_) (fun h13 => ?_)
    · skip
      have k13 : v = 7 := (nI_eq (by omega) (by omega)).mp h13
      refine x_iconst (v := nI 1) 32 hB d_M_behindSix_31 rfl (by decide) ?_
      refine x_goto 36 hB d_M_behindSix_32 (by decide) ?_
      exact x_zretP hB (by decide) (sVe (bT (by rw [k13]; cases plus <;> decide))) (by decide) (by decide) d_M_behindSix_36
    · skip
      have k13 : ¬ v = 7 := fun h => h13 ((nI_eq (by omega) (by omega)).mpr h)
      refine x_iload_n 17 hB d_M_behindSix_16 rfl rfl ?_
      refine x_iconst (v := nI 3) 18 hB d_M_behindSix_17 rfl (by decide) ?_
      refine x_icmp_ne 35 21 hB d_M_behindSix_18 (by decide) rfl (fun h18 => ?_) (fun h18 => ?_)
      · skip
        have k18 : ¬ pc6 v = 3 := fun h => h18 ((nI_eq (by omega) (by omega)).mpr h)
        refine x_iconst (v := nI 0) 36 hB d_M_behindSix_35 rfl (by decide) ?_
        exact x_zretP hB (by decide) (sVe (bF0 (by rw [pb6, if_pos k18]; exact decide_eq_false k7))) (by decide) (by decide) d_M_behindSix_36
      · skip
        have k18 : pc6 v = 3 := (nI_eq (by omega) (by omega)).mp h18
        refine x_iload_n 22 hB d_M_behindSix_21 rfl rfl ?_
        refine x_bipush (v := nI 56) 24 hB d_M_behindSix_22 rfl (by decide) ?_
        refine x_icmp_eq 35 27 hB d_M_behindSix_24 (by decide) rfl (fun h24 => ?_) (fun h24 => ?_)
        · skip
          have k24 : v = 56 := (nI_eq (by omega) (by omega)).mp h24
          refine x_iconst (v := nI 0) 36 hB d_M_behindSix_35 rfl (by decide) ?_
          exact x_zretP hB (by decide) (sVe (bF0 (by rw [pb6, if_neg (fun h => h k18), decide_eq_false k13, decide_eq_false (fun h => h k24)]; rfl))) (by decide) (by decide) d_M_behindSix_36
        · skip
          have k24 : ¬ v = 56 := fun h => h24 ((nI_eq (by omega) (by omega)).mpr h)
          refine x_iload_n 28 hB d_M_behindSix_27 rfl rfl ?_
          refine x_if_eq 35 31 hB d_M_behindSix_28 (by decide) rfl (fun h28 => ?_) (fun h28 => ?_)
          · skip
            have k28 : plus = false := bI_0 h28
            refine x_iconst (v := nI 0) 36 hB d_M_behindSix_35 rfl (by decide) ?_
            exact x_zretP hB (by decide) (sVe (bF0 (by rw [pb6, if_neg (fun h => h k18), decide_eq_false k13, decide_eq_true k24, k28]; rfl))) (by decide) (by decide) d_M_behindSix_36
          · skip
            have k28 : plus = true := bI_1 h28
            refine x_iconst (v := nI 1) 32 hB d_M_behindSix_31 rfl (by decide) ?_
            refine x_goto 36 hB d_M_behindSix_32 (by decide) ?_
            exact x_zretP hB (by decide) (sVe (bT (by rw [pb6, if_neg (fun h => h k18), decide_eq_false k13, decide_eq_true k24, k28]; rfl))) (by decide) (by decide) d_M_behindSix_36
abbrev rm_M_behindFour : Room := { frames := 1, cells := 0, slots := 0, locals := 22 }
set_option maxHeartbeats 4000000 in
set_option maxRecDepth 100000 in
theorem c_M_behindFour (l : Launch) (E : xE) (v : Nat) (hv : v < 64) (plus : Bool) : xCp l E y_M_behindFour (.code y_M_behindFour prog_10_method_10_code 3 (some .boolean)) rm_M_behindFour [.int (nI (v)), .int (bI plus)] [] (.inl (some (.int (bI (pb4 v plus))))) := by
  refine x_ofP (own := "LineCoderModel") (mn := "behindFour") (lv := [(0, .int (nI (v))), (1, .int (bI plus))]) (plainFor_of_name (by decide)) rfl rfl (Nat.le_of_ble_eq_true rfl) rfl ?_
  intro p_ e_ s_ m_ ar_ be_ me_ c_ hB
  refine x_iload_n 1 hB d_M_behindFour_0 rfl rfl ?_
  refine x_callP (k' := 0) (n' := 0) (rest := []) (st' := [.int (nI (onF v 10))]) 4 hB (x_pfS (av := [.int (nI (v))]) hB w_615 xHd_code w_7 w_613 w_614 nm_M_ones rfl d_M_behindFour_1) (c_M_ones l E v (by omega)) w_615 xHd_code w_7 [] rfl rfl ⟨by decide, by decide⟩ ⟨by decide, by decide⟩ rfl rfl (Nat.le_of_ble_eq_true rfl) d_M_behindFour_1 rfl rfl ?_
  refine x_top (v' := .int (nI (pc6 v))) (congrArg Value.int (congrArg nI (on10 v hv))) ?_
  have hle := pc6_le v
  refine x_istore_n 5 hB d_M_behindFour_4 rfl (by decide) (lv' := [(2, .int (nI (pc6 v))), (0, .int (nI (v))), (1, .int (bI plus))]) rfl ?_
  refine x_iload_n 6 hB d_M_behindFour_5 rfl rfl ?_
  refine x_iconst (v := nI 2) 7 hB d_M_behindFour_6 rfl (by decide) ?_
  refine x_icmp_gt 30 10 hB d_M_behindFour_7 (by decide) rfl (fun h7 => ?_) (fun h7 => ?_)
  · skip
    have k7 : 2 < pc6 v := (nI_ltI (by omega) (by omega)).mp h7
    refine x_iconst (v := nI 1) 31 hB d_M_behindFour_30 rfl (by decide) ?_
    refine x_goto 35 hB d_M_behindFour_31 (by decide) ?_
    exact x_zretP hB (by decide) (sVe (bT (by rw [pb4, if_pos (by omega)]; exact decide_eq_true k7))) (by decide) (by decide) d_M_behindFour_35
  · skip
    have k7 : ¬ 2 < pc6 v := fun h => h7 ((nI_ltI (by omega) (by omega)).mpr h)
    refine x_iload_n 11 hB d_M_behindFour_10 rfl rfl ?_
    refine x_iconst (v := nI 3) 12 hB d_M_behindFour_11 rfl (by decide) ?_
    refine x_icmp_eq 30 15 hB d_M_behindFour_12 (by decide) rfl (fun h12 => ?_) (fun h12 => ?_)
    · skip
      have k12 : v = 3 := (nI_eq (by omega) (by omega)).mp h12
      refine x_iconst (v := nI 1) 31 hB d_M_behindFour_30 rfl (by decide) ?_
      refine x_goto 35 hB d_M_behindFour_31 (by decide) ?_
      exact x_zretP hB (by decide) (sVe (bT (by rw [k12]; cases plus <;> decide))) (by decide) (by decide) d_M_behindFour_35
    · skip
      have k12 : ¬ v = 3 := fun h => h12 ((nI_eq (by omega) (by omega)).mpr h)
      refine x_iload_n 16 hB d_M_behindFour_15 rfl rfl ?_
      refine x_iconst (v := nI 2) 17 hB d_M_behindFour_16 rfl (by decide) ?_
      refine x_icmp_ne 34 20 hB d_M_behindFour_17 (by decide) rfl (fun h17 => ?_) (fun h17 => ?_)
      · skip
        have k17 : ¬ pc6 v = 2 := fun h => h17 ((nI_eq (by omega) (by omega)).mpr h)
        refine x_iconst (v := nI 0) 35 hB d_M_behindFour_34 rfl (by decide) ?_
        exact x_zretP hB (by decide) (sVe (bF0 (by rw [pb4, if_pos k17]; exact decide_eq_false k7))) (by decide) (by decide) d_M_behindFour_35
      · skip
        have k17 : pc6 v = 2 := (nI_eq (by omega) (by omega)).mp h17
        refine x_iload_n 21 hB d_M_behindFour_20 rfl rfl ?_
        refine x_bipush (v := nI 12) 23 hB d_M_behindFour_21 rfl (by decide) ?_
        refine x_icmp_eq 34 26 hB d_M_behindFour_23 (by decide) rfl (fun h23 => ?_) (fun h23 => ?_)
        · skip
          have k23 : v = 12 := (nI_eq (by omega) (by omega)).mp h23
          refine x_iconst (v := nI 0) 35 hB d_M_behindFour_34 rfl (by decide) ?_
          exact x_zretP hB (by decide) (sVe (bF0 (by rw [pb4, if_neg (fun h => h k17), decide_eq_false k12, decide_eq_false (fun h => h k23)]; rfl))) (by decide) (by decide) d_M_behindFour_35
        · skip
          have k23 : ¬ v = 12 := fun h => h23 ((nI_eq (by omega) (by omega)).mpr h)
          refine x_iload_n 27 hB d_M_behindFour_26 rfl rfl ?_
          refine x_if_eq 34 30 hB d_M_behindFour_27 (by decide) rfl (fun h27 => ?_) (fun h27 => ?_)
          · skip
            have k27 : plus = false := bI_0 h27
            refine x_iconst (v := nI 0) 35 hB d_M_behindFour_34 rfl (by decide) ?_
            exact x_zretP hB (by decide) (sVe (bF0 (by rw [pb4, if_neg (fun h => h k17), decide_eq_false k12, decide_eq_true k23, k27]; rfl))) (by decide) (by decide) d_M_behindFour_35
          · skip
            have k27 : plus = true := bI_1 h27
            refine x_iconst (v := nI 1) 31 hB d_M_behindFour_30 rfl (by decide) ?_
            refine x_goto 35 hB d_M_behindFour_31 (by decide) ?_
            exact x_zretP hB (by decide) (sVe (bT (by rw [pb4, if_neg (fun h => h k17), decide_eq_false k12, decide_eq_true k23, k27]; rfl))) (by decide) (by decide) d_M_behindFour_35
abbrev rm_M_behind : Room := { frames := 2, cells := 0, slots := 0, locals := 44 }
set_option maxHeartbeats 4000000 in
set_option maxRecDepth 100000 in
theorem c_M_behind (l : Launch) (E : xE) (ten : Nat) (hten : ten < 1024) (plus : Bool) : xCp l E y_M_behind (.code y_M_behind prog_10_method_12_code 2 (some .boolean)) rm_M_behind [.int (nI (ten)), .int (bI plus)] [] (.inl (some (.int (bI (pbT ten plus))))) := by
  refine x_ofP (own := "LineCoderModel") (mn := "behind") (lv := [(0, .int (nI (ten))), (1, .int (bI plus))]) (plainFor_of_name (by decide)) rfl rfl (Nat.le_of_ble_eq_true rfl) rfl ?_
  intro p_ e_ s_ m_ ar_ be_ me_ c_ hB
  refine x_iload_n 1 hB d_M_behind_0 rfl rfl ?_
  refine x_bipush (v := nI 15) 3 hB d_M_behind_1 rfl (by decide) ?_
  refine x_iand 4 hB d_M_behind_3 rfl ?_
  refine x_top (v' := .int (nI (ten % 16))) (congrArg Value.int (an15 hten)) ?_
  refine x_iload_n 5 hB d_M_behind_4 rfl rfl ?_
  refine x_iconst (v := nI 4) 6 hB d_M_behind_5 rfl (by decide) ?_
  refine x_ishr 7 hB d_M_behind_6 rfl ?_
  refine x_top (v' := .int (nI (ten / 16))) (congrArg Value.int (sh4 hten)) ?_
  refine x_iload_n 8 hB d_M_behind_7 rfl rfl ?_
  refine x_callP (k' := 0) (n' := 0) (rest := [.int (nI (ten % 16))]) (st' := [.int (bI (pb6 (ten / 16) plus)), .int (nI (ten % 16))]) 11 hB (x_pfS (av := [.int (nI (ten / 16)), .int (bI plus)]) hB w_618 xHd_code w_7 w_616 w_617 nm_M_behindSix rfl d_M_behind_8) (c_M_behindSix l E (ten / 16) (by omega) plus) w_618 xHd_code w_7 [] rfl rfl ⟨by decide, by decide⟩ ⟨by decide, by decide⟩ rfl rfl (Nat.le_of_ble_eq_true rfl) d_M_behind_8 rfl rfl ?_
  refine x_callP (k' := 0) (n' := 0) (rest := []) (st' := [.int (bI (pb4 (ten % 16) (pb6 (ten / 16) plus)))]) 14 hB (x_pfS (av := [.int (nI (ten % 16)), .int (bI (pb6 (ten / 16) plus))]) hB w_730 xHd_code w_7 w_728 w_729 nm_M_behindFour rfl d_M_behind_11) (c_M_behindFour l E (ten % 16) (by omega) (pb6 (ten / 16) plus)) w_730 xHd_code w_7 [] rfl rfl ⟨by decide, by decide⟩ ⟨by decide, by decide⟩ rfl rfl (Nat.le_of_ble_eq_true rfl) d_M_behind_11 rfl rfl ?_
  exact x_zretP hB (nrb _) (rfl) (by decide) (by decide) d_M_behind_14
abbrev rm_M_make : Room := { frames := 2, cells := 0, slots := 0, locals := 44 }
set_option maxHeartbeats 4000000 in
set_option maxRecDepth 100000 in
theorem c_M_make (l : Launch) (E : xE) (hm ms mf mc my mb mz mp mo mm ml md me mg : Nat) (re : Int32) (wr : Nat) (sp rp fi : Bool) (gd : Nat) (la : Int32) (lst : Int64) (sF gF : Nat → Int32) (h6 : ∀ j, j < 32 → sF j = nI (sixN j)) (h4 : ∀ j, j < 8 → gF j = nI (fourN j)) (s : Nat) (hs : s < 512) (plus : Bool) : xCp l E y_M_make (.code y_M_make prog_10_method_11_code 11 (some .int)) rm_M_make [.ref hm, .int (nI (s)), .int (bI plus)] [(hm, .inr (5, [.int (re), .ref ms, .ref mf, .ref mc, .ref my, .ref mb, .ref mz, .ref mp, .ref mo, .ref mm, .ref ml, .ref md, .int (nI (wr)), .int (bI sp), .int (bI rp), .int (bI fi), .int (nI (gd)), .ref me, .ref mg, .int (la), .int (nI 0), .long (lst), .int 0])), (ms, .inl (E.2 1, 32, .inl (sF))), (mf, .inl (E.2 1, 8, .inl (gF)))] (.inl (some (.int (nI (encF s plus))))) := by
  refine x_ofP (own := "LineCoderModel") (mn := "make") (lv := [(0, .ref hm), (1, .int (nI (s))), (2, .int (bI plus))]) (plainFor_of_name (by decide)) rfl rfl (Nat.le_of_ble_eq_true rfl) rfl ?_
  intro p_ e_ s_ m_ ar_ be_ me_ c_ hB
  refine x_join 12 (fun _u : Unit => True) (fun _u : Unit => [(hm, .inr (5, [.int (re), .ref ms, .ref mf, .ref mc, .ref my, .ref mb, .ref mz, .ref mp, .ref mo, .ref mm, .ref ml, .ref md, .int (nI (wr)), .int (bI sp), .int (bI rp), .int (bI fi), .int (nI (gd)), .ref me, .ref mg, .int (la), .int (nI 0), .long (lst), .int 0])), (ms, .inl (E.2 1, 32, .inl (sF))), (mf, .inl (E.2 1, 8, .inl (gF)))]) (fun _u : Unit => [(0, .ref hm), (1, .int (nI (s))), (2, .int (bI plus))]) (fun _u : Unit => [.int (bI (decide (256 ≤ s)))]) (fun _u hJ12 => ?_) (fun J12 => ?_)
  · skip
    refine x_istore_n 13 hB d_M_make_12 rfl (by decide) (lv' := [(3, .int (bI (decide (256 ≤ s)))), (0, .ref hm), (1, .int (nI (s))), (2, .int (bI plus))]) rfl ?_
    refine x_iload_n 14 hB d_M_make_13 rfl rfl ?_
    refine x_bipush (v := nI 31) 16 hB d_M_make_14 rfl (by decide) ?_
    refine x_iand 17 hB d_M_make_16 rfl ?_
    refine x_top (v' := .int (nI (s % 32))) (congrArg Value.int (an31 hs)) ?_
    refine x_istore 19 hB d_M_make_17 rfl (by decide) (lv' := [(4, .int (nI (s % 32))), (3, .int (bI (decide (256 ≤ s)))), (0, .ref hm), (1, .int (nI (s))), (2, .int (bI plus))]) rfl ?_
    refine x_iload_n 20 hB d_M_make_19 rfl rfl ?_
    refine x_iconst (v := nI 5) 21 hB d_M_make_20 rfl (by decide) ?_
    refine x_ishr 22 hB d_M_make_21 rfl ?_
    refine x_top (v' := .int (nI (s / 32))) (congrArg Value.int (sh5 hs)) ?_
    refine x_bipush (v := nI 7) 24 hB d_M_make_22 rfl (by decide) ?_
    refine x_iand 25 hB d_M_make_24 rfl ?_
    refine x_top (v' := .int (nI (s / 32 % 8))) (congrArg Value.int (an7 (by omega))) ?_
    refine x_istore 27 hB d_M_make_25 rfl (by decide) (lv' := [(5, .int (nI (s / 32 % 8))), (4, .int (nI (s % 32))), (3, .int (bI (decide (256 ≤ s)))), (0, .ref hm), (1, .int (nI (s))), (2, .int (bI plus))]) rfl ?_
    refine x_join 50 (fun _u : Unit => True) (fun _u : Unit => [(hm, .inr (5, [.int (re), .ref ms, .ref mf, .ref mc, .ref my, .ref mb, .ref mz, .ref mp, .ref mo, .ref mm, .ref ml, .ref md, .int (nI (wr)), .int (bI sp), .int (bI rp), .int (bI fi), .int (nI (gd)), .ref me, .ref mg, .int (la), .int (nI 0), .long (lst), .int 0])), (ms, .inl (E.2 1, 32, .inl (sF))), (mf, .inl (E.2 1, 8, .inl (gF)))]) (fun _u : Unit => [(0, .ref hm), (1, .int (nI (s))), (2, .int (bI plus)), (3, .int (bI (decide (256 ≤ s)))), (4, .int (nI (s % 32))), (5, .int (nI (s / 32 % 8)))]) (fun _u : Unit => [.int (nI (six0 s))]) (fun _u hJ50 => ?_) (fun J50 => ?_)
    · skip
      refine x_istore 52 hB d_M_make_50 rfl (by decide) (lv' := [(6, .int (nI (six0 s))), (0, .ref hm), (1, .int (nI (s))), (2, .int (bI plus)), (3, .int (bI (decide (256 ≤ s)))), (4, .int (nI (s % 32))), (5, .int (nI (s / 32 % 8)))]) rfl ?_
      refine x_join 82 (fun _u : Unit => True) (fun _u : Unit => [(hm, .inr (5, [.int (re), .ref ms, .ref mf, .ref mc, .ref my, .ref mb, .ref mz, .ref mp, .ref mo, .ref mm, .ref ml, .ref md, .int (nI (wr)), .int (bI sp), .int (bI rp), .int (bI fi), .int (nI (gd)), .ref me, .ref mg, .int (la), .int (nI 0), .long (lst), .int 0])), (ms, .inl (E.2 1, 32, .inl (sF))), (mf, .inl (E.2 1, 8, .inl (gF)))]) (fun _u : Unit => [(0, .ref hm), (1, .int (nI (s))), (2, .int (bI plus)), (3, .int (bI (decide (256 ≤ s)))), (4, .int (nI (s % 32))), (5, .int (nI (s / 32 % 8)))]) (fun _u : Unit => [.int (nI (sixF s plus))]) (fun _u hJ82 => ?_) (fun J82 => ?_)
      · skip
        refine x_istore 84 hB d_M_make_82 rfl (by decide) (lv' := [(6, .int (nI (sixF s plus))), (0, .ref hm), (1, .int (nI (s))), (2, .int (bI plus)), (3, .int (bI (decide (256 ≤ s)))), (4, .int (nI (s % 32))), (5, .int (nI (s / 32 % 8)))]) rfl ?_
        refine x_iload 86 hB d_M_make_84 rfl rfl ?_
        refine x_iload_n 87 hB d_M_make_86 rfl rfl ?_
        refine x_callP (k' := 0) (n' := 0) (rest := []) (st' := [.int (bI (pb6 (sixF s plus) plus))]) 90 hB (x_pfS (av := [.int (nI (sixF s plus)), .int (bI plus)]) hB w_618 xHd_code w_7 w_616 w_617 nm_M_behindSix rfl d_M_make_87) (c_M_behindSix l E (sixF s plus) (sixF_lt s plus) plus) w_618 xHd_code w_7 [] rfl rfl ⟨by decide, by decide⟩ ⟨by decide, by decide⟩ rfl rfl (Nat.le_of_ble_eq_true rfl) d_M_make_87 rfl rfl ?_
        refine x_istore 92 hB d_M_make_90 rfl (by decide) (lv' := [(7, .int (bI (pb6 (sixF s plus) plus))), (6, .int (nI (sixF s plus))), (0, .ref hm), (1, .int (nI (s))), (2, .int (bI plus)), (3, .int (bI (decide (256 ≤ s)))), (4, .int (nI (s % 32))), (5, .int (nI (s / 32 % 8)))]) rfl ?_
        refine x_aload_n 93 hB d_M_make_92 rfl rfl ?_
        refine x_get 96 hB 0 fg_M_13_5 rfl rfl d_M_make_93 rfl ?_
        refine x_iload 98 hB d_M_make_96 rfl rfl ?_
        refine x_iald 99 hB 2 rfl (by omega) (by decide) d_M_make_98 rfl ?_
        refine x_top (v' := .int (nI (fourN (s / 32 % 8)))) (congrArg Value.int (h4 _ (by omega))) ?_
        refine x_istore 101 hB d_M_make_99 rfl (by decide) (lv' := [(8, .int (nI (fourN (s / 32 % 8)))), (7, .int (bI (pb6 (sixF s plus) plus))), (6, .int (nI (sixF s plus))), (0, .ref hm), (1, .int (nI (s))), (2, .int (bI plus)), (3, .int (bI (decide (256 ≤ s)))), (4, .int (nI (s % 32))), (5, .int (nI (s / 32 % 8)))]) rfl ?_
        refine x_join 160 (fun _u : Unit => True) (fun _u : Unit => [(hm, .inr (5, [.int (re), .ref ms, .ref mf, .ref mc, .ref my, .ref mb, .ref mz, .ref mp, .ref mo, .ref mm, .ref ml, .ref md, .int (nI (wr)), .int (bI sp), .int (bI rp), .int (bI fi), .int (nI (gd)), .ref me, .ref mg, .int (la), .int (nI 0), .long (lst), .int 0])), (ms, .inl (E.2 1, 32, .inl (sF))), (mf, .inl (E.2 1, 8, .inl (gF)))]) (fun _u : Unit => [(0, .ref hm), (1, .int (nI (s))), (2, .int (bI plus)), (3, .int (bI (decide (256 ≤ s)))), (4, .int (nI (s % 32))), (5, .int (nI (s / 32 % 8))), (6, .int (nI (sixF s plus))), (7, .int (bI (pb6 (sixF s plus) plus))), (8, .int (nI (fourN (s / 32 % 8))))]) (fun _u : Unit => [.int (bI (decide (256 ≤ s) || oth s (pb6 (sixF s plus) plus)))]) (fun _u hJ160 => ?_) (fun J160 => ?_)
        · skip
          refine x_istore 162 hB d_M_make_160 rfl (by decide) (lv' := [(9, .int (bI (decide (256 ≤ s) || oth s (pb6 (sixF s plus) plus)))), (0, .ref hm), (1, .int (nI (s))), (2, .int (bI plus)), (3, .int (bI (decide (256 ≤ s)))), (4, .int (nI (s % 32))), (5, .int (nI (s / 32 % 8))), (6, .int (nI (sixF s plus))), (7, .int (bI (pb6 (sixF s plus) plus))), (8, .int (nI (fourN (s / 32 % 8))))]) rfl ?_
          refine x_join 181 (fun _u : Unit => True) (fun _u : Unit => [(hm, .inr (5, [.int (re), .ref ms, .ref mf, .ref mc, .ref my, .ref mb, .ref mz, .ref mp, .ref mo, .ref mm, .ref ml, .ref md, .int (nI (wr)), .int (bI sp), .int (bI rp), .int (bI fi), .int (nI (gd)), .ref me, .ref mg, .int (la), .int (nI 0), .long (lst), .int 0])), (ms, .inl (E.2 1, 32, .inl (sF))), (mf, .inl (E.2 1, 8, .inl (gF)))]) (fun _u : Unit => [(0, .ref hm), (1, .int (nI (s))), (2, .int (bI plus)), (3, .int (bI (decide (256 ≤ s)))), (4, .int (nI (s % 32))), (5, .int (nI (s / 32 % 8))), (6, .int (nI (sixF s plus))), (7, .int (bI (pb6 (sixF s plus) plus))), (8, .int (nI (fourN (s / 32 % 8)))), (9, .int (bI (decide (256 ≤ s) || oth s (pb6 (sixF s plus) plus))))]) (fun _u : Unit => [.int (nI (four0 s (pb6 (sixF s plus) plus)))]) (fun _u hJ181 => ?_) (fun J181 => ?_)
          · skip
            refine x_istore 183 hB d_M_make_181 rfl (by decide) (lv' := [(8, .int (nI (four0 s (pb6 (sixF s plus) plus)))), (0, .ref hm), (1, .int (nI (s))), (2, .int (bI plus)), (3, .int (bI (decide (256 ≤ s)))), (4, .int (nI (s % 32))), (5, .int (nI (s / 32 % 8))), (6, .int (nI (sixF s plus))), (7, .int (bI (pb6 (sixF s plus) plus))), (9, .int (bI (decide (256 ≤ s) || oth s (pb6 (sixF s plus) plus))))]) rfl ?_
            refine x_join 209 (fun _u : Unit => True) (fun _u : Unit => [(hm, .inr (5, [.int (re), .ref ms, .ref mf, .ref mc, .ref my, .ref mb, .ref mz, .ref mp, .ref mo, .ref mm, .ref ml, .ref md, .int (nI (wr)), .int (bI sp), .int (bI rp), .int (bI fi), .int (nI (gd)), .ref me, .ref mg, .int (la), .int (nI 0), .long (lst), .int 0])), (ms, .inl (E.2 1, 32, .inl (sF))), (mf, .inl (E.2 1, 8, .inl (gF)))]) (fun _u : Unit => [(0, .ref hm), (1, .int (nI (s))), (2, .int (bI plus)), (3, .int (bI (decide (256 ≤ s)))), (4, .int (nI (s % 32))), (5, .int (nI (s / 32 % 8))), (6, .int (nI (sixF s plus))), (7, .int (bI (pb6 (sixF s plus) plus))), (8, .int (nI (four0 s (pb6 (sixF s plus) plus)))), (9, .int (bI (decide (256 ≤ s) || oth s (pb6 (sixF s plus) plus))))]) (fun _u : Unit => [.int (bI ((pb6 (sixF s plus) plus) && hp4 (four0 s (pb6 (sixF s plus) plus))))]) (fun _u hJ209 => ?_) (fun J209 => ?_)
            · skip
              refine x_istore 211 hB d_M_make_209 rfl (by decide) (lv' := [(10, .int (bI ((pb6 (sixF s plus) plus) && hp4 (four0 s (pb6 (sixF s plus) plus))))), (0, .ref hm), (1, .int (nI (s))), (2, .int (bI plus)), (3, .int (bI (decide (256 ≤ s)))), (4, .int (nI (s % 32))), (5, .int (nI (s / 32 % 8))), (6, .int (nI (sixF s plus))), (7, .int (bI (pb6 (sixF s plus) plus))), (8, .int (nI (four0 s (pb6 (sixF s plus) plus)))), (9, .int (bI (decide (256 ≤ s) || oth s (pb6 (sixF s plus) plus))))]) rfl ?_
              refine x_join 252 (fun _u : Unit => True) (fun _u : Unit => [(hm, .inr (5, [.int (re), .ref ms, .ref mf, .ref mc, .ref my, .ref mb, .ref mz, .ref mp, .ref mo, .ref mm, .ref ml, .ref md, .int (nI (wr)), .int (bI sp), .int (bI rp), .int (bI fi), .int (nI (gd)), .ref me, .ref mg, .int (la), .int (nI 0), .long (lst), .int 0])), (ms, .inl (E.2 1, 32, .inl (sF))), (mf, .inl (E.2 1, 8, .inl (gF)))]) (fun _u : Unit => [(0, .ref hm), (1, .int (nI (s))), (2, .int (bI plus)), (3, .int (bI (decide (256 ≤ s)))), (4, .int (nI (s % 32))), (5, .int (nI (s / 32 % 8))), (6, .int (nI (sixF s plus))), (7, .int (bI (pb6 (sixF s plus) plus))), (8, .int (nI (four0 s (pb6 (sixF s plus) plus)))), (9, .int (bI (decide (256 ≤ s) || oth s (pb6 (sixF s plus) plus)))), (10, .int (bI (trn s (pb6 (sixF s plus) plus))))]) (fun _u : Unit => []) (fun _u hJ252 => ?_) (fun J252 => ?_)
              · skip
                refine x_bipush (v := nI 16) 254 hB d_M_make_252 rfl (by decide) ?_
                refine x_iload 256 hB d_M_make_254 rfl rfl ?_
                refine x_imul 257 hB d_M_make_256 rfl ?_
                refine x_top (v' := .int (nI (16 * sixF s plus))) (congrArg Value.int (pk_mul _ _)) ?_
                have hl0 := four0_lt s (pb6 (sixF s plus) plus)
                refine x_iload 259 hB d_M_make_257 rfl rfl ?_
                refine x_if_eq 270 262 hB d_M_make_259 (by decide) rfl (fun h259 => ?_) (fun h259 => ?_)
                · skip
                  have k259 : trn s (pb6 (sixF s plus) plus) = false := bI_0 h259
                  refine x_iload 272 hB d_M_make_270 rfl rfl ?_
                  refine x_iadd 273 hB d_M_make_272 rfl ?_
                  refine x_top (v' := .int (nI (encF s plus))) (congrArg Value.int ((nI_add _ _).trans (congrArg nI (by rw [encF, fourF, k259, Nat.mul_comm]; rfl)))) ?_
                  exact x_iretP hB (rfl) (by decide) (by decide) d_M_make_273
                · skip
                  have k259 : trn s (pb6 (sixF s plus) plus) = true := bI_1 h259
                  refine x_bipush (v := nI 15) 264 hB d_M_make_262 rfl (by decide) ?_
                  refine x_iload 266 hB d_M_make_264 rfl rfl ?_
                  refine x_isub 267 hB d_M_make_266 rfl ?_
                  refine x_top (v' := .int (nI (15 - four0 s (pb6 (sixF s plus) plus)))) (congrArg Value.int (pk_sub (by omega))) ?_
                  refine x_goto 272 hB d_M_make_267 (by decide) ?_
                  refine x_iadd 273 hB d_M_make_272 rfl ?_
                  refine x_top (v' := .int (nI (encF s plus))) (congrArg Value.int ((nI_add _ _).trans (congrArg nI (by rw [encF, fourF, k259, Nat.mul_comm]; rfl)))) ?_
                  exact x_iretP hB (rfl) (by decide) (by decide) d_M_make_273
              refine x_iload_n 212 hB d_M_make_211 rfl rfl ?_
              refine x_if_eq 252 215 hB d_M_make_212 (by decide) rfl (fun h212 => ?_) (fun h212 => ?_)
              · skip
                have k212 : ¬ 256 ≤ s := of_decide_eq_false (bI_0 h212)
                have e10 : ((pb6 (sixF s plus) plus) && hp4 (four0 s (pb6 (sixF s plus) plus))) = trn s (pb6 (sixF s plus) plus) := by rw [← mtr_e s hs (pb6 (sixF s plus) plus), mtr, decide_eq_false k212]; rfl
                refine x_lve (lv' := [(10, .int (bI (trn s (pb6 (sixF s plus) plus)))), (0, .ref hm), (1, .int (nI (s))), (2, .int (bI plus)), (3, .int (bI (decide (256 ≤ s)))), (4, .int (nI (s % 32))), (5, .int (nI (s / 32 % 8))), (6, .int (nI (sixF s plus))), (7, .int (bI (pb6 (sixF s plus) plus))), (8, .int (nI (four0 s (pb6 (sixF s plus) plus)))), (9, .int (bI (decide (256 ≤ s) || oth s (pb6 (sixF s plus) plus))))]) (by rw [e10]) ?_
                refine x_lv (lv' := [(0, .ref hm), (1, .int (nI (s))), (2, .int (bI plus)), (3, .int (bI (decide (256 ≤ s)))), (4, .int (nI (s % 32))), (5, .int (nI (s / 32 % 8))), (6, .int (nI (sixF s plus))), (7, .int (bI (pb6 (sixF s plus) plus))), (8, .int (nI (four0 s (pb6 (sixF s plus) plus)))), (9, .int (bI (decide (256 ≤ s) || oth s (pb6 (sixF s plus) plus)))), (10, .int (bI (trn s (pb6 (sixF s plus) plus))))]) [1, 2, 3, 4, 5, 6, 7, 8, 9, 10, 0] rfl ?_
                exact J252 () trivial
              · skip
                have k212 : 256 ≤ s := of_decide_eq_true (bI_1 h212)
                refine x_iload 217 hB d_M_make_215 rfl rfl ?_
                refine x_iconst (v := nI 1) 218 hB d_M_make_217 rfl (by decide) ?_
                refine x_icmp_eq 240 221 hB d_M_make_218 (by decide) rfl (fun h218 => ?_) (fun h218 => ?_)
                · skip
                  have ky : s / 32 % 8 = 1 ∨ s / 32 % 8 = 2 ∨ s / 32 % 8 = 5 ∨ s / 32 % 8 = 6 := by have := (nI_eq (by omega) (by omega)).mp h218; omega
                  refine x_iload 242 hB d_M_make_240 rfl rfl ?_
                  refine x_if_ne 249 245 hB d_M_make_242 (by decide) rfl (fun h242 => ?_) (fun h242 => ?_)
                  · skip
                    have k242 : (pb6 (sixF s plus) plus) = true := bI_1 h242
                    refine x_iconst (v := nI 0) 250 hB d_M_make_249 rfl (by decide) ?_
                    refine x_top (v' := .int (bI (trn s (pb6 (sixF s plus) plus)))) (congrArg Value.int (bF0 (by rw [← mtr_e s hs (pb6 (sixF s plus) plus), mtr, decide_eq_true k212, decide_eq_true ky, k242]; rfl))) ?_
                    refine x_istore 252 hB d_M_make_250 rfl (by decide) (lv' := [(10, .int (bI (trn s (pb6 (sixF s plus) plus)))), (0, .ref hm), (1, .int (nI (s))), (2, .int (bI plus)), (3, .int (bI (decide (256 ≤ s)))), (4, .int (nI (s % 32))), (5, .int (nI (s / 32 % 8))), (6, .int (nI (sixF s plus))), (7, .int (bI (pb6 (sixF s plus) plus))), (8, .int (nI (four0 s (pb6 (sixF s plus) plus)))), (9, .int (bI (decide (256 ≤ s) || oth s (pb6 (sixF s plus) plus))))]) rfl ?_
                    refine x_lv (lv' := [(0, .ref hm), (1, .int (nI (s))), (2, .int (bI plus)), (3, .int (bI (decide (256 ≤ s)))), (4, .int (nI (s % 32))), (5, .int (nI (s / 32 % 8))), (6, .int (nI (sixF s plus))), (7, .int (bI (pb6 (sixF s plus) plus))), (8, .int (nI (four0 s (pb6 (sixF s plus) plus)))), (9, .int (bI (decide (256 ≤ s) || oth s (pb6 (sixF s plus) plus)))), (10, .int (bI (trn s (pb6 (sixF s plus) plus))))]) [1, 2, 3, 4, 5, 6, 7, 8, 9, 10, 0] rfl ?_
                    exact J252 () trivial
                  · skip
                    have k242 : (pb6 (sixF s plus) plus) = false := bI_0 h242
                    refine x_iconst (v := nI 1) 246 hB d_M_make_245 rfl (by decide) ?_
                    refine x_top (v' := .int (bI (trn s (pb6 (sixF s plus) plus)))) (congrArg Value.int (bT (by rw [← mtr_e s hs (pb6 (sixF s plus) plus), mtr, decide_eq_true k212, decide_eq_true ky, k242]; rfl))) ?_
                    refine x_goto 250 hB d_M_make_246 (by decide) ?_
                    refine x_istore 252 hB d_M_make_250 rfl (by decide) (lv' := [(10, .int (bI (trn s (pb6 (sixF s plus) plus)))), (0, .ref hm), (1, .int (nI (s))), (2, .int (bI plus)), (3, .int (bI (decide (256 ≤ s)))), (4, .int (nI (s % 32))), (5, .int (nI (s / 32 % 8))), (6, .int (nI (sixF s plus))), (7, .int (bI (pb6 (sixF s plus) plus))), (8, .int (nI (four0 s (pb6 (sixF s plus) plus)))), (9, .int (bI (decide (256 ≤ s) || oth s (pb6 (sixF s plus) plus))))]) rfl ?_
                    refine x_lv (lv' := [(0, .ref hm), (1, .int (nI (s))), (2, .int (bI plus)), (3, .int (bI (decide (256 ≤ s)))), (4, .int (nI (s % 32))), (5, .int (nI (s / 32 % 8))), (6, .int (nI (sixF s plus))), (7, .int (bI (pb6 (sixF s plus) plus))), (8, .int (nI (four0 s (pb6 (sixF s plus) plus)))), (9, .int (bI (decide (256 ≤ s) || oth s (pb6 (sixF s plus) plus)))), (10, .int (bI (trn s (pb6 (sixF s plus) plus))))]) [1, 2, 3, 4, 5, 6, 7, 8, 9, 10, 0] rfl ?_
                    exact J252 () trivial
                · skip
                  have k218 : ¬ s / 32 % 8 = 1 := fun h => h218 ((nI_eq (by omega) (by omega)).mpr h)
                  refine x_iload 223 hB d_M_make_221 rfl rfl ?_
                  refine x_iconst (v := nI 2) 224 hB d_M_make_223 rfl (by decide) ?_
                  refine x_icmp_eq 240 227 hB d_M_make_224 (by decide) rfl (fun h224 => ?_) (fun h224 => ?_)
                  · skip
                    have ky : s / 32 % 8 = 1 ∨ s / 32 % 8 = 2 ∨ s / 32 % 8 = 5 ∨ s / 32 % 8 = 6 := by have := (nI_eq (by omega) (by omega)).mp h224; omega
                    refine x_iload 242 hB d_M_make_240 rfl rfl ?_
                    refine x_if_ne 249 245 hB d_M_make_242 (by decide) rfl (fun h242 => ?_) (fun h242 => ?_)
                    · skip
                      have k242 : (pb6 (sixF s plus) plus) = true := bI_1 h242
                      refine x_iconst (v := nI 0) 250 hB d_M_make_249 rfl (by decide) ?_
                      refine x_top (v' := .int (bI (trn s (pb6 (sixF s plus) plus)))) (congrArg Value.int (bF0 (by rw [← mtr_e s hs (pb6 (sixF s plus) plus), mtr, decide_eq_true k212, decide_eq_true ky, k242]; rfl))) ?_
                      refine x_istore 252 hB d_M_make_250 rfl (by decide) (lv' := [(10, .int (bI (trn s (pb6 (sixF s plus) plus)))), (0, .ref hm), (1, .int (nI (s))), (2, .int (bI plus)), (3, .int (bI (decide (256 ≤ s)))), (4, .int (nI (s % 32))), (5, .int (nI (s / 32 % 8))), (6, .int (nI (sixF s plus))), (7, .int (bI (pb6 (sixF s plus) plus))), (8, .int (nI (four0 s (pb6 (sixF s plus) plus)))), (9, .int (bI (decide (256 ≤ s) || oth s (pb6 (sixF s plus) plus))))]) rfl ?_
                      refine x_lv (lv' := [(0, .ref hm), (1, .int (nI (s))), (2, .int (bI plus)), (3, .int (bI (decide (256 ≤ s)))), (4, .int (nI (s % 32))), (5, .int (nI (s / 32 % 8))), (6, .int (nI (sixF s plus))), (7, .int (bI (pb6 (sixF s plus) plus))), (8, .int (nI (four0 s (pb6 (sixF s plus) plus)))), (9, .int (bI (decide (256 ≤ s) || oth s (pb6 (sixF s plus) plus)))), (10, .int (bI (trn s (pb6 (sixF s plus) plus))))]) [1, 2, 3, 4, 5, 6, 7, 8, 9, 10, 0] rfl ?_
                      exact J252 () trivial
                    · skip
                      have k242 : (pb6 (sixF s plus) plus) = false := bI_0 h242
                      refine x_iconst (v := nI 1) 246 hB d_M_make_245 rfl (by decide) ?_
                      refine x_top (v' := .int (bI (trn s (pb6 (sixF s plus) plus)))) (congrArg Value.int (bT (by rw [← mtr_e s hs (pb6 (sixF s plus) plus), mtr, decide_eq_true k212, decide_eq_true ky, k242]; rfl))) ?_
                      refine x_goto 250 hB d_M_make_246 (by decide) ?_
                      refine x_istore 252 hB d_M_make_250 rfl (by decide) (lv' := [(10, .int (bI (trn s (pb6 (sixF s plus) plus)))), (0, .ref hm), (1, .int (nI (s))), (2, .int (bI plus)), (3, .int (bI (decide (256 ≤ s)))), (4, .int (nI (s % 32))), (5, .int (nI (s / 32 % 8))), (6, .int (nI (sixF s plus))), (7, .int (bI (pb6 (sixF s plus) plus))), (8, .int (nI (four0 s (pb6 (sixF s plus) plus)))), (9, .int (bI (decide (256 ≤ s) || oth s (pb6 (sixF s plus) plus))))]) rfl ?_
                      refine x_lv (lv' := [(0, .ref hm), (1, .int (nI (s))), (2, .int (bI plus)), (3, .int (bI (decide (256 ≤ s)))), (4, .int (nI (s % 32))), (5, .int (nI (s / 32 % 8))), (6, .int (nI (sixF s plus))), (7, .int (bI (pb6 (sixF s plus) plus))), (8, .int (nI (four0 s (pb6 (sixF s plus) plus)))), (9, .int (bI (decide (256 ≤ s) || oth s (pb6 (sixF s plus) plus)))), (10, .int (bI (trn s (pb6 (sixF s plus) plus))))]) [1, 2, 3, 4, 5, 6, 7, 8, 9, 10, 0] rfl ?_
                      exact J252 () trivial
                  · skip
                    have k224 : ¬ s / 32 % 8 = 2 := fun h => h224 ((nI_eq (by omega) (by omega)).mpr h)
                    refine x_iload 229 hB d_M_make_227 rfl rfl ?_
                    refine x_iconst (v := nI 5) 230 hB d_M_make_229 rfl (by decide) ?_
                    refine x_icmp_eq 240 233 hB d_M_make_230 (by decide) rfl (fun h230 => ?_) (fun h230 => ?_)
                    · skip
                      have ky : s / 32 % 8 = 1 ∨ s / 32 % 8 = 2 ∨ s / 32 % 8 = 5 ∨ s / 32 % 8 = 6 := by have := (nI_eq (by omega) (by omega)).mp h230; omega
                      refine x_iload 242 hB d_M_make_240 rfl rfl ?_
                      refine x_if_ne 249 245 hB d_M_make_242 (by decide) rfl (fun h242 => ?_) (fun h242 => ?_)
                      · skip
                        have k242 : (pb6 (sixF s plus) plus) = true := bI_1 h242
                        refine x_iconst (v := nI 0) 250 hB d_M_make_249 rfl (by decide) ?_
                        refine x_top (v' := .int (bI (trn s (pb6 (sixF s plus) plus)))) (congrArg Value.int (bF0 (by rw [← mtr_e s hs (pb6 (sixF s plus) plus), mtr, decide_eq_true k212, decide_eq_true ky, k242]; rfl))) ?_
                        refine x_istore 252 hB d_M_make_250 rfl (by decide) (lv' := [(10, .int (bI (trn s (pb6 (sixF s plus) plus)))), (0, .ref hm), (1, .int (nI (s))), (2, .int (bI plus)), (3, .int (bI (decide (256 ≤ s)))), (4, .int (nI (s % 32))), (5, .int (nI (s / 32 % 8))), (6, .int (nI (sixF s plus))), (7, .int (bI (pb6 (sixF s plus) plus))), (8, .int (nI (four0 s (pb6 (sixF s plus) plus)))), (9, .int (bI (decide (256 ≤ s) || oth s (pb6 (sixF s plus) plus))))]) rfl ?_
                        refine x_lv (lv' := [(0, .ref hm), (1, .int (nI (s))), (2, .int (bI plus)), (3, .int (bI (decide (256 ≤ s)))), (4, .int (nI (s % 32))), (5, .int (nI (s / 32 % 8))), (6, .int (nI (sixF s plus))), (7, .int (bI (pb6 (sixF s plus) plus))), (8, .int (nI (four0 s (pb6 (sixF s plus) plus)))), (9, .int (bI (decide (256 ≤ s) || oth s (pb6 (sixF s plus) plus)))), (10, .int (bI (trn s (pb6 (sixF s plus) plus))))]) [1, 2, 3, 4, 5, 6, 7, 8, 9, 10, 0] rfl ?_
                        exact J252 () trivial
                      · skip
                        have k242 : (pb6 (sixF s plus) plus) = false := bI_0 h242
                        refine x_iconst (v := nI 1) 246 hB d_M_make_245 rfl (by decide) ?_
                        refine x_top (v' := .int (bI (trn s (pb6 (sixF s plus) plus)))) (congrArg Value.int (bT (by rw [← mtr_e s hs (pb6 (sixF s plus) plus), mtr, decide_eq_true k212, decide_eq_true ky, k242]; rfl))) ?_
                        refine x_goto 250 hB d_M_make_246 (by decide) ?_
                        refine x_istore 252 hB d_M_make_250 rfl (by decide) (lv' := [(10, .int (bI (trn s (pb6 (sixF s plus) plus)))), (0, .ref hm), (1, .int (nI (s))), (2, .int (bI plus)), (3, .int (bI (decide (256 ≤ s)))), (4, .int (nI (s % 32))), (5, .int (nI (s / 32 % 8))), (6, .int (nI (sixF s plus))), (7, .int (bI (pb6 (sixF s plus) plus))), (8, .int (nI (four0 s (pb6 (sixF s plus) plus)))), (9, .int (bI (decide (256 ≤ s) || oth s (pb6 (sixF s plus) plus))))]) rfl ?_
                        refine x_lv (lv' := [(0, .ref hm), (1, .int (nI (s))), (2, .int (bI plus)), (3, .int (bI (decide (256 ≤ s)))), (4, .int (nI (s % 32))), (5, .int (nI (s / 32 % 8))), (6, .int (nI (sixF s plus))), (7, .int (bI (pb6 (sixF s plus) plus))), (8, .int (nI (four0 s (pb6 (sixF s plus) plus)))), (9, .int (bI (decide (256 ≤ s) || oth s (pb6 (sixF s plus) plus)))), (10, .int (bI (trn s (pb6 (sixF s plus) plus))))]) [1, 2, 3, 4, 5, 6, 7, 8, 9, 10, 0] rfl ?_
                        exact J252 () trivial
                    · skip
                      have k230 : ¬ s / 32 % 8 = 5 := fun h => h230 ((nI_eq (by omega) (by omega)).mpr h)
                      refine x_iload 235 hB d_M_make_233 rfl rfl ?_
                      refine x_bipush (v := nI 6) 237 hB d_M_make_235 rfl (by decide) ?_
                      refine x_icmp_ne 252 240 hB d_M_make_237 (by decide) rfl (fun h237 => ?_) (fun h237 => ?_)
                      · skip
                        have k237 : ¬ s / 32 % 8 = 6 := fun h => h237 (by rw [h])
                        have e10 : ((pb6 (sixF s plus) plus) && hp4 (four0 s (pb6 (sixF s plus) plus))) = trn s (pb6 (sixF s plus) plus) := by rw [← mtr_e s hs (pb6 (sixF s plus) plus), mtr, decide_eq_true k212, decide_eq_false (fun h => by omega)]; rfl
                        refine x_lve (lv' := [(10, .int (bI (trn s (pb6 (sixF s plus) plus)))), (0, .ref hm), (1, .int (nI (s))), (2, .int (bI plus)), (3, .int (bI (decide (256 ≤ s)))), (4, .int (nI (s % 32))), (5, .int (nI (s / 32 % 8))), (6, .int (nI (sixF s plus))), (7, .int (bI (pb6 (sixF s plus) plus))), (8, .int (nI (four0 s (pb6 (sixF s plus) plus)))), (9, .int (bI (decide (256 ≤ s) || oth s (pb6 (sixF s plus) plus))))]) (by rw [e10]) ?_
                        refine x_lv (lv' := [(0, .ref hm), (1, .int (nI (s))), (2, .int (bI plus)), (3, .int (bI (decide (256 ≤ s)))), (4, .int (nI (s % 32))), (5, .int (nI (s / 32 % 8))), (6, .int (nI (sixF s plus))), (7, .int (bI (pb6 (sixF s plus) plus))), (8, .int (nI (four0 s (pb6 (sixF s plus) plus)))), (9, .int (bI (decide (256 ≤ s) || oth s (pb6 (sixF s plus) plus)))), (10, .int (bI (trn s (pb6 (sixF s plus) plus))))]) [1, 2, 3, 4, 5, 6, 7, 8, 9, 10, 0] rfl ?_
                        exact J252 () trivial
                      · skip
                        have ky : s / 32 % 8 = 1 ∨ s / 32 % 8 = 2 ∨ s / 32 % 8 = 5 ∨ s / 32 % 8 = 6 := by have := (nI_eq (by omega) (by omega)).mp h237; omega
                        refine x_iload 242 hB d_M_make_240 rfl rfl ?_
                        refine x_if_ne 249 245 hB d_M_make_242 (by decide) rfl (fun h242 => ?_) (fun h242 => ?_)
                        · skip
                          have k242 : (pb6 (sixF s plus) plus) = true := bI_1 h242
                          refine x_iconst (v := nI 0) 250 hB d_M_make_249 rfl (by decide) ?_
                          refine x_top (v' := .int (bI (trn s (pb6 (sixF s plus) plus)))) (congrArg Value.int (bF0 (by rw [← mtr_e s hs (pb6 (sixF s plus) plus), mtr, decide_eq_true k212, decide_eq_true ky, k242]; rfl))) ?_
                          refine x_istore 252 hB d_M_make_250 rfl (by decide) (lv' := [(10, .int (bI (trn s (pb6 (sixF s plus) plus)))), (0, .ref hm), (1, .int (nI (s))), (2, .int (bI plus)), (3, .int (bI (decide (256 ≤ s)))), (4, .int (nI (s % 32))), (5, .int (nI (s / 32 % 8))), (6, .int (nI (sixF s plus))), (7, .int (bI (pb6 (sixF s plus) plus))), (8, .int (nI (four0 s (pb6 (sixF s plus) plus)))), (9, .int (bI (decide (256 ≤ s) || oth s (pb6 (sixF s plus) plus))))]) rfl ?_
                          refine x_lv (lv' := [(0, .ref hm), (1, .int (nI (s))), (2, .int (bI plus)), (3, .int (bI (decide (256 ≤ s)))), (4, .int (nI (s % 32))), (5, .int (nI (s / 32 % 8))), (6, .int (nI (sixF s plus))), (7, .int (bI (pb6 (sixF s plus) plus))), (8, .int (nI (four0 s (pb6 (sixF s plus) plus)))), (9, .int (bI (decide (256 ≤ s) || oth s (pb6 (sixF s plus) plus)))), (10, .int (bI (trn s (pb6 (sixF s plus) plus))))]) [1, 2, 3, 4, 5, 6, 7, 8, 9, 10, 0] rfl ?_
                          exact J252 () trivial
                        · skip
                          have k242 : (pb6 (sixF s plus) plus) = false := bI_0 h242
                          refine x_iconst (v := nI 1) 246 hB d_M_make_245 rfl (by decide) ?_
                          refine x_top (v' := .int (bI (trn s (pb6 (sixF s plus) plus)))) (congrArg Value.int (bT (by rw [← mtr_e s hs (pb6 (sixF s plus) plus), mtr, decide_eq_true k212, decide_eq_true ky, k242]; rfl))) ?_
                          refine x_goto 250 hB d_M_make_246 (by decide) ?_
                          refine x_istore 252 hB d_M_make_250 rfl (by decide) (lv' := [(10, .int (bI (trn s (pb6 (sixF s plus) plus)))), (0, .ref hm), (1, .int (nI (s))), (2, .int (bI plus)), (3, .int (bI (decide (256 ≤ s)))), (4, .int (nI (s % 32))), (5, .int (nI (s / 32 % 8))), (6, .int (nI (sixF s plus))), (7, .int (bI (pb6 (sixF s plus) plus))), (8, .int (nI (four0 s (pb6 (sixF s plus) plus)))), (9, .int (bI (decide (256 ≤ s) || oth s (pb6 (sixF s plus) plus))))]) rfl ?_
                          refine x_lv (lv' := [(0, .ref hm), (1, .int (nI (s))), (2, .int (bI plus)), (3, .int (bI (decide (256 ≤ s)))), (4, .int (nI (s % 32))), (5, .int (nI (s / 32 % 8))), (6, .int (nI (sixF s plus))), (7, .int (bI (pb6 (sixF s plus) plus))), (8, .int (nI (four0 s (pb6 (sixF s plus) plus)))), (9, .int (bI (decide (256 ≤ s) || oth s (pb6 (sixF s plus) plus)))), (10, .int (bI (trn s (pb6 (sixF s plus) plus))))]) [1, 2, 3, 4, 5, 6, 7, 8, 9, 10, 0] rfl ?_
                          exact J252 () trivial
            refine x_iload 185 hB d_M_make_183 rfl rfl ?_
            refine x_if_eq 208 188 hB d_M_make_185 (by decide) rfl (fun h185 => ?_) (fun h185 => ?_)
            · skip
              have k185 : (pb6 (sixF s plus) plus) = false := bI_0 h185
              refine x_iconst (v := nI 0) 209 hB d_M_make_208 rfl (by decide) ?_
              refine x_top (v' := .int (bI ((pb6 (sixF s plus) plus) && hp4 (four0 s (pb6 (sixF s plus) plus))))) (congrArg Value.int (bF0 (by rw [k185]; rfl))) ?_
              refine x_lv (lv' := [(0, .ref hm), (1, .int (nI (s))), (2, .int (bI plus)), (3, .int (bI (decide (256 ≤ s)))), (4, .int (nI (s % 32))), (5, .int (nI (s / 32 % 8))), (6, .int (nI (sixF s plus))), (7, .int (bI (pb6 (sixF s plus) plus))), (8, .int (nI (four0 s (pb6 (sixF s plus) plus)))), (9, .int (bI (decide (256 ≤ s) || oth s (pb6 (sixF s plus) plus))))]) [1, 2, 3, 4, 5, 6, 7, 8, 0, 9] rfl ?_
              exact J209 () trivial
            · skip
              have k185 : (pb6 (sixF s plus) plus) = true := bI_1 h185
              refine x_iload 190 hB d_M_make_188 rfl rfl ?_
              refine x_callP (k' := 0) (n' := 0) (rest := []) (st' := [.int (nI (onF (four0 s (pb6 (sixF s plus) plus)) 10))]) 193 hB (x_pfS (av := [.int (nI (four0 s (pb6 (sixF s plus) plus)))]) hB w_615 xHd_code w_7 w_613 w_614 nm_M_ones rfl d_M_make_190) (c_M_ones l E (four0 s (pb6 (sixF s plus) plus)) (by have := four0_lt s (pb6 (sixF s plus) plus); omega)) w_615 xHd_code w_7 [] rfl rfl ⟨by decide, by decide⟩ ⟨by decide, by decide⟩ rfl rfl (Nat.le_of_ble_eq_true rfl) d_M_make_190 rfl rfl ?_
              refine x_top (v' := .int (nI (pc6 (four0 s (pb6 (sixF s plus) plus))))) (congrArg Value.int (congrArg nI (on10 _ (by have := four0_lt s (pb6 (sixF s plus) plus); omega)))) ?_
              have hle4 := pc6_le (four0 s (pb6 (sixF s plus) plus))
              have hl4 := four0_lt s (pb6 (sixF s plus) plus)
              refine x_iconst (v := nI 2) 194 hB d_M_make_193 rfl (by decide) ?_
              refine x_icmp_ne 204 197 hB d_M_make_194 (by decide) rfl (fun h194 => ?_) (fun h194 => ?_)
              · skip
                have k194 : ¬ pc6 (four0 s (pb6 (sixF s plus) plus)) = 2 := fun h => h194 ((nI_eq (by omega) (by omega)).mpr h)
                refine x_iconst (v := nI 1) 205 hB d_M_make_204 rfl (by decide) ?_
                refine x_top (v' := .int (bI ((pb6 (sixF s plus) plus) && hp4 (four0 s (pb6 (sixF s plus) plus))))) (congrArg Value.int (bT (by rw [show hp4 (four0 s (pb6 (sixF s plus) plus)) = true by simp [hp4, k194], Bool.and_true]; exact k185))) ?_
                refine x_goto 209 hB d_M_make_205 (by decide) ?_
                refine x_lv (lv' := [(0, .ref hm), (1, .int (nI (s))), (2, .int (bI plus)), (3, .int (bI (decide (256 ≤ s)))), (4, .int (nI (s % 32))), (5, .int (nI (s / 32 % 8))), (6, .int (nI (sixF s plus))), (7, .int (bI (pb6 (sixF s plus) plus))), (8, .int (nI (four0 s (pb6 (sixF s plus) plus)))), (9, .int (bI (decide (256 ≤ s) || oth s (pb6 (sixF s plus) plus))))]) [1, 2, 3, 4, 5, 6, 7, 8, 0, 9] rfl ?_
                exact J209 () trivial
              · skip
                have k194 : pc6 (four0 s (pb6 (sixF s plus) plus)) = 2 := (nI_eq (by omega) (by omega)).mp h194
                refine x_iload 199 hB d_M_make_197 rfl rfl ?_
                refine x_bipush (v := nI 12) 201 hB d_M_make_199 rfl (by decide) ?_
                refine x_icmp_ne 208 204 hB d_M_make_201 (by decide) rfl (fun h201 => ?_) (fun h201 => ?_)
                · skip
                  have k201 : ¬ four0 s (pb6 (sixF s plus) plus) = 12 := fun h => h201 ((nI_eq (by omega) (by omega)).mpr h)
                  refine x_iconst (v := nI 0) 209 hB d_M_make_208 rfl (by decide) ?_
                  refine x_top (v' := .int (bI ((pb6 (sixF s plus) plus) && hp4 (four0 s (pb6 (sixF s plus) plus))))) (congrArg Value.int (bF0 (by rw [show hp4 (four0 s (pb6 (sixF s plus) plus)) = false by simp [hp4, k194, k201], Bool.and_false]))) ?_
                  refine x_lv (lv' := [(0, .ref hm), (1, .int (nI (s))), (2, .int (bI plus)), (3, .int (bI (decide (256 ≤ s)))), (4, .int (nI (s % 32))), (5, .int (nI (s / 32 % 8))), (6, .int (nI (sixF s plus))), (7, .int (bI (pb6 (sixF s plus) plus))), (8, .int (nI (four0 s (pb6 (sixF s plus) plus)))), (9, .int (bI (decide (256 ≤ s) || oth s (pb6 (sixF s plus) plus))))]) [1, 2, 3, 4, 5, 6, 7, 8, 0, 9] rfl ?_
                  exact J209 () trivial
                · skip
                  have k201 : four0 s (pb6 (sixF s plus) plus) = 12 := (nI_eq (by omega) (by omega)).mp h201
                  refine x_iconst (v := nI 1) 205 hB d_M_make_204 rfl (by decide) ?_
                  refine x_top (v' := .int (bI ((pb6 (sixF s plus) plus) && hp4 (four0 s (pb6 (sixF s plus) plus))))) (congrArg Value.int (bT (by rw [show hp4 (four0 s (pb6 (sixF s plus) plus)) = true by simp [hp4, k201], Bool.and_true]; exact k185))) ?_
                  refine x_goto 209 hB d_M_make_205 (by decide) ?_
                  refine x_lv (lv' := [(0, .ref hm), (1, .int (nI (s))), (2, .int (bI plus)), (3, .int (bI (decide (256 ≤ s)))), (4, .int (nI (s % 32))), (5, .int (nI (s / 32 % 8))), (6, .int (nI (sixF s plus))), (7, .int (bI (pb6 (sixF s plus) plus))), (8, .int (nI (four0 s (pb6 (sixF s plus) plus)))), (9, .int (bI (decide (256 ≤ s) || oth s (pb6 (sixF s plus) plus))))]) [1, 2, 3, 4, 5, 6, 7, 8, 0, 9] rfl ?_
                  exact J209 () trivial
          refine x_iload 164 hB d_M_make_162 rfl rfl ?_
          refine x_bipush (v := nI 7) 166 hB d_M_make_164 rfl (by decide) ?_
          refine x_icmp_ne 179 169 hB d_M_make_166 (by decide) rfl (fun h166 => ?_) (fun h166 => ?_)
          · skip
            have k166 : ¬ s / 32 % 8 = 7 := fun h => h166 ((nI_eq (by omega) (by omega)).mpr h)
            refine x_iload 181 hB d_M_make_179 rfl rfl ?_
            refine x_top (v' := .int (nI (four0 s (pb6 (sixF s plus) plus)))) (congrArg Value.int (by rw [four0, if_neg (fun h => k166 h.1)])) ?_
            refine x_lv (lv' := [(0, .ref hm), (1, .int (nI (s))), (2, .int (bI plus)), (3, .int (bI (decide (256 ≤ s)))), (4, .int (nI (s % 32))), (5, .int (nI (s / 32 % 8))), (6, .int (nI (sixF s plus))), (7, .int (bI (pb6 (sixF s plus) plus))), (8, .int (nI (fourN (s / 32 % 8)))), (9, .int (bI (decide (256 ≤ s) || oth s (pb6 (sixF s plus) plus))))]) [1, 2, 3, 4, 5, 6, 7, 8, 9, 0] rfl ?_
            exact J181 () trivial
          · skip
            have k166 : s / 32 % 8 = 7 := (nI_eq (by omega) (by omega)).mp h166
            refine x_iload 171 hB d_M_make_169 rfl rfl ?_
            refine x_if_eq 179 174 hB d_M_make_171 (by decide) rfl (fun h171 => ?_) (fun h171 => ?_)
            · skip
              have k171 : ¬ (256 ≤ s ∨ oth s (pb6 (sixF s plus) plus) = true) := fun h => absurd (bI_0 h171) (by rcases h with h | h <;> simp [h])
              refine x_iload 181 hB d_M_make_179 rfl rfl ?_
              refine x_top (v' := .int (nI (four0 s (pb6 (sixF s plus) plus)))) (congrArg Value.int (by rw [four0, if_neg (fun h => k171 h.2)])) ?_
              refine x_lv (lv' := [(0, .ref hm), (1, .int (nI (s))), (2, .int (bI plus)), (3, .int (bI (decide (256 ≤ s)))), (4, .int (nI (s % 32))), (5, .int (nI (s / 32 % 8))), (6, .int (nI (sixF s plus))), (7, .int (bI (pb6 (sixF s plus) plus))), (8, .int (nI (fourN (s / 32 % 8)))), (9, .int (bI (decide (256 ≤ s) || oth s (pb6 (sixF s plus) plus))))]) [1, 2, 3, 4, 5, 6, 7, 8, 9, 0] rfl ?_
              exact J181 () trivial
            · skip
              have k171 : 256 ≤ s ∨ oth s (pb6 (sixF s plus) plus) = true := by have := bI_1 h171; simpa using this
              refine x_bipush (v := nI 7) 176 hB d_M_make_174 rfl (by decide) ?_
              refine x_top (v' := .int (nI (four0 s (pb6 (sixF s plus) plus)))) (congrArg Value.int (by rw [four0, if_pos ⟨k166, k171⟩])) ?_
              refine x_goto 181 hB d_M_make_176 (by decide) ?_
              refine x_lv (lv' := [(0, .ref hm), (1, .int (nI (s))), (2, .int (bI plus)), (3, .int (bI (decide (256 ≤ s)))), (4, .int (nI (s % 32))), (5, .int (nI (s / 32 % 8))), (6, .int (nI (sixF s plus))), (7, .int (bI (pb6 (sixF s plus) plus))), (8, .int (nI (fourN (s / 32 % 8)))), (9, .int (bI (decide (256 ≤ s) || oth s (pb6 (sixF s plus) plus))))]) [1, 2, 3, 4, 5, 6, 7, 8, 9, 0] rfl ?_
              exact J181 () trivial
        refine x_iload_n 102 hB d_M_make_101 rfl rfl ?_
        refine x_if_ne 155 105 hB d_M_make_102 (by decide) rfl (fun h102 => ?_) (fun h102 => ?_)
        · skip
          have k102 : 256 ≤ s := of_decide_eq_true (bI_1 h102)
          refine x_iconst (v := nI 1) 156 hB d_M_make_155 rfl (by decide) ?_
          refine x_top (v' := .int (bI (decide (256 ≤ s) || oth s (pb6 (sixF s plus) plus)))) (congrArg Value.int (bT (by rw [decide_eq_true k102]; rfl))) ?_
          refine x_goto 160 hB d_M_make_156 (by decide) ?_
          refine x_lv (lv' := [(0, .ref hm), (1, .int (nI (s))), (2, .int (bI plus)), (3, .int (bI (decide (256 ≤ s)))), (4, .int (nI (s % 32))), (5, .int (nI (s / 32 % 8))), (6, .int (nI (sixF s plus))), (7, .int (bI (pb6 (sixF s plus) plus))), (8, .int (nI (fourN (s / 32 % 8))))]) [3, 4, 5, 6, 7, 8, 2, 1, 0] rfl ?_
          exact J160 () trivial
        · skip
          have k102 : ¬ 256 ≤ s := of_decide_eq_false (bI_0 h102)
          refine x_iload 107 hB d_M_make_105 rfl rfl ?_
          refine x_if_eq 134 110 hB d_M_make_107 (by decide) rfl (fun h107 => ?_) (fun h107 => ?_)
          · skip
            have k107 : (pb6 (sixF s plus) plus) = false := bI_0 h107
            refine x_iload 136 hB d_M_make_134 rfl rfl ?_
            refine x_bipush (v := nI 17) 138 hB d_M_make_136 rfl (by decide) ?_
            refine x_icmp_eq 155 141 hB d_M_make_138 (by decide) rfl (fun h138 => ?_) (fun h138 => ?_)
            · skip
              have k138 : s % 32 = 17 := (nI_eq (by omega) (by omega)).mp h138
              refine x_iconst (v := nI 1) 156 hB d_M_make_155 rfl (by decide) ?_
              refine x_top (v' := .int (bI (decide (256 ≤ s) || oth s (pb6 (sixF s plus) plus)))) (congrArg Value.int (bT (by rw [oth, k107]; simp [k138]))) ?_
              refine x_goto 160 hB d_M_make_156 (by decide) ?_
              refine x_lv (lv' := [(0, .ref hm), (1, .int (nI (s))), (2, .int (bI plus)), (3, .int (bI (decide (256 ≤ s)))), (4, .int (nI (s % 32))), (5, .int (nI (s / 32 % 8))), (6, .int (nI (sixF s plus))), (7, .int (bI (pb6 (sixF s plus) plus))), (8, .int (nI (fourN (s / 32 % 8))))]) [3, 4, 5, 6, 7, 8, 2, 1, 0] rfl ?_
              exact J160 () trivial
            · skip
              have k138 : ¬ s % 32 = 17 := fun h => h138 ((nI_eq (by omega) (by omega)).mpr h)
              refine x_iload 143 hB d_M_make_141 rfl rfl ?_
              refine x_bipush (v := nI 18) 145 hB d_M_make_143 rfl (by decide) ?_
              refine x_icmp_eq 155 148 hB d_M_make_145 (by decide) rfl (fun h145 => ?_) (fun h145 => ?_)
              · skip
                have k145 : s % 32 = 18 := (nI_eq (by omega) (by omega)).mp h145
                refine x_iconst (v := nI 1) 156 hB d_M_make_155 rfl (by decide) ?_
                refine x_top (v' := .int (bI (decide (256 ≤ s) || oth s (pb6 (sixF s plus) plus)))) (congrArg Value.int (bT (by rw [oth, k107]; simp [k145]))) ?_
                refine x_goto 160 hB d_M_make_156 (by decide) ?_
                refine x_lv (lv' := [(0, .ref hm), (1, .int (nI (s))), (2, .int (bI plus)), (3, .int (bI (decide (256 ≤ s)))), (4, .int (nI (s % 32))), (5, .int (nI (s / 32 % 8))), (6, .int (nI (sixF s plus))), (7, .int (bI (pb6 (sixF s plus) plus))), (8, .int (nI (fourN (s / 32 % 8))))]) [3, 4, 5, 6, 7, 8, 2, 1, 0] rfl ?_
                exact J160 () trivial
              · skip
                have k145 : ¬ s % 32 = 18 := fun h => h145 ((nI_eq (by omega) (by omega)).mpr h)
                refine x_iload 150 hB d_M_make_148 rfl rfl ?_
                refine x_bipush (v := nI 20) 152 hB d_M_make_150 rfl (by decide) ?_
                refine x_icmp_ne 159 155 hB d_M_make_152 (by decide) rfl (fun h152 => ?_) (fun h152 => ?_)
                · skip
                  have k152 : ¬ s % 32 = 20 := fun h => h152 ((nI_eq (by omega) (by omega)).mpr h)
                  refine x_iconst (v := nI 0) 160 hB d_M_make_159 rfl (by decide) ?_
                  refine x_top (v' := .int (bI (decide (256 ≤ s) || oth s (pb6 (sixF s plus) plus)))) (congrArg Value.int (bF0 (by rw [oth, k107, decide_eq_false k102]; simp [k138, k145, k152]))) ?_
                  refine x_lv (lv' := [(0, .ref hm), (1, .int (nI (s))), (2, .int (bI plus)), (3, .int (bI (decide (256 ≤ s)))), (4, .int (nI (s % 32))), (5, .int (nI (s / 32 % 8))), (6, .int (nI (sixF s plus))), (7, .int (bI (pb6 (sixF s plus) plus))), (8, .int (nI (fourN (s / 32 % 8))))]) [3, 4, 5, 6, 7, 8, 2, 1, 0] rfl ?_
                  exact J160 () trivial
                · skip
                  have k152 : s % 32 = 20 := (nI_eq (by omega) (by omega)).mp h152
                  refine x_iconst (v := nI 1) 156 hB d_M_make_155 rfl (by decide) ?_
                  refine x_top (v' := .int (bI (decide (256 ≤ s) || oth s (pb6 (sixF s plus) plus)))) (congrArg Value.int (bT (by rw [oth, k107]; simp [k152]))) ?_
                  refine x_goto 160 hB d_M_make_156 (by decide) ?_
                  refine x_lv (lv' := [(0, .ref hm), (1, .int (nI (s))), (2, .int (bI plus)), (3, .int (bI (decide (256 ≤ s)))), (4, .int (nI (s % 32))), (5, .int (nI (s / 32 % 8))), (6, .int (nI (sixF s plus))), (7, .int (bI (pb6 (sixF s plus) plus))), (8, .int (nI (fourN (s / 32 % 8))))]) [3, 4, 5, 6, 7, 8, 2, 1, 0] rfl ?_
                  exact J160 () trivial
          · skip
            have k107 : (pb6 (sixF s plus) plus) = true := bI_1 h107
            refine x_iload 112 hB d_M_make_110 rfl rfl ?_
            refine x_bipush (v := nI 11) 114 hB d_M_make_112 rfl (by decide) ?_
            refine x_icmp_eq 155 117 hB d_M_make_114 (by decide) rfl (fun h114 => ?_) (fun h114 => ?_)
            · skip
              have k114 : s % 32 = 11 := (nI_eq (by omega) (by omega)).mp h114
              refine x_iconst (v := nI 1) 156 hB d_M_make_155 rfl (by decide) ?_
              refine x_top (v' := .int (bI (decide (256 ≤ s) || oth s (pb6 (sixF s plus) plus)))) (congrArg Value.int (bT (by rw [oth, k107]; simp [k114]))) ?_
              refine x_goto 160 hB d_M_make_156 (by decide) ?_
              refine x_lv (lv' := [(0, .ref hm), (1, .int (nI (s))), (2, .int (bI plus)), (3, .int (bI (decide (256 ≤ s)))), (4, .int (nI (s % 32))), (5, .int (nI (s / 32 % 8))), (6, .int (nI (sixF s plus))), (7, .int (bI (pb6 (sixF s plus) plus))), (8, .int (nI (fourN (s / 32 % 8))))]) [3, 4, 5, 6, 7, 8, 2, 1, 0] rfl ?_
              exact J160 () trivial
            · skip
              have k114 : ¬ s % 32 = 11 := fun h => h114 ((nI_eq (by omega) (by omega)).mpr h)
              refine x_iload 119 hB d_M_make_117 rfl rfl ?_
              refine x_bipush (v := nI 13) 121 hB d_M_make_119 rfl (by decide) ?_
              refine x_icmp_eq 155 124 hB d_M_make_121 (by decide) rfl (fun h121 => ?_) (fun h121 => ?_)
              · skip
                have k121 : s % 32 = 13 := (nI_eq (by omega) (by omega)).mp h121
                refine x_iconst (v := nI 1) 156 hB d_M_make_155 rfl (by decide) ?_
                refine x_top (v' := .int (bI (decide (256 ≤ s) || oth s (pb6 (sixF s plus) plus)))) (congrArg Value.int (bT (by rw [oth, k107]; simp [k121]))) ?_
                refine x_goto 160 hB d_M_make_156 (by decide) ?_
                refine x_lv (lv' := [(0, .ref hm), (1, .int (nI (s))), (2, .int (bI plus)), (3, .int (bI (decide (256 ≤ s)))), (4, .int (nI (s % 32))), (5, .int (nI (s / 32 % 8))), (6, .int (nI (sixF s plus))), (7, .int (bI (pb6 (sixF s plus) plus))), (8, .int (nI (fourN (s / 32 % 8))))]) [3, 4, 5, 6, 7, 8, 2, 1, 0] rfl ?_
                exact J160 () trivial
              · skip
                have k121 : ¬ s % 32 = 13 := fun h => h121 ((nI_eq (by omega) (by omega)).mpr h)
                refine x_iload 126 hB d_M_make_124 rfl rfl ?_
                refine x_bipush (v := nI 14) 128 hB d_M_make_126 rfl (by decide) ?_
                refine x_icmp_ne 159 131 hB d_M_make_128 (by decide) rfl (fun h128 => ?_) (fun h128 => ?_)
                · skip
                  have k128 : ¬ s % 32 = 14 := fun h => h128 ((nI_eq (by omega) (by omega)).mpr h)
                  refine x_iconst (v := nI 0) 160 hB d_M_make_159 rfl (by decide) ?_
                  refine x_top (v' := .int (bI (decide (256 ≤ s) || oth s (pb6 (sixF s plus) plus)))) (congrArg Value.int (bF0 (by rw [oth, k107, decide_eq_false k102]; simp [k114, k121, k128]))) ?_
                  refine x_lv (lv' := [(0, .ref hm), (1, .int (nI (s))), (2, .int (bI plus)), (3, .int (bI (decide (256 ≤ s)))), (4, .int (nI (s % 32))), (5, .int (nI (s / 32 % 8))), (6, .int (nI (sixF s plus))), (7, .int (bI (pb6 (sixF s plus) plus))), (8, .int (nI (fourN (s / 32 % 8))))]) [3, 4, 5, 6, 7, 8, 2, 1, 0] rfl ?_
                  exact J160 () trivial
                · skip
                  have k128 : s % 32 = 14 := (nI_eq (by omega) (by omega)).mp h128
                  refine x_goto 155 hB d_M_make_131 (by decide) ?_
                  refine x_iconst (v := nI 1) 156 hB d_M_make_155 rfl (by decide) ?_
                  refine x_top (v' := .int (bI (decide (256 ≤ s) || oth s (pb6 (sixF s plus) plus)))) (congrArg Value.int (bT (by rw [oth, k107]; simp [k128]))) ?_
                  refine x_goto 160 hB d_M_make_156 (by decide) ?_
                  refine x_lv (lv' := [(0, .ref hm), (1, .int (nI (s))), (2, .int (bI plus)), (3, .int (bI (decide (256 ≤ s)))), (4, .int (nI (s % 32))), (5, .int (nI (s / 32 % 8))), (6, .int (nI (sixF s plus))), (7, .int (bI (pb6 (sixF s plus) plus))), (8, .int (nI (fourN (s / 32 % 8))))]) [3, 4, 5, 6, 7, 8, 2, 1, 0] rfl ?_
                  exact J160 () trivial
      refine x_iload_n 53 hB d_M_make_52 rfl rfl ?_
      refine x_if_eq 80 56 hB d_M_make_53 (by decide) rfl (fun h53 => ?_) (fun h53 => ?_)
      · skip
        have k53 : plus = false := bI_0 h53
        refine x_iload 82 hB d_M_make_80 rfl rfl ?_
        refine x_top (v' := .int (nI (sixF s plus))) (congrArg Value.int (by rw [sixF, k53]; rfl)) ?_
        refine x_lv (lv' := [(0, .ref hm), (1, .int (nI (s))), (2, .int (bI plus)), (3, .int (bI (decide (256 ≤ s)))), (4, .int (nI (s % 32))), (5, .int (nI (s / 32 % 8)))]) [1, 2, 3, 4, 5, 6] rfl ?_
        exact J82 () trivial
      · skip
        have k53 : plus = true := bI_1 h53
        refine x_iload 58 hB d_M_make_56 rfl rfl ?_
        refine x_callP (k' := 0) (n' := 0) (rest := []) (st' := [.int (nI (onF (six0 s) 10))]) 61 hB (x_pfS (av := [.int (nI (six0 s))]) hB w_615 xHd_code w_7 w_613 w_614 nm_M_ones rfl d_M_make_58) (c_M_ones l E (six0 s) (by have := six0_lt s; omega)) w_615 xHd_code w_7 [] rfl rfl ⟨by decide, by decide⟩ ⟨by decide, by decide⟩ rfl rfl (Nat.le_of_ble_eq_true rfl) d_M_make_58 rfl rfl ?_
        refine x_top (v' := .int (nI (pc6 (six0 s)))) (congrArg Value.int (congrArg nI (on10 _ (six0_lt s)))) ?_
        have hle := pc6_le (six0 s)
        have hl6 := six0_lt s
        refine x_iconst (v := nI 3) 62 hB d_M_make_61 rfl (by decide) ?_
        refine x_icmp_ne 72 65 hB d_M_make_62 (by decide) rfl (fun h62 => ?_) (fun h62 => ?_)
        · skip
          have k62 : ¬ pc6 (six0 s) = 3 := fun h => h62 ((nI_eq (by omega) (by omega)).mpr h)
          refine x_bipush (v := nI 63) 74 hB d_M_make_72 rfl (by decide) ?_
          refine x_iload 76 hB d_M_make_74 rfl rfl ?_
          refine x_isub 77 hB d_M_make_76 rfl ?_
          refine x_top (v' := .int (nI (sixF s plus))) (congrArg Value.int ((pk_sub (by omega)).trans (by rw [sixF, k53]; simp [hp6, k62]))) ?_
          refine x_goto 82 hB d_M_make_77 (by decide) ?_
          refine x_lv (lv' := [(0, .ref hm), (1, .int (nI (s))), (2, .int (bI plus)), (3, .int (bI (decide (256 ≤ s)))), (4, .int (nI (s % 32))), (5, .int (nI (s / 32 % 8)))]) [1, 2, 3, 4, 5, 6] rfl ?_
          exact J82 () trivial
        · skip
          have k62 : pc6 (six0 s) = 3 := (nI_eq (by omega) (by omega)).mp h62
          refine x_iload 67 hB d_M_make_65 rfl rfl ?_
          refine x_bipush (v := nI 56) 69 hB d_M_make_67 rfl (by decide) ?_
          refine x_icmp_ne 80 72 hB d_M_make_69 (by decide) rfl (fun h69 => ?_) (fun h69 => ?_)
          · skip
            have k69 : ¬ six0 s = 56 := fun h => h69 ((nI_eq (by omega) (by omega)).mpr h)
            refine x_iload 82 hB d_M_make_80 rfl rfl ?_
            refine x_top (v' := .int (nI (sixF s plus))) (congrArg Value.int (by rw [sixF, k53]; simp [hp6, k62, k69])) ?_
            refine x_lv (lv' := [(0, .ref hm), (1, .int (nI (s))), (2, .int (bI plus)), (3, .int (bI (decide (256 ≤ s)))), (4, .int (nI (s % 32))), (5, .int (nI (s / 32 % 8)))]) [1, 2, 3, 4, 5, 6] rfl ?_
            exact J82 () trivial
          · skip
            have k69 : six0 s = 56 := (nI_eq (by omega) (by omega)).mp h69
            refine x_bipush (v := nI 63) 74 hB d_M_make_72 rfl (by decide) ?_
            refine x_iload 76 hB d_M_make_74 rfl rfl ?_
            refine x_isub 77 hB d_M_make_76 rfl ?_
            refine x_top (v' := .int (nI (sixF s plus))) (congrArg Value.int ((pk_sub (by omega)).trans (by rw [sixF, k53]; simp [hp6, k69]))) ?_
            refine x_goto 82 hB d_M_make_77 (by decide) ?_
            refine x_lv (lv' := [(0, .ref hm), (1, .int (nI (s))), (2, .int (bI plus)), (3, .int (bI (decide (256 ≤ s)))), (4, .int (nI (s % 32))), (5, .int (nI (s / 32 % 8)))]) [1, 2, 3, 4, 5, 6] rfl ?_
            exact J82 () trivial
    refine x_iload_n 28 hB d_M_make_27 rfl rfl ?_
    refine x_if_eq 43 31 hB d_M_make_28 (by decide) rfl (fun h28 => ?_) (fun h28 => ?_)
    · skip
      have k28 : ¬ 256 ≤ s := of_decide_eq_false (bI_0 h28)
      refine x_aload_n 44 hB d_M_make_43 rfl rfl ?_
      refine x_get 47 hB 0 fg_M_7_5 rfl rfl d_M_make_44 rfl ?_
      refine x_iload 49 hB d_M_make_47 rfl rfl ?_
      refine x_iald 50 hB 1 rfl (by omega) (by decide) d_M_make_49 rfl ?_
      refine x_top (v' := .int (nI (six0 s))) (congrArg Value.int ((h6 _ (by omega)).trans (by rw [six0, if_neg (fun h => k28 h.1)]))) ?_
      refine x_lv (lv' := [(0, .ref hm), (1, .int (nI (s))), (2, .int (bI plus)), (3, .int (bI (decide (256 ≤ s)))), (4, .int (nI (s % 32))), (5, .int (nI (s / 32 % 8)))]) [3, 4, 5, 2, 1, 0] rfl ?_
      exact J50 () trivial
    · skip
      have k28 : 256 ≤ s := of_decide_eq_true (bI_1 h28)
      refine x_iload 33 hB d_M_make_31 rfl rfl ?_
      refine x_bipush (v := nI 28) 35 hB d_M_make_33 rfl (by decide) ?_
      refine x_icmp_ne 43 38 hB d_M_make_35 (by decide) rfl (fun h35 => ?_) (fun h35 => ?_)
      · skip
        have k35 : ¬ s % 32 = 28 := fun h => h35 ((nI_eq (by omega) (by omega)).mpr h)
        refine x_aload_n 44 hB d_M_make_43 rfl rfl ?_
        refine x_get 47 hB 0 fg_M_7_5 rfl rfl d_M_make_44 rfl ?_
        refine x_iload 49 hB d_M_make_47 rfl rfl ?_
        refine x_iald 50 hB 1 rfl (by omega) (by decide) d_M_make_49 rfl ?_
        refine x_top (v' := .int (nI (six0 s))) (congrArg Value.int ((h6 _ (by omega)).trans (by rw [six0, if_neg (fun h => k35 h.2)]))) ?_
        refine x_lv (lv' := [(0, .ref hm), (1, .int (nI (s))), (2, .int (bI plus)), (3, .int (bI (decide (256 ≤ s)))), (4, .int (nI (s % 32))), (5, .int (nI (s / 32 % 8)))]) [3, 4, 5, 2, 1, 0] rfl ?_
        exact J50 () trivial
      · skip
        have k35 : s % 32 = 28 := (nI_eq (by omega) (by omega)).mp h35
        refine x_bipush (v := nI 15) 40 hB d_M_make_38 rfl (by decide) ?_
        refine x_top (v' := .int (nI (six0 s))) (congrArg Value.int (by rw [six0, if_pos ⟨k28, k35⟩])) ?_
        refine x_goto 50 hB d_M_make_40 (by decide) ?_
        refine x_lv (lv' := [(0, .ref hm), (1, .int (nI (s))), (2, .int (bI plus)), (3, .int (bI (decide (256 ≤ s)))), (4, .int (nI (s % 32))), (5, .int (nI (s / 32 % 8)))]) [3, 4, 5, 2, 1, 0] rfl ?_
        exact J50 () trivial
  refine x_iload_n 1 hB d_M_make_0 rfl rfl ?_
  refine x_sipush (v := nI 255) 4 hB d_M_make_1 rfl (by decide) ?_
  refine x_icmp_le 11 7 hB d_M_make_4 (by decide) rfl (fun h4 => ?_) (fun h4 => ?_)
  · skip
    have k4 : s ≤ 255 := (nI_leI (by omega) (by omega)).mp h4
    refine x_iconst (v := nI 0) 12 hB d_M_make_11 rfl (by decide) ?_
    refine x_top (v' := .int (bI (decide (256 ≤ s)))) (congrArg Value.int (bF0 (decide_eq_false (by omega)))) ?_
    exact J12 () trivial
  · skip
    have k4 : ¬ s ≤ 255 := fun h => h4 ((nI_leI (by omega) (by omega)).mpr h)
    refine x_iconst (v := nI 1) 8 hB d_M_make_7 rfl (by decide) ?_
    refine x_top (v' := .int (bI (decide (256 ≤ s)))) (congrArg Value.int (bT (decide_eq_true (by omega)))) ?_
    refine x_goto 12 hB d_M_make_8 (by decide) ?_
    exact J12 () trivial
