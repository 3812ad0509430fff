abbrev rm_M_append0 : Room := { frames := 0, cells := 0, slots := 0, locals := 0 }
set_option maxHeartbeats 4000000 in
set_option maxRecDepth 100000 in
theorem c_M_append0 (l : Launch) (E : xE) (hm ms mf mc my mb mz mp mo mm ml md me mg : Nat) (re : Int32) (wr : Nat) (sp rp fi : Bool) (gd : Nat) (la : Int32) (lst : Int64) (z0 z1 : Nat) (g : Nat → Int32) (x : Int32) (hz : z0 < 2640) : xC l E y_M_append (.code y_M_append prog_10_method_15_code 3 none) rm_M_append0 [.ref hm, .int (nI 0), .int (x)] [(hm, .inr (5, [.int (re), .ref ms, .ref mf, .ref mc, .ref my, .ref mb, .ref mz, .ref mp, .ref mo, .ref mm, .ref ml, .ref md, .int (nI (wr)), .int (bI sp), .int (bI rp), .int (bI fi), .int (nI (gd)), .ref me, .ref mg, .int (la), .int (nI 0), .long (lst), .int 0])), (mb, .inl (E.2 1, 5280, .inl (g))), (mz, .inl (E.2 1, 2, .inl (pr2 (nI (z0)) (nI (z1)))))] (xRet none [(hm, .inr (5, [.int (re), .ref ms, .ref mf, .ref mc, .ref my, .ref mb, .ref mz, .ref mp, .ref mo, .ref mm, .ref ml, .ref md, .int (nI (wr)), .int (bI sp), .int (bI rp), .int (bI fi), .int (nI (gd)), .ref me, .ref mg, .int (la), .int (nI 0), .long (lst), .int 0])), (mb, .inl (E.2 1, 5280, .inl (upd g (0 + z0) x))), (mz, .inl (E.2 1, 2, .inl (pr2 (nI (z0 + 1)) (nI (z1)))))]) := by
  refine x_of' (own := "LineCoderModel") (mn := "append") (lv := [(0, .ref hm), (1, .int (nI 0)), (2, .int (x))]) (plainFor_of_name (by decide)) rfl rfl (Nat.le_of_ble_eq_true rfl) rfl ?_
  intro p_ e_ s_ m_ ar_ be_ me_ c_ A_ hA hB
  refine x_aload_n 1 hB d_M_append_0 rfl rfl ?_
  refine x_get 4 hB 0 fg_M_22_5 rfl rfl d_M_append_1 rfl ?_
  refine x_sipush (v := nI 2640) 7 hB d_M_append_4 rfl (by decide) ?_
  refine x_iload_n 8 hB d_M_append_7 rfl rfl ?_
  refine x_imul 9 hB d_M_append_8 rfl ?_
  refine x_top (v' := .int (nI 0)) (congrArg Value.int (by decide)) ?_
  refine x_aload_n 10 hB d_M_append_9 rfl rfl ?_
  refine x_get 13 hB 0 fg_M_25_5 rfl rfl d_M_append_10 rfl ?_
  refine x_iload_n 14 hB d_M_append_13 rfl rfl ?_
  refine x_iald 15 hB 2 rfl (by omega) (by decide) d_M_append_14 rfl ?_
  refine x_top (v' := .int (nI (z0))) (congrArg Value.int (rfl)) ?_
  refine x_iadd 16 hB d_M_append_15 rfl ?_
  refine x_top (v' := .int (nI (0 + z0))) (congrArg Value.int (nI_add _ _)) ?_
  refine x_iload_n 17 hB d_M_append_16 rfl rfl ?_
  refine x_iast 18 hB 1 (ws' := [(hm, .inr (5, [.int (re), .ref ms, .ref mf, .ref mc, .ref my, .ref mb, .ref mz, .ref mp, .ref mo, .ref mm, .ref ml, .ref md, .int (nI (wr)), .int (bI sp), .int (bI rp), .int (bI fi), .int (nI (gd)), .ref me, .ref mg, .int (la), .int (nI 0), .long (lst), .int 0])), (mb, .inl (E.2 1, 5280, .inl (upd g (0 + z0) x))), (mz, .inl (E.2 1, 2, .inl (pr2 (nI (z0)) (nI (z1)))))]) rfl (by omega) (by decide) (x' := x) (rfl) rfl d_M_append_17 rfl ?_
  refine x_aload_n 19 hB d_M_append_18 rfl rfl ?_
  refine x_get 22 hB 0 fg_M_25_5 rfl rfl d_M_append_19 rfl ?_
  refine x_iload_n 23 hB d_M_append_22 rfl rfl ?_
  refine x_dup2 24 hB d_M_append_23 rfl rfl rfl ?_
  refine x_iald 25 hB 2 rfl (by omega) (by decide) d_M_append_24 rfl ?_
  refine x_top (v' := .int (nI (z0))) (congrArg Value.int (rfl)) ?_
  refine x_iconst (v := nI 1) 26 hB d_M_append_25 rfl (by decide) ?_
  refine x_iadd 27 hB d_M_append_26 rfl ?_
  refine x_top (v' := .int (nI (z0 + 1))) (congrArg Value.int (nI_add z0 1)) ?_
  refine x_iast 28 hB 2 (ws' := [(hm, .inr (5, [.int (re), .ref ms, .ref mf, .ref mc, .ref my, .ref mb, .ref mz, .ref mp, .ref mo, .ref mm, .ref ml, .ref md, .int (nI (wr)), .int (bI sp), .int (bI rp), .int (bI fi), .int (nI (gd)), .ref me, .ref mg, .int (la), .int (nI 0), .long (lst), .int 0])), (mb, .inl (E.2 1, 5280, .inl (upd g (0 + z0) x))), (mz, .inl (E.2 1, 2, .inl (pr2 (nI (z0 + 1)) (nI (z1)))))]) rfl (by omega) (by decide) (x' := nI (z0 + 1)) (rfl) (by rw [pr2_0]; rfl) d_M_append_27 rfl ?_
  exact x_vret hB (w' := [(hm, .inr (5, [.int (re), .ref ms, .ref mf, .ref mc, .ref my, .ref mb, .ref mz, .ref mp, .ref mo, .ref mm, .ref ml, .ref md, .int (nI (wr)), .int (bI sp), .int (bI rp), .int (bI fi), .int (nI (gd)), .ref me, .ref mg, .int (la), .int (nI 0), .long (lst), .int 0])), (mb, .inl (E.2 1, 5280, .inl (upd g (0 + z0) x))), (mz, .inl (E.2 1, 2, .inl (pr2 (nI (z0 + 1)) (nI (z1)))))]) hA [0, 1, 2] rfl rfl (xRet_i) (by decide) (by decide) d_M_append_28
abbrev rm_M_append1 : Room := { frames := 0, cells := 0, slots := 0, locals := 0 }
set_option maxHeartbeats 4000000 in
set_option maxRecDepth 100000 in
theorem c_M_append1 (l : Launch) (E : xE) (hm ms mf mc my mb mz mp mo mm ml md me mg : Nat) (re : Int32) (wr : Nat) (sp rp fi : Bool) (gd : Nat) (la : Int32) (lst : Int64) (z0 z1 : Nat) (g : Nat → Int32) (x : Int32) (hz : z1 < 2640) : xC l E y_M_append (.code y_M_append prog_10_method_15_code 3 none) rm_M_append1 [.ref hm, .int (nI 1), .int (x)] [(hm, .inr (5, [.int (re), .ref ms, .ref mf, .ref mc, .ref my, .ref mb, .ref mz, .ref mp, .ref mo, .ref mm, .ref ml, .ref md, .int (nI (wr)), .int (bI sp), .int (bI rp), .int (bI fi), .int (nI (gd)), .ref me, .ref mg, .int (la), .int (nI 0), .long (lst), .int 0])), (mb, .inl (E.2 1, 5280, .inl (g))), (mz, .inl (E.2 1, 2, .inl (pr2 (nI (z0)) (nI (z1)))))] (xRet none [(hm, .inr (5, [.int (re), .ref ms, .ref mf, .ref mc, .ref my, .ref mb, .ref mz, .ref mp, .ref mo, .ref mm, .ref ml, .ref md, .int (nI (wr)), .int (bI sp), .int (bI rp), .int (bI fi), .int (nI (gd)), .ref me, .ref mg, .int (la), .int (nI 0), .long (lst), .int 0])), (mb, .inl (E.2 1, 5280, .inl (upd g (2640 + z1) x))), (mz, .inl (E.2 1, 2, .inl (pr2 (nI (z0)) (nI (z1 + 1)))))]) := by
  refine x_of' (own := "LineCoderModel") (mn := "append") (lv := [(0, .ref hm), (1, .int (nI 1)), (2, .int (x))]) (plainFor_of_name (by decide)) rfl rfl (Nat.le_of_ble_eq_true rfl) rfl ?_
  intro p_ e_ s_ m_ ar_ be_ me_ c_ A_ hA hB
  refine x_aload_n 1 hB d_M_append_0 rfl rfl ?_
  refine x_get 4 hB 0 fg_M_22_5 rfl rfl d_M_append_1 rfl ?_
  refine x_sipush (v := nI 2640) 7 hB d_M_append_4 rfl (by decide) ?_
  refine x_iload_n 8 hB d_M_append_7 rfl rfl ?_
  refine x_imul 9 hB d_M_append_8 rfl ?_
  refine x_top (v' := .int (nI 2640)) (congrArg Value.int (by decide)) ?_
  refine x_aload_n 10 hB d_M_append_9 rfl rfl ?_
  refine x_get 13 hB 0 fg_M_25_5 rfl rfl d_M_append_10 rfl ?_
  refine x_iload_n 14 hB d_M_append_13 rfl rfl ?_
  refine x_iald 15 hB 2 rfl (by omega) (by decide) d_M_append_14 rfl ?_
  refine x_top (v' := .int (nI (z1))) (congrArg Value.int (rfl)) ?_
  refine x_iadd 16 hB d_M_append_15 rfl ?_
  refine x_top (v' := .int (nI (2640 + z1))) (congrArg Value.int (nI_add _ _)) ?_
  refine x_iload_n 17 hB d_M_append_16 rfl rfl ?_
  refine x_iast 18 hB 1 (ws' := [(hm, .inr (5, [.int (re), .ref ms, .ref mf, .ref mc, .ref my, .ref mb, .ref mz, .ref mp, .ref mo, .ref mm, .ref ml, .ref md, .int (nI (wr)), .int (bI sp), .int (bI rp), .int (bI fi), .int (nI (gd)), .ref me, .ref mg, .int (la), .int (nI 0), .long (lst), .int 0])), (mb, .inl (E.2 1, 5280, .inl (upd g (2640 + z1) x))), (mz, .inl (E.2 1, 2, .inl (pr2 (nI (z0)) (nI (z1)))))]) rfl (by omega) (by decide) (x' := x) (rfl) rfl d_M_append_17 rfl ?_
  refine x_aload_n 19 hB d_M_append_18 rfl rfl ?_
  refine x_get 22 hB 0 fg_M_25_5 rfl rfl d_M_append_19 rfl ?_
  refine x_iload_n 23 hB d_M_append_22 rfl rfl ?_
  refine x_dup2 24 hB d_M_append_23 rfl rfl rfl ?_
  refine x_iald 25 hB 2 rfl (by omega) (by decide) d_M_append_24 rfl ?_
  refine x_top (v' := .int (nI (z1))) (congrArg Value.int (rfl)) ?_
  refine x_iconst (v := nI 1) 26 hB d_M_append_25 rfl (by decide) ?_
  refine x_iadd 27 hB d_M_append_26 rfl ?_
  refine x_top (v' := .int (nI (z1 + 1))) (congrArg Value.int (nI_add z1 1)) ?_
  refine x_iast 28 hB 2 (ws' := [(hm, .inr (5, [.int (re), .ref ms, .ref mf, .ref mc, .ref my, .ref mb, .ref mz, .ref mp, .ref mo, .ref mm, .ref ml, .ref md, .int (nI (wr)), .int (bI sp), .int (bI rp), .int (bI fi), .int (nI (gd)), .ref me, .ref mg, .int (la), .int (nI 0), .long (lst), .int 0])), (mb, .inl (E.2 1, 5280, .inl (upd g (2640 + z1) x))), (mz, .inl (E.2 1, 2, .inl (pr2 (nI (z0)) (nI (z1 + 1)))))]) rfl (by omega) (by decide) (x' := nI (z1 + 1)) (rfl) (by rw [pr2_1]; rfl) d_M_append_27 rfl ?_
  exact x_vret hB (w' := [(hm, .inr (5, [.int (re), .ref ms, .ref mf, .ref mc, .ref my, .ref mb, .ref mz, .ref mp, .ref mo, .ref mm, .ref ml, .ref md, .int (nI (wr)), .int (bI sp), .int (bI rp), .int (bI fi), .int (nI (gd)), .ref me, .ref mg, .int (la), .int (nI 0), .long (lst), .int 0])), (mb, .inl (E.2 1, 5280, .inl (upd g (2640 + z1) x))), (mz, .inl (E.2 1, 2, .inl (pr2 (nI (z0)) (nI (z1 + 1)))))]) hA [0, 1, 2] rfl rfl (xRet_i) (by decide) (by decide) d_M_append_28
abbrev rm_M_bitsAt : Room := { frames := 0, cells := 0, slots := 0, locals := 0 }
set_option maxHeartbeats 4000000 in
set_option maxRecDepth 100000 in
theorem c_M_bitsAt (l : Launch) (E : xE) (hm ms mf mc my mb mz mp mo mm ml md me mg : Nat) (re : Int32) (wr : Nat) (sp rp fi : Bool) (gd : Nat) (la : Int32) (lst : Int64) (g : Nat → Int32) (q k : Nat) (hq : q + k ≤ 5280) (hk : k ≤ 10) (hb : ∀ i, i < k → g (q + i) = 0 ∨ g (q + i) = 1) : xCp l E y_M_bitsAt (.code y_M_bitsAt prog_10_method_17_code 5 (some .int)) rm_M_bitsAt [.ref hm, .int (nI (q)), .int (nI (k))] [(hm, .inr (5, [.int (re), .ref ms, .ref mf, .ref mc, .ref my, .ref mb, .ref mz, .ref mp, .ref mo, .ref mm, .ref ml, .ref md, .int (nI (wr)), .int (bI sp), .int (bI rp), .int (bI fi), .int (nI (gd)), .ref me, .ref mg, .int (la), .int (nI 0), .long (lst), .int 0])), (mb, .inl (E.2 1, 5280, .inl (g)))] (.inl (some (.int (nI (ahN g q k))))) := by
  refine x_ofP (own := "LineCoderModel") (mn := "bitsAt") (lv := [(0, .ref hm), (1, .int (nI (q))), (2, .int (nI (k)))]) (plainFor_of_name (by decide)) rfl rfl (Nat.le_of_ble_eq_true rfl) rfl ?_
  intro p_ e_ s_ m_ ar_ be_ me_ c_ hB
  refine x_iconst (v := nI 0) 1 hB d_M_bitsAt_0 rfl (by decide) ?_
  refine x_istore_n 2 hB d_M_bitsAt_1 rfl (by decide) (lv' := [(3, .int (nI 0)), (0, .ref hm), (1, .int (nI (q))), (2, .int (nI (k)))]) rfl ?_
  refine x_iload_n 3 hB d_M_bitsAt_2 rfl rfl ?_
  refine x_istore 5 hB d_M_bitsAt_3 rfl (by decide) (lv' := [(4, .int (nI (q))), (3, .int (nI 0)), (0, .ref hm), (1, .int (nI (q))), (2, .int (nI (k)))]) rfl ?_
  refine x_lv (lv' := [(0, .ref hm), (1, .int (nI (q))), (2, .int (nI (k))), (3, .int (nI 0)), (4, .int (nI (q)))]) [2, 3, 4, 1, 0] rfl ?_
  refine x_loop (fun i : Nat => i ≤ k) (fun i : Nat => k - i) (fun i : Nat => [(hm, .inr (5, [.int (re), .ref ms, .ref mf, .ref mc, .ref my, .ref mb, .ref mz, .ref mp, .ref mo, .ref mm, .ref ml, .ref md, .int (nI (wr)), .int (bI sp), .int (bI rp), .int (bI fi), .int (nI (gd)), .ref me, .ref mg, .int (la), .int (nI 0), .long (lst), .int 0])), (mb, .inl (E.2 1, 5280, .inl (g)))]) (fun i : Nat => [(0, .ref hm), (1, .int (nI (q))), (2, .int (nI (k))), (3, .int (nI (ahN g q i))), (4, .int (nI (q + i)))]) (fun i : Nat => []) 0 (Nat.zero_le _) rfl rfl rfl (fun i hI5 IH5 => ?_)
  refine x_iload 7 hB d_M_bitsAt_5 rfl rfl ?_
  refine x_iload_n 8 hB d_M_bitsAt_7 rfl rfl ?_
  refine x_iload_n 9 hB d_M_bitsAt_8 rfl rfl ?_
  refine x_iadd 10 hB d_M_bitsAt_9 rfl ?_
  refine x_top (v' := .int (nI (q + k))) (congrArg Value.int (nI_add _ _)) ?_
  refine x_icmp_ge 31 13 hB d_M_bitsAt_10 (by decide) rfl (fun h10 => ?_) (fun h10 => ?_)
  · skip
    have hi : k = i := by have := (nI_leI (by omega) (by omega)).mp h10; omega
    subst hi
    refine x_iload_n 32 hB d_M_bitsAt_31 rfl rfl ?_
    exact x_iretP hB (rfl) (by decide) (by decide) d_M_bitsAt_32
  · skip
    have k10 : i < k := Nat.lt_of_not_le (fun h => h10 (nI_le (by omega) (by omega)))
    refine x_iconst (v := nI 2) 14 hB d_M_bitsAt_13 rfl (by decide) ?_
    refine x_iload_n 15 hB d_M_bitsAt_14 rfl rfl ?_
    refine x_imul 16 hB d_M_bitsAt_15 rfl ?_
    refine x_top (v' := .int (nI (2 * ahN g q i))) (congrArg Value.int (pk_mul _ _)) ?_
    refine x_aload_n 17 hB d_M_bitsAt_16 rfl rfl ?_
    refine x_get 20 hB 0 fg_M_22_5 rfl rfl d_M_bitsAt_17 rfl ?_
    refine x_iload 22 hB d_M_bitsAt_20 rfl rfl ?_
    refine x_iald 23 hB 1 rfl (by omega) (by decide) d_M_bitsAt_22 rfl ?_
    refine x_iadd 24 hB d_M_bitsAt_23 rfl ?_
    refine x_top (v' := .int (nI (ahN g q (i + 1)))) (congrArg Value.int (ad01 (hb i k10))) ?_
    refine x_istore_n 25 hB d_M_bitsAt_24 rfl (by decide) (lv' := [(3, .int (nI (ahN g q (i + 1)))), (0, .ref hm), (1, .int (nI (q))), (2, .int (nI (k))), (4, .int (nI (q + i)))]) rfl ?_
    refine x_iinc (v := nI (q + (i + 1))) 28 hB d_M_bitsAt_25 rfl 4 rfl ((nI_succ (q + i)).symm) (by decide) (lv' := [(4, .int (nI (q + (i + 1)))), (3, .int (nI (ahN g q (i + 1)))), (0, .ref hm), (1, .int (nI (q))), (2, .int (nI (k)))]) rfl ?_
    refine x_goto 5 hB d_M_bitsAt_28 (by decide) ?_
    refine x_lv (lv' := [(0, .ref hm), (1, .int (nI (q))), (2, .int (nI (k))), (3, .int (nI (ahN g q (i + 1)))), (4, .int (nI (q + (i + 1))))]) [2, 3, 4, 1, 0] rfl ?_
    exact IH5 (i + 1) k10 (by omega)
abbrev rm_M_remember : Room := { frames := 0, cells := 0, slots := 0, locals := 0 }
set_option maxHeartbeats 4000000 in
set_option maxRecDepth 100000 in
theorem c_M_remember (l : Launch) (E : xE) (r : Nat) (h : Nat → Int32) (b : Int32) : xC l E y_M_remember (.code y_M_remember prog_10_method_20_code 3 none) rm_M_remember [.ref r, .int (b)] [(r, .inl (E.2 1, 58, .inl (h)))] (xRet none [(r, .inl (E.2 1, 58, .inl (rmF h b)))]) := by
  refine x_of' (own := "LineCoderModel") (mn := "remember") (lv := [(0, .ref r), (1, .int (b))]) (plainFor_of_name (by decide)) rfl rfl (Nat.le_of_ble_eq_true rfl) rfl ?_
  intro p_ e_ s_ m_ ar_ be_ me_ c_ A_ hA hB
  refine x_bipush (v := nI 57) 2 hB d_M_remember_0 rfl (by decide) ?_
  refine x_istore_n 3 hB d_M_remember_2 rfl (by decide) (lv' := [(2, .int (nI 57)), (0, .ref r), (1, .int (b))]) rfl ?_
  refine x_ws (ws' := [(r, .inl (E.2 1, 58, .inl (rmL h 0)))]) (by rw [← rmL_0]) ?_
  refine x_lv (lv' := [(0, .ref r), (1, .int (b)), (2, .int (nI 57))]) [1, 2, 0] rfl ?_
  refine x_loop (fun t : Nat => t ≤ 57) (fun t : Nat => 57 - t) (fun t : Nat => [(r, .inl (E.2 1, 58, .inl (rmL h t)))]) (fun t : Nat => [(0, .ref r), (1, .int (b)), (2, .int (nI (57 - t)))]) (fun t : Nat => []) 0 (Nat.zero_le _) rfl rfl rfl (fun t hI3 IH3 => ?_)
  refine x_iload_n 4 hB d_M_remember_3 rfl rfl ?_
  refine x_if_le 21 7 hB d_M_remember_4 (by decide) rfl (fun h4 => ?_) (fun h4 => ?_)
  · skip
    have ht : 57 = t := by have := (le0 (by omega)).mp h4; omega
    subst ht
    refine x_aload_n 22 hB d_M_remember_21 rfl rfl ?_
    refine x_iconst (v := nI 0) 23 hB d_M_remember_22 rfl (by decide) ?_
    refine x_iload_n 24 hB d_M_remember_23 rfl rfl ?_
    refine x_iast 25 hB 0 (ws' := [(r, .inl (E.2 1, 58, .inl (rmF h b)))]) rfl (by omega) (by decide) (x' := b) (rfl) (by rw [rmF_e]; rfl) d_M_remember_24 rfl ?_
    exact x_vret hB (w' := [(r, .inl (E.2 1, 58, .inl (rmF h b)))]) hA [0] rfl rfl (xRet_i) (by decide) (by decide) d_M_remember_25
  · skip
    have k4 : t < 57 := Nat.lt_of_not_le (fun hh => h4 ((le0 (by omega)).mpr (by omega)))
    refine x_aload_n 8 hB d_M_remember_7 rfl rfl ?_
    refine x_iload_n 9 hB d_M_remember_8 rfl rfl ?_
    refine x_aload_n 10 hB d_M_remember_9 rfl rfl ?_
    refine x_iload_n 11 hB d_M_remember_10 rfl rfl ?_
    refine x_iconst (v := nI 1) 12 hB d_M_remember_11 rfl (by decide) ?_
    refine x_isub 13 hB d_M_remember_12 rfl ?_
    refine x_top (v' := .int (nI (57 - t - 1))) (congrArg Value.int (pk_sub (by omega))) ?_
    refine x_iald 14 hB 0 rfl (by omega) (by decide) d_M_remember_13 rfl ?_
    refine x_top (v' := .int (h (57 - t - 1))) (congrArg Value.int (rmL_r k4)) ?_
    refine x_iast 15 hB 0 (ws' := [(r, .inl (E.2 1, 58, .inl (rmL h (t + 1))))]) rfl (by omega) (by decide) (x' := h (57 - t - 1)) (rfl) (by rw [rmL_s k4]; rfl) d_M_remember_14 rfl ?_
    refine x_iinc (v := nI (57 - (t + 1))) 18 hB d_M_remember_15 rfl 2 rfl (by rw [show 57 - t = (57 - (t + 1)) + 1 by omega]; exact pk_m1 _) (by decide) (lv' := [(2, .int (nI (57 - (t + 1)))), (0, .ref r), (1, .int (b))]) rfl ?_
    refine x_goto 3 hB d_M_remember_18 (by decide) ?_
    refine x_lv (lv' := [(0, .ref r), (1, .int (b)), (2, .int (nI (57 - (t + 1))))]) [1, 2, 0] rfl ?_
    exact IH3 (t + 1) k4 (by omega)
abbrev rm_M_code : Room := { frames := 1, cells := 0, slots := 0, locals := 22 }
set_option maxHeartbeats 4000000 in
set_option maxRecDepth 100000 in
theorem c_M_code (l : Launch) (E : xE) (hm ms mf mc my mb mz mp mo mm ml md me mg : Nat) (re : Int32) (wr : Nat) (sp rp fi : Bool) (gd : Nat) (la : Int32) (lst : Int64) (cd : Nat → Int32) (s : Nat) (hs : s < 512) (hS : isS s = true) (plus : Bool) : xC l E y_M_code (.code y_M_code prog_10_method_13_code 3 (some .int)) rm_M_code [.ref hm, .int (nI (s)), .int (bI plus)] [(hm, .inr (5, [.int (re), .ref ms, .ref mf, .ref mc, .ref my, .ref mb, .ref mz, .ref mp, .ref mo, .ref mm, .ref ml, .ref md, .int (nI (wr)), .int (bI sp), .int (bI rp), .int (bI fi), .int (nI (gd)), .ref me, .ref mg, .int (la), .int (nI 0), .long (lst), .int 0])), (mc, .inl (E.2 1, 1024, .inl (cd)))] (xRet (some (.int (cd (2 * s + (if plus then 1 else 0))))) [(hm, .inr (5, [.int (nI 0), .ref ms, .ref mf, .ref mc, .ref my, .ref mb, .ref mz, .ref mp, .ref mo, .ref mm, .ref ml, .ref md, .int (nI (wr)), .int (bI sp), .int (bI rp), .int (bI fi), .int (nI (gd)), .ref me, .ref mg, .int (la), .int (nI 0), .long (lst), .int 0])), (mc, .inl (E.2 1, 1024, .inl (cd)))]) := by
  refine x_of' (own := "LineCoderModel") (mn := "code") (lv := [(0, .ref hm), (1, .int (nI (s))), (2, .int (bI plus))]) (plainFor_of_name (by decide)) rfl rfl (Nat.le_of_ble_eq_true rfl) rfl ?_
  intro p_ e_ s_ m_ ar_ be_ me_ c_ A_ hA hB
  refine x_aload_n 1 hB d_M_code_0 rfl rfl ?_
  refine x_iload_n 2 hB d_M_code_1 rfl rfl ?_
  refine x_callP (k' := 0) (n' := 0) (rest := [.ref hm]) (st' := [.int (bI (isS s)), .ref hm]) 5 hB (x_pfS (av := [.int (nI (s))]) hB w_608 xHd_code w_7 w_606 w_607 nm_M_isSymbol rfl d_M_code_2) (c_M_isSymbol l E s hs) w_608 xHd_code w_7 [] rfl rfl ⟨by decide, by decide⟩ ⟨by decide, by decide⟩ rfl rfl (Nat.le_of_ble_eq_true rfl) d_M_code_2 rfl rfl ?_
  refine x_top (v' := .int (nI 1)) (congrArg Value.int (by rw [hS]; rfl)) ?_
  refine x_if_eq 12 8 hB d_M_code_5 (by decide) rfl (fun hc => absurd hc (by decide)) (fun _ => ?_)
  refine x_iconst (v := nI 0) 9 hB d_M_code_8 rfl (by decide) ?_
  refine x_goto 13 hB d_M_code_9 (by decide) ?_
  refine x_callD (k' := 0) (n' := 0) (rest := []) (wr := [(mc, .inl (E.2 1, 1024, .inl (cd)))]) (ws' := [(mc, .inl (E.2 1, 1024, .inl (cd))), (hm, .inr (5, [.int (nI 0), .ref ms, .ref mf, .ref mc, .ref my, .ref mb, .ref mz, .ref mp, .ref mo, .ref mm, .ref ml, .ref md, .int (nI (wr)), .int (bI sp), .int (bI rp), .int (bI fi), .int (nI (gd)), .ref me, .ref mg, .int (la), .int (nI 0), .long (lst), .int 0]))]) (st' := [.int (nI 0)]) 16 hB (x_pfV (av := [.int (nI 0)]) (q0 := 0) hB w_709 xHd_code w_706 w_708 s_M_refused rfl rfl nm_M_refused rfl d_M_code_13) (c_M_refused0 l E hm ms mf mc my mb mz mp mo mm ml md me mg (re) (wr) (sp) (rp) (fi) (gd) (la) (lst)) w_709 xHd_code w_7 [0] [1] rfl rfl rfl rfl (by decide) ⟨by decide, by decide⟩ ⟨by decide, by decide⟩ rfl rfl (Nat.le_of_ble_eq_true rfl) d_M_code_13 rfl rfl rfl ?_
  refine x_if_eq 21 19 hB d_M_code_16 (by decide) rfl (fun _ => ?_) (fun hc => absurd (by decide) hc)
  refine x_aload_n 22 hB d_M_code_21 rfl rfl ?_
  refine x_get 25 hB 1 fg_M_16_5 rfl rfl d_M_code_22 rfl ?_
  refine x_iconst (v := nI 2) 26 hB d_M_code_25 rfl (by decide) ?_
  refine x_iload_n 27 hB d_M_code_26 rfl rfl ?_
  refine x_imul 28 hB d_M_code_27 rfl ?_
  refine x_top (v' := .int (nI (2 * s))) (congrArg Value.int (pk_mul _ _)) ?_
  refine x_join 37 (fun _u : Unit => True) (fun _u : Unit => [(mc, .inl (E.2 1, 1024, .inl (cd))), (hm, .inr (5, [.int (nI 0), .ref ms, .ref mf, .ref mc, .ref my, .ref mb, .ref mz, .ref mp, .ref mo, .ref mm, .ref ml, .ref md, .int (nI (wr)), .int (bI sp), .int (bI rp), .int (bI fi), .int (nI (gd)), .ref me, .ref mg, .int (la), .int (nI 0), .long (lst), .int 0]))]) (fun _u : Unit => [(0, .ref hm), (1, .int (nI (s))), (2, .int (bI plus))]) (fun _u : Unit => [.int (nI (if plus then 1 else 0)), .int (nI (2 * s)), .ref mc]) (fun _u hJ37 => ?_) (fun J37 => ?_)
  · skip
    refine x_iadd 38 hB d_M_code_37 rfl ?_
    refine x_top (v' := .int (nI (2 * s + (if plus then 1 else 0)))) (congrArg Value.int (nI_add _ _)) ?_
    have hix : 2 * s + (if plus then 1 else 0) < 1024 := by split <;> omega
    refine x_iald 39 hB 0 rfl (by omega) (by decide) d_M_code_38 rfl ?_
    exact x_iret hB (w' := [(hm, .inr (5, [.int (nI 0), .ref ms, .ref mf, .ref mc, .ref my, .ref mb, .ref mz, .ref mp, .ref mo, .ref mm, .ref ml, .ref md, .int (nI (wr)), .int (bI sp), .int (bI rp), .int (bI fi), .int (nI (gd)), .ref me, .ref mg, .int (la), .int (nI 0), .long (lst), .int 0])), (mc, .inl (E.2 1, 1024, .inl (cd)))]) hA [1, 0] rfl rfl (xRet_i) (by decide) (by decide) d_M_code_39
  refine x_iload_n 29 hB d_M_code_28 rfl rfl ?_
  refine x_if_eq 36 32 hB d_M_code_29 (by decide) rfl (fun h29 => ?_) (fun h29 => ?_)
  · skip
    have k29 : plus = false := bI_0 h29
    refine x_iconst (v := nI 0) 37 hB d_M_code_36 rfl (by decide) ?_
    refine x_top (v' := .int (nI (if plus then 1 else 0))) (congrArg Value.int (by rw [k29]; rfl)) ?_
    exact J37 () trivial
  · skip
    have k29 : plus = true := bI_1 h29
    refine x_iconst (v := nI 1) 33 hB d_M_code_32 rfl (by decide) ?_
    refine x_top (v' := .int (nI (if plus then 1 else 0))) (congrArg Value.int (by rw [k29]; rfl)) ?_
    refine x_goto 37 hB d_M_code_33 (by decide) ?_
    exact J37 () trivial
abbrev rm_M_code_b : Room := { frames := 1, cells := 0, slots := 0, locals := 22 }
set_option maxHeartbeats 4000000 in
set_option maxRecDepth 100000 in
theorem c_M_code_b (l : Launch) (E : xE) (hm ms mf mc my mb mz mp mo mm ml md me mg : Nat) (re : Int32) (wr : Nat) (sp rp fi : Bool) (gd : Nat) (la : Int32) (lst : Int64) (s : Nat) (hs : s < 512) (hS : isS s = false) (z : Int32) : xC l E y_M_code (.code y_M_code prog_10_method_13_code 3 (some .int)) rm_M_code_b [.ref hm, .int (nI (s)), .int (z)] [(hm, .inr (5, [.int (re), .ref ms, .ref mf, .ref mc, .ref my, .ref mb, .ref mz, .ref mp, .ref mo, .ref mm, .ref ml, .ref md, .int (nI (wr)), .int (bI sp), .int (bI rp), .int (bI fi), .int (nI (gd)), .ref me, .ref mg, .int (la), .int (nI 0), .long (lst), .int 0]))] (xRet (some (.int (nI 0))) [(hm, .inr (5, [.int (nI 1), .ref ms, .ref mf, .ref mc, .ref my, .ref mb, .ref mz, .ref mp, .ref mo, .ref mm, .ref ml, .ref md, .int (nI (wr)), .int (bI sp), .int (bI rp), .int (bI fi), .int (nI (gd)), .ref me, .ref mg, .int (la), .int (nI 0), .long (lst), .int 0]))]) := by
  refine x_of' (own := "LineCoderModel") (mn := "code") (lv := [(0, .ref hm), (1, .int (nI (s))), (2, .int (z))]) (plainFor_of_name (by decide)) rfl rfl (Nat.le_of_ble_eq_true rfl) rfl ?_
  intro p_ e_ s_ m_ ar_ be_ me_ c_ A_ hA hB
  refine x_aload_n 1 hB d_M_code_0 rfl rfl ?_
  refine x_iload_n 2 hB d_M_code_1 rfl rfl ?_
  refine x_callP (k' := 0) (n' := 0) (rest := [.ref hm]) (st' := [.int (bI (isS s)), .ref hm]) 5 hB (x_pfS (av := [.int (nI (s))]) hB w_608 xHd_code w_7 w_606 w_607 nm_M_isSymbol rfl d_M_code_2) (c_M_isSymbol l E s hs) w_608 xHd_code w_7 [] rfl rfl ⟨by decide, by decide⟩ ⟨by decide, by decide⟩ rfl rfl (Nat.le_of_ble_eq_true rfl) d_M_code_2 rfl rfl ?_
  refine x_top (v' := .int (nI 0)) (congrArg Value.int (by rw [hS]; rfl)) ?_
  refine x_if_eq 12 8 hB d_M_code_5 (by decide) rfl (fun _ => ?_) (fun hc => absurd (by decide) hc)
  refine x_iconst (v := nI 1) 13 hB d_M_code_12 rfl (by decide) ?_
  refine x_callD (k' := 0) (n' := 0) (rest := []) (wr := []) (ws' := [(hm, .inr (5, [.int (nI 1), .ref ms, .ref mf, .ref mc, .ref my, .ref mb, .ref mz, .ref mp, .ref mo, .ref mm, .ref ml, .ref md, .int (nI (wr)), .int (bI sp), .int (bI rp), .int (bI fi), .int (nI (gd)), .ref me, .ref mg, .int (la), .int (nI 0), .long (lst), .int 0]))]) (st' := [.int (nI 1)]) 16 hB (x_pfV (av := [.int (nI 1)]) (q0 := 0) hB w_709 xHd_code w_706 w_708 s_M_refused rfl rfl nm_M_refused rfl d_M_code_13) (c_M_refused1 l E hm ms mf mc my mb mz mp mo mm ml md me mg (re) (wr) (sp) (rp) (fi) (gd) (la) (lst)) w_709 xHd_code w_7 [0] [] rfl rfl rfl rfl (by decide) ⟨by decide, by decide⟩ ⟨by decide, by decide⟩ rfl rfl (Nat.le_of_ble_eq_true rfl) d_M_code_13 rfl rfl rfl ?_
  refine x_if_eq 21 19 hB d_M_code_16 (by decide) rfl (fun hc => absurd hc (by decide)) (fun _ => ?_)
  refine x_iconst (v := nI 0) 20 hB d_M_code_19 rfl (by decide) ?_
  exact x_iret hB (w' := [(hm, .inr (5, [.int (nI 1), .ref ms, .ref mf, .ref mc, .ref my, .ref mb, .ref mz, .ref mp, .ref mo, .ref mm, .ref ml, .ref md, .int (nI (wr)), .int (bI sp), .int (bI rp), .int (bI fi), .int (nI (gd)), .ref me, .ref mg, .int (la), .int (nI 0), .long (lst), .int 0]))]) hA [0] rfl rfl (xRet_i) (by decide) (by decide) d_M_code_20
abbrev rm_M_code_o : Room := { frames := 1, cells := 0, slots := 0, locals := 22 }
set_option maxHeartbeats 4000000 in
set_option maxRecDepth 100000 in
theorem c_M_code_o (l : Launch) (E : xE) (hm ms mf mc my mb mz mp mo mm ml md me mg : Nat) (re : Int32) (wr : Nat) (sp rp fi : Bool) (gd : Nat) (la : Int32) (lst : Int64) (k z : Int32) (hk : k < 0 ∨ nI 512 ≤ k) : xC l E y_M_code (.code y_M_code prog_10_method_13_code 3 (some .int)) rm_M_code_o [.ref hm, .int (k), .int (z)] [(hm, .inr (5, [.int (re), .ref ms, .ref mf, .ref mc, .ref my, .ref mb, .ref mz, .ref mp, .ref mo, .ref mm, .ref ml, .ref md, .int (nI (wr)), .int (bI sp), .int (bI rp), .int (bI fi), .int (nI (gd)), .ref me, .ref mg, .int (la), .int (nI 0), .long (lst), .int 0]))] (xRet (some (.int (nI 0))) [(hm, .inr (5, [.int (nI 1), .ref ms, .ref mf, .ref mc, .ref my, .ref mb, .ref mz, .ref mp, .ref mo, .ref mm, .ref ml, .ref md, .int (nI (wr)), .int (bI sp), .int (bI rp), .int (bI fi), .int (nI (gd)), .ref me, .ref mg, .int (la), .int (nI 0), .long (lst), .int 0]))]) := by
  refine x_of' (own := "LineCoderModel") (mn := "code") (lv := [(0, .ref hm), (1, .int (k)), (2, .int (z))]) (plainFor_of_name (by decide)) rfl rfl (Nat.le_of_ble_eq_true rfl) rfl ?_
  intro p_ e_ s_ m_ ar_ be_ me_ c_ A_ hA hB
  refine x_aload_n 1 hB d_M_code_0 rfl rfl ?_
  refine x_iload_n 2 hB d_M_code_1 rfl rfl ?_
  refine x_callP (k' := 0) (n' := 0) (rest := [.ref hm]) (st' := [.int (nI 0), .ref hm]) 5 hB (x_pfS (av := [.int (k)]) hB w_608 xHd_code w_7 w_606 w_607 nm_M_isSymbol rfl d_M_code_2) (c_M_isSymbol_out l E k hk) w_608 xHd_code w_7 [] rfl rfl ⟨by decide, by decide⟩ ⟨by decide, by decide⟩ rfl rfl (Nat.le_of_ble_eq_true rfl) d_M_code_2 rfl rfl ?_
  refine x_if_eq 12 8 hB d_M_code_5 (by decide) rfl (fun _ => ?_) (fun hc => absurd (by decide) hc)
  refine x_iconst (v := nI 1) 13 hB d_M_code_12 rfl (by decide) ?_
  refine x_callD (k' := 0) (n' := 0) (rest := []) (wr := []) (ws' := [(hm, .inr (5, [.int (nI 1), .ref ms, .ref mf, .ref mc, .ref my, .ref mb, .ref mz, .ref mp, .ref mo, .ref mm, .ref ml, .ref md, .int (nI (wr)), .int (bI sp), .int (bI rp), .int (bI fi), .int (nI (gd)), .ref me, .ref mg, .int (la), .int (nI 0), .long (lst), .int 0]))]) (st' := [.int (nI 1)]) 16 hB (x_pfV (av := [.int (nI 1)]) (q0 := 0) hB w_709 xHd_code w_706 w_708 s_M_refused rfl rfl nm_M_refused rfl d_M_code_13) (c_M_refused1 l E hm ms mf mc my mb mz mp mo mm ml md me mg (re) (wr) (sp) (rp) (fi) (gd) (la) (lst)) w_709 xHd_code w_7 [0] [] rfl rfl rfl rfl (by decide) ⟨by decide, by decide⟩ ⟨by decide, by decide⟩ rfl rfl (Nat.le_of_ble_eq_true rfl) d_M_code_13 rfl rfl rfl ?_
  refine x_if_eq 21 19 hB d_M_code_16 (by decide) rfl (fun hc => absurd hc (by decide)) (fun _ => ?_)
  refine x_iconst (v := nI 0) 20 hB d_M_code_19 rfl (by decide) ?_
  exact x_iret hB (w' := [(hm, .inr (5, [.int (nI 1), .ref ms, .ref mf, .ref mc, .ref my, .ref mb, .ref mz, .ref mp, .ref mo, .ref mm, .ref ml, .ref md, .int (nI (wr)), .int (bI sp), .int (bI rp), .int (bI fi), .int (nI (gd)), .ref me, .ref mg, .int (la), .int (nI 0), .long (lst), .int 0]))]) hA [0] rfl rfl (xRet_i) (by decide) (by decide) d_M_code_20
abbrev rm_M_symbol : Room := { frames := 1, cells := 0, slots := 0, locals := 22 }
set_option maxHeartbeats 4000000 in
set_option maxRecDepth 100000 in
theorem c_M_symbol (l : Launch) (E : xE) (hm ms mf mc my mb mz mp mo mm ml md me mg : Nat) (re : Int32) (wr : Nat) (sp rp fi : Bool) (gd : Nat) (la : Int32) (lst : Int64) (sy : Nat → Int32) (t : Nat) (ht : t < 1024) : xC l E y_M_symbol (.code y_M_symbol prog_10_method_14_code 2 (some .int)) rm_M_symbol [.ref hm, .int (nI (t))] [(hm, .inr (5, [.int (re), .ref ms, .ref mf, .ref mc, .ref my, .ref mb, .ref mz, .ref mp, .ref mo, .ref mm, .ref ml, .ref md, .int (nI (wr)), .int (bI sp), .int (bI rp), .int (bI fi), .int (nI (gd)), .ref me, .ref mg, .int (la), .int (nI 0), .long (lst), .int 0])), (my, .inl (E.2 1, 1024, .inl (sy)))] (xRet (some (.int (sy (t)))) [(hm, .inr (5, [.int (nI 0), .ref ms, .ref mf, .ref mc, .ref my, .ref mb, .ref mz, .ref mp, .ref mo, .ref mm, .ref ml, .ref md, .int (nI (wr)), .int (bI sp), .int (bI rp), .int (bI fi), .int (nI (gd)), .ref me, .ref mg, .int (la), .int (nI 0), .long (lst), .int 0])), (my, .inl (E.2 1, 1024, .inl (sy)))]) := by
  refine x_of' (own := "LineCoderModel") (mn := "symbol") (lv := [(0, .ref hm), (1, .int (nI (t)))]) (plainFor_of_name (by decide)) rfl rfl (Nat.le_of_ble_eq_true rfl) rfl ?_
  intro p_ e_ s_ m_ ar_ be_ me_ c_ A_ hA hB
  refine x_aload_n 1 hB d_M_symbol_0 rfl rfl ?_
  refine x_iload_n 2 hB d_M_symbol_1 rfl rfl ?_
  refine x_iconst (v := nI 0) 3 hB d_M_symbol_2 rfl (by decide) ?_
  refine x_sipush (v := nI 1023) 6 hB d_M_symbol_3 rfl (by decide) ?_
  refine x_callP (k' := 0) (n' := 0) (rest := [.ref hm]) (st' := [.int (nI 1), .ref hm]) 9 hB (x_pfS (av := [.int (nI (t)), .int (nI 0), .int (nI 1023)]) hB w_716 xHd_code w_7 w_714 w_715 nm_M_isIn rfl d_M_symbol_6) (c_M_isIn_y l E (nI t) (nI 0) (nI 1023) (nI_nlt (by omega) (by omega)) (nI_nlt (by omega) (by omega))) w_716 xHd_code w_7 [] rfl rfl ⟨by decide, by decide⟩ ⟨by decide, by decide⟩ rfl rfl (Nat.le_of_ble_eq_true rfl) d_M_symbol_6 rfl rfl ?_
  refine x_if_eq 16 12 hB d_M_symbol_9 (by decide) rfl (fun hc => absurd hc (by decide)) (fun _ => ?_)
  refine x_iconst (v := nI 0) 13 hB d_M_symbol_12 rfl (by decide) ?_
  refine x_goto 17 hB d_M_symbol_13 (by decide) ?_
  refine x_callD (k' := 0) (n' := 0) (rest := []) (wr := [(my, .inl (E.2 1, 1024, .inl (sy)))]) (ws' := [(my, .inl (E.2 1, 1024, .inl (sy))), (hm, .inr (5, [.int (nI 0), .ref ms, .ref mf, .ref mc, .ref my, .ref mb, .ref mz, .ref mp, .ref mo, .ref mm, .ref ml, .ref md, .int (nI (wr)), .int (bI sp), .int (bI rp), .int (bI fi), .int (nI (gd)), .ref me, .ref mg, .int (la), .int (nI 0), .long (lst), .int 0]))]) (st' := [.int (nI 0)]) 20 hB (x_pfV (av := [.int (nI 0)]) (q0 := 0) hB w_709 xHd_code w_706 w_708 s_M_refused rfl rfl nm_M_refused rfl d_M_symbol_17) (c_M_refused0 l E hm ms mf mc my mb mz mp mo mm ml md me mg (re) (wr) (sp) (rp) (fi) (gd) (la) (lst)) w_709 xHd_code w_7 [0] [1] rfl rfl rfl rfl (by decide) ⟨by decide, by decide⟩ ⟨by decide, by decide⟩ rfl rfl (Nat.le_of_ble_eq_true rfl) d_M_symbol_17 rfl rfl rfl ?_
  refine x_if_eq 25 23 hB d_M_symbol_20 (by decide) rfl (fun _ => ?_) (fun hc => absurd (by decide) hc)
  refine x_aload_n 26 hB d_M_symbol_25 rfl rfl ?_
  refine x_get 29 hB 1 fg_M_19_5 rfl rfl d_M_symbol_26 rfl ?_
  refine x_iload_n 30 hB d_M_symbol_29 rfl rfl ?_
  refine x_iald 31 hB 0 rfl (by omega) (by decide) d_M_symbol_30 rfl ?_
  exact x_iret hB (w' := [(hm, .inr (5, [.int (nI 0), .ref ms, .ref mf, .ref mc, .ref my, .ref mb, .ref mz, .ref mp, .ref mo, .ref mm, .ref ml, .ref md, .int (nI (wr)), .int (bI sp), .int (bI rp), .int (bI fi), .int (nI (gd)), .ref me, .ref mg, .int (la), .int (nI 0), .long (lst), .int 0])), (my, .inl (E.2 1, 1024, .inl (sy)))]) hA [1, 0] rfl rfl (xRet_i) (by decide) (by decide) d_M_symbol_31
abbrev rm_M_symbol_b : Room := { frames := 1, cells := 0, slots := 0, locals := 22 }
set_option maxHeartbeats 4000000 in
set_option maxRecDepth 100000 in
theorem c_M_symbol_b (l : Launch) (E : xE) (hm ms mf mc my mb mz mp mo mm ml md me mg : Nat) (re : Int32) (wr : Nat) (sp rp fi : Bool) (gd : Nat) (la : Int32) (lst : Int64) (k : Int32) (hk : k < 0 ∨ nI 1023 < k) : xC l E y_M_symbol (.code y_M_symbol prog_10_method_14_code 2 (some .int)) rm_M_symbol_b [.ref hm, .int (k)] [(hm, .inr (5, [.int (re), .ref ms, .ref mf, .ref mc, .ref my, .ref mb, .ref mz, .ref mp, .ref mo, .ref mm, .ref ml, .ref md, .int (nI (wr)), .int (bI sp), .int (bI rp), .int (bI fi), .int (nI (gd)), .ref me, .ref mg, .int (la), .int (nI 0), .long (lst), .int 0]))] (xRet (some (.int (nI 0))) [(hm, .inr (5, [.int (nI 1), .ref ms, .ref mf, .ref mc, .ref my, .ref mb, .ref mz, .ref mp, .ref mo, .ref mm, .ref ml, .ref md, .int (nI (wr)), .int (bI sp), .int (bI rp), .int (bI fi), .int (nI (gd)), .ref me, .ref mg, .int (la), .int (nI 0), .long (lst), .int 0]))]) := by
  refine x_of' (own := "LineCoderModel") (mn := "symbol") (lv := [(0, .ref hm), (1, .int (k))]) (plainFor_of_name (by decide)) rfl rfl (Nat.le_of_ble_eq_true rfl) rfl ?_
  intro p_ e_ s_ m_ ar_ be_ me_ c_ A_ hA hB
  refine x_aload_n 1 hB d_M_symbol_0 rfl rfl ?_
  refine x_iload_n 2 hB d_M_symbol_1 rfl rfl ?_
  refine x_iconst (v := nI 0) 3 hB d_M_symbol_2 rfl (by decide) ?_
  refine x_sipush (v := nI 1023) 6 hB d_M_symbol_3 rfl (by decide) ?_
  refine x_callP (k' := 0) (n' := 0) (rest := [.ref hm]) (st' := [.int (nI 0), .ref hm]) 9 hB (x_pfS (av := [.int (k), .int (nI 0), .int (nI 1023)]) hB w_716 xHd_code w_7 w_714 w_715 nm_M_isIn rfl d_M_symbol_6) (c_M_isIn_n l E k (nI 0) (nI 1023) hk) w_716 xHd_code w_7 [] rfl rfl ⟨by decide, by decide⟩ ⟨by decide, by decide⟩ rfl rfl (Nat.le_of_ble_eq_true rfl) d_M_symbol_6 rfl rfl ?_
  refine x_if_eq 16 12 hB d_M_symbol_9 (by decide) rfl (fun _ => ?_) (fun hc => absurd (by decide) hc)
  refine x_iconst (v := nI 1) 17 hB d_M_symbol_16 rfl (by decide) ?_
  refine x_callD (k' := 0) (n' := 0) (rest := []) (wr := []) (ws' := [(hm, .inr (5, [.int (nI 1), .ref ms, .ref mf, .ref mc, .ref my, .ref mb, .ref mz, .ref mp, .ref mo, .ref mm, .ref ml, .ref md, .int (nI (wr)), .int (bI sp), .int (bI rp), .int (bI fi), .int (nI (gd)), .ref me, .ref mg, .int (la), .int (nI 0), .long (lst), .int 0]))]) (st' := [.int (nI 1)]) 20 hB (x_pfV (av := [.int (nI 1)]) (q0 := 0) hB w_709 xHd_code w_706 w_708 s_M_refused rfl rfl nm_M_refused rfl d_M_symbol_17) (c_M_refused1 l E hm ms mf mc my mb mz mp mo mm ml md me mg (re) (wr) (sp) (rp) (fi) (gd) (la) (lst)) w_709 xHd_code w_7 [0] [] rfl rfl rfl rfl (by decide) ⟨by decide, by decide⟩ ⟨by decide, by decide⟩ rfl rfl (Nat.le_of_ble_eq_true rfl) d_M_symbol_17 rfl rfl rfl ?_
  refine x_if_eq 25 23 hB d_M_symbol_20 (by decide) rfl (fun hc => absurd hc (by decide)) (fun _ => ?_)
  refine x_iconst (v := nI 0) 24 hB d_M_symbol_23 rfl (by decide) ?_
  exact x_iret hB (w' := [(hm, .inr (5, [.int (nI 1), .ref ms, .ref mf, .ref mc, .ref my, .ref mb, .ref mz, .ref mp, .ref mo, .ref mm, .ref ml, .ref md, .int (nI (wr)), .int (bI sp), .int (bI rp), .int (bI fi), .int (nI (gd)), .ref me, .ref mg, .int (la), .int (nI 0), .long (lst), .int 0]))]) hA [0] rfl rfl (xRet_i) (by decide) (by decide) d_M_symbol_24
abbrev rm_M_isPlus_s : Room := { frames := 0, cells := 0, slots := 0, locals := 0 }
set_option maxHeartbeats 4000000 in
set_option maxRecDepth 100000 in
theorem c_M_isPlus_s (l : Launch) (E : xE) (hm ms mf mc my mb mz mp mo mm ml md me mg : Nat) (re : Int32) (wr : Nat) (sp rp fi : Bool) (gd : Nat) (la : Int32) (lst : Int64) : xC l E y_M_isPlus (.code y_M_isPlus prog_10_method_34_code 2 (some .boolean)) rm_M_isPlus_s [.ref hm, .int (nI 1)] [(hm, .inr (5, [.int (re), .ref ms, .ref mf, .ref mc, .ref my, .ref mb, .ref mz, .ref mp, .ref mo, .ref mm, .ref ml, .ref md, .int (nI (wr)), .int (bI sp), .int (bI rp), .int (bI fi), .int (nI (gd)), .ref me, .ref mg, .int (la), .int (nI 0), .long (lst), .int 0]))] (xRet (some (.int (bI sp))) [(hm, .inr (5, [.int (nI 0), .ref ms, .ref mf, .ref mc, .ref my, .ref mb, .ref mz, .ref mp, .ref mo, .ref mm, .ref ml, .ref md, .int (nI (wr)), .int (bI sp), .int (bI rp), .int (bI fi), .int (nI (gd)), .ref me, .ref mg, .int (la), .int (nI 0), .long (lst), .int 0]))]) := by
  refine x_of' (own := "LineCoderModel") (mn := "isPlus") (lv := [(0, .ref hm), (1, .int (nI 1))]) (plainFor_of_name (by decide)) rfl rfl (Nat.le_of_ble_eq_true rfl) rfl ?_
  intro p_ e_ s_ m_ ar_ be_ me_ c_ A_ hA hB
  refine x_aload_n 1 hB d_M_isPlus_0 rfl rfl ?_
  refine x_iconst (v := nI 0) 2 hB d_M_isPlus_1 rfl (by decide) ?_
  refine x_put 5 hB 0 (ws' := [(hm, .inr (5, [.int (nI 0), .ref ms, .ref mf, .ref mc, .ref my, .ref mb, .ref mz, .ref mp, .ref mo, .ref mm, .ref ml, .ref md, .int (nI (wr)), .int (bI sp), .int (bI rp), .int (bI fi), .int (nI (gd)), .ref me, .ref mg, .int (la), .int (nI 0), .long (lst), .int 0]))]) fp_M_61_5 rfl (rfl) (rfl) (Nat.le_of_ble_eq_true rfl) rfl d_M_isPlus_2 rfl ?_
  refine x_iload_n 6 hB d_M_isPlus_5 rfl rfl ?_
  refine x_if_eq 16 9 hB d_M_isPlus_6 (by decide) rfl (fun hc => absurd hc (by decide)) (fun _ => ?_)
  refine x_aload_n 10 hB d_M_isPlus_9 rfl rfl ?_
  refine x_get 13 hB 0 fg_M_68_5 rfl rfl d_M_isPlus_10 rfl ?_
  refine x_goto 20 hB d_M_isPlus_13 (by decide) ?_
  exact x_zret hB (nrb _) (w' := [(hm, .inr (5, [.int (nI 0), .ref ms, .ref mf, .ref mc, .ref my, .ref mb, .ref mz, .ref mp, .ref mo, .ref mm, .ref ml, .ref md, .int (nI (wr)), .int (bI sp), .int (bI rp), .int (bI fi), .int (nI (gd)), .ref me, .ref mg, .int (la), .int (nI 0), .long (lst), .int 0]))]) hA [0] rfl rfl (xRet_i) (by decide) (by decide) d_M_isPlus_20
abbrev rm_M_isPlus_r : Room := { frames := 0, cells := 0, slots := 0, locals := 0 }
set_option maxHeartbeats 4000000 in
set_option maxRecDepth 100000 in
theorem c_M_isPlus_r (l : Launch) (E : xE) (hm ms mf mc my mb mz mp mo mm ml md me mg : Nat) (re : Int32) (wr : Nat) (sp rp fi : Bool) (gd : Nat) (la : Int32) (lst : Int64) : xC l E y_M_isPlus (.code y_M_isPlus prog_10_method_34_code 2 (some .boolean)) rm_M_isPlus_r [.ref hm, .int (nI 0)] [(hm, .inr (5, [.int (re), .ref ms, .ref mf, .ref mc, .ref my, .ref mb, .ref mz, .ref mp, .ref mo, .ref mm, .ref ml, .ref md, .int (nI (wr)), .int (bI sp), .int (bI rp), .int (bI fi), .int (nI (gd)), .ref me, .ref mg, .int (la), .int (nI 0), .long (lst), .int 0]))] (xRet (some (.int (bI rp))) [(hm, .inr (5, [.int (nI 0), .ref ms, .ref mf, .ref mc, .ref my, .ref mb, .ref mz, .ref mp, .ref mo, .ref mm, .ref ml, .ref md, .int (nI (wr)), .int (bI sp), .int (bI rp), .int (bI fi), .int (nI (gd)), .ref me, .ref mg, .int (la), .int (nI 0), .long (lst), .int 0]))]) := by
  refine x_of' (own := "LineCoderModel") (mn := "isPlus") (lv := [(0, .ref hm), (1, .int (nI 0))]) (plainFor_of_name (by decide)) rfl rfl (Nat.le_of_ble_eq_true rfl) rfl ?_
  intro p_ e_ s_ m_ ar_ be_ me_ c_ A_ hA hB
  refine x_aload_n 1 hB d_M_isPlus_0 rfl rfl ?_
  refine x_iconst (v := nI 0) 2 hB d_M_isPlus_1 rfl (by decide) ?_
  refine x_put 5 hB 0 (ws' := [(hm, .inr (5, [.int (nI 0), .ref ms, .ref mf, .ref mc, .ref my, .ref mb, .ref mz, .ref mp, .ref mo, .ref mm, .ref ml, .ref md, .int (nI (wr)), .int (bI sp), .int (bI rp), .int (bI fi), .int (nI (gd)), .ref me, .ref mg, .int (la), .int (nI 0), .long (lst), .int 0]))]) fp_M_61_5 rfl (rfl) (rfl) (Nat.le_of_ble_eq_true rfl) rfl d_M_isPlus_2 rfl ?_
  refine x_iload_n 6 hB d_M_isPlus_5 rfl rfl ?_
  refine x_if_eq 16 9 hB d_M_isPlus_6 (by decide) rfl (fun _ => ?_) (fun hc => absurd (by decide) hc)
  refine x_aload_n 17 hB d_M_isPlus_16 rfl rfl ?_
  refine x_get 20 hB 0 fg_M_72_5 rfl rfl d_M_isPlus_17 rfl ?_
  exact x_zret hB (nrb _) (w' := [(hm, .inr (5, [.int (nI 0), .ref ms, .ref mf, .ref mc, .ref my, .ref mb, .ref mz, .ref mp, .ref mo, .ref mm, .ref ml, .ref md, .int (nI (wr)), .int (bI sp), .int (bI rp), .int (bI fi), .int (nI (gd)), .ref me, .ref mg, .int (la), .int (nI 0), .long (lst), .int 0]))]) hA [0] rfl rfl (xRet_i) (by decide) (by decide) d_M_isPlus_20
abbrev rm_M_word : Room := { frames := 0, cells := 0, slots := 0, locals := 0 }
set_option maxHeartbeats 4000000 in
set_option maxRecDepth 100000 in
theorem c_M_word (l : Launch) (E : xE) (hm ms mf mc my mb mz mp mo mm ml md me mg : Nat) (re : Int32) (wr : Nat) (sp rp fi : Bool) (gd : Nat) (la : Int32) (lst : Int64) : xC l E y_M_word (.code y_M_word prog_10_method_25_code 1 (some .long)) rm_M_word [.ref hm] [(hm, .inr (5, [.int (re), .ref ms, .ref mf, .ref mc, .ref my, .ref mb, .ref mz, .ref mp, .ref mo, .ref mm, .ref ml, .ref md, .int (nI (wr)), .int (bI sp), .int (bI rp), .int (bI fi), .int (nI (gd)), .ref me, .ref mg, .int (la), .int (nI 0), .long (lst), .int 0]))] (xRet (some (.long (lst))) [(hm, .inr (5, [.int (nI 0), .ref ms, .ref mf, .ref mc, .ref my, .ref mb, .ref mz, .ref mp, .ref mo, .ref mm, .ref ml, .ref md, .int (nI (wr)), .int (bI sp), .int (bI rp), .int (bI fi), .int (nI (gd)), .ref me, .ref mg, .int (la), .int (nI 0), .long (lst), .int 0]))]) := by
  refine x_of' (own := "LineCoderModel") (mn := "word") (lv := [(0, .ref hm)]) (plainFor_of_name (by decide)) rfl rfl (Nat.le_of_ble_eq_true rfl) rfl ?_
  intro p_ e_ s_ m_ ar_ be_ me_ c_ A_ hA hB
  refine x_aload_n 1 hB d_M_word_0 rfl rfl ?_
  refine x_iconst (v := nI 0) 2 hB d_M_word_1 rfl (by decide) ?_
  refine x_put 5 hB 0 (ws' := [(hm, .inr (5, [.int (nI 0), .ref ms, .ref mf, .ref mc, .ref my, .ref mb, .ref mz, .ref mp, .ref mo, .ref mm, .ref ml, .ref md, .int (nI (wr)), .int (bI sp), .int (bI rp), .int (bI fi), .int (nI (gd)), .ref me, .ref mg, .int (la), .int (nI 0), .long (lst), .int 0]))]) fp_M_61_5 rfl (rfl) (rfl) (Nat.le_of_ble_eq_true rfl) rfl d_M_word_2 rfl ?_
  refine x_aload_n 6 hB d_M_word_5 rfl rfl ?_
  refine x_get 9 hB 0 fg_M_87_5 rfl rfl d_M_word_6 rfl ?_
  exact x_lret hB (w' := [(hm, .inr (5, [.int (nI 0), .ref ms, .ref mf, .ref mc, .ref my, .ref mb, .ref mz, .ref mp, .ref mo, .ref mm, .ref ml, .ref md, .int (nI (wr)), .int (bI sp), .int (bI rp), .int (bI fi), .int (nI (gd)), .ref me, .ref mg, .int (la), .int (nI 0), .long (lst), .int 0]))]) hA [0] rfl rfl (xRet_i) (by decide) (by decide) d_M_word_9
abbrev rm_M_bit0 : Room := { frames := 1, cells := 0, slots := 0, locals := 22 }
set_option maxHeartbeats 4000000 in
set_option maxRecDepth 100000 in
theorem c_M_bit0 (l : Launch) (E : xE) (hm ms mf mc my mb mz mp mo mm ml md me mg : Nat) (re : Int32) (wr : Nat) (sp rp fi : Bool) (gd : Nat) (la : Int32) (lst : Int64) (z0 z1 : Nat) (g : Nat → Int32) (j : Nat) (hj : j < z0) (hz : z0 ≤ 2640) : xC l E y_M_bit (.code y_M_bit prog_10_method_30_code 3 (some .int)) rm_M_bit0 [.ref hm, .int (nI 0), .int (nI (j))] [(hm, .inr (5, [.int (re), .ref ms, .ref mf, .ref mc, .ref my, .ref mb, .ref mz, .ref mp, .ref mo, .ref mm, .ref ml, .ref md, .int (nI (wr)), .int (bI sp), .int (bI rp), .int (bI fi), .int (nI (gd)), .ref me, .ref mg, .int (la), .int (nI 0), .long (lst), .int 0])), (mb, .inl (E.2 1, 5280, .inl (g))), (mz, .inl (E.2 1, 2, .inl (pr2 (nI (z0)) (nI (z1)))))] (xRet (some (.int ((g) (0 + j)))) [(hm, .inr (5, [.int (nI 0), .ref ms, .ref mf, .ref mc, .ref my, .ref mb, .ref mz, .ref mp, .ref mo, .ref mm, .ref ml, .ref md, .int (nI (wr)), .int (bI sp), .int (bI rp), .int (bI fi), .int (nI (gd)), .ref me, .ref mg, .int (la), .int (nI 0), .long (lst), .int 0])), (mb, .inl (E.2 1, 5280, .inl (g))), (mz, .inl (E.2 1, 2, .inl (pr2 (nI (z0)) (nI (z1)))))]) := by
  refine x_of' (own := "LineCoderModel") (mn := "bit") (lv := [(0, .ref hm), (1, .int (nI 0)), (2, .int (nI (j)))]) (plainFor_of_name (by decide)) rfl rfl (Nat.le_of_ble_eq_true rfl) rfl ?_
  intro p_ e_ s_ m_ ar_ be_ me_ c_ A_ hA hB
  refine x_aload_n 1 hB d_M_bit_0 rfl rfl ?_
  refine x_iload_n 2 hB d_M_bit_1 rfl rfl ?_
  refine x_callP (k' := 0) (n' := 0) (rest := [.ref hm]) (st' := [.int (nI 1), .ref hm]) 5 hB (x_pfS (av := [.int (nI 0)]) hB w_772 xHd_code w_7 w_770 w_771 nm_M_isStream rfl d_M_bit_2) (c_M_isStream_0 l E ) w_772 xHd_code w_7 [] rfl rfl ⟨by decide, by decide⟩ ⟨by decide, by decide⟩ rfl rfl (Nat.le_of_ble_eq_true rfl) d_M_bit_2 rfl rfl ?_
  refine x_if_eq 12 8 hB d_M_bit_5 (by decide) rfl (fun hc => absurd hc (by decide)) (fun _ => ?_)
  refine x_iconst (v := nI 0) 9 hB d_M_bit_8 rfl (by decide) ?_
  refine x_goto 13 hB d_M_bit_9 (by decide) ?_
  refine x_callD (k' := 0) (n' := 0) (rest := []) (wr := [(mb, .inl (E.2 1, 5280, .inl (g))), (mz, .inl (E.2 1, 2, .inl (pr2 (nI (z0)) (nI (z1)))))]) (ws' := [(mb, .inl (E.2 1, 5280, .inl (g))), (mz, .inl (E.2 1, 2, .inl (pr2 (nI (z0)) (nI (z1))))), (hm, .inr (5, [.int (nI 0), .ref ms, .ref mf, .ref mc, .ref my, .ref mb, .ref mz, .ref mp, .ref mo, .ref mm, .ref ml, .ref md, .int (nI (wr)), .int (bI sp), .int (bI rp), .int (bI fi), .int (nI (gd)), .ref me, .ref mg, .int (la), .int (nI 0), .long (lst), .int 0]))]) (st' := [.int (nI 0)]) 16 hB (x_pfV (av := [.int (nI 0)]) (q0 := 0) hB w_709 xHd_code w_706 w_708 s_M_refused rfl rfl nm_M_refused rfl d_M_bit_13) (c_M_refused0 l E hm ms mf mc my mb mz mp mo mm ml md me mg (re) (wr) (sp) (rp) (fi) (gd) (la) (lst)) w_709 xHd_code w_7 [0] [1, 2] rfl rfl rfl rfl (by decide) ⟨by decide, by decide⟩ ⟨by decide, by decide⟩ rfl rfl (Nat.le_of_ble_eq_true rfl) d_M_bit_13 rfl rfl rfl ?_
  refine x_if_eq 21 19 hB d_M_bit_16 (by decide) rfl (fun _ => ?_) (fun hc => absurd (by decide) hc)
  refine x_iload_n 22 hB d_M_bit_21 rfl rfl ?_
  refine x_iconst (v := nI 0) 23 hB d_M_bit_22 rfl (by decide) ?_
  refine x_aload_n 24 hB d_M_bit_23 rfl rfl ?_
  refine x_get 27 hB 2 fg_M_25_5 rfl rfl d_M_bit_24 rfl ?_
  refine x_iload_n 28 hB d_M_bit_27 rfl rfl ?_
  refine x_iald 29 hB 1 rfl (by omega) (by decide) d_M_bit_28 rfl ?_
  refine x_top (v' := .int (nI (z0))) (congrArg Value.int (rfl)) ?_
  refine x_iconst (v := nI 1) 30 hB d_M_bit_29 rfl (by decide) ?_
  refine x_isub 31 hB d_M_bit_30 rfl ?_
  refine x_top (v' := .int (nI (z0 - 1))) (congrArg Value.int (pk_sub (by omega))) ?_
  refine x_callP (k' := 0) (n' := 0) (rest := []) (st' := [.int (nI 1)]) 34 hB (x_pfS (av := [.int (nI (j)), .int (nI 0), .int (nI (z0 - 1))]) hB w_716 xHd_code w_7 w_714 w_715 nm_M_isIn rfl d_M_bit_31) (c_M_isIn_y l E (nI j) (nI 0) (nI (z0 - 1)) (nI_nlt (by omega) (by omega)) (nI_nlt (by omega) (by omega))) w_716 xHd_code w_7 [] rfl rfl ⟨by decide, by decide⟩ ⟨by decide, by decide⟩ rfl rfl (Nat.le_of_ble_eq_true rfl) d_M_bit_31 rfl rfl ?_
  refine x_if_eq 52 37 hB d_M_bit_34 (by decide) rfl (fun hc => absurd hc (by decide)) (fun _ => ?_)
  refine x_aload_n 38 hB d_M_bit_37 rfl rfl ?_
  refine x_get 41 hB 2 fg_M_22_5 rfl rfl d_M_bit_38 rfl ?_
  refine x_sipush (v := nI 2640) 44 hB d_M_bit_41 rfl (by decide) ?_
  refine x_iload_n 45 hB d_M_bit_44 rfl rfl ?_
  refine x_imul 46 hB d_M_bit_45 rfl ?_
  refine x_top (v' := .int (nI 0)) (congrArg Value.int (by decide)) ?_
  refine x_iload_n 47 hB d_M_bit_46 rfl rfl ?_
  refine x_iadd 48 hB d_M_bit_47 rfl ?_
  refine x_top (v' := .int (nI (0 + j))) (congrArg Value.int (nI_add _ _)) ?_
  refine x_iald 49 hB 0 rfl (by omega) (by decide) d_M_bit_48 rfl ?_
  refine x_goto 53 hB d_M_bit_49 (by decide) ?_
  exact x_iret hB (w' := [(hm, .inr (5, [.int (nI 0), .ref ms, .ref mf, .ref mc, .ref my, .ref mb, .ref mz, .ref mp, .ref mo, .ref mm, .ref ml, .ref md, .int (nI (wr)), .int (bI sp), .int (bI rp), .int (bI fi), .int (nI (gd)), .ref me, .ref mg, .int (la), .int (nI 0), .long (lst), .int 0])), (mb, .inl (E.2 1, 5280, .inl (g))), (mz, .inl (E.2 1, 2, .inl (pr2 (nI (z0)) (nI (z1)))))]) hA [2, 0, 1] rfl rfl (xRet_i) (by decide) (by decide) d_M_bit_53
abbrev rm_M_bit0_o : Room := { frames := 1, cells := 0, slots := 0, locals := 22 }
set_option maxHeartbeats 4000000 in
set_option maxRecDepth 100000 in
theorem c_M_bit0_o (l : Launch) (E : xE) (hm ms mf mc my mb mz mp mo mm ml md me mg : Nat) (re : Int32) (wr : Nat) (sp rp fi : Bool) (gd : Nat) (la : Int32) (lst : Int64) (z0 z1 : Nat) (g : Nat → Int32) (k : Int32) (hk : k < 0 ∨ nI z0 - nI 1 < k) : xC l E y_M_bit (.code y_M_bit prog_10_method_30_code 3 (some .int)) rm_M_bit0_o [.ref hm, .int (nI 0), .int (k)] [(hm, .inr (5, [.int (re), .ref ms, .ref mf, .ref mc, .ref my, .ref mb, .ref mz, .ref mp, .ref mo, .ref mm, .ref ml, .ref md, .int (nI (wr)), .int (bI sp), .int (bI rp), .int (bI fi), .int (nI (gd)), .ref me, .ref mg, .int (la), .int (nI 0), .long (lst), .int 0])), (mb, .inl (E.2 1, 5280, .inl (g))), (mz, .inl (E.2 1, 2, .inl (pr2 (nI (z0)) (nI (z1)))))] (xRet (some (.int (-1))) [(hm, .inr (5, [.int (nI 0), .ref ms, .ref mf, .ref mc, .ref my, .ref mb, .ref mz, .ref mp, .ref mo, .ref mm, .ref ml, .ref md, .int (nI (wr)), .int (bI sp), .int (bI rp), .int (bI fi), .int (nI (gd)), .ref me, .ref mg, .int (la), .int (nI 0), .long (lst), .int 0])), (mb, .inl (E.2 1, 5280, .inl (g))), (mz, .inl (E.2 1, 2, .inl (pr2 (nI (z0)) (nI (z1)))))]) := by
  refine x_of' (own := "LineCoderModel") (mn := "bit") (lv := [(0, .ref hm), (1, .int (nI 0)), (2, .int (k))]) (plainFor_of_name (by decide)) rfl rfl (Nat.le_of_ble_eq_true rfl) rfl ?_
  intro p_ e_ s_ m_ ar_ be_ me_ c_ A_ hA hB
  refine x_aload_n 1 hB d_M_bit_0 rfl rfl ?_
  refine x_iload_n 2 hB d_M_bit_1 rfl rfl ?_
  refine x_callP (k' := 0) (n' := 0) (rest := [.ref hm]) (st' := [.int (nI 1), .ref hm]) 5 hB (x_pfS (av := [.int (nI 0)]) hB w_772 xHd_code w_7 w_770 w_771 nm_M_isStream rfl d_M_bit_2) (c_M_isStream_0 l E ) w_772 xHd_code w_7 [] rfl rfl ⟨by decide, by decide⟩ ⟨by decide, by decide⟩ rfl rfl (Nat.le_of_ble_eq_true rfl) d_M_bit_2 rfl rfl ?_
  refine x_if_eq 12 8 hB d_M_bit_5 (by decide) rfl (fun hc => absurd hc (by decide)) (fun _ => ?_)
  refine x_iconst (v := nI 0) 9 hB d_M_bit_8 rfl (by decide) ?_
  refine x_goto 13 hB d_M_bit_9 (by decide) ?_
  refine x_callD (k' := 0) (n' := 0) (rest := []) (wr := [(mb, .inl (E.2 1, 5280, .inl (g))), (mz, .inl (E.2 1, 2, .inl (pr2 (nI (z0)) (nI (z1)))))]) (ws' := [(mb, .inl (E.2 1, 5280, .inl (g))), (mz, .inl (E.2 1, 2, .inl (pr2 (nI (z0)) (nI (z1))))), (hm, .inr (5, [.int (nI 0), .ref ms, .ref mf, .ref mc, .ref my, .ref mb, .ref mz, .ref mp, .ref mo, .ref mm, .ref ml, .ref md, .int (nI (wr)), .int (bI sp), .int (bI rp), .int (bI fi), .int (nI (gd)), .ref me, .ref mg, .int (la), .int (nI 0), .long (lst), .int 0]))]) (st' := [.int (nI 0)]) 16 hB (x_pfV (av := [.int (nI 0)]) (q0 := 0) hB w_709 xHd_code w_706 w_708 s_M_refused rfl rfl nm_M_refused rfl d_M_bit_13) (c_M_refused0 l E hm ms mf mc my mb mz mp mo mm ml md me mg (re) (wr) (sp) (rp) (fi) (gd) (la) (lst)) w_709 xHd_code w_7 [0] [1, 2] rfl rfl rfl rfl (by decide) ⟨by decide, by decide⟩ ⟨by decide, by decide⟩ rfl rfl (Nat.le_of_ble_eq_true rfl) d_M_bit_13 rfl rfl rfl ?_
  refine x_if_eq 21 19 hB d_M_bit_16 (by decide) rfl (fun _ => ?_) (fun hc => absurd (by decide) hc)
  refine x_iload_n 22 hB d_M_bit_21 rfl rfl ?_
  refine x_iconst (v := nI 0) 23 hB d_M_bit_22 rfl (by decide) ?_
  refine x_aload_n 24 hB d_M_bit_23 rfl rfl ?_
  refine x_get 27 hB 2 fg_M_25_5 rfl rfl d_M_bit_24 rfl ?_
  refine x_iload_n 28 hB d_M_bit_27 rfl rfl ?_
  refine x_iald 29 hB 1 rfl (by omega) (by decide) d_M_bit_28 rfl ?_
  refine x_top (v' := .int (nI (z0))) (congrArg Value.int (rfl)) ?_
  refine x_iconst (v := nI 1) 30 hB d_M_bit_29 rfl (by decide) ?_
  refine x_isub 31 hB d_M_bit_30 rfl ?_
  refine x_callP (k' := 0) (n' := 0) (rest := []) (st' := [.int (nI 0)]) 34 hB (x_pfS (av := [.int (k), .int (nI 0), .int ((nI (z0)) - (nI 1))]) hB w_716 xHd_code w_7 w_714 w_715 nm_M_isIn rfl d_M_bit_31) (c_M_isIn_n l E k (nI 0) (nI z0 - nI 1) hk) w_716 xHd_code w_7 [] rfl rfl ⟨by decide, by decide⟩ ⟨by decide, by decide⟩ rfl rfl (Nat.le_of_ble_eq_true rfl) d_M_bit_31 rfl rfl ?_
  refine x_if_eq 52 37 hB d_M_bit_34 (by decide) rfl (fun _ => ?_) (fun hc => absurd (by decide) hc)
  refine x_iconst (v := (-1 : Int32)) 53 hB d_M_bit_52 rfl (by decide) ?_
  exact x_iret hB (w' := [(hm, .inr (5, [.int (nI 0), .ref ms, .ref mf, .ref mc, .ref my, .ref mb, .ref mz, .ref mp, .ref mo, .ref mm, .ref ml, .ref md, .int (nI (wr)), .int (bI sp), .int (bI rp), .int (bI fi), .int (nI (gd)), .ref me, .ref mg, .int (la), .int (nI 0), .long (lst), .int 0])), (mb, .inl (E.2 1, 5280, .inl (g))), (mz, .inl (E.2 1, 2, .inl (pr2 (nI (z0)) (nI (z1)))))]) hA [2, 0, 1] rfl rfl (xRet_i) (by decide) (by decide) d_M_bit_53
abbrev rm_M_balance0 : Room := { frames := 0, cells := 0, slots := 0, locals := 0 }
set_option maxHeartbeats 4000000 in
set_option maxRecDepth 100000 in
theorem c_M_balance0 (l : Launch) (E : xE) (hm ms mf mc my mb mz mp mo mm ml md me mg : Nat) (re : Int32) (wr : Nat) (sp rp fi : Bool) (gd : Nat) (la : Int32) (lst : Int64) (z0 z1 : Nat) (g : Nat → Int32) (hz : z0 ≤ 2640) : xCp l E y_M_balance (.code y_M_balance prog_10_method_31_code 4 (some .int)) rm_M_balance0 [.ref hm, .int (nI 0)] [(hm, .inr (5, [.int (re), .ref ms, .ref mf, .ref mc, .ref my, .ref mb, .ref mz, .ref mp, .ref mo, .ref mm, .ref ml, .ref md, .int (nI (wr)), .int (bI sp), .int (bI rp), .int (bI fi), .int (nI (gd)), .ref me, .ref mg, .int (la), .int (nI 0), .long (lst), .int 0])), (mb, .inl (E.2 1, 5280, .inl (g))), (mz, .inl (E.2 1, 2, .inl (pr2 (nI (z0)) (nI (z1)))))] (.inl (some (.int (blG g 0 z0)))) := by
  refine x_ofP (own := "LineCoderModel") (mn := "balance") (lv := [(0, .ref hm), (1, .int (nI 0))]) (plainFor_of_name (by decide)) rfl rfl (Nat.le_of_ble_eq_true rfl) rfl ?_
  intro p_ e_ s_ m_ ar_ be_ me_ c_ hB
  refine x_iconst (v := nI 0) 1 hB d_M_balance_0 rfl (by decide) ?_
  refine x_istore_n 2 hB d_M_balance_1 rfl (by decide) (lv' := [(2, .int (nI 0)), (0, .ref hm), (1, .int (nI 0))]) rfl ?_
  refine x_iconst (v := nI 0) 3 hB d_M_balance_2 rfl (by decide) ?_
  refine x_istore_n 4 hB d_M_balance_3 rfl (by decide) (lv' := [(3, .int (nI 0)), (2, .int (nI 0)), (0, .ref hm), (1, .int (nI 0))]) rfl ?_
  refine x_lv (lv' := [(0, .ref hm), (1, .int (nI 0)), (2, .int (nI 0)), (3, .int (nI 0))]) [2, 3, 1, 0] rfl ?_
  refine x_loop (fun i : Nat => i ≤ z0) (fun i : Nat => z0 - i) (fun i : Nat => [(hm, .inr (5, [.int (re), .ref ms, .ref mf, .ref mc, .ref my, .ref mb, .ref mz, .ref mp, .ref mo, .ref mm, .ref ml, .ref md, .int (nI (wr)), .int (bI sp), .int (bI rp), .int (bI fi), .int (nI (gd)), .ref me, .ref mg, .int (la), .int (nI 0), .long (lst), .int 0])), (mb, .inl (E.2 1, 5280, .inl (g))), (mz, .inl (E.2 1, 2, .inl (pr2 (nI (z0)) (nI (z1)))))]) (fun i : Nat => [(0, .ref hm), (1, .int (nI 0)), (2, .int (blG g 0 i)), (3, .int (nI (i)))]) (fun i : Nat => []) 0 (Nat.zero_le _) rfl rfl rfl (fun i hI4 IH4 => ?_)
  refine x_iload_n 5 hB d_M_balance_4 rfl rfl ?_
  refine x_aload_n 6 hB d_M_balance_5 rfl rfl ?_
  refine x_get 9 hB 0 fg_M_25_5 rfl rfl d_M_balance_6 rfl ?_
  refine x_iload_n 10 hB d_M_balance_9 rfl rfl ?_
  refine x_iald 11 hB 2 rfl (by omega) (by decide) d_M_balance_10 rfl ?_
  refine x_top (v' := .int (nI (z0))) (congrArg Value.int (rfl)) ?_
  refine x_icmp_ge 39 14 hB d_M_balance_11 (by decide) rfl (fun h11 => ?_) (fun h11 => ?_)
  · skip
    have hi : z0 = i := by have := (nI_leI (by omega) (by omega)).mp h11; omega
    subst hi
    refine x_iload_n 40 hB d_M_balance_39 rfl rfl ?_
    exact x_iretP hB (rfl) (by decide) (by decide) d_M_balance_40
  · skip
    have hi : i < z0 := Nat.lt_of_not_le (fun h => h11 (nI_le h (by omega)))
    refine x_iload_n 15 hB d_M_balance_14 rfl rfl ?_
    refine x_iconst (v := nI 2) 16 hB d_M_balance_15 rfl (by decide) ?_
    refine x_aload_n 17 hB d_M_balance_16 rfl rfl ?_
    refine x_get 20 hB 0 fg_M_22_5 rfl rfl d_M_balance_17 rfl ?_
    refine x_sipush (v := nI 2640) 23 hB d_M_balance_20 rfl (by decide) ?_
    refine x_iload_n 24 hB d_M_balance_23 rfl rfl ?_
    refine x_imul 25 hB d_M_balance_24 rfl ?_
    refine x_top (v' := .int (nI 0)) (congrArg Value.int (by decide)) ?_
    refine x_iload_n 26 hB d_M_balance_25 rfl rfl ?_
    refine x_iadd 27 hB d_M_balance_26 rfl ?_
    refine x_top (v' := .int (nI (0 + i))) (congrArg Value.int (nI_add _ _)) ?_
    refine x_iald 28 hB 1 rfl (by omega) (by decide) d_M_balance_27 rfl ?_
    refine x_imul 29 hB d_M_balance_28 rfl ?_
    refine x_iadd 30 hB d_M_balance_29 rfl ?_
    refine x_iconst (v := nI 1) 31 hB d_M_balance_30 rfl (by decide) ?_
    refine x_isub 32 hB d_M_balance_31 rfl ?_
    refine x_top (v' := .int (blG g 0 (i + 1))) (congrArg Value.int (rfl)) ?_
    refine x_istore_n 33 hB d_M_balance_32 rfl (by decide) (lv' := [(2, .int (blG g 0 (i + 1))), (0, .ref hm), (1, .int (nI 0)), (3, .int (nI (i)))]) rfl ?_
    refine x_iinc (v := nI (i + 1)) 36 hB d_M_balance_33 rfl 3 rfl ((nI_succ i).symm) (by decide) (lv' := [(3, .int (nI (i + 1))), (2, .int (blG g 0 (i + 1))), (0, .ref hm), (1, .int (nI 0))]) rfl ?_
    refine x_goto 4 hB d_M_balance_36 (by decide) ?_
    refine x_lv (lv' := [(0, .ref hm), (1, .int (nI 0)), (2, .int (blG g 0 (i + 1))), (3, .int (nI (i + 1)))]) [2, 3, 1, 0] rfl ?_
    exact IH4 (i + 1) hi (by omega)
abbrev rm_M_longest0 : Room := { frames := 0, cells := 0, slots := 0, locals := 0 }
set_option maxHeartbeats 4000000 in
set_option maxRecDepth 100000 in
theorem c_M_longest0 (l : Launch) (E : xE) (hm ms mf mc my mb mz mp mo mm ml md me mg : Nat) (re : Int32) (wr : Nat) (sp rp fi : Bool) (gd : Nat) (la : Int32) (lst : Int64) (z0 z1 : Nat) (g : Nat → Int32) (hz : z0 ≤ 2640) : xCp l E y_M_longest (.code y_M_longest prog_10_method_32_code 6 (some .int)) rm_M_longest0 [.ref hm, .int (nI 0)] [(hm, .inr (5, [.int (re), .ref ms, .ref mf, .ref mc, .ref my, .ref mb, .ref mz, .ref mp, .ref mo, .ref mm, .ref ml, .ref md, .int (nI (wr)), .int (bI sp), .int (bI rp), .int (bI fi), .int (nI (gd)), .ref me, .ref mg, .int (la), .int (nI 0), .long (lst), .int 0])), (mb, .inl (E.2 1, 5280, .inl (g))), (mz, .inl (E.2 1, 2, .inl (pr2 (nI (z0)) (nI (z1)))))] (.inl (some (.int (nI ((lgG g 0 z0).2))))) := by
  refine x_ofP (own := "LineCoderModel") (mn := "longest") (lv := [(0, .ref hm), (1, .int (nI 0))]) (plainFor_of_name (by decide)) rfl rfl (Nat.le_of_ble_eq_true rfl) rfl ?_
  intro p_ e_ s_ m_ ar_ be_ me_ c_ hB
  refine x_iconst (v := nI 0) 1 hB d_M_longest_0 rfl (by decide) ?_
  refine x_istore_n 2 hB d_M_longest_1 rfl (by decide) (lv' := [(2, .int (nI 0)), (0, .ref hm), (1, .int (nI 0))]) rfl ?_
  refine x_iconst (v := nI 0) 3 hB d_M_longest_2 rfl (by decide) ?_
  refine x_istore_n 4 hB d_M_longest_3 rfl (by decide) (lv' := [(3, .int (nI 0)), (2, .int (nI 0)), (0, .ref hm), (1, .int (nI 0))]) rfl ?_
  refine x_iconst (v := nI 0) 5 hB d_M_longest_4 rfl (by decide) ?_
  refine x_istore 7 hB d_M_longest_5 rfl (by decide) (lv' := [(4, .int (nI 0)), (3, .int (nI 0)), (2, .int (nI 0)), (0, .ref hm), (1, .int (nI 0))]) rfl ?_
  refine x_lv (lv' := [(0, .ref hm), (1, .int (nI 0)), (2, .int (nI 0)), (3, .int (nI 0)), (4, .int (nI 0))]) [3, 4, 2, 1, 0] rfl ?_
  refine x_loop (fun i : Nat => i ≤ z0) (fun i : Nat => z0 - i) (fun i : Nat => [(hm, .inr (5, [.int (re), .ref ms, .ref mf, .ref mc, .ref my, .ref mb, .ref mz, .ref mp, .ref mo, .ref mm, .ref ml, .ref md, .int (nI (wr)), .int (bI sp), .int (bI rp), .int (bI fi), .int (nI (gd)), .ref me, .ref mg, .int (la), .int (nI 0), .long (lst), .int 0])), (mb, .inl (E.2 1, 5280, .inl (g))), (mz, .inl (E.2 1, 2, .inl (pr2 (nI (z0)) (nI (z1)))))]) (fun i : Nat => [(0, .ref hm), (1, .int (nI 0)), (2, .int (nI ((lgG g 0 i).2))), (3, .int (nI ((lgG g 0 i).1))), (4, .int (nI (i)))]) (fun i : Nat => []) 0 (Nat.zero_le _) rfl rfl rfl (fun i hI7 IH7 => ?_)
  have hle := lgG_le g 0 i
  have hle1 := lgG_le g 0 (i + 1)
  refine x_iload 9 hB d_M_longest_7 rfl rfl ?_
  refine x_aload_n 10 hB d_M_longest_9 rfl rfl ?_
  refine x_get 13 hB 0 fg_M_25_5 rfl rfl d_M_longest_10 rfl ?_
  refine x_iload_n 14 hB d_M_longest_13 rfl rfl ?_
  refine x_iald 15 hB 2 rfl (by omega) (by decide) d_M_longest_14 rfl ?_
  refine x_top (v' := .int (nI (z0))) (congrArg Value.int (rfl)) ?_
  refine x_icmp_ge 91 18 hB d_M_longest_15 (by decide) rfl (fun h15 => ?_) (fun h15 => ?_)
  · skip
    have hi : z0 = i := by have := (nI_leI (by omega) (by omega)).mp h15; omega
    subst hi
    refine x_iload_n 92 hB d_M_longest_91 rfl rfl ?_
    exact x_iretP hB (rfl) (by decide) (by decide) d_M_longest_92
  · skip
    have hi : i < z0 := Nat.lt_of_not_le (fun h => h15 (nI_le h (by omega)))
    refine x_join 59 (fun _u : Unit => True) (fun _u : Unit => [(hm, .inr (5, [.int (re), .ref ms, .ref mf, .ref mc, .ref my, .ref mb, .ref mz, .ref mp, .ref mo, .ref mm, .ref ml, .ref md, .int (nI (wr)), .int (bI sp), .int (bI rp), .int (bI fi), .int (nI (gd)), .ref me, .ref mg, .int (la), .int (nI 0), .long (lst), .int 0])), (mb, .inl (E.2 1, 5280, .inl (g))), (mz, .inl (E.2 1, 2, .inl (pr2 (nI (z0)) (nI (z1)))))]) (fun _u : Unit => [(0, .ref hm), (1, .int (nI 0)), (2, .int (nI ((lgG g 0 i).2))), (3, .int (nI ((lgG g 0 i).1))), (4, .int (nI (i)))]) (fun _u : Unit => [.int (bI (decide (0 < i ∧ g (0 + i) = g (0 + i - 1))))]) (fun _u hJ59 => ?_) (fun J59 => ?_)
    · skip
      refine x_istore 61 hB d_M_longest_59 rfl (by decide) (lv' := [(5, .int (bI (decide (0 < i ∧ g (0 + i) = g (0 + i - 1))))), (0, .ref hm), (1, .int (nI 0)), (2, .int (nI ((lgG g 0 i).2))), (3, .int (nI ((lgG g 0 i).1))), (4, .int (nI (i)))]) rfl ?_
      refine x_join 73 (fun _u : Unit => True) (fun _u : Unit => [(hm, .inr (5, [.int (re), .ref ms, .ref mf, .ref mc, .ref my, .ref mb, .ref mz, .ref mp, .ref mo, .ref mm, .ref ml, .ref md, .int (nI (wr)), .int (bI sp), .int (bI rp), .int (bI fi), .int (nI (gd)), .ref me, .ref mg, .int (la), .int (nI 0), .long (lst), .int 0])), (mb, .inl (E.2 1, 5280, .inl (g))), (mz, .inl (E.2 1, 2, .inl (pr2 (nI (z0)) (nI (z1)))))]) (fun _u : Unit => [(0, .ref hm), (1, .int (nI 0)), (2, .int (nI ((lgG g 0 i).2))), (3, .int (nI ((lgG g 0 i).1))), (4, .int (nI (i))), (5, .int (bI (decide (0 < i ∧ g (0 + i) = g (0 + i - 1)))))]) (fun _u : Unit => [.int (nI ((lgG g 0 (i + 1)).1))]) (fun _u hJ73 => ?_) (fun J73 => ?_)
      · skip
        refine x_istore_n 74 hB d_M_longest_73 rfl (by decide) (lv' := [(3, .int (nI ((lgG g 0 (i + 1)).1))), (0, .ref hm), (1, .int (nI 0)), (2, .int (nI ((lgG g 0 i).2))), (4, .int (nI (i))), (5, .int (bI (decide (0 < i ∧ g (0 + i) = g (0 + i - 1)))))]) rfl ?_
        refine x_join 84 (fun _u : Unit => True) (fun _u : Unit => [(hm, .inr (5, [.int (re), .ref ms, .ref mf, .ref mc, .ref my, .ref mb, .ref mz, .ref mp, .ref mo, .ref mm, .ref ml, .ref md, .int (nI (wr)), .int (bI sp), .int (bI rp), .int (bI fi), .int (nI (gd)), .ref me, .ref mg, .int (la), .int (nI 0), .long (lst), .int 0])), (mb, .inl (E.2 1, 5280, .inl (g))), (mz, .inl (E.2 1, 2, .inl (pr2 (nI (z0)) (nI (z1)))))]) (fun _u : Unit => [(0, .ref hm), (1, .int (nI 0)), (2, .int (nI ((lgG g 0 i).2))), (3, .int (nI ((lgG g 0 (i + 1)).1))), (4, .int (nI (i))), (5, .int (bI (decide (0 < i ∧ g (0 + i) = g (0 + i - 1)))))]) (fun _u : Unit => [.int (nI ((lgG g 0 (i + 1)).2))]) (fun _u hJ84 => ?_) (fun J84 => ?_)
        · skip
          refine x_istore_n 85 hB d_M_longest_84 rfl (by decide) (lv' := [(2, .int (nI ((lgG g 0 (i + 1)).2))), (0, .ref hm), (1, .int (nI 0)), (3, .int (nI ((lgG g 0 (i + 1)).1))), (4, .int (nI (i))), (5, .int (bI (decide (0 < i ∧ g (0 + i) = g (0 + i - 1)))))]) rfl ?_
          refine x_iinc (v := nI (i + 1)) 88 hB d_M_longest_85 rfl 4 rfl ((nI_succ i).symm) (by decide) (lv' := [(4, .int (nI (i + 1))), (2, .int (nI ((lgG g 0 (i + 1)).2))), (0, .ref hm), (1, .int (nI 0)), (3, .int (nI ((lgG g 0 (i + 1)).1))), (5, .int (bI (decide (0 < i ∧ g (0 + i) = g (0 + i - 1)))))]) rfl ?_
          refine x_goto 7 hB d_M_longest_88 (by decide) ?_
          refine x_lv (lv' := [(0, .ref hm), (1, .int (nI 0)), (2, .int (nI ((lgG g 0 (i + 1)).2))), (3, .int (nI ((lgG g 0 (i + 1)).1))), (4, .int (nI (i + 1)))]) [2, 3, 1, 4, 0] rfl ?_
          exact IH7 (i + 1) hi (by omega)
        refine x_iload_n 75 hB d_M_longest_74 rfl rfl ?_
        refine x_iload_n 76 hB d_M_longest_75 rfl rfl ?_
        refine x_icmp_le 83 79 hB d_M_longest_76 (by decide) rfl (fun h76 => ?_) (fun h76 => ?_)
        · skip
          have k76 : (lgG g 0 (i + 1)).1 ≤ (lgG g 0 i).2 := (nI_leI (by omega) (by omega)).mp h76
          refine x_iload_n 84 hB d_M_longest_83 rfl rfl ?_
          refine x_top (v' := .int (nI ((lgG g 0 (i + 1)).2))) (congrArg Value.int (by show _ = nI (if (lgG g 0 i).2 < (lgG g 0 (i + 1)).1 then _ else _); rw [if_neg (by omega)])) ?_
          refine x_lv (lv' := [(0, .ref hm), (1, .int (nI 0)), (2, .int (nI ((lgG g 0 i).2))), (3, .int (nI ((lgG g 0 (i + 1)).1))), (4, .int (nI (i))), (5, .int (bI (decide (0 < i ∧ g (0 + i) = g (0 + i - 1)))))]) [1, 2, 3, 0, 4, 5] rfl ?_
          exact J84 () trivial
        · skip
          have k76 : ¬ (lgG g 0 (i + 1)).1 ≤ (lgG g 0 i).2 := fun h => h76 ((nI_leI (by omega) (by omega)).mpr h)
          refine x_iload_n 80 hB d_M_longest_79 rfl rfl ?_
          refine x_top (v' := .int (nI ((lgG g 0 (i + 1)).2))) (congrArg Value.int (by show _ = nI (if (lgG g 0 i).2 < (lgG g 0 (i + 1)).1 then _ else _); rw [if_pos (by omega)]; rfl)) ?_
          refine x_goto 84 hB d_M_longest_80 (by decide) ?_
          refine x_lv (lv' := [(0, .ref hm), (1, .int (nI 0)), (2, .int (nI ((lgG g 0 i).2))), (3, .int (nI ((lgG g 0 (i + 1)).1))), (4, .int (nI (i))), (5, .int (bI (decide (0 < i ∧ g (0 + i) = g (0 + i - 1)))))]) [1, 2, 3, 0, 4, 5] rfl ?_
          exact J84 () trivial
      refine x_iload 63 hB d_M_longest_61 rfl rfl ?_
      refine x_if_eq 72 66 hB d_M_longest_63 (by decide) rfl (fun h63 => ?_) (fun h63 => ?_)
      · skip
        have k63 := of_decide_eq_false (bI_0 h63)
        refine x_iconst (v := nI 1) 73 hB d_M_longest_72 rfl (by decide) ?_
        refine x_top (v' := .int (nI ((lgG g 0 (i + 1)).1))) (congrArg Value.int (by show nI 1 = nI (if 0 < i ∧ g (0 + i) = g (0 + i - 1) then _ else _); rw [if_neg k63])) ?_
        refine x_lv (lv' := [(0, .ref hm), (1, .int (nI 0)), (2, .int (nI ((lgG g 0 i).2))), (3, .int (nI ((lgG g 0 i).1))), (4, .int (nI (i))), (5, .int (bI (decide (0 < i ∧ g (0 + i) = g (0 + i - 1)))))]) [1, 2, 3, 4, 5, 0] rfl ?_
        exact J73 () trivial
      · skip
        have k63 := of_decide_eq_true (bI_1 h63)
        refine x_iload_n 67 hB d_M_longest_66 rfl rfl ?_
        refine x_iconst (v := nI 1) 68 hB d_M_longest_67 rfl (by decide) ?_
        refine x_iadd 69 hB d_M_longest_68 rfl ?_
        refine x_top (v' := .int (nI ((lgG g 0 (i + 1)).1))) (congrArg Value.int ((nI_add _ 1).trans (by show _ = nI (if 0 < i ∧ g (0 + i) = g (0 + i - 1) then _ else _); rw [if_pos k63]))) ?_
        refine x_goto 73 hB d_M_longest_69 (by decide) ?_
        refine x_lv (lv' := [(0, .ref hm), (1, .int (nI 0)), (2, .int (nI ((lgG g 0 i).2))), (3, .int (nI ((lgG g 0 i).1))), (4, .int (nI (i))), (5, .int (bI (decide (0 < i ∧ g (0 + i) = g (0 + i - 1)))))]) [1, 2, 3, 4, 5, 0] rfl ?_
        exact J73 () trivial
    refine x_iload 20 hB d_M_longest_18 rfl rfl ?_
    refine x_if_le 58 23 hB d_M_longest_20 (by decide) rfl (fun h20 => ?_) (fun h20 => ?_)
    · skip
      have k20 : i = 0 := (le0 (by omega)).mp h20
      refine x_iconst (v := nI 0) 59 hB d_M_longest_58 rfl (by decide) ?_
      refine x_top (v' := .int (bI (decide (0 < i ∧ g (0 + i) = g (0 + i - 1))))) (congrArg Value.int (bF0 (decide_eq_false (by omega)))) ?_
      exact J59 () trivial
    · skip
      have k20 : 0 < i := Nat.pos_of_ne_zero (fun h => h20 ((le0 (by omega)).mpr h))
      refine x_aload_n 24 hB d_M_longest_23 rfl rfl ?_
      refine x_get 27 hB 0 fg_M_22_5 rfl rfl d_M_longest_24 rfl ?_
      refine x_sipush (v := nI 2640) 30 hB d_M_longest_27 rfl (by decide) ?_
      refine x_iload_n 31 hB d_M_longest_30 rfl rfl ?_
      refine x_imul 32 hB d_M_longest_31 rfl ?_
      refine x_top (v' := .int (nI 0)) (congrArg Value.int (by decide)) ?_
      refine x_iload 34 hB d_M_longest_32 rfl rfl ?_
      refine x_iadd 35 hB d_M_longest_34 rfl ?_
      refine x_top (v' := .int (nI (0 + i))) (congrArg Value.int (nI_add _ _)) ?_
      refine x_iald 36 hB 1 rfl (by omega) (by decide) d_M_longest_35 rfl ?_
      refine x_aload_n 37 hB d_M_longest_36 rfl rfl ?_
      refine x_get 40 hB 0 fg_M_22_5 rfl rfl d_M_longest_37 rfl ?_
      refine x_sipush (v := nI 2640) 43 hB d_M_longest_40 rfl (by decide) ?_
      refine x_iload_n 44 hB d_M_longest_43 rfl rfl ?_
      refine x_imul 45 hB d_M_longest_44 rfl ?_
      refine x_top (v' := .int (nI 0)) (congrArg Value.int (by decide)) ?_
      refine x_iload 47 hB d_M_longest_45 rfl rfl ?_
      refine x_iadd 48 hB d_M_longest_47 rfl ?_
      refine x_top (v' := .int (nI (0 + i))) (congrArg Value.int (nI_add _ _)) ?_
      refine x_iconst (v := nI 1) 49 hB d_M_longest_48 rfl (by decide) ?_
      refine x_isub 50 hB d_M_longest_49 rfl ?_
      refine x_top (v' := .int (nI (0 + i - 1))) (congrArg Value.int (pk_sub (by omega))) ?_
      refine x_iald 51 hB 1 rfl (by omega) (by decide) d_M_longest_50 rfl ?_
      refine x_icmp_ne 58 54 hB d_M_longest_51 (by decide) rfl (fun h51 => ?_) (fun h51 => ?_)
      · skip
        refine x_iconst (v := nI 0) 59 hB d_M_longest_58 rfl (by decide) ?_
        refine x_top (v' := .int (bI (decide (0 < i ∧ g (0 + i) = g (0 + i - 1))))) (congrArg Value.int (bF0 (decide_eq_false (fun h => h51 h.2)))) ?_
        exact J59 () trivial
      · skip
        refine x_iconst (v := nI 1) 55 hB d_M_longest_54 rfl (by decide) ?_
        refine x_top (v' := .int (bI (decide (0 < i ∧ g (0 + i) = g (0 + i - 1))))) (congrArg Value.int (bT (decide_eq_true ⟨k20, h51⟩))) ?_
        refine x_goto 59 hB d_M_longest_55 (by decide) ?_
        exact J59 () trivial
abbrev rm_M_bit1 : Room := { frames := 1, cells := 0, slots := 0, locals := 22 }
set_option maxHeartbeats 4000000 in
set_option maxRecDepth 100000 in
theorem c_M_bit1 (l : Launch) (E : xE) (hm ms mf mc my mb mz mp mo mm ml md me mg : Nat) (re : Int32) (wr : Nat) (sp rp fi : Bool) (gd : Nat) (la : Int32) (lst : Int64) (z0 z1 : Nat) (g : Nat → Int32) (j : Nat) (hj : j < z1) (hz : z1 ≤ 2640) : xC l E y_M_bit (.code y_M_bit prog_10_method_30_code 3 (some .int)) rm_M_bit1 [.ref hm, .int (nI 1), .int (nI (j))] [(hm, .inr (5, [.int (re), .ref ms, .ref mf, .ref mc, .ref my, .ref mb, .ref mz, .ref mp, .ref mo, .ref mm, .ref ml, .ref md, .int (nI (wr)), .int (bI sp), .int (bI rp), .int (bI fi), .int (nI (gd)), .ref me, .ref mg, .int (la), .int (nI 0), .long (lst), .int 0])), (mb, .inl (E.2 1, 5280, .inl (g))), (mz, .inl (E.2 1, 2, .inl (pr2 (nI (z0)) (nI (z1)))))] (xRet (some (.int ((g) (2640 + j)))) [(hm, .inr (5, [.int (nI 0), .ref ms, .ref mf, .ref mc, .ref my, .ref mb, .ref mz, .ref mp, .ref mo, .ref mm, .ref ml, .ref md, .int (nI (wr)), .int (bI sp), .int (bI rp), .int (bI fi), .int (nI (gd)), .ref me, .ref mg, .int (la), .int (nI 0), .long (lst), .int 0])), (mb, .inl (E.2 1, 5280, .inl (g))), (mz, .inl (E.2 1, 2, .inl (pr2 (nI (z0)) (nI (z1)))))]) := by
  refine x_of' (own := "LineCoderModel") (mn := "bit") (lv := [(0, .ref hm), (1, .int (nI 1)), (2, .int (nI (j)))]) (plainFor_of_name (by decide)) rfl rfl (Nat.le_of_ble_eq_true rfl) rfl ?_
  intro p_ e_ s_ m_ ar_ be_ me_ c_ A_ hA hB
  refine x_aload_n 1 hB d_M_bit_0 rfl rfl ?_
  refine x_iload_n 2 hB d_M_bit_1 rfl rfl ?_
  refine x_callP (k' := 0) (n' := 0) (rest := [.ref hm]) (st' := [.int (nI 1), .ref hm]) 5 hB (x_pfS (av := [.int (nI 1)]) hB w_772 xHd_code w_7 w_770 w_771 nm_M_isStream rfl d_M_bit_2) (c_M_isStream_1 l E ) w_772 xHd_code w_7 [] rfl rfl ⟨by decide, by decide⟩ ⟨by decide, by decide⟩ rfl rfl (Nat.le_of_ble_eq_true rfl) d_M_bit_2 rfl rfl ?_
  refine x_if_eq 12 8 hB d_M_bit_5 (by decide) rfl (fun hc => absurd hc (by decide)) (fun _ => ?_)
  refine x_iconst (v := nI 0) 9 hB d_M_bit_8 rfl (by decide) ?_
  refine x_goto 13 hB d_M_bit_9 (by decide) ?_
  refine x_callD (k' := 0) (n' := 0) (rest := []) (wr := [(mb, .inl (E.2 1, 5280, .inl (g))), (mz, .inl (E.2 1, 2, .inl (pr2 (nI (z0)) (nI (z1)))))]) (ws' := [(mb, .inl (E.2 1, 5280, .inl (g))), (mz, .inl (E.2 1, 2, .inl (pr2 (nI (z0)) (nI (z1))))), (hm, .inr (5, [.int (nI 0), .ref ms, .ref mf, .ref mc, .ref my, .ref mb, .ref mz, .ref mp, .ref mo, .ref mm, .ref ml, .ref md, .int (nI (wr)), .int (bI sp), .int (bI rp), .int (bI fi), .int (nI (gd)), .ref me, .ref mg, .int (la), .int (nI 0), .long (lst), .int 0]))]) (st' := [.int (nI 0)]) 16 hB (x_pfV (av := [.int (nI 0)]) (q0 := 0) hB w_709 xHd_code w_706 w_708 s_M_refused rfl rfl nm_M_refused rfl d_M_bit_13) (c_M_refused0 l E hm ms mf mc my mb mz mp mo mm ml md me mg (re) (wr) (sp) (rp) (fi) (gd) (la) (lst)) w_709 xHd_code w_7 [0] [1, 2] rfl rfl rfl rfl (by decide) ⟨by decide, by decide⟩ ⟨by decide, by decide⟩ rfl rfl (Nat.le_of_ble_eq_true rfl) d_M_bit_13 rfl rfl rfl ?_
  refine x_if_eq 21 19 hB d_M_bit_16 (by decide) rfl (fun _ => ?_) (fun hc => absurd (by decide) hc)
  refine x_iload_n 22 hB d_M_bit_21 rfl rfl ?_
  refine x_iconst (v := nI 0) 23 hB d_M_bit_22 rfl (by decide) ?_
  refine x_aload_n 24 hB d_M_bit_23 rfl rfl ?_
  refine x_get 27 hB 2 fg_M_25_5 rfl rfl d_M_bit_24 rfl ?_
  refine x_iload_n 28 hB d_M_bit_27 rfl rfl ?_
  refine x_iald 29 hB 1 rfl (by omega) (by decide) d_M_bit_28 rfl ?_
  refine x_top (v' := .int (nI (z1))) (congrArg Value.int (rfl)) ?_
  refine x_iconst (v := nI 1) 30 hB d_M_bit_29 rfl (by decide) ?_
  refine x_isub 31 hB d_M_bit_30 rfl ?_
  refine x_top (v' := .int (nI (z1 - 1))) (congrArg Value.int (pk_sub (by omega))) ?_
  refine x_callP (k' := 0) (n' := 0) (rest := []) (st' := [.int (nI 1)]) 34 hB (x_pfS (av := [.int (nI (j)), .int (nI 0), .int (nI (z1 - 1))]) hB w_716 xHd_code w_7 w_714 w_715 nm_M_isIn rfl d_M_bit_31) (c_M_isIn_y l E (nI j) (nI 0) (nI (z1 - 1)) (nI_nlt (by omega) (by omega)) (nI_nlt (by omega) (by omega))) w_716 xHd_code w_7 [] rfl rfl ⟨by decide, by decide⟩ ⟨by decide, by decide⟩ rfl rfl (Nat.le_of_ble_eq_true rfl) d_M_bit_31 rfl rfl ?_
  refine x_if_eq 52 37 hB d_M_bit_34 (by decide) rfl (fun hc => absurd hc (by decide)) (fun _ => ?_)
  refine x_aload_n 38 hB d_M_bit_37 rfl rfl ?_
  refine x_get 41 hB 2 fg_M_22_5 rfl rfl d_M_bit_38 rfl ?_
  refine x_sipush (v := nI 2640) 44 hB d_M_bit_41 rfl (by decide) ?_
  refine x_iload_n 45 hB d_M_bit_44 rfl rfl ?_
  refine x_imul 46 hB d_M_bit_45 rfl ?_
  refine x_top (v' := .int (nI 2640)) (congrArg Value.int (by decide)) ?_
  refine x_iload_n 47 hB d_M_bit_46 rfl rfl ?_
  refine x_iadd 48 hB d_M_bit_47 rfl ?_
  refine x_top (v' := .int (nI (2640 + j))) (congrArg Value.int (nI_add _ _)) ?_
  refine x_iald 49 hB 0 rfl (by omega) (by decide) d_M_bit_48 rfl ?_
  refine x_goto 53 hB d_M_bit_49 (by decide) ?_
  exact x_iret hB (w' := [(hm, .inr (5, [.int (nI 0), .ref ms, .ref mf, .ref mc, .ref my, .ref mb, .ref mz, .ref mp, .ref mo, .ref mm, .ref ml, .ref md, .int (nI (wr)), .int (bI sp), .int (bI rp), .int (bI fi), .int (nI (gd)), .ref me, .ref mg, .int (la), .int (nI 0), .long (lst), .int 0])), (mb, .inl (E.2 1, 5280, .inl (g))), (mz, .inl (E.2 1, 2, .inl (pr2 (nI (z0)) (nI (z1)))))]) hA [2, 0, 1] rfl rfl (xRet_i) (by decide) (by decide) d_M_bit_53
abbrev rm_M_bit1_o : Room := { frames := 1, cells := 0, slots := 0, locals := 22 }
set_option maxHeartbeats 4000000 in
set_option maxRecDepth 100000 in
theorem c_M_bit1_o (l : Launch) (E : xE) (hm ms mf mc my mb mz mp mo mm ml md me mg : Nat) (re : Int32) (wr : Nat) (sp rp fi : Bool) (gd : Nat) (la : Int32) (lst : Int64) (z0 z1 : Nat) (g : Nat → Int32) (k : Int32) (hk : k < 0 ∨ nI z1 - nI 1 < k) : xC l E y_M_bit (.code y_M_bit prog_10_method_30_code 3 (some .int)) rm_M_bit1_o [.ref hm, .int (nI 1), .int (k)] [(hm, .inr (5, [.int (re), .ref ms, .ref mf, .ref mc, .ref my, .ref mb, .ref mz, .ref mp, .ref mo, .ref mm, .ref ml, .ref md, .int (nI (wr)), .int (bI sp), .int (bI rp), .int (bI fi), .int (nI (gd)), .ref me, .ref mg, .int (la), .int (nI 0), .long (lst), .int 0])), (mb, .inl (E.2 1, 5280, .inl (g))), (mz, .inl (E.2 1, 2, .inl (pr2 (nI (z0)) (nI (z1)))))] (xRet (some (.int (-1))) [(hm, .inr (5, [.int (nI 0), .ref ms, .ref mf, .ref mc, .ref my, .ref mb, .ref mz, .ref mp, .ref mo, .ref mm, .ref ml, .ref md, .int (nI (wr)), .int (bI sp), .int (bI rp), .int (bI fi), .int (nI (gd)), .ref me, .ref mg, .int (la), .int (nI 0), .long (lst), .int 0])), (mb, .inl (E.2 1, 5280, .inl (g))), (mz, .inl (E.2 1, 2, .inl (pr2 (nI (z0)) (nI (z1)))))]) := by
  refine x_of' (own := "LineCoderModel") (mn := "bit") (lv := [(0, .ref hm), (1, .int (nI 1)), (2, .int (k))]) (plainFor_of_name (by decide)) rfl rfl (Nat.le_of_ble_eq_true rfl) rfl ?_
  intro p_ e_ s_ m_ ar_ be_ me_ c_ A_ hA hB
  refine x_aload_n 1 hB d_M_bit_0 rfl rfl ?_
  refine x_iload_n 2 hB d_M_bit_1 rfl rfl ?_
  refine x_callP (k' := 0) (n' := 0) (rest := [.ref hm]) (st' := [.int (nI 1), .ref hm]) 5 hB (x_pfS (av := [.int (nI 1)]) hB w_772 xHd_code w_7 w_770 w_771 nm_M_isStream rfl d_M_bit_2) (c_M_isStream_1 l E ) w_772 xHd_code w_7 [] rfl rfl ⟨by decide, by decide⟩ ⟨by decide, by decide⟩ rfl rfl (Nat.le_of_ble_eq_true rfl) d_M_bit_2 rfl rfl ?_
  refine x_if_eq 12 8 hB d_M_bit_5 (by decide) rfl (fun hc => absurd hc (by decide)) (fun _ => ?_)
  refine x_iconst (v := nI 0) 9 hB d_M_bit_8 rfl (by decide) ?_
  refine x_goto 13 hB d_M_bit_9 (by decide) ?_
  refine x_callD (k' := 0) (n' := 0) (rest := []) (wr := [(mb, .inl (E.2 1, 5280, .inl (g))), (mz, .inl (E.2 1, 2, .inl (pr2 (nI (z0)) (nI (z1)))))]) (ws' := [(mb, .inl (E.2 1, 5280, .inl (g))), (mz, .inl (E.2 1, 2, .inl (pr2 (nI (z0)) (nI (z1))))), (hm, .inr (5, [.int (nI 0), .ref ms, .ref mf, .ref mc, .ref my, .ref mb, .ref mz, .ref mp, .ref mo, .ref mm, .ref ml, .ref md, .int (nI (wr)), .int (bI sp), .int (bI rp), .int (bI fi), .int (nI (gd)), .ref me, .ref mg, .int (la), .int (nI 0), .long (lst), .int 0]))]) (st' := [.int (nI 0)]) 16 hB (x_pfV (av := [.int (nI 0)]) (q0 := 0) hB w_709 xHd_code w_706 w_708 s_M_refused rfl rfl nm_M_refused rfl d_M_bit_13) (c_M_refused0 l E hm ms mf mc my mb mz mp mo mm ml md me mg (re) (wr) (sp) (rp) (fi) (gd) (la) (lst)) w_709 xHd_code w_7 [0] [1, 2] rfl rfl rfl rfl (by decide) ⟨by decide, by decide⟩ ⟨by decide, by decide⟩ rfl rfl (Nat.le_of_ble_eq_true rfl) d_M_bit_13 rfl rfl rfl ?_
  refine x_if_eq 21 19 hB d_M_bit_16 (by decide) rfl (fun _ => ?_) (fun hc => absurd (by decide) hc)
  refine x_iload_n 22 hB d_M_bit_21 rfl rfl ?_
  refine x_iconst (v := nI 0) 23 hB d_M_bit_22 rfl (by decide) ?_
  refine x_aload_n 24 hB d_M_bit_23 rfl rfl ?_
  refine x_get 27 hB 2 fg_M_25_5 rfl rfl d_M_bit_24 rfl ?_
  refine x_iload_n 28 hB d_M_bit_27 rfl rfl ?_
  refine x_iald 29 hB 1 rfl (by omega) (by decide) d_M_bit_28 rfl ?_
  refine x_top (v' := .int (nI (z1))) (congrArg Value.int (rfl)) ?_
  refine x_iconst (v := nI 1) 30 hB d_M_bit_29 rfl (by decide) ?_
  refine x_isub 31 hB d_M_bit_30 rfl ?_
  refine x_callP (k' := 0) (n' := 0) (rest := []) (st' := [.int (nI 0)]) 34 hB (x_pfS (av := [.int (k), .int (nI 0), .int ((nI (z1)) - (nI 1))]) hB w_716 xHd_code w_7 w_714 w_715 nm_M_isIn rfl d_M_bit_31) (c_M_isIn_n l E k (nI 0) (nI z1 - nI 1) hk) w_716 xHd_code w_7 [] rfl rfl ⟨by decide, by decide⟩ ⟨by decide, by decide⟩ rfl rfl (Nat.le_of_ble_eq_true rfl) d_M_bit_31 rfl rfl ?_
  refine x_if_eq 52 37 hB d_M_bit_34 (by decide) rfl (fun _ => ?_) (fun hc => absurd (by decide) hc)
  refine x_iconst (v := (-1 : Int32)) 53 hB d_M_bit_52 rfl (by decide) ?_
  exact x_iret hB (w' := [(hm, .inr (5, [.int (nI 0), .ref ms, .ref mf, .ref mc, .ref my, .ref mb, .ref mz, .ref mp, .ref mo, .ref mm, .ref ml, .ref md, .int (nI (wr)), .int (bI sp), .int (bI rp), .int (bI fi), .int (nI (gd)), .ref me, .ref mg, .int (la), .int (nI 0), .long (lst), .int 0])), (mb, .inl (E.2 1, 5280, .inl (g))), (mz, .inl (E.2 1, 2, .inl (pr2 (nI (z0)) (nI (z1)))))]) hA [2, 0, 1] rfl rfl (xRet_i) (by decide) (by decide) d_M_bit_53
abbrev rm_M_balance1 : Room := { frames := 0, cells := 0, slots := 0, locals := 0 }
set_option maxHeartbeats 4000000 in
set_option maxRecDepth 100000 in
theorem c_M_balance1 (l : Launch) (E : xE) (hm ms mf mc my mb mz mp mo mm ml md me mg : Nat) (re : Int32) (wr : Nat) (sp rp fi : Bool) (gd : Nat) (la : Int32) (lst : Int64) (z0 z1 : Nat) (g : Nat → Int32) (hz : z1 ≤ 2640) : xCp l E y_M_balance (.code y_M_balance prog_10_method_31_code 4 (some .int)) rm_M_balance1 [.ref hm, .int (nI 1)] [(hm, .inr (5, [.int (re), .ref ms, .ref mf, .ref mc, .ref my, .ref mb, .ref mz, .ref mp, .ref mo, .ref mm, .ref ml, .ref md, .int (nI (wr)), .int (bI sp), .int (bI rp), .int (bI fi), .int (nI (gd)), .ref me, .ref mg, .int (la), .int (nI 0), .long (lst), .int 0])), (mb, .inl (E.2 1, 5280, .inl (g))), (mz, .inl (E.2 1, 2, .inl (pr2 (nI (z0)) (nI (z1)))))] (.inl (some (.int (blG g 2640 z1)))) := by
  refine x_ofP (own := "LineCoderModel") (mn := "balance") (lv := [(0, .ref hm), (1, .int (nI 1))]) (plainFor_of_name (by decide)) rfl rfl (Nat.le_of_ble_eq_true rfl) rfl ?_
  intro p_ e_ s_ m_ ar_ be_ me_ c_ hB
  refine x_iconst (v := nI 0) 1 hB d_M_balance_0 rfl (by decide) ?_
  refine x_istore_n 2 hB d_M_balance_1 rfl (by decide) (lv' := [(2, .int (nI 0)), (0, .ref hm), (1, .int (nI 1))]) rfl ?_
  refine x_iconst (v := nI 0) 3 hB d_M_balance_2 rfl (by decide) ?_
  refine x_istore_n 4 hB d_M_balance_3 rfl (by decide) (lv' := [(3, .int (nI 0)), (2, .int (nI 0)), (0, .ref hm), (1, .int (nI 1))]) rfl ?_
  refine x_lv (lv' := [(0, .ref hm), (1, .int (nI 1)), (2, .int (nI 0)), (3, .int (nI 0))]) [2, 3, 1, 0] rfl ?_
  refine x_loop (fun i : Nat => i ≤ z1) (fun i : Nat => z1 - i) (fun i : Nat => [(hm, .inr (5, [.int (re), .ref ms, .ref mf, .ref mc, .ref my, .ref mb, .ref mz, .ref mp, .ref mo, .ref mm, .ref ml, .ref md, .int (nI (wr)), .int (bI sp), .int (bI rp), .int (bI fi), .int (nI (gd)), .ref me, .ref mg, .int (la), .int (nI 0), .long (lst), .int 0])), (mb, .inl (E.2 1, 5280, .inl (g))), (mz, .inl (E.2 1, 2, .inl (pr2 (nI (z0)) (nI (z1)))))]) (fun i : Nat => [(0, .ref hm), (1, .int (nI 1)), (2, .int (blG g 2640 i)), (3, .int (nI (i)))]) (fun i : Nat => []) 0 (Nat.zero_le _) rfl rfl rfl (fun i hI4 IH4 => ?_)
  refine x_iload_n 5 hB d_M_balance_4 rfl rfl ?_
  refine x_aload_n 6 hB d_M_balance_5 rfl rfl ?_
  refine x_get 9 hB 0 fg_M_25_5 rfl rfl d_M_balance_6 rfl ?_
  refine x_iload_n 10 hB d_M_balance_9 rfl rfl ?_
  refine x_iald 11 hB 2 rfl (by omega) (by decide) d_M_balance_10 rfl ?_
  refine x_top (v' := .int (nI (z1))) (congrArg Value.int (rfl)) ?_
  refine x_icmp_ge 39 14 hB d_M_balance_11 (by decide) rfl (fun h11 => ?_) (fun h11 => ?_)
  · skip
    have hi : z1 = i := by have := (nI_leI (by omega) (by omega)).mp h11; omega
    subst hi
    refine x_iload_n 40 hB d_M_balance_39 rfl rfl ?_
    exact x_iretP hB (rfl) (by decide) (by decide) d_M_balance_40
  · skip
    have hi : i < z1 := Nat.lt_of_not_le (fun h => h11 (nI_le h (by omega)))
    refine x_iload_n 15 hB d_M_balance_14 rfl rfl ?_
    refine x_iconst (v := nI 2) 16 hB d_M_balance_15 rfl (by decide) ?_
    refine x_aload_n 17 hB d_M_balance_16 rfl rfl ?_
    refine x_get 20 hB 0 fg_M_22_5 rfl rfl d_M_balance_17 rfl ?_
    refine x_sipush (v := nI 2640) 23 hB d_M_balance_20 rfl (by decide) ?_
    refine x_iload_n 24 hB d_M_balance_23 rfl rfl ?_
    refine x_imul 25 hB d_M_balance_24 rfl ?_
    refine x_top (v' := .int (nI 2640)) (congrArg Value.int (by decide)) ?_
    refine x_iload_n 26 hB d_M_balance_25 rfl rfl ?_
    refine x_iadd 27 hB d_M_balance_26 rfl ?_
    refine x_top (v' := .int (nI (2640 + i))) (congrArg Value.int (nI_add _ _)) ?_
    refine x_iald 28 hB 1 rfl (by omega) (by decide) d_M_balance_27 rfl ?_
    refine x_imul 29 hB d_M_balance_28 rfl ?_
    refine x_iadd 30 hB d_M_balance_29 rfl ?_
    refine x_iconst (v := nI 1) 31 hB d_M_balance_30 rfl (by decide) ?_
    refine x_isub 32 hB d_M_balance_31 rfl ?_
    refine x_top (v' := .int (blG g 2640 (i + 1))) (congrArg Value.int (rfl)) ?_
    refine x_istore_n 33 hB d_M_balance_32 rfl (by decide) (lv' := [(2, .int (blG g 2640 (i + 1))), (0, .ref hm), (1, .int (nI 1)), (3, .int (nI (i)))]) rfl ?_
    refine x_iinc (v := nI (i + 1)) 36 hB d_M_balance_33 rfl 3 rfl ((nI_succ i).symm) (by decide) (lv' := [(3, .int (nI (i + 1))), (2, .int (blG g 2640 (i + 1))), (0, .ref hm), (1, .int (nI 1))]) rfl ?_
    refine x_goto 4 hB d_M_balance_36 (by decide) ?_
    refine x_lv (lv' := [(0, .ref hm), (1, .int (nI 1)), (2, .int (blG g 2640 (i + 1))), (3, .int (nI (i + 1)))]) [2, 3, 1, 0] rfl ?_
    exact IH4 (i + 1) hi (by omega)
abbrev rm_M_longest1 : Room := { frames := 0, cells := 0, slots := 0, locals := 0 }
set_option maxHeartbeats 4000000 in
set_option maxRecDepth 100000 in
theorem c_M_longest1 (l : Launch) (E : xE) (hm ms mf mc my mb mz mp mo mm ml md me mg : Nat) (re : Int32) (wr : Nat) (sp rp fi : Bool) (gd : Nat) (la : Int32) (lst : Int64) (z0 z1 : Nat) (g : Nat → Int32) (hz : z1 ≤ 2640) : xCp l E y_M_longest (.code y_M_longest prog_10_method_32_code 6 (some .int)) rm_M_longest1 [.ref hm, .int (nI 1)] [(hm, .inr (5, [.int (re), .ref ms, .ref mf, .ref mc, .ref my, .ref mb, .ref mz, .ref mp, .ref mo, .ref mm, .ref ml, .ref md, .int (nI (wr)), .int (bI sp), .int (bI rp), .int (bI fi), .int (nI (gd)), .ref me, .ref mg, .int (la), .int (nI 0), .long (lst), .int 0])), (mb, .inl (E.2 1, 5280, .inl (g))), (mz, .inl (E.2 1, 2, .inl (pr2 (nI (z0)) (nI (z1)))))] (.inl (some (.int (nI ((lgG g 2640 z1).2))))) := by
  refine x_ofP (own := "LineCoderModel") (mn := "longest") (lv := [(0, .ref hm), (1, .int (nI 1))]) (plainFor_of_name (by decide)) rfl rfl (Nat.le_of_ble_eq_true rfl) rfl ?_
  intro p_ e_ s_ m_ ar_ be_ me_ c_ hB
  refine x_iconst (v := nI 0) 1 hB d_M_longest_0 rfl (by decide) ?_
  refine x_istore_n 2 hB d_M_longest_1 rfl (by decide) (lv' := [(2, .int (nI 0)), (0, .ref hm), (1, .int (nI 1))]) rfl ?_
  refine x_iconst (v := nI 0) 3 hB d_M_longest_2 rfl (by decide) ?_
  refine x_istore_n 4 hB d_M_longest_3 rfl (by decide) (lv' := [(3, .int (nI 0)), (2, .int (nI 0)), (0, .ref hm), (1, .int (nI 1))]) rfl ?_
  refine x_iconst (v := nI 0) 5 hB d_M_longest_4 rfl (by decide) ?_
  refine x_istore 7 hB d_M_longest_5 rfl (by decide) (lv' := [(4, .int (nI 0)), (3, .int (nI 0)), (2, .int (nI 0)), (0, .ref hm), (1, .int (nI 1))]) rfl ?_
  refine x_lv (lv' := [(0, .ref hm), (1, .int (nI 1)), (2, .int (nI 0)), (3, .int (nI 0)), (4, .int (nI 0))]) [3, 4, 2, 1, 0] rfl ?_
  refine x_loop (fun i : Nat => i ≤ z1) (fun i : Nat => z1 - i) (fun i : Nat => [(hm, .inr (5, [.int (re), .ref ms, .ref mf, .ref mc, .ref my, .ref mb, .ref mz, .ref mp, .ref mo, .ref mm, .ref ml, .ref md, .int (nI (wr)), .int (bI sp), .int (bI rp), .int (bI fi), .int (nI (gd)), .ref me, .ref mg, .int (la), .int (nI 0), .long (lst), .int 0])), (mb, .inl (E.2 1, 5280, .inl (g))), (mz, .inl (E.2 1, 2, .inl (pr2 (nI (z0)) (nI (z1)))))]) (fun i : Nat => [(0, .ref hm), (1, .int (nI 1)), (2, .int (nI ((lgG g 2640 i).2))), (3, .int (nI ((lgG g 2640 i).1))), (4, .int (nI (i)))]) (fun i : Nat => []) 0 (Nat.zero_le _) rfl rfl rfl (fun i hI7 IH7 => ?_)
  have hle := lgG_le g 2640 i
  have hle1 := lgG_le g 2640 (i + 1)
  refine x_iload 9 hB d_M_longest_7 rfl rfl ?_
  refine x_aload_n 10 hB d_M_longest_9 rfl rfl ?_
  refine x_get 13 hB 0 fg_M_25_5 rfl rfl d_M_longest_10 rfl ?_
  refine x_iload_n 14 hB d_M_longest_13 rfl rfl ?_
  refine x_iald 15 hB 2 rfl (by omega) (by decide) d_M_longest_14 rfl ?_
  refine x_top (v' := .int (nI (z1))) (congrArg Value.int (rfl)) ?_
  refine x_icmp_ge 91 18 hB d_M_longest_15 (by decide) rfl (fun h15 => ?_) (fun h15 => ?_)
  · skip
    have hi : z1 = i := by have := (nI_leI (by omega) (by omega)).mp h15; omega
    subst hi
    refine x_iload_n 92 hB d_M_longest_91 rfl rfl ?_
    exact x_iretP hB (rfl) (by decide) (by decide) d_M_longest_92
  · skip
    have hi : i < z1 := Nat.lt_of_not_le (fun h => h15 (nI_le h (by omega)))
    refine x_join 59 (fun _u : Unit => True) (fun _u : Unit => [(hm, .inr (5, [.int (re), .ref ms, .ref mf, .ref mc, .ref my, .ref mb, .ref mz, .ref mp, .ref mo, .ref mm, .ref ml, .ref md, .int (nI (wr)), .int (bI sp), .int (bI rp), .int (bI fi), .int (nI (gd)), .ref me, .ref mg, .int (la), .int (nI 0), .long (lst), .int 0])), (mb, .inl (E.2 1, 5280, .inl (g))), (mz, .inl (E.2 1, 2, .inl (pr2 (nI (z0)) (nI (z1)))))]) (fun _u : Unit => [(0, .ref hm), (1, .int (nI 1)), (2, .int (nI ((lgG g 2640 i).2))), (3, .int (nI ((lgG g 2640 i).1))), (4, .int (nI (i)))]) (fun _u : Unit => [.int (bI (decide (0 < i ∧ g (2640 + i) = g (2640 + i - 1))))]) (fun _u hJ59 => ?_) (fun J59 => ?_)
    · skip
      refine x_istore 61 hB d_M_longest_59 rfl (by decide) (lv' := [(5, .int (bI (decide (0 < i ∧ g (2640 + i) = g (2640 + i - 1))))), (0, .ref hm), (1, .int (nI 1)), (2, .int (nI ((lgG g 2640 i).2))), (3, .int (nI ((lgG g 2640 i).1))), (4, .int (nI (i)))]) rfl ?_
      refine x_join 73 (fun _u : Unit => True) (fun _u : Unit => [(hm, .inr (5, [.int (re), .ref ms, .ref mf, .ref mc, .ref my, .ref mb, .ref mz, .ref mp, .ref mo, .ref mm, .ref ml, .ref md, .int (nI (wr)), .int (bI sp), .int (bI rp), .int (bI fi), .int (nI (gd)), .ref me, .ref mg, .int (la), .int (nI 0), .long (lst), .int 0])), (mb, .inl (E.2 1, 5280, .inl (g))), (mz, .inl (E.2 1, 2, .inl (pr2 (nI (z0)) (nI (z1)))))]) (fun _u : Unit => [(0, .ref hm), (1, .int (nI 1)), (2, .int (nI ((lgG g 2640 i).2))), (3, .int (nI ((lgG g 2640 i).1))), (4, .int (nI (i))), (5, .int (bI (decide (0 < i ∧ g (2640 + i) = g (2640 + i - 1)))))]) (fun _u : Unit => [.int (nI ((lgG g 2640 (i + 1)).1))]) (fun _u hJ73 => ?_) (fun J73 => ?_)
      · skip
        refine x_istore_n 74 hB d_M_longest_73 rfl (by decide) (lv' := [(3, .int (nI ((lgG g 2640 (i + 1)).1))), (0, .ref hm), (1, .int (nI 1)), (2, .int (nI ((lgG g 2640 i).2))), (4, .int (nI (i))), (5, .int (bI (decide (0 < i ∧ g (2640 + i) = g (2640 + i - 1)))))]) rfl ?_
        refine x_join 84 (fun _u : Unit => True) (fun _u : Unit => [(hm, .inr (5, [.int (re), .ref ms, .ref mf, .ref mc, .ref my, .ref mb, .ref mz, .ref mp, .ref mo, .ref mm, .ref ml, .ref md, .int (nI (wr)), .int (bI sp), .int (bI rp), .int (bI fi), .int (nI (gd)), .ref me, .ref mg, .int (la), .int (nI 0), .long (lst), .int 0])), (mb, .inl (E.2 1, 5280, .inl (g))), (mz, .inl (E.2 1, 2, .inl (pr2 (nI (z0)) (nI (z1)))))]) (fun _u : Unit => [(0, .ref hm), (1, .int (nI 1)), (2, .int (nI ((lgG g 2640 i).2))), (3, .int (nI ((lgG g 2640 (i + 1)).1))), (4, .int (nI (i))), (5, .int (bI (decide (0 < i ∧ g (2640 + i) = g (2640 + i - 1)))))]) (fun _u : Unit => [.int (nI ((lgG g 2640 (i + 1)).2))]) (fun _u hJ84 => ?_) (fun J84 => ?_)
        · skip
          refine x_istore_n 85 hB d_M_longest_84 rfl (by decide) (lv' := [(2, .int (nI ((lgG g 2640 (i + 1)).2))), (0, .ref hm), (1, .int (nI 1)), (3, .int (nI ((lgG g 2640 (i + 1)).1))), (4, .int (nI (i))), (5, .int (bI (decide (0 < i ∧ g (2640 + i) = g (2640 + i - 1)))))]) rfl ?_
          refine x_iinc (v := nI (i + 1)) 88 hB d_M_longest_85 rfl 4 rfl ((nI_succ i).symm) (by decide) (lv' := [(4, .int (nI (i + 1))), (2, .int (nI ((lgG g 2640 (i + 1)).2))), (0, .ref hm), (1, .int (nI 1)), (3, .int (nI ((lgG g 2640 (i + 1)).1))), (5, .int (bI (decide (0 < i ∧ g (2640 + i) = g (2640 + i - 1)))))]) rfl ?_
          refine x_goto 7 hB d_M_longest_88 (by decide) ?_
          refine x_lv (lv' := [(0, .ref hm), (1, .int (nI 1)), (2, .int (nI ((lgG g 2640 (i + 1)).2))), (3, .int (nI ((lgG g 2640 (i + 1)).1))), (4, .int (nI (i + 1)))]) [2, 3, 1, 4, 0] rfl ?_
          exact IH7 (i + 1) hi (by omega)
        refine x_iload_n 75 hB d_M_longest_74 rfl rfl ?_
        refine x_iload_n 76 hB d_M_longest_75 rfl rfl ?_
        refine x_icmp_le 83 79 hB d_M_longest_76 (by decide) rfl (fun h76 => ?_) (fun h76 => ?_)
        · skip
          have k76 : (lgG g 2640 (i + 1)).1 ≤ (lgG g 2640 i).2 := (nI_leI (by omega) (by omega)).mp h76
          refine x_iload_n 84 hB d_M_longest_83 rfl rfl ?_
          refine x_top (v' := .int (nI ((lgG g 2640 (i + 1)).2))) (congrArg Value.int (by show _ = nI (if (lgG g 2640 i).2 < (lgG g 2640 (i + 1)).1 then _ else _); rw [if_neg (by omega)])) ?_
          refine x_lv (lv' := [(0, .ref hm), (1, .int (nI 1)), (2, .int (nI ((lgG g 2640 i).2))), (3, .int (nI ((lgG g 2640 (i + 1)).1))), (4, .int (nI (i))), (5, .int (bI (decide (0 < i ∧ g (2640 + i) = g (2640 + i - 1)))))]) [1, 2, 3, 0, 4, 5] rfl ?_
          exact J84 () trivial
        · skip
          have k76 : ¬ (lgG g 2640 (i + 1)).1 ≤ (lgG g 2640 i).2 := fun h => h76 ((nI_leI (by omega) (by omega)).mpr h)
          refine x_iload_n 80 hB d_M_longest_79 rfl rfl ?_
          refine x_top (v' := .int (nI ((lgG g 2640 (i + 1)).2))) (congrArg Value.int (by show _ = nI (if (lgG g 2640 i).2 < (lgG g 2640 (i + 1)).1 then _ else _); rw [if_pos (by omega)]; rfl)) ?_
          refine x_goto 84 hB d_M_longest_80 (by decide) ?_
          refine x_lv (lv' := [(0, .ref hm), (1, .int (nI 1)), (2, .int (nI ((lgG g 2640 i).2))), (3, .int (nI ((lgG g 2640 (i + 1)).1))), (4, .int (nI (i))), (5, .int (bI (decide (0 < i ∧ g (2640 + i) = g (2640 + i - 1)))))]) [1, 2, 3, 0, 4, 5] rfl ?_
          exact J84 () trivial
      refine x_iload 63 hB d_M_longest_61 rfl rfl ?_
      refine x_if_eq 72 66 hB d_M_longest_63 (by decide) rfl (fun h63 => ?_) (fun h63 => ?_)
      · skip
        have k63 := of_decide_eq_false (bI_0 h63)
        refine x_iconst (v := nI 1) 73 hB d_M_longest_72 rfl (by decide) ?_
        refine x_top (v' := .int (nI ((lgG g 2640 (i + 1)).1))) (congrArg Value.int (by show nI 1 = nI (if 0 < i ∧ g (2640 + i) = g (2640 + i - 1) then _ else _); rw [if_neg k63])) ?_
        refine x_lv (lv' := [(0, .ref hm), (1, .int (nI 1)), (2, .int (nI ((lgG g 2640 i).2))), (3, .int (nI ((lgG g 2640 i).1))), (4, .int (nI (i))), (5, .int (bI (decide (0 < i ∧ g (2640 + i) = g (2640 + i - 1)))))]) [1, 2, 3, 4, 5, 0] rfl ?_
        exact J73 () trivial
      · skip
        have k63 := of_decide_eq_true (bI_1 h63)
        refine x_iload_n 67 hB d_M_longest_66 rfl rfl ?_
        refine x_iconst (v := nI 1) 68 hB d_M_longest_67 rfl (by decide) ?_
        refine x_iadd 69 hB d_M_longest_68 rfl ?_
        refine x_top (v' := .int (nI ((lgG g 2640 (i + 1)).1))) (congrArg Value.int ((nI_add _ 1).trans (by show _ = nI (if 0 < i ∧ g (2640 + i) = g (2640 + i - 1) then _ else _); rw [if_pos k63]))) ?_
        refine x_goto 73 hB d_M_longest_69 (by decide) ?_
        refine x_lv (lv' := [(0, .ref hm), (1, .int (nI 1)), (2, .int (nI ((lgG g 2640 i).2))), (3, .int (nI ((lgG g 2640 i).1))), (4, .int (nI (i))), (5, .int (bI (decide (0 < i ∧ g (2640 + i) = g (2640 + i - 1)))))]) [1, 2, 3, 4, 5, 0] rfl ?_
        exact J73 () trivial
    refine x_iload 20 hB d_M_longest_18 rfl rfl ?_
    refine x_if_le 58 23 hB d_M_longest_20 (by decide) rfl (fun h20 => ?_) (fun h20 => ?_)
    · skip
      have k20 : i = 0 := (le0 (by omega)).mp h20
      refine x_iconst (v := nI 0) 59 hB d_M_longest_58 rfl (by decide) ?_
      refine x_top (v' := .int (bI (decide (0 < i ∧ g (2640 + i) = g (2640 + i - 1))))) (congrArg Value.int (bF0 (decide_eq_false (by omega)))) ?_
      exact J59 () trivial
    · skip
      have k20 : 0 < i := Nat.pos_of_ne_zero (fun h => h20 ((le0 (by omega)).mpr h))
      refine x_aload_n 24 hB d_M_longest_23 rfl rfl ?_
      refine x_get 27 hB 0 fg_M_22_5 rfl rfl d_M_longest_24 rfl ?_
      refine x_sipush (v := nI 2640) 30 hB d_M_longest_27 rfl (by decide) ?_
      refine x_iload_n 31 hB d_M_longest_30 rfl rfl ?_
      refine x_imul 32 hB d_M_longest_31 rfl ?_
      refine x_top (v' := .int (nI 2640)) (congrArg Value.int (by decide)) ?_
      refine x_iload 34 hB d_M_longest_32 rfl rfl ?_
      refine x_iadd 35 hB d_M_longest_34 rfl ?_
      refine x_top (v' := .int (nI (2640 + i))) (congrArg Value.int (nI_add _ _)) ?_
      refine x_iald 36 hB 1 rfl (by omega) (by decide) d_M_longest_35 rfl ?_
      refine x_aload_n 37 hB d_M_longest_36 rfl rfl ?_
      refine x_get 40 hB 0 fg_M_22_5 rfl rfl d_M_longest_37 rfl ?_
      refine x_sipush (v := nI 2640) 43 hB d_M_longest_40 rfl (by decide) ?_
      refine x_iload_n 44 hB d_M_longest_43 rfl rfl ?_
      refine x_imul 45 hB d_M_longest_44 rfl ?_
      refine x_top (v' := .int (nI 2640)) (congrArg Value.int (by decide)) ?_
      refine x_iload 47 hB d_M_longest_45 rfl rfl ?_
      refine x_iadd 48 hB d_M_longest_47 rfl ?_
      refine x_top (v' := .int (nI (2640 + i))) (congrArg Value.int (nI_add _ _)) ?_
      refine x_iconst (v := nI 1) 49 hB d_M_longest_48 rfl (by decide) ?_
      refine x_isub 50 hB d_M_longest_49 rfl ?_
      refine x_top (v' := .int (nI (2640 + i - 1))) (congrArg Value.int (pk_sub (by omega))) ?_
      refine x_iald 51 hB 1 rfl (by omega) (by decide) d_M_longest_50 rfl ?_
      refine x_icmp_ne 58 54 hB d_M_longest_51 (by decide) rfl (fun h51 => ?_) (fun h51 => ?_)
      · skip
        refine x_iconst (v := nI 0) 59 hB d_M_longest_58 rfl (by decide) ?_
        refine x_top (v' := .int (bI (decide (0 < i ∧ g (2640 + i) = g (2640 + i - 1))))) (congrArg Value.int (bF0 (decide_eq_false (fun h => h51 h.2)))) ?_
        exact J59 () trivial
      · skip
        refine x_iconst (v := nI 1) 55 hB d_M_longest_54 rfl (by decide) ?_
        refine x_top (v' := .int (bI (decide (0 < i ∧ g (2640 + i) = g (2640 + i - 1))))) (congrArg Value.int (bT (decide_eq_true ⟨k20, h51⟩))) ?_
        refine x_goto 59 hB d_M_longest_55 (by decide) ?_
        exact J59 () trivial
