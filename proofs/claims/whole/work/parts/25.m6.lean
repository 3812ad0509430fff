abbrev rm_M_take_0 : Room := { frames := 2, cells := 0, slots := 0, locals := 47 }
set_option maxHeartbeats 4000000 in
set_option maxRecDepth 100000 in
theorem c_M_take_0 (l : Launch) (E : xE) (hm ms mf mc my mb mz mp mo mm ml md me mg : Nat) (re : Int32) (wr : Nat) (sp rp fi : Bool) (gd : Nat) (la : Int32) (lst : Int64) (z0 z1 : Nat) (g : Nat → Int32) (h : Nat → Int32) (fo : Bool) (mk bd v : Nat) (o0 m0 b0 : Int32) (p0 p1 sl : Nat) (l0 : Int32) (hn : z1 ≤ 2640) (hp : p1 ≤ z1) (hc : z1 - p1 < 66) : xC l E y_M_take (.code y_M_take prog_10_method_24_code 4 (some .int)) rm_M_take_0 [.ref hm] [(hm, .inr (5, [.int (re), .ref ms, .ref mf, .ref mc, .ref my, .ref mb, .ref mz, .ref mp, .ref mo, .ref mm, .ref ml, .ref md, .int (nI (wr)), .int (bI sp), .int (bI rp), .int (bI fi), .int (nI (gd)), .ref me, .ref mg, .int (nI (v)), .int (nI 0), .long (lst), .int 0])), (mb, .inl (E.2 1, 5280, .inl (g))), (mz, .inl (E.2 1, 2, .inl (pr2 (nI (z0)) (nI (z1))))), (mp, .inl (E.2 1, 2, .inl (pr2 (nI (p0)) (nI (p1))))), (mo, .inl (E.2 3, 2, .inl (pr2 (o0) (bI fo)))), (mm, .inl (E.2 1, 2, .inl (pr2 (m0) (nI (mk))))), (ml, .inl (E.2 1, 2, .inl (pr2 (l0) (nI (sl))))), (md, .inl (E.2 1, 2, .inl (pr2 (b0) (nI (bd))))), (mg, .inl (E.2 1, 58, .inl (h)))] (xRet (some (.int (-1))) [(hm, .inr (5, [.int (nI 0), .ref ms, .ref mf, .ref mc, .ref my, .ref mb, .ref mz, .ref mp, .ref mo, .ref mm, .ref ml, .ref md, .int (nI (wr)), .int (bI sp), .int (bI rp), .int (bI fi), .int (nI (gd)), .ref me, .ref mg, .int (nI (v)), .int (nI 0), .long (lst), .int 0])), (mb, .inl (E.2 1, 5280, .inl (g))), (mz, .inl (E.2 1, 2, .inl (pr2 (nI (z0)) (nI (z1))))), (mp, .inl (E.2 1, 2, .inl (pr2 (nI (p0)) (nI (p1))))), (mo, .inl (E.2 3, 2, .inl (pr2 (o0) (bI fo)))), (mm, .inl (E.2 1, 2, .inl (pr2 (m0) (nI (mk))))), (ml, .inl (E.2 1, 2, .inl (pr2 (l0) (nI (sl))))), (md, .inl (E.2 1, 2, .inl (pr2 (b0) (nI (bd))))), (mg, .inl (E.2 1, 58, .inl (h)))]) := by
  refine x_of' (own := "LineCoderModel") (mn := "take") (lv := [(0, .ref hm)]) (plainFor_of_name (by decide)) rfl rfl (Nat.le_of_ble_eq_true rfl) rfl ?_
  intro p_ e_ s_ m_ ar_ be_ me_ c_ A_ hA hB
  refine x_aload_n 1 hB d_M_take_0 rfl rfl ?_
  refine x_iconst (v := nI 0) 2 hB d_M_take_1 rfl (by decide) ?_
  refine x_put 5 hB 0 (ws' := [(hm, .inr (5, [.int (nI 0), .ref ms, .ref mf, .ref mc, .ref my, .ref mb, .ref mz, .ref mp, .ref mo, .ref mm, .ref ml, .ref md, .int (nI (wr)), .int (bI sp), .int (bI rp), .int (bI fi), .int (nI (gd)), .ref me, .ref mg, .int (nI (v)), .int (nI 0), .long (lst), .int 0])), (mb, .inl (E.2 1, 5280, .inl (g))), (mz, .inl (E.2 1, 2, .inl (pr2 (nI (z0)) (nI (z1))))), (mp, .inl (E.2 1, 2, .inl (pr2 (nI (p0)) (nI (p1))))), (mo, .inl (E.2 3, 2, .inl (pr2 (o0) (bI fo)))), (mm, .inl (E.2 1, 2, .inl (pr2 (m0) (nI (mk))))), (ml, .inl (E.2 1, 2, .inl (pr2 (l0) (nI (sl))))), (md, .inl (E.2 1, 2, .inl (pr2 (b0) (nI (bd))))), (mg, .inl (E.2 1, 58, .inl (h)))]) fp_M_61_5 rfl (rfl) (rfl) (Nat.le_of_ble_eq_true rfl) rfl d_M_take_2 rfl ?_
  refine x_aload_n 6 hB d_M_take_5 rfl rfl ?_
  refine x_get 9 hB 0 fg_M_25_5 rfl rfl d_M_take_6 rfl ?_
  refine x_iconst (v := nI 1) 10 hB d_M_take_9 rfl (by decide) ?_
  refine x_iald 11 hB 2 rfl (by omega) (by decide) d_M_take_10 rfl ?_
  refine x_top (v' := .int (nI (z1))) rfl ?_
  refine x_aload_n 12 hB d_M_take_11 rfl rfl ?_
  refine x_get 15 hB 0 fg_M_28_5 rfl rfl d_M_take_12 rfl ?_
  refine x_iconst (v := nI 1) 16 hB d_M_take_15 rfl (by decide) ?_
  refine x_iald 17 hB 3 rfl (by omega) (by decide) d_M_take_16 rfl ?_
  refine x_top (v' := .int (nI (p1))) rfl ?_
  refine x_isub 18 hB d_M_take_17 rfl ?_
  refine x_top (v' := .int (nI (z1 - p1))) (congrArg Value.int (pk_sub (by omega))) ?_
  refine x_bipush (v := nI 66) 20 hB d_M_take_18 rfl (by decide) ?_
  refine x_icmp_ge 25 23 hB d_M_take_20 (by decide) rfl (fun hc => absurd hc (nI_ge (by omega) (by omega))) (fun _ => ?_)
  refine x_iconst (v := (-1 : Int32)) 24 hB d_M_take_23 rfl (by decide) ?_
  exact x_iret hB (w' := [(hm, .inr (5, [.int (nI 0), .ref ms, .ref mf, .ref mc, .ref my, .ref mb, .ref mz, .ref mp, .ref mo, .ref mm, .ref ml, .ref md, .int (nI (wr)), .int (bI sp), .int (bI rp), .int (bI fi), .int (nI (gd)), .ref me, .ref mg, .int (nI (v)), .int (nI 0), .long (lst), .int 0])), (mb, .inl (E.2 1, 5280, .inl (g))), (mz, .inl (E.2 1, 2, .inl (pr2 (nI (z0)) (nI (z1))))), (mp, .inl (E.2 1, 2, .inl (pr2 (nI (p0)) (nI (p1))))), (mo, .inl (E.2 3, 2, .inl (pr2 (o0) (bI fo)))), (mm, .inl (E.2 1, 2, .inl (pr2 (m0) (nI (mk))))), (ml, .inl (E.2 1, 2, .inl (pr2 (l0) (nI (sl))))), (md, .inl (E.2 1, 2, .inl (pr2 (b0) (nI (bd))))), (mg, .inl (E.2 1, 58, .inl (h)))]) hA [0, 1, 2, 3, 4, 5, 6, 7, 8] rfl rfl (xRet_i) (by decide) (by decide) d_M_take_24
abbrev rm_M_take_1 : Room := { frames := 2, cells := 0, slots := 0, locals := 47 }
set_option maxHeartbeats 4000000 in
set_option maxRecDepth 100000 in
theorem c_M_take_1 (l : Launch) (E : xE) (hm ms mf mc my mb mz mp mo mm ml md me mg : Nat) (re : Int32) (wr : Nat) (sp rp fi : Bool) (gd : Nat) (la : Int32) (lst : Int64) (z0 z1 : Nat) (g : Nat → Int32) (h : Nat → Int32) (fo : Bool) (mk bd v : Nat) (o0 m0 b0 : Int32) (p0 p1 sl : Nat) (l0 : Int32) (hn : z1 ≤ 2640) (hp : p1 ≤ z1) (hc : ¬ z1 - p1 < 66) (hi : g (2640 + p1) = g (2640 + p1 + 1)) : xC l E y_M_take (.code y_M_take prog_10_method_24_code 4 (some .int)) rm_M_take_1 [.ref hm] [(hm, .inr (5, [.int (re), .ref ms, .ref mf, .ref mc, .ref my, .ref mb, .ref mz, .ref mp, .ref mo, .ref mm, .ref ml, .ref md, .int (nI (wr)), .int (bI sp), .int (bI rp), .int (bI fi), .int (nI (gd)), .ref me, .ref mg, .int (nI (v)), .int (nI 0), .long (lst), .int 0])), (mb, .inl (E.2 1, 5280, .inl (g))), (mz, .inl (E.2 1, 2, .inl (pr2 (nI (z0)) (nI (z1))))), (mp, .inl (E.2 1, 2, .inl (pr2 (nI (p0)) (nI (p1))))), (mo, .inl (E.2 3, 2, .inl (pr2 (o0) (bI false)))), (mm, .inl (E.2 1, 2, .inl (pr2 (m0) (nI (mk))))), (ml, .inl (E.2 1, 2, .inl (pr2 (l0) (nI (sl))))), (md, .inl (E.2 1, 2, .inl (pr2 (b0) (nI (bd))))), (mg, .inl (E.2 1, 58, .inl (h)))] (xRet (some (.int (-3))) [(hm, .inr (5, [.int (nI 0), .ref ms, .ref mf, .ref mc, .ref my, .ref mb, .ref mz, .ref mp, .ref mo, .ref mm, .ref ml, .ref md, .int (nI (wr)), .int (bI sp), .int (bI rp), .int (bI fi), .int (nI (gd)), .ref me, .ref mg, .int (nI (v)), .int (nI 0), .long (lst), .int 0])), (mb, .inl (E.2 1, 5280, .inl (g))), (mz, .inl (E.2 1, 2, .inl (pr2 (nI (z0)) (nI (z1))))), (mp, .inl (E.2 1, 2, .inl (pr2 (nI (p0)) (nI (p1 + 1))))), (mo, .inl (E.2 3, 2, .inl (pr2 (o0) (bI false)))), (mm, .inl (E.2 1, 2, .inl (pr2 (m0) (nI 0)))), (ml, .inl (E.2 1, 2, .inl (pr2 (l0) (nI (sl + 1))))), (md, .inl (E.2 1, 2, .inl (pr2 (b0) (nI (bd))))), (mg, .inl (E.2 1, 58, .inl (h)))]) := by
  refine x_of' (own := "LineCoderModel") (mn := "take") (lv := [(0, .ref hm)]) (plainFor_of_name (by decide)) rfl rfl (Nat.le_of_ble_eq_true rfl) rfl ?_
  intro p_ e_ s_ m_ ar_ be_ me_ c_ A_ hA hB
  refine x_aload_n 1 hB d_M_take_0 rfl rfl ?_
  refine x_iconst (v := nI 0) 2 hB d_M_take_1 rfl (by decide) ?_
  refine x_put 5 hB 0 (ws' := [(hm, .inr (5, [.int (nI 0), .ref ms, .ref mf, .ref mc, .ref my, .ref mb, .ref mz, .ref mp, .ref mo, .ref mm, .ref ml, .ref md, .int (nI (wr)), .int (bI sp), .int (bI rp), .int (bI fi), .int (nI (gd)), .ref me, .ref mg, .int (nI (v)), .int (nI 0), .long (lst), .int 0])), (mb, .inl (E.2 1, 5280, .inl (g))), (mz, .inl (E.2 1, 2, .inl (pr2 (nI (z0)) (nI (z1))))), (mp, .inl (E.2 1, 2, .inl (pr2 (nI (p0)) (nI (p1))))), (mo, .inl (E.2 3, 2, .inl (pr2 (o0) (bI false)))), (mm, .inl (E.2 1, 2, .inl (pr2 (m0) (nI (mk))))), (ml, .inl (E.2 1, 2, .inl (pr2 (l0) (nI (sl))))), (md, .inl (E.2 1, 2, .inl (pr2 (b0) (nI (bd))))), (mg, .inl (E.2 1, 58, .inl (h)))]) fp_M_61_5 rfl (rfl) (rfl) (Nat.le_of_ble_eq_true rfl) rfl d_M_take_2 rfl ?_
  refine x_aload_n 6 hB d_M_take_5 rfl rfl ?_
  refine x_get 9 hB 0 fg_M_25_5 rfl rfl d_M_take_6 rfl ?_
  refine x_iconst (v := nI 1) 10 hB d_M_take_9 rfl (by decide) ?_
  refine x_iald 11 hB 2 rfl (by omega) (by decide) d_M_take_10 rfl ?_
  refine x_top (v' := .int (nI (z1))) rfl ?_
  refine x_aload_n 12 hB d_M_take_11 rfl rfl ?_
  refine x_get 15 hB 0 fg_M_28_5 rfl rfl d_M_take_12 rfl ?_
  refine x_iconst (v := nI 1) 16 hB d_M_take_15 rfl (by decide) ?_
  refine x_iald 17 hB 3 rfl (by omega) (by decide) d_M_take_16 rfl ?_
  refine x_top (v' := .int (nI (p1))) rfl ?_
  refine x_isub 18 hB d_M_take_17 rfl ?_
  refine x_top (v' := .int (nI (z1 - p1))) (congrArg Value.int (pk_sub (by omega))) ?_
  refine x_bipush (v := nI 66) 20 hB d_M_take_18 rfl (by decide) ?_
  refine x_icmp_ge 25 23 hB d_M_take_20 (by decide) rfl (fun _ => ?_) (fun hc => absurd (nI_le (by omega) (by omega)) hc)
  refine x_sipush (v := nI 2640) 28 hB d_M_take_25 rfl (by decide) ?_
  refine x_aload_n 29 hB d_M_take_28 rfl rfl ?_
  refine x_get 32 hB 0 fg_M_28_5 rfl rfl d_M_take_29 rfl ?_
  refine x_iconst (v := nI 1) 33 hB d_M_take_32 rfl (by decide) ?_
  refine x_iald 34 hB 3 rfl (by omega) (by decide) d_M_take_33 rfl ?_
  refine x_top (v' := .int (nI (p1))) rfl ?_
  refine x_iadd 35 hB d_M_take_34 rfl ?_
  refine x_top (v' := .int (nI (2640 + p1))) (congrArg Value.int (nI_add _ _)) ?_
  refine x_istore_n 36 hB d_M_take_35 rfl (by decide) (lv' := [(1, .int (nI (2640 + p1))), (0, .ref hm)]) rfl ?_
  refine x_aload_n 37 hB d_M_take_36 rfl rfl ?_
  refine x_get 40 hB 0 fg_M_22_5 rfl rfl d_M_take_37 rfl ?_
  refine x_iload_n 41 hB d_M_take_40 rfl rfl ?_
  refine x_iald 42 hB 1 rfl (by omega) (by decide) d_M_take_41 rfl ?_
  refine x_istore_n 43 hB d_M_take_42 rfl (by decide) (lv' := [(2, .int ((g) ((2640 + p1)))), (1, .int (nI (2640 + p1))), (0, .ref hm)]) rfl ?_
  refine x_iload_n 44 hB d_M_take_43 rfl rfl ?_
  refine x_aload_n 45 hB d_M_take_44 rfl rfl ?_
  refine x_get 48 hB 0 fg_M_22_5 rfl rfl d_M_take_45 rfl ?_
  refine x_iload_n 49 hB d_M_take_48 rfl rfl ?_
  refine x_iconst (v := nI 1) 50 hB d_M_take_49 rfl (by decide) ?_
  refine x_iadd 51 hB d_M_take_50 rfl ?_
  refine x_top (v' := .int (nI (2640 + p1 + 1))) (congrArg Value.int (nI_add _ _)) ?_
  refine x_iald 52 hB 1 rfl (by omega) (by decide) d_M_take_51 rfl ?_
  refine x_icmp_eq 59 55 hB d_M_take_52 (by decide) rfl (fun _ => ?_) (fun hc => absurd (hi) hc)
  refine x_iconst (v := nI 0) 60 hB d_M_take_59 rfl (by decide) ?_
  refine x_istore_n 61 hB d_M_take_60 rfl (by decide) (lv' := [(3, .int (nI 0)), (2, .int ((g) ((2640 + p1)))), (1, .int (nI (2640 + p1))), (0, .ref hm)]) rfl ?_
  refine x_aload_n 62 hB d_M_take_61 rfl rfl ?_
  refine x_get 65 hB 0 fg_M_31_5 rfl rfl d_M_take_62 rfl ?_
  refine x_iconst (v := nI 1) 66 hB d_M_take_65 rfl (by decide) ?_
  refine x_zald 67 hB 4 rfl (by omega) (by decide) d_M_take_66 rfl ?_
  refine x_top (v' := .int (bI false)) rfl ?_
  refine x_if_ne 104 70 hB d_M_take_67 (by decide) rfl (fun hc => absurd (rfl) hc) (fun _ => ?_)
  refine x_iload_n 71 hB d_M_take_70 rfl rfl ?_
  refine x_if_ne 104 74 hB d_M_take_71 (by decide) rfl (fun hc => absurd (by decide) hc) (fun _ => ?_)
  refine x_aload_n 75 hB d_M_take_74 rfl rfl ?_
  refine x_get 78 hB 0 fg_M_28_5 rfl rfl d_M_take_75 rfl ?_
  refine x_iconst (v := nI 1) 79 hB d_M_take_78 rfl (by decide) ?_
  refine x_dup2 80 hB d_M_take_79 rfl rfl rfl ?_
  refine x_iald 81 hB 3 rfl (by omega) (by decide) d_M_take_80 rfl ?_
  refine x_top (v' := .int (nI (p1))) rfl ?_
  refine x_iconst (v := nI 1) 82 hB d_M_take_81 rfl (by decide) ?_
  refine x_iadd 83 hB d_M_take_82 rfl ?_
  refine x_top (v' := .int (nI (p1 + 1))) (congrArg Value.int (nI_add p1 1)) ?_
  refine x_iast 84 hB 3 (ws' := [(hm, .inr (5, [.int (nI 0), .ref ms, .ref mf, .ref mc, .ref my, .ref mb, .ref mz, .ref mp, .ref mo, .ref mm, .ref ml, .ref md, .int (nI (wr)), .int (bI sp), .int (bI rp), .int (bI fi), .int (nI (gd)), .ref me, .ref mg, .int (nI (v)), .int (nI 0), .long (lst), .int 0])), (mb, .inl (E.2 1, 5280, .inl (g))), (mz, .inl (E.2 1, 2, .inl (pr2 (nI (z0)) (nI (z1))))), (mp, .inl (E.2 1, 2, .inl (pr2 (nI (p0)) (nI (p1 + 1))))), (mo, .inl (E.2 3, 2, .inl (pr2 (o0) (bI false)))), (mm, .inl (E.2 1, 2, .inl (pr2 (m0) (nI (mk))))), (ml, .inl (E.2 1, 2, .inl (pr2 (l0) (nI (sl))))), (md, .inl (E.2 1, 2, .inl (pr2 (b0) (nI (bd))))), (mg, .inl (E.2 1, 58, .inl (h)))]) rfl (by omega) (by decide) (x' := nI (p1 + 1)) (rfl) (by rw [pr2_1]; rfl) d_M_take_83 rfl ?_
  refine x_aload_n 85 hB d_M_take_84 rfl rfl ?_
  refine x_get 88 hB 0 fg_M_38_5 rfl rfl d_M_take_85 rfl ?_
  refine x_iconst (v := nI 1) 89 hB d_M_take_88 rfl (by decide) ?_
  refine x_dup2 90 hB d_M_take_89 rfl rfl rfl ?_
  refine x_iald 91 hB 6 rfl (by omega) (by decide) d_M_take_90 rfl ?_
  refine x_top (v' := .int (nI (sl))) rfl ?_
  refine x_iconst (v := nI 1) 92 hB d_M_take_91 rfl (by decide) ?_
  refine x_iadd 93 hB d_M_take_92 rfl ?_
  refine x_top (v' := .int (nI (sl + 1))) (congrArg Value.int (nI_add sl 1)) ?_
  refine x_iast 94 hB 6 (ws' := [(hm, .inr (5, [.int (nI 0), .ref ms, .ref mf, .ref mc, .ref my, .ref mb, .ref mz, .ref mp, .ref mo, .ref mm, .ref ml, .ref md, .int (nI (wr)), .int (bI sp), .int (bI rp), .int (bI fi), .int (nI (gd)), .ref me, .ref mg, .int (nI (v)), .int (nI 0), .long (lst), .int 0])), (mb, .inl (E.2 1, 5280, .inl (g))), (mz, .inl (E.2 1, 2, .inl (pr2 (nI (z0)) (nI (z1))))), (mp, .inl (E.2 1, 2, .inl (pr2 (nI (p0)) (nI (p1 + 1))))), (mo, .inl (E.2 3, 2, .inl (pr2 (o0) (bI false)))), (mm, .inl (E.2 1, 2, .inl (pr2 (m0) (nI (mk))))), (ml, .inl (E.2 1, 2, .inl (pr2 (l0) (nI (sl + 1))))), (md, .inl (E.2 1, 2, .inl (pr2 (b0) (nI (bd))))), (mg, .inl (E.2 1, 58, .inl (h)))]) rfl (by omega) (by decide) (x' := nI (sl + 1)) (rfl) (by rw [pr2_1]; rfl) d_M_take_93 rfl ?_
  refine x_aload_n 95 hB d_M_take_94 rfl rfl ?_
  refine x_get 98 hB 0 fg_M_35_5 rfl rfl d_M_take_95 rfl ?_
  refine x_iconst (v := nI 1) 99 hB d_M_take_98 rfl (by decide) ?_
  refine x_iconst (v := nI 0) 100 hB d_M_take_99 rfl (by decide) ?_
  refine x_iast 101 hB 5 (ws' := [(hm, .inr (5, [.int (nI 0), .ref ms, .ref mf, .ref mc, .ref my, .ref mb, .ref mz, .ref mp, .ref mo, .ref mm, .ref ml, .ref md, .int (nI (wr)), .int (bI sp), .int (bI rp), .int (bI fi), .int (nI (gd)), .ref me, .ref mg, .int (nI (v)), .int (nI 0), .long (lst), .int 0])), (mb, .inl (E.2 1, 5280, .inl (g))), (mz, .inl (E.2 1, 2, .inl (pr2 (nI (z0)) (nI (z1))))), (mp, .inl (E.2 1, 2, .inl (pr2 (nI (p0)) (nI (p1 + 1))))), (mo, .inl (E.2 3, 2, .inl (pr2 (o0) (bI false)))), (mm, .inl (E.2 1, 2, .inl (pr2 (m0) (nI 0)))), (ml, .inl (E.2 1, 2, .inl (pr2 (l0) (nI (sl + 1))))), (md, .inl (E.2 1, 2, .inl (pr2 (b0) (nI (bd))))), (mg, .inl (E.2 1, 58, .inl (h)))]) rfl (by omega) (by decide) (x' := nI 0) (rfl) (by rw [pr2_1]; rfl) d_M_take_100 rfl ?_
  refine x_bipush (v := (-3 : Int32)) 103 hB d_M_take_101 rfl (by decide) ?_
  exact x_iret hB (w' := [(hm, .inr (5, [.int (nI 0), .ref ms, .ref mf, .ref mc, .ref my, .ref mb, .ref mz, .ref mp, .ref mo, .ref mm, .ref ml, .ref md, .int (nI (wr)), .int (bI sp), .int (bI rp), .int (bI fi), .int (nI (gd)), .ref me, .ref mg, .int (nI (v)), .int (nI 0), .long (lst), .int 0])), (mb, .inl (E.2 1, 5280, .inl (g))), (mz, .inl (E.2 1, 2, .inl (pr2 (nI (z0)) (nI (z1))))), (mp, .inl (E.2 1, 2, .inl (pr2 (nI (p0)) (nI (p1 + 1))))), (mo, .inl (E.2 3, 2, .inl (pr2 (o0) (bI false)))), (mm, .inl (E.2 1, 2, .inl (pr2 (m0) (nI 0)))), (ml, .inl (E.2 1, 2, .inl (pr2 (l0) (nI (sl + 1))))), (md, .inl (E.2 1, 2, .inl (pr2 (b0) (nI (bd))))), (mg, .inl (E.2 1, 58, .inl (h)))]) hA [0, 1, 2, 3, 4, 5, 6, 7, 8] rfl rfl (xRet_i) (by decide) (by decide) d_M_take_103
abbrev rm_M_take_2 : Room := { frames := 2, cells := 0, slots := 0, locals := 47 }
set_option maxHeartbeats 4000000 in
set_option maxRecDepth 100000 in
theorem c_M_take_2 (l : Launch) (E : xE) (hm ms mf mc my mb mz mp mo mm ml md me mg : Nat) (re : Int32) (wr : Nat) (sp rp fi : Bool) (gd : Nat) (la : Int32) (lst : Int64) (z0 z1 : Nat) (g : Nat → Int32) (h : Nat → Int32) (fo : Bool) (mk bd v : Nat) (o0 m0 b0 : Int32) (p0 p1 sl : Nat) (l0 : Int32) (hn : z1 ≤ 2640) (hp : p1 ≤ z1) (hc : ¬ z1 - p1 < 66) (hi : ¬ g (2640 + p1) = g (2640 + p1 + 1)) (hk8 : mk < 8) : xC l E y_M_take (.code y_M_take prog_10_method_24_code 4 (some .int)) rm_M_take_2 [.ref hm] [(hm, .inr (5, [.int (re), .ref ms, .ref mf, .ref mc, .ref my, .ref mb, .ref mz, .ref mp, .ref mo, .ref mm, .ref ml, .ref md, .int (nI (wr)), .int (bI sp), .int (bI rp), .int (bI fi), .int (nI (gd)), .ref me, .ref mg, .int (nI (v)), .int (nI 0), .long (lst), .int 0])), (mb, .inl (E.2 1, 5280, .inl (g))), (mz, .inl (E.2 1, 2, .inl (pr2 (nI (z0)) (nI (z1))))), (mp, .inl (E.2 1, 2, .inl (pr2 (nI (p0)) (nI (p1))))), (mo, .inl (E.2 3, 2, .inl (pr2 (o0) (bI false)))), (mm, .inl (E.2 1, 2, .inl (pr2 (m0) (nI (mk))))), (ml, .inl (E.2 1, 2, .inl (pr2 (l0) (nI (sl))))), (md, .inl (E.2 1, 2, .inl (pr2 (b0) (nI (bd))))), (mg, .inl (E.2 1, 58, .inl (h)))] (xRet (some (.int (g (2640 + p1)))) [(hm, .inr (5, [.int (nI 0), .ref ms, .ref mf, .ref mc, .ref my, .ref mb, .ref mz, .ref mp, .ref mo, .ref mm, .ref ml, .ref md, .int (nI (wr)), .int (bI sp), .int (bI rp), .int (bI fi), .int (nI (gd)), .ref me, .ref mg, .int (if 8 ≤ mk + 1 then nI 0 else nI (v)), .int (nI 0), .long ((twG g (2640 + p1 + 2) h 64).2), .int 0])), (mb, .inl (E.2 1, 5280, .inl (g))), (mz, .inl (E.2 1, 2, .inl (pr2 (nI (z0)) (nI (z1))))), (mp, .inl (E.2 1, 2, .inl (pr2 (nI (p0)) (nI (p1 + 66))))), (mo, .inl (E.2 3, 2, .inl (pr2 (o0) (bI (decide (8 ≤ mk + 1)))))), (mm, .inl (E.2 1, 2, .inl (pr2 (m0) (nI (if 8 ≤ mk + 1 then 0 else mk + 1))))), (ml, .inl (E.2 1, 2, .inl (pr2 (l0) (nI (sl))))), (md, .inl (E.2 1, 2, .inl (pr2 (b0) (nI (bd))))), (mg, .inl (E.2 1, 58, .inl ((twG g (2640 + p1 + 2) h 64).1)))]) := by
  refine x_of' (own := "LineCoderModel") (mn := "take") (lv := [(0, .ref hm)]) (plainFor_of_name (by decide)) rfl rfl (Nat.le_of_ble_eq_true rfl) rfl ?_
  intro p_ e_ s_ m_ ar_ be_ me_ c_ A_ hA hB
  refine x_aload_n 1 hB d_M_take_0 rfl rfl ?_
  refine x_iconst (v := nI 0) 2 hB d_M_take_1 rfl (by decide) ?_
  refine x_put 5 hB 0 (ws' := [(hm, .inr (5, [.int (nI 0), .ref ms, .ref mf, .ref mc, .ref my, .ref mb, .ref mz, .ref mp, .ref mo, .ref mm, .ref ml, .ref md, .int (nI (wr)), .int (bI sp), .int (bI rp), .int (bI fi), .int (nI (gd)), .ref me, .ref mg, .int (nI (v)), .int (nI 0), .long (lst), .int 0])), (mb, .inl (E.2 1, 5280, .inl (g))), (mz, .inl (E.2 1, 2, .inl (pr2 (nI (z0)) (nI (z1))))), (mp, .inl (E.2 1, 2, .inl (pr2 (nI (p0)) (nI (p1))))), (mo, .inl (E.2 3, 2, .inl (pr2 (o0) (bI false)))), (mm, .inl (E.2 1, 2, .inl (pr2 (m0) (nI (mk))))), (ml, .inl (E.2 1, 2, .inl (pr2 (l0) (nI (sl))))), (md, .inl (E.2 1, 2, .inl (pr2 (b0) (nI (bd))))), (mg, .inl (E.2 1, 58, .inl (h)))]) fp_M_61_5 rfl (rfl) (rfl) (Nat.le_of_ble_eq_true rfl) rfl d_M_take_2 rfl ?_
  refine x_aload_n 6 hB d_M_take_5 rfl rfl ?_
  refine x_get 9 hB 0 fg_M_25_5 rfl rfl d_M_take_6 rfl ?_
  refine x_iconst (v := nI 1) 10 hB d_M_take_9 rfl (by decide) ?_
  refine x_iald 11 hB 2 rfl (by omega) (by decide) d_M_take_10 rfl ?_
  refine x_top (v' := .int (nI (z1))) rfl ?_
  refine x_aload_n 12 hB d_M_take_11 rfl rfl ?_
  refine x_get 15 hB 0 fg_M_28_5 rfl rfl d_M_take_12 rfl ?_
  refine x_iconst (v := nI 1) 16 hB d_M_take_15 rfl (by decide) ?_
  refine x_iald 17 hB 3 rfl (by omega) (by decide) d_M_take_16 rfl ?_
  refine x_top (v' := .int (nI (p1))) rfl ?_
  refine x_isub 18 hB d_M_take_17 rfl ?_
  refine x_top (v' := .int (nI (z1 - p1))) (congrArg Value.int (pk_sub (by omega))) ?_
  refine x_bipush (v := nI 66) 20 hB d_M_take_18 rfl (by decide) ?_
  refine x_icmp_ge 25 23 hB d_M_take_20 (by decide) rfl (fun _ => ?_) (fun hc => absurd (nI_le (by omega) (by omega)) hc)
  refine x_sipush (v := nI 2640) 28 hB d_M_take_25 rfl (by decide) ?_
  refine x_aload_n 29 hB d_M_take_28 rfl rfl ?_
  refine x_get 32 hB 0 fg_M_28_5 rfl rfl d_M_take_29 rfl ?_
  refine x_iconst (v := nI 1) 33 hB d_M_take_32 rfl (by decide) ?_
  refine x_iald 34 hB 3 rfl (by omega) (by decide) d_M_take_33 rfl ?_
  refine x_top (v' := .int (nI (p1))) rfl ?_
  refine x_iadd 35 hB d_M_take_34 rfl ?_
  refine x_top (v' := .int (nI (2640 + p1))) (congrArg Value.int (nI_add _ _)) ?_
  refine x_istore_n 36 hB d_M_take_35 rfl (by decide) (lv' := [(1, .int (nI (2640 + p1))), (0, .ref hm)]) rfl ?_
  refine x_aload_n 37 hB d_M_take_36 rfl rfl ?_
  refine x_get 40 hB 0 fg_M_22_5 rfl rfl d_M_take_37 rfl ?_
  refine x_iload_n 41 hB d_M_take_40 rfl rfl ?_
  refine x_iald 42 hB 1 rfl (by omega) (by decide) d_M_take_41 rfl ?_
  refine x_istore_n 43 hB d_M_take_42 rfl (by decide) (lv' := [(2, .int ((g) ((2640 + p1)))), (1, .int (nI (2640 + p1))), (0, .ref hm)]) rfl ?_
  refine x_iload_n 44 hB d_M_take_43 rfl rfl ?_
  refine x_aload_n 45 hB d_M_take_44 rfl rfl ?_
  refine x_get 48 hB 0 fg_M_22_5 rfl rfl d_M_take_45 rfl ?_
  refine x_iload_n 49 hB d_M_take_48 rfl rfl ?_
  refine x_iconst (v := nI 1) 50 hB d_M_take_49 rfl (by decide) ?_
  refine x_iadd 51 hB d_M_take_50 rfl ?_
  refine x_top (v' := .int (nI (2640 + p1 + 1))) (congrArg Value.int (nI_add _ _)) ?_
  refine x_iald 52 hB 1 rfl (by omega) (by decide) d_M_take_51 rfl ?_
  refine x_icmp_eq 59 55 hB d_M_take_52 (by decide) rfl (fun hc => absurd hc (hi)) (fun _ => ?_)
  refine x_iconst (v := nI 1) 56 hB d_M_take_55 rfl (by decide) ?_
  refine x_goto 60 hB d_M_take_56 (by decide) ?_
  refine x_istore_n 61 hB d_M_take_60 rfl (by decide) (lv' := [(3, .int (nI 1)), (2, .int ((g) ((2640 + p1)))), (1, .int (nI (2640 + p1))), (0, .ref hm)]) rfl ?_
  refine x_aload_n 62 hB d_M_take_61 rfl rfl ?_
  refine x_get 65 hB 0 fg_M_31_5 rfl rfl d_M_take_62 rfl ?_
  refine x_iconst (v := nI 1) 66 hB d_M_take_65 rfl (by decide) ?_
  refine x_zald 67 hB 4 rfl (by omega) (by decide) d_M_take_66 rfl ?_
  refine x_top (v' := .int (bI false)) rfl ?_
  refine x_if_ne 104 70 hB d_M_take_67 (by decide) rfl (fun hc => absurd (rfl) hc) (fun _ => ?_)
  refine x_iload_n 71 hB d_M_take_70 rfl rfl ?_
  refine x_if_ne 104 74 hB d_M_take_71 (by decide) rfl (fun _ => ?_) (fun hc => absurd hc (by decide))
  refine x_aload_n 105 hB d_M_take_104 rfl rfl ?_
  refine x_iload_n 106 hB d_M_take_105 rfl rfl ?_
  refine x_iconst (v := nI 2) 107 hB d_M_take_106 rfl (by decide) ?_
  refine x_iadd 108 hB d_M_take_107 rfl ?_
  refine x_top (v' := .int (nI (2640 + p1 + 2))) (congrArg Value.int (nI_add _ _)) ?_
  refine x_callD (k' := 0) (n' := 0) (rest := []) (wr := [(mz, .inl (E.2 1, 2, .inl (pr2 (nI (z0)) (nI (z1))))), (mp, .inl (E.2 1, 2, .inl (pr2 (nI (p0)) (nI (p1))))), (mo, .inl (E.2 3, 2, .inl (pr2 (o0) (bI false)))), (mm, .inl (E.2 1, 2, .inl (pr2 (m0) (nI (mk))))), (ml, .inl (E.2 1, 2, .inl (pr2 (l0) (nI (sl))))), (md, .inl (E.2 1, 2, .inl (pr2 (b0) (nI (bd)))))]) (ws' := [(mz, .inl (E.2 1, 2, .inl (pr2 (nI (z0)) (nI (z1))))), (mp, .inl (E.2 1, 2, .inl (pr2 (nI (p0)) (nI (p1))))), (mo, .inl (E.2 3, 2, .inl (pr2 (o0) (bI false)))), (mm, .inl (E.2 1, 2, .inl (pr2 (m0) (nI (mk))))), (ml, .inl (E.2 1, 2, .inl (pr2 (l0) (nI (sl))))), (md, .inl (E.2 1, 2, .inl (pr2 (b0) (nI (bd))))), (hm, .inr (5, [.int (nI 0), .ref ms, .ref mf, .ref mc, .ref my, .ref mb, .ref mz, .ref mp, .ref mo, .ref mm, .ref ml, .ref md, .int (nI (wr)), .int (bI sp), .int (bI rp), .int (bI fi), .int (nI (gd)), .ref me, .ref mg, .int (nI (v)), .int (nI 0), .long ((twG g (2640 + p1 + 2) h 64).2), .int 0])), (mb, .inl (E.2 1, 5280, .inl (g))), (mg, .inl (E.2 1, 58, .inl ((twG g (2640 + p1 + 2) h 64).1)))]) (st' := []) 111 hB (x_pfV (av := [.int (nI (2640 + p1 + 2))]) (q0 := 0) hB w_757 xHd_code w_754 w_756 s_M_takeWord rfl rfl nm_M_takeWord rfl d_M_take_108) (c_M_takeWord l E hm ms mf mc my mb mz mp mo mm ml md me mg (nI 0) (wr) (sp) (rp) (fi) (gd) (nI (v)) (lst) g h (2640 + p1 + 2) (by omega)) w_757 xHd_code w_7 [0, 1, 8] [2, 3, 4, 5, 6, 7] rfl rfl rfl rfl (by decide) ⟨by decide, by decide⟩ ⟨by decide, by decide⟩ rfl rfl (Nat.le_of_ble_eq_true rfl) d_M_take_108 rfl rfl rfl ?_
  refine x_aload_n 112 hB d_M_take_111 rfl rfl ?_
  refine x_get 115 hB 6 fg_M_28_5 rfl rfl d_M_take_112 rfl ?_
  refine x_iconst (v := nI 1) 116 hB d_M_take_115 rfl (by decide) ?_
  refine x_aload_n 117 hB d_M_take_116 rfl rfl ?_
  refine x_get 120 hB 6 fg_M_28_5 rfl rfl d_M_take_117 rfl ?_
  refine x_iconst (v := nI 1) 121 hB d_M_take_120 rfl (by decide) ?_
  refine x_iald 122 hB 1 rfl (by omega) (by decide) d_M_take_121 rfl ?_
  refine x_top (v' := .int (nI (p1))) rfl ?_
  refine x_bipush (v := nI 66) 124 hB d_M_take_122 rfl (by decide) ?_
  refine x_iadd 125 hB d_M_take_124 rfl ?_
  refine x_top (v' := .int (nI (p1 + 66))) (congrArg Value.int (nI_add p1 66)) ?_
  refine x_iast 126 hB 1 (ws' := [(mz, .inl (E.2 1, 2, .inl (pr2 (nI (z0)) (nI (z1))))), (mp, .inl (E.2 1, 2, .inl (pr2 (nI (p0)) (nI (p1 + 66))))), (mo, .inl (E.2 3, 2, .inl (pr2 (o0) (bI false)))), (mm, .inl (E.2 1, 2, .inl (pr2 (m0) (nI (mk))))), (ml, .inl (E.2 1, 2, .inl (pr2 (l0) (nI (sl))))), (md, .inl (E.2 1, 2, .inl (pr2 (b0) (nI (bd))))), (hm, .inr (5, [.int (nI 0), .ref ms, .ref mf, .ref mc, .ref my, .ref mb, .ref mz, .ref mp, .ref mo, .ref mm, .ref ml, .ref md, .int (nI (wr)), .int (bI sp), .int (bI rp), .int (bI fi), .int (nI (gd)), .ref me, .ref mg, .int (nI (v)), .int (nI 0), .long ((twG g (2640 + p1 + 2) h 64).2), .int 0])), (mb, .inl (E.2 1, 5280, .inl (g))), (mg, .inl (E.2 1, 58, .inl ((twG g (2640 + p1 + 2) h 64).1)))]) rfl (by omega) (by decide) (x' := nI (p1 + 66)) (rfl) (by rw [pr2_1]; rfl) d_M_take_125 rfl ?_
  refine x_aload_n 127 hB d_M_take_126 rfl rfl ?_
  refine x_get 130 hB 6 fg_M_31_5 rfl rfl d_M_take_127 rfl ?_
  refine x_iconst (v := nI 1) 131 hB d_M_take_130 rfl (by decide) ?_
  refine x_zald 132 hB 2 rfl (by omega) (by decide) d_M_take_131 rfl ?_
  refine x_top (v' := .int (bI false)) rfl ?_
  refine x_if_ne 177 135 hB d_M_take_132 (by decide) rfl (fun hc => absurd (rfl) hc) (fun _ => ?_)
  refine x_aload_n 136 hB d_M_take_135 rfl rfl ?_
  refine x_get 139 hB 6 fg_M_35_5 rfl rfl d_M_take_136 rfl ?_
  refine x_iconst (v := nI 1) 140 hB d_M_take_139 rfl (by decide) ?_
  refine x_dup2 141 hB d_M_take_140 rfl rfl rfl ?_
  refine x_iald 142 hB 3 rfl (by omega) (by decide) d_M_take_141 rfl ?_
  refine x_top (v' := .int (nI (mk))) rfl ?_
  refine x_iconst (v := nI 1) 143 hB d_M_take_142 rfl (by decide) ?_
  refine x_iadd 144 hB d_M_take_143 rfl ?_
  refine x_top (v' := .int (nI (mk + 1))) (congrArg Value.int (nI_add mk 1)) ?_
  refine x_iast 145 hB 3 (ws' := [(mz, .inl (E.2 1, 2, .inl (pr2 (nI (z0)) (nI (z1))))), (mp, .inl (E.2 1, 2, .inl (pr2 (nI (p0)) (nI (p1 + 66))))), (mo, .inl (E.2 3, 2, .inl (pr2 (o0) (bI false)))), (mm, .inl (E.2 1, 2, .inl (pr2 (m0) (nI (mk + 1))))), (ml, .inl (E.2 1, 2, .inl (pr2 (l0) (nI (sl))))), (md, .inl (E.2 1, 2, .inl (pr2 (b0) (nI (bd))))), (hm, .inr (5, [.int (nI 0), .ref ms, .ref mf, .ref mc, .ref my, .ref mb, .ref mz, .ref mp, .ref mo, .ref mm, .ref ml, .ref md, .int (nI (wr)), .int (bI sp), .int (bI rp), .int (bI fi), .int (nI (gd)), .ref me, .ref mg, .int (nI (v)), .int (nI 0), .long ((twG g (2640 + p1 + 2) h 64).2), .int 0])), (mb, .inl (E.2 1, 5280, .inl (g))), (mg, .inl (E.2 1, 58, .inl ((twG g (2640 + p1 + 2) h 64).1)))]) rfl (by omega) (by decide) (x' := nI (mk + 1)) (rfl) (by rw [pr2_1]; rfl) d_M_take_144 rfl ?_
  refine x_aload_n 146 hB d_M_take_145 rfl rfl ?_
  refine x_get 149 hB 6 fg_M_35_5 rfl rfl d_M_take_146 rfl ?_
  refine x_iconst (v := nI 1) 150 hB d_M_take_149 rfl (by decide) ?_
  refine x_iald 151 hB 3 rfl (by omega) (by decide) d_M_take_150 rfl ?_
  refine x_top (v' := .int (nI (mk + 1))) rfl ?_
  refine x_bipush (v := nI 8) 153 hB d_M_take_151 rfl (by decide) ?_
  refine x_icmp_ne 175 156 hB d_M_take_153 (by decide) rfl (fun h153 => ?_) (fun h153 => ?_)
  · skip
    have k153 : ¬ (mk + 1) = 8 := fun h => h153 ((nI_eq (by omega) (by omega)).mpr h)
    refine x_iload_n 176 hB d_M_take_175 rfl rfl ?_
    exact x_iret hB (w' := [(hm, .inr (5, [.int (nI 0), .ref ms, .ref mf, .ref mc, .ref my, .ref mb, .ref mz, .ref mp, .ref mo, .ref mm, .ref ml, .ref md, .int (nI (wr)), .int (bI sp), .int (bI rp), .int (bI fi), .int (nI (gd)), .ref me, .ref mg, .int (nI (v)), .int (nI 0), .long ((twG g (2640 + p1 + 2) h 64).2), .int 0])), (mb, .inl (E.2 1, 5280, .inl (g))), (mz, .inl (E.2 1, 2, .inl (pr2 (nI (z0)) (nI (z1))))), (mp, .inl (E.2 1, 2, .inl (pr2 (nI (p0)) (nI (p1 + 66))))), (mo, .inl (E.2 3, 2, .inl (pr2 (o0) (bI false)))), (mm, .inl (E.2 1, 2, .inl (pr2 (m0) (nI (mk + 1))))), (ml, .inl (E.2 1, 2, .inl (pr2 (l0) (nI (sl))))), (md, .inl (E.2 1, 2, .inl (pr2 (b0) (nI (bd))))), (mg, .inl (E.2 1, 58, .inl ((twG g (2640 + p1 + 2) h 64).1)))]) hA [6, 7, 0, 1, 2, 3, 4, 5, 8] rfl rfl (⟨rfl, by rw [if_neg (by omega), if_neg (by omega), decide_eq_false (by omega)]⟩) (by decide) (by decide) d_M_take_176
  · skip
    have k153 : (mk + 1) = 8 := (nI_eq (by omega) (by omega)).mp h153
    refine x_aload_n 157 hB d_M_take_156 rfl rfl ?_
    refine x_get 160 hB 6 fg_M_31_5 rfl rfl d_M_take_157 rfl ?_
    refine x_iconst (v := nI 1) 161 hB d_M_take_160 rfl (by decide) ?_
    refine x_iconst (v := nI 1) 162 hB d_M_take_161 rfl (by decide) ?_
    refine x_zast 163 hB 2 (ws' := [(mz, .inl (E.2 1, 2, .inl (pr2 (nI (z0)) (nI (z1))))), (mp, .inl (E.2 1, 2, .inl (pr2 (nI (p0)) (nI (p1 + 66))))), (mo, .inl (E.2 3, 2, .inl (pr2 (o0) (nI 1)))), (mm, .inl (E.2 1, 2, .inl (pr2 (m0) (nI (mk + 1))))), (ml, .inl (E.2 1, 2, .inl (pr2 (l0) (nI (sl))))), (md, .inl (E.2 1, 2, .inl (pr2 (b0) (nI (bd))))), (hm, .inr (5, [.int (nI 0), .ref ms, .ref mf, .ref mc, .ref my, .ref mb, .ref mz, .ref mp, .ref mo, .ref mm, .ref ml, .ref md, .int (nI (wr)), .int (bI sp), .int (bI rp), .int (bI fi), .int (nI (gd)), .ref me, .ref mg, .int (nI (v)), .int (nI 0), .long ((twG g (2640 + p1 + 2) h 64).2), .int 0])), (mb, .inl (E.2 1, 5280, .inl (g))), (mg, .inl (E.2 1, 58, .inl ((twG g (2640 + p1 + 2) h 64).1)))]) rfl (by omega) (by decide) (x' := nI 1) (by decide) (by rw [pr2_1]; rfl) d_M_take_162 rfl ?_
    refine x_aload_n 164 hB d_M_take_163 rfl rfl ?_
    refine x_iconst (v := nI 0) 165 hB d_M_take_164 rfl (by decide) ?_
    refine x_put 168 hB 6 (ws' := [(mz, .inl (E.2 1, 2, .inl (pr2 (nI (z0)) (nI (z1))))), (mp, .inl (E.2 1, 2, .inl (pr2 (nI (p0)) (nI (p1 + 66))))), (mo, .inl (E.2 3, 2, .inl (pr2 (o0) (nI 1)))), (mm, .inl (E.2 1, 2, .inl (pr2 (m0) (nI (mk + 1))))), (ml, .inl (E.2 1, 2, .inl (pr2 (l0) (nI (sl))))), (md, .inl (E.2 1, 2, .inl (pr2 (b0) (nI (bd))))), (hm, .inr (5, [.int (nI 0), .ref ms, .ref mf, .ref mc, .ref my, .ref mb, .ref mz, .ref mp, .ref mo, .ref mm, .ref ml, .ref md, .int (nI (wr)), .int (bI sp), .int (bI rp), .int (bI fi), .int (nI (gd)), .ref me, .ref mg, .int (nI 0), .int (nI 0), .long ((twG g (2640 + p1 + 2) h 64).2), .int 0])), (mb, .inl (E.2 1, 5280, .inl (g))), (mg, .inl (E.2 1, 58, .inl ((twG g (2640 + p1 + 2) h 64).1)))]) fp_M_81_5 rfl (rfl) (rfl) (Nat.le_of_ble_eq_true rfl) rfl d_M_take_165 rfl ?_
    refine x_aload_n 169 hB d_M_take_168 rfl rfl ?_
    refine x_get 172 hB 6 fg_M_35_5 rfl rfl d_M_take_169 rfl ?_
    refine x_iconst (v := nI 1) 173 hB d_M_take_172 rfl (by decide) ?_
    refine x_iconst (v := nI 0) 174 hB d_M_take_173 rfl (by decide) ?_
    refine x_iast 175 hB 3 (ws' := [(mz, .inl (E.2 1, 2, .inl (pr2 (nI (z0)) (nI (z1))))), (mp, .inl (E.2 1, 2, .inl (pr2 (nI (p0)) (nI (p1 + 66))))), (mo, .inl (E.2 3, 2, .inl (pr2 (o0) (nI 1)))), (mm, .inl (E.2 1, 2, .inl (pr2 (m0) (nI 0)))), (ml, .inl (E.2 1, 2, .inl (pr2 (l0) (nI (sl))))), (md, .inl (E.2 1, 2, .inl (pr2 (b0) (nI (bd))))), (hm, .inr (5, [.int (nI 0), .ref ms, .ref mf, .ref mc, .ref my, .ref mb, .ref mz, .ref mp, .ref mo, .ref mm, .ref ml, .ref md, .int (nI (wr)), .int (bI sp), .int (bI rp), .int (bI fi), .int (nI (gd)), .ref me, .ref mg, .int (nI 0), .int (nI 0), .long ((twG g (2640 + p1 + 2) h 64).2), .int 0])), (mb, .inl (E.2 1, 5280, .inl (g))), (mg, .inl (E.2 1, 58, .inl ((twG g (2640 + p1 + 2) h 64).1)))]) rfl (by omega) (by decide) (x' := nI 0) (rfl) (by rw [pr2_1]; rfl) d_M_take_174 rfl ?_
    refine x_iload_n 176 hB d_M_take_175 rfl rfl ?_
    exact x_iret hB (w' := [(hm, .inr (5, [.int (nI 0), .ref ms, .ref mf, .ref mc, .ref my, .ref mb, .ref mz, .ref mp, .ref mo, .ref mm, .ref ml, .ref md, .int (nI (wr)), .int (bI sp), .int (bI rp), .int (bI fi), .int (nI (gd)), .ref me, .ref mg, .int (nI 0), .int (nI 0), .long ((twG g (2640 + p1 + 2) h 64).2), .int 0])), (mb, .inl (E.2 1, 5280, .inl (g))), (mz, .inl (E.2 1, 2, .inl (pr2 (nI (z0)) (nI (z1))))), (mp, .inl (E.2 1, 2, .inl (pr2 (nI (p0)) (nI (p1 + 66))))), (mo, .inl (E.2 3, 2, .inl (pr2 (o0) (nI 1)))), (mm, .inl (E.2 1, 2, .inl (pr2 (m0) (nI 0)))), (ml, .inl (E.2 1, 2, .inl (pr2 (l0) (nI (sl))))), (md, .inl (E.2 1, 2, .inl (pr2 (b0) (nI (bd))))), (mg, .inl (E.2 1, 58, .inl ((twG g (2640 + p1 + 2) h 64).1)))]) hA [6, 7, 0, 1, 2, 3, 4, 5, 8] rfl rfl (⟨rfl, by rw [if_pos (by omega), if_pos (by omega), decide_eq_true (by omega)]; rfl⟩) (by decide) (by decide) d_M_take_176
abbrev rm_M_take_3 : Room := { frames := 2, cells := 0, slots := 0, locals := 47 }
set_option maxHeartbeats 4000000 in
set_option maxRecDepth 100000 in
theorem c_M_take_3 (l : Launch) (E : xE) (hm ms mf mc my mb mz mp mo mm ml md me mg : Nat) (re : Int32) (wr : Nat) (sp rp fi : Bool) (gd : Nat) (la : Int32) (lst : Int64) (z0 z1 : Nat) (g : Nat → Int32) (h : Nat → Int32) (fo : Bool) (mk bd v : Nat) (o0 m0 b0 : Int32) (p0 p1 sl : Nat) (l0 : Int32) (hn : z1 ≤ 2640) (hp : p1 ≤ z1) (hc : ¬ z1 - p1 < 66) (hi : ¬ g (2640 + p1) = g (2640 + p1 + 1)) (hv : v < 65536) (h4 : onF (laN v true) 16 ≤ 4) : xC l E y_M_take (.code y_M_take prog_10_method_24_code 4 (some .int)) rm_M_take_3 [.ref hm] [(hm, .inr (5, [.int (re), .ref ms, .ref mf, .ref mc, .ref my, .ref mb, .ref mz, .ref mp, .ref mo, .ref mm, .ref ml, .ref md, .int (nI (wr)), .int (bI sp), .int (bI rp), .int (bI fi), .int (nI (gd)), .ref me, .ref mg, .int (nI (v)), .int (nI 0), .long (lst), .int 0])), (mb, .inl (E.2 1, 5280, .inl (g))), (mz, .inl (E.2 1, 2, .inl (pr2 (nI (z0)) (nI (z1))))), (mp, .inl (E.2 1, 2, .inl (pr2 (nI (p0)) (nI (p1))))), (mo, .inl (E.2 3, 2, .inl (pr2 (o0) (bI true)))), (mm, .inl (E.2 1, 2, .inl (pr2 (m0) (nI (mk))))), (ml, .inl (E.2 1, 2, .inl (pr2 (l0) (nI (sl))))), (md, .inl (E.2 1, 2, .inl (pr2 (b0) (nI (bd))))), (mg, .inl (E.2 1, 58, .inl (h)))] (xRet (some (.int (g (2640 + p1)))) [(hm, .inr (5, [.int (nI 0), .ref ms, .ref mf, .ref mc, .ref my, .ref mb, .ref mz, .ref mp, .ref mo, .ref mm, .ref ml, .ref md, .int (nI (wr)), .int (bI sp), .int (bI rp), .int (bI fi), .int (nI (gd)), .ref me, .ref mg, .int (nI (laN v true)), .int (nI 0), .long ((twG g (2640 + p1 + 2) h 64).2), .int 0])), (mb, .inl (E.2 1, 5280, .inl (g))), (mz, .inl (E.2 1, 2, .inl (pr2 (nI (z0)) (nI (z1))))), (mp, .inl (E.2 1, 2, .inl (pr2 (nI (p0)) (nI (p1 + 66))))), (mo, .inl (E.2 3, 2, .inl (pr2 (o0) (bI (decide (onF (laN v true) 16 < 4)))))), (mm, .inl (E.2 1, 2, .inl (pr2 (m0) (nI (mk4 (onF (laN v true) 16)))))), (ml, .inl (E.2 1, 2, .inl (pr2 (l0) (nI (sl))))), (md, .inl (E.2 1, 2, .inl (pr2 (b0) (nI (bd))))), (mg, .inl (E.2 1, 58, .inl ((twG g (2640 + p1 + 2) h 64).1)))]) := by
  refine x_of' (own := "LineCoderModel") (mn := "take") (lv := [(0, .ref hm)]) (plainFor_of_name (by decide)) rfl rfl (Nat.le_of_ble_eq_true rfl) rfl ?_
  intro p_ e_ s_ m_ ar_ be_ me_ c_ A_ hA hB
  refine x_aload_n 1 hB d_M_take_0 rfl rfl ?_
  refine x_iconst (v := nI 0) 2 hB d_M_take_1 rfl (by decide) ?_
  refine x_put 5 hB 0 (ws' := [(hm, .inr (5, [.int (nI 0), .ref ms, .ref mf, .ref mc, .ref my, .ref mb, .ref mz, .ref mp, .ref mo, .ref mm, .ref ml, .ref md, .int (nI (wr)), .int (bI sp), .int (bI rp), .int (bI fi), .int (nI (gd)), .ref me, .ref mg, .int (nI (v)), .int (nI 0), .long (lst), .int 0])), (mb, .inl (E.2 1, 5280, .inl (g))), (mz, .inl (E.2 1, 2, .inl (pr2 (nI (z0)) (nI (z1))))), (mp, .inl (E.2 1, 2, .inl (pr2 (nI (p0)) (nI (p1))))), (mo, .inl (E.2 3, 2, .inl (pr2 (o0) (bI true)))), (mm, .inl (E.2 1, 2, .inl (pr2 (m0) (nI (mk))))), (ml, .inl (E.2 1, 2, .inl (pr2 (l0) (nI (sl))))), (md, .inl (E.2 1, 2, .inl (pr2 (b0) (nI (bd))))), (mg, .inl (E.2 1, 58, .inl (h)))]) fp_M_61_5 rfl (rfl) (rfl) (Nat.le_of_ble_eq_true rfl) rfl d_M_take_2 rfl ?_
  refine x_aload_n 6 hB d_M_take_5 rfl rfl ?_
  refine x_get 9 hB 0 fg_M_25_5 rfl rfl d_M_take_6 rfl ?_
  refine x_iconst (v := nI 1) 10 hB d_M_take_9 rfl (by decide) ?_
  refine x_iald 11 hB 2 rfl (by omega) (by decide) d_M_take_10 rfl ?_
  refine x_top (v' := .int (nI (z1))) rfl ?_
  refine x_aload_n 12 hB d_M_take_11 rfl rfl ?_
  refine x_get 15 hB 0 fg_M_28_5 rfl rfl d_M_take_12 rfl ?_
  refine x_iconst (v := nI 1) 16 hB d_M_take_15 rfl (by decide) ?_
  refine x_iald 17 hB 3 rfl (by omega) (by decide) d_M_take_16 rfl ?_
  refine x_top (v' := .int (nI (p1))) rfl ?_
  refine x_isub 18 hB d_M_take_17 rfl ?_
  refine x_top (v' := .int (nI (z1 - p1))) (congrArg Value.int (pk_sub (by omega))) ?_
  refine x_bipush (v := nI 66) 20 hB d_M_take_18 rfl (by decide) ?_
  refine x_icmp_ge 25 23 hB d_M_take_20 (by decide) rfl (fun _ => ?_) (fun hc => absurd (nI_le (by omega) (by omega)) hc)
  refine x_sipush (v := nI 2640) 28 hB d_M_take_25 rfl (by decide) ?_
  refine x_aload_n 29 hB d_M_take_28 rfl rfl ?_
  refine x_get 32 hB 0 fg_M_28_5 rfl rfl d_M_take_29 rfl ?_
  refine x_iconst (v := nI 1) 33 hB d_M_take_32 rfl (by decide) ?_
  refine x_iald 34 hB 3 rfl (by omega) (by decide) d_M_take_33 rfl ?_
  refine x_top (v' := .int (nI (p1))) rfl ?_
  refine x_iadd 35 hB d_M_take_34 rfl ?_
  refine x_top (v' := .int (nI (2640 + p1))) (congrArg Value.int (nI_add _ _)) ?_
  refine x_istore_n 36 hB d_M_take_35 rfl (by decide) (lv' := [(1, .int (nI (2640 + p1))), (0, .ref hm)]) rfl ?_
  refine x_aload_n 37 hB d_M_take_36 rfl rfl ?_
  refine x_get 40 hB 0 fg_M_22_5 rfl rfl d_M_take_37 rfl ?_
  refine x_iload_n 41 hB d_M_take_40 rfl rfl ?_
  refine x_iald 42 hB 1 rfl (by omega) (by decide) d_M_take_41 rfl ?_
  refine x_istore_n 43 hB d_M_take_42 rfl (by decide) (lv' := [(2, .int ((g) ((2640 + p1)))), (1, .int (nI (2640 + p1))), (0, .ref hm)]) rfl ?_
  refine x_iload_n 44 hB d_M_take_43 rfl rfl ?_
  refine x_aload_n 45 hB d_M_take_44 rfl rfl ?_
  refine x_get 48 hB 0 fg_M_22_5 rfl rfl d_M_take_45 rfl ?_
  refine x_iload_n 49 hB d_M_take_48 rfl rfl ?_
  refine x_iconst (v := nI 1) 50 hB d_M_take_49 rfl (by decide) ?_
  refine x_iadd 51 hB d_M_take_50 rfl ?_
  refine x_top (v' := .int (nI (2640 + p1 + 1))) (congrArg Value.int (nI_add _ _)) ?_
  refine x_iald 52 hB 1 rfl (by omega) (by decide) d_M_take_51 rfl ?_
  refine x_icmp_eq 59 55 hB d_M_take_52 (by decide) rfl (fun hc => absurd hc (hi)) (fun _ => ?_)
  refine x_iconst (v := nI 1) 56 hB d_M_take_55 rfl (by decide) ?_
  refine x_goto 60 hB d_M_take_56 (by decide) ?_
  refine x_istore_n 61 hB d_M_take_60 rfl (by decide) (lv' := [(3, .int (nI 1)), (2, .int ((g) ((2640 + p1)))), (1, .int (nI (2640 + p1))), (0, .ref hm)]) rfl ?_
  refine x_aload_n 62 hB d_M_take_61 rfl rfl ?_
  refine x_get 65 hB 0 fg_M_31_5 rfl rfl d_M_take_62 rfl ?_
  refine x_iconst (v := nI 1) 66 hB d_M_take_65 rfl (by decide) ?_
  refine x_zald 67 hB 4 rfl (by omega) (by decide) d_M_take_66 rfl ?_
  refine x_top (v' := .int (bI true)) rfl ?_
  refine x_if_ne 104 70 hB d_M_take_67 (by decide) rfl (fun _ => ?_) (fun hc => absurd hc (by decide))
  refine x_aload_n 105 hB d_M_take_104 rfl rfl ?_
  refine x_iload_n 106 hB d_M_take_105 rfl rfl ?_
  refine x_iconst (v := nI 2) 107 hB d_M_take_106 rfl (by decide) ?_
  refine x_iadd 108 hB d_M_take_107 rfl ?_
  refine x_top (v' := .int (nI (2640 + p1 + 2))) (congrArg Value.int (nI_add _ _)) ?_
  refine x_callD (k' := 0) (n' := 0) (rest := []) (wr := [(mz, .inl (E.2 1, 2, .inl (pr2 (nI (z0)) (nI (z1))))), (mp, .inl (E.2 1, 2, .inl (pr2 (nI (p0)) (nI (p1))))), (mo, .inl (E.2 3, 2, .inl (pr2 (o0) (bI true)))), (mm, .inl (E.2 1, 2, .inl (pr2 (m0) (nI (mk))))), (ml, .inl (E.2 1, 2, .inl (pr2 (l0) (nI (sl))))), (md, .inl (E.2 1, 2, .inl (pr2 (b0) (nI (bd)))))]) (ws' := [(mz, .inl (E.2 1, 2, .inl (pr2 (nI (z0)) (nI (z1))))), (mp, .inl (E.2 1, 2, .inl (pr2 (nI (p0)) (nI (p1))))), (mo, .inl (E.2 3, 2, .inl (pr2 (o0) (bI true)))), (mm, .inl (E.2 1, 2, .inl (pr2 (m0) (nI (mk))))), (ml, .inl (E.2 1, 2, .inl (pr2 (l0) (nI (sl))))), (md, .inl (E.2 1, 2, .inl (pr2 (b0) (nI (bd))))), (hm, .inr (5, [.int (nI 0), .ref ms, .ref mf, .ref mc, .ref my, .ref mb, .ref mz, .ref mp, .ref mo, .ref mm, .ref ml, .ref md, .int (nI (wr)), .int (bI sp), .int (bI rp), .int (bI fi), .int (nI (gd)), .ref me, .ref mg, .int (nI (v)), .int (nI 0), .long ((twG g (2640 + p1 + 2) h 64).2), .int 0])), (mb, .inl (E.2 1, 5280, .inl (g))), (mg, .inl (E.2 1, 58, .inl ((twG g (2640 + p1 + 2) h 64).1)))]) (st' := []) 111 hB (x_pfV (av := [.int (nI (2640 + p1 + 2))]) (q0 := 0) hB w_757 xHd_code w_754 w_756 s_M_takeWord rfl rfl nm_M_takeWord rfl d_M_take_108) (c_M_takeWord l E hm ms mf mc my mb mz mp mo mm ml md me mg (nI 0) (wr) (sp) (rp) (fi) (gd) (nI (v)) (lst) g h (2640 + p1 + 2) (by omega)) w_757 xHd_code w_7 [0, 1, 8] [2, 3, 4, 5, 6, 7] rfl rfl rfl rfl (by decide) ⟨by decide, by decide⟩ ⟨by decide, by decide⟩ rfl rfl (Nat.le_of_ble_eq_true rfl) d_M_take_108 rfl rfl rfl ?_
  refine x_aload_n 112 hB d_M_take_111 rfl rfl ?_
  refine x_get 115 hB 6 fg_M_28_5 rfl rfl d_M_take_112 rfl ?_
  refine x_iconst (v := nI 1) 116 hB d_M_take_115 rfl (by decide) ?_
  refine x_aload_n 117 hB d_M_take_116 rfl rfl ?_
  refine x_get 120 hB 6 fg_M_28_5 rfl rfl d_M_take_117 rfl ?_
  refine x_iconst (v := nI 1) 121 hB d_M_take_120 rfl (by decide) ?_
  refine x_iald 122 hB 1 rfl (by omega) (by decide) d_M_take_121 rfl ?_
  refine x_top (v' := .int (nI (p1))) rfl ?_
  refine x_bipush (v := nI 66) 124 hB d_M_take_122 rfl (by decide) ?_
  refine x_iadd 125 hB d_M_take_124 rfl ?_
  refine x_top (v' := .int (nI (p1 + 66))) (congrArg Value.int (nI_add p1 66)) ?_
  refine x_iast 126 hB 1 (ws' := [(mz, .inl (E.2 1, 2, .inl (pr2 (nI (z0)) (nI (z1))))), (mp, .inl (E.2 1, 2, .inl (pr2 (nI (p0)) (nI (p1 + 66))))), (mo, .inl (E.2 3, 2, .inl (pr2 (o0) (bI true)))), (mm, .inl (E.2 1, 2, .inl (pr2 (m0) (nI (mk))))), (ml, .inl (E.2 1, 2, .inl (pr2 (l0) (nI (sl))))), (md, .inl (E.2 1, 2, .inl (pr2 (b0) (nI (bd))))), (hm, .inr (5, [.int (nI 0), .ref ms, .ref mf, .ref mc, .ref my, .ref mb, .ref mz, .ref mp, .ref mo, .ref mm, .ref ml, .ref md, .int (nI (wr)), .int (bI sp), .int (bI rp), .int (bI fi), .int (nI (gd)), .ref me, .ref mg, .int (nI (v)), .int (nI 0), .long ((twG g (2640 + p1 + 2) h 64).2), .int 0])), (mb, .inl (E.2 1, 5280, .inl (g))), (mg, .inl (E.2 1, 58, .inl ((twG g (2640 + p1 + 2) h 64).1)))]) rfl (by omega) (by decide) (x' := nI (p1 + 66)) (rfl) (by rw [pr2_1]; rfl) d_M_take_125 rfl ?_
  refine x_aload_n 127 hB d_M_take_126 rfl rfl ?_
  refine x_get 130 hB 6 fg_M_31_5 rfl rfl d_M_take_127 rfl ?_
  refine x_iconst (v := nI 1) 131 hB d_M_take_130 rfl (by decide) ?_
  refine x_zald 132 hB 2 rfl (by omega) (by decide) d_M_take_131 rfl ?_
  refine x_top (v' := .int (bI true)) rfl ?_
  refine x_if_ne 177 135 hB d_M_take_132 (by decide) rfl (fun _ => ?_) (fun hc => absurd hc (by decide))
  refine x_aload_n 178 hB d_M_take_177 rfl rfl ?_
  refine x_aload_n 179 hB d_M_take_178 rfl rfl ?_
  refine x_get 182 hB 6 fg_M_81_5 rfl rfl d_M_take_179 rfl ?_
  refine x_iconst (v := nI 1) 183 hB d_M_take_182 rfl (by decide) ?_
  refine x_ishl 184 hB d_M_take_183 rfl ?_
  refine x_iload_n 185 hB d_M_take_184 rfl rfl ?_
  refine x_if_eq 192 188 hB d_M_take_185 (by decide) rfl (fun hc => absurd hc (by decide)) (fun _ => ?_)
  refine x_iconst (v := nI 0) 189 hB d_M_take_188 rfl (by decide) ?_
  refine x_goto 193 hB d_M_take_189 (by decide) ?_
  refine x_ior 194 hB d_M_take_193 rfl ?_
  refine x_ldc 196 hB d_M_take_194 rfl w_758 ?_
  refine x_iand 197 hB d_M_take_196 rfl ?_
  refine x_top (v' := .int (nI (laN v true))) (congrArg Value.int (sl16 hv 0 (by decide))) ?_
  refine x_put 200 hB 6 (ws' := [(mz, .inl (E.2 1, 2, .inl (pr2 (nI (z0)) (nI (z1))))), (mp, .inl (E.2 1, 2, .inl (pr2 (nI (p0)) (nI (p1 + 66))))), (mo, .inl (E.2 3, 2, .inl (pr2 (o0) (bI true)))), (mm, .inl (E.2 1, 2, .inl (pr2 (m0) (nI (mk))))), (ml, .inl (E.2 1, 2, .inl (pr2 (l0) (nI (sl))))), (md, .inl (E.2 1, 2, .inl (pr2 (b0) (nI (bd))))), (hm, .inr (5, [.int (nI 0), .ref ms, .ref mf, .ref mc, .ref my, .ref mb, .ref mz, .ref mp, .ref mo, .ref mm, .ref ml, .ref md, .int (nI (wr)), .int (bI sp), .int (bI rp), .int (bI fi), .int (nI (gd)), .ref me, .ref mg, .int (nI (laN v true)), .int (nI 0), .long ((twG g (2640 + p1 + 2) h 64).2), .int 0])), (mb, .inl (E.2 1, 5280, .inl (g))), (mg, .inl (E.2 1, 58, .inl ((twG g (2640 + p1 + 2) h 64).1)))]) fp_M_81_5 rfl (rfl) (rfl) (Nat.le_of_ble_eq_true rfl) rfl d_M_take_197 rfl ?_
  refine x_aload_n 201 hB d_M_take_200 rfl rfl ?_
  refine x_get 204 hB 6 fg_M_35_5 rfl rfl d_M_take_201 rfl ?_
  refine x_iconst (v := nI 1) 205 hB d_M_take_204 rfl (by decide) ?_
  refine x_aload_n 206 hB d_M_take_205 rfl rfl ?_
  refine x_get 209 hB 6 fg_M_81_5 rfl rfl d_M_take_206 rfl ?_
  refine x_callP (k' := 0) (n' := 0) (rest := [.int (nI 1), .ref mm]) (st' := [.int (nI (onF (laN v true) 16)), .int (nI 1), .ref mm]) 212 hB (x_pfS (av := [.int (nI (laN v true))]) hB w_761 xHd_code w_7 w_759 w_760 nm_M_onesOf rfl d_M_take_209) (c_M_onesOf l E (laN v true) (by have := laN_lt v true; omega)) w_761 xHd_code w_7 [] rfl rfl ⟨by decide, by decide⟩ ⟨by decide, by decide⟩ rfl rfl (Nat.le_of_ble_eq_true rfl) d_M_take_209 rfl rfl ?_
  refine x_iast 213 hB 3 (ws' := [(mz, .inl (E.2 1, 2, .inl (pr2 (nI (z0)) (nI (z1))))), (mp, .inl (E.2 1, 2, .inl (pr2 (nI (p0)) (nI (p1 + 66))))), (mo, .inl (E.2 3, 2, .inl (pr2 (o0) (bI true)))), (mm, .inl (E.2 1, 2, .inl (pr2 (m0) (nI (onF (laN v true) 16))))), (ml, .inl (E.2 1, 2, .inl (pr2 (l0) (nI (sl))))), (md, .inl (E.2 1, 2, .inl (pr2 (b0) (nI (bd))))), (hm, .inr (5, [.int (nI 0), .ref ms, .ref mf, .ref mc, .ref my, .ref mb, .ref mz, .ref mp, .ref mo, .ref mm, .ref ml, .ref md, .int (nI (wr)), .int (bI sp), .int (bI rp), .int (bI fi), .int (nI (gd)), .ref me, .ref mg, .int (nI (laN v true)), .int (nI 0), .long ((twG g (2640 + p1 + 2) h 64).2), .int 0])), (mb, .inl (E.2 1, 5280, .inl (g))), (mg, .inl (E.2 1, 58, .inl ((twG g (2640 + p1 + 2) h 64).1)))]) rfl (by omega) (by decide) (x' := nI (onF (laN v true) 16)) (rfl) (by rw [pr2_1]; rfl) d_M_take_212 rfl ?_
  refine x_aload_n 214 hB d_M_take_213 rfl rfl ?_
  refine x_get 217 hB 6 fg_M_41_5 rfl rfl d_M_take_214 rfl ?_
  refine x_iconst (v := nI 1) 218 hB d_M_take_217 rfl (by decide) ?_
  refine x_iload_n 219 hB d_M_take_218 rfl rfl ?_
  refine x_if_eq 231 222 hB d_M_take_219 (by decide) rfl (fun hc => absurd hc (by decide)) (fun _ => ?_)
  refine x_aload_n 223 hB d_M_take_222 rfl rfl ?_
  refine x_get 226 hB 6 fg_M_41_5 rfl rfl d_M_take_223 rfl ?_
  refine x_iconst (v := nI 1) 227 hB d_M_take_226 rfl (by decide) ?_
  refine x_iald 228 hB 5 rfl (by omega) (by decide) d_M_take_227 rfl ?_
  refine x_top (v' := .int (nI (bd))) rfl ?_
  refine x_goto 239 hB d_M_take_228 (by decide) ?_
  refine x_iast 240 hB 5 (ws' := [(mz, .inl (E.2 1, 2, .inl (pr2 (nI (z0)) (nI (z1))))), (mp, .inl (E.2 1, 2, .inl (pr2 (nI (p0)) (nI (p1 + 66))))), (mo, .inl (E.2 3, 2, .inl (pr2 (o0) (bI true)))), (mm, .inl (E.2 1, 2, .inl (pr2 (m0) (nI (onF (laN v true) 16))))), (ml, .inl (E.2 1, 2, .inl (pr2 (l0) (nI (sl))))), (md, .inl (E.2 1, 2, .inl (pr2 (b0) (nI (bd))))), (hm, .inr (5, [.int (nI 0), .ref ms, .ref mf, .ref mc, .ref my, .ref mb, .ref mz, .ref mp, .ref mo, .ref mm, .ref ml, .ref md, .int (nI (wr)), .int (bI sp), .int (bI rp), .int (bI fi), .int (nI (gd)), .ref me, .ref mg, .int (nI (laN v true)), .int (nI 0), .long ((twG g (2640 + p1 + 2) h 64).2), .int 0])), (mb, .inl (E.2 1, 5280, .inl (g))), (mg, .inl (E.2 1, 58, .inl ((twG g (2640 + p1 + 2) h 64).1)))]) rfl (by omega) (by decide) (x' := nI (bd)) (rfl) (by rw [pr2_1]; rfl) d_M_take_239 rfl ?_
  refine x_aload_n 241 hB d_M_take_240 rfl rfl ?_
  refine x_get 244 hB 6 fg_M_35_5 rfl rfl d_M_take_241 rfl ?_
  refine x_iconst (v := nI 1) 245 hB d_M_take_244 rfl (by decide) ?_
  refine x_iald 246 hB 3 rfl (by omega) (by decide) d_M_take_245 rfl ?_
  refine x_top (v' := .int (nI (onF (laN v true) 16))) rfl ?_
  refine x_iconst (v := nI 4) 247 hB d_M_take_246 rfl (by decide) ?_
  refine x_icmp_ne 264 250 hB d_M_take_247 (by decide) rfl (fun h247 => ?_) (fun h247 => ?_)
  · skip
    have k247 : ¬ onF (laN v true) 16 = 4 := fun h => h247 ((nI_eq (by omega) (by omega)).mpr h)
    refine x_iload_n 265 hB d_M_take_264 rfl rfl ?_
    refine x_if_eq 272 268 hB d_M_take_265 (by decide) rfl (fun hc => absurd hc (by decide)) (fun _ => ?_)
    refine x_iload_n 269 hB d_M_take_268 rfl rfl ?_
    refine x_goto 274 hB d_M_take_269 (by decide) ?_
    exact x_iret hB (w' := [(hm, .inr (5, [.int (nI 0), .ref ms, .ref mf, .ref mc, .ref my, .ref mb, .ref mz, .ref mp, .ref mo, .ref mm, .ref ml, .ref md, .int (nI (wr)), .int (bI sp), .int (bI rp), .int (bI fi), .int (nI (gd)), .ref me, .ref mg, .int (nI (laN v true)), .int (nI 0), .long ((twG g (2640 + p1 + 2) h 64).2), .int 0])), (mb, .inl (E.2 1, 5280, .inl (g))), (mz, .inl (E.2 1, 2, .inl (pr2 (nI (z0)) (nI (z1))))), (mp, .inl (E.2 1, 2, .inl (pr2 (nI (p0)) (nI (p1 + 66))))), (mo, .inl (E.2 3, 2, .inl (pr2 (o0) (bI true)))), (mm, .inl (E.2 1, 2, .inl (pr2 (m0) (nI (onF (laN v true) 16))))), (ml, .inl (E.2 1, 2, .inl (pr2 (l0) (nI (sl))))), (md, .inl (E.2 1, 2, .inl (pr2 (b0) (nI (bd))))), (mg, .inl (E.2 1, 58, .inl ((twG g (2640 + p1 + 2) h 64).1)))]) hA [6, 7, 0, 1, 2, 3, 4, 5, 8] rfl rfl (⟨rfl, by rw [mk4, if_pos (by omega), decide_eq_true (by omega)]⟩) (by decide) (by decide) d_M_take_274
  · skip
    have k247 : onF (laN v true) 16 = 4 := (nI_eq (by omega) (by omega)).mp h247
    refine x_aload_n 251 hB d_M_take_250 rfl rfl ?_
    refine x_get 254 hB 6 fg_M_31_5 rfl rfl d_M_take_251 rfl ?_
    refine x_iconst (v := nI 1) 255 hB d_M_take_254 rfl (by decide) ?_
    refine x_iconst (v := nI 0) 256 hB d_M_take_255 rfl (by decide) ?_
    refine x_zast 257 hB 2 (ws' := [(mz, .inl (E.2 1, 2, .inl (pr2 (nI (z0)) (nI (z1))))), (mp, .inl (E.2 1, 2, .inl (pr2 (nI (p0)) (nI (p1 + 66))))), (mo, .inl (E.2 3, 2, .inl (pr2 (o0) (nI 0)))), (mm, .inl (E.2 1, 2, .inl (pr2 (m0) (nI (onF (laN v true) 16))))), (ml, .inl (E.2 1, 2, .inl (pr2 (l0) (nI (sl))))), (md, .inl (E.2 1, 2, .inl (pr2 (b0) (nI (bd))))), (hm, .inr (5, [.int (nI 0), .ref ms, .ref mf, .ref mc, .ref my, .ref mb, .ref mz, .ref mp, .ref mo, .ref mm, .ref ml, .ref md, .int (nI (wr)), .int (bI sp), .int (bI rp), .int (bI fi), .int (nI (gd)), .ref me, .ref mg, .int (nI (laN v true)), .int (nI 0), .long ((twG g (2640 + p1 + 2) h 64).2), .int 0])), (mb, .inl (E.2 1, 5280, .inl (g))), (mg, .inl (E.2 1, 58, .inl ((twG g (2640 + p1 + 2) h 64).1)))]) rfl (by omega) (by decide) (x' := nI 0) (by decide) (by rw [pr2_1]; rfl) d_M_take_256 rfl ?_
    refine x_aload_n 258 hB d_M_take_257 rfl rfl ?_
    refine x_get 261 hB 6 fg_M_35_5 rfl rfl d_M_take_258 rfl ?_
    refine x_iconst (v := nI 1) 262 hB d_M_take_261 rfl (by decide) ?_
    refine x_iconst (v := nI 0) 263 hB d_M_take_262 rfl (by decide) ?_
    refine x_iast 264 hB 3 (ws' := [(mz, .inl (E.2 1, 2, .inl (pr2 (nI (z0)) (nI (z1))))), (mp, .inl (E.2 1, 2, .inl (pr2 (nI (p0)) (nI (p1 + 66))))), (mo, .inl (E.2 3, 2, .inl (pr2 (o0) (nI 0)))), (mm, .inl (E.2 1, 2, .inl (pr2 (m0) (nI 0)))), (ml, .inl (E.2 1, 2, .inl (pr2 (l0) (nI (sl))))), (md, .inl (E.2 1, 2, .inl (pr2 (b0) (nI (bd))))), (hm, .inr (5, [.int (nI 0), .ref ms, .ref mf, .ref mc, .ref my, .ref mb, .ref mz, .ref mp, .ref mo, .ref mm, .ref ml, .ref md, .int (nI (wr)), .int (bI sp), .int (bI rp), .int (bI fi), .int (nI (gd)), .ref me, .ref mg, .int (nI (laN v true)), .int (nI 0), .long ((twG g (2640 + p1 + 2) h 64).2), .int 0])), (mb, .inl (E.2 1, 5280, .inl (g))), (mg, .inl (E.2 1, 58, .inl ((twG g (2640 + p1 + 2) h 64).1)))]) rfl (by omega) (by decide) (x' := nI 0) (rfl) (by rw [pr2_1]; rfl) d_M_take_263 rfl ?_
    refine x_iload_n 265 hB d_M_take_264 rfl rfl ?_
    refine x_if_eq 272 268 hB d_M_take_265 (by decide) rfl (fun hc => absurd hc (by decide)) (fun _ => ?_)
    refine x_iload_n 269 hB d_M_take_268 rfl rfl ?_
    refine x_goto 274 hB d_M_take_269 (by decide) ?_
    exact x_iret hB (w' := [(hm, .inr (5, [.int (nI 0), .ref ms, .ref mf, .ref mc, .ref my, .ref mb, .ref mz, .ref mp, .ref mo, .ref mm, .ref ml, .ref md, .int (nI (wr)), .int (bI sp), .int (bI rp), .int (bI fi), .int (nI (gd)), .ref me, .ref mg, .int (nI (laN v true)), .int (nI 0), .long ((twG g (2640 + p1 + 2) h 64).2), .int 0])), (mb, .inl (E.2 1, 5280, .inl (g))), (mz, .inl (E.2 1, 2, .inl (pr2 (nI (z0)) (nI (z1))))), (mp, .inl (E.2 1, 2, .inl (pr2 (nI (p0)) (nI (p1 + 66))))), (mo, .inl (E.2 3, 2, .inl (pr2 (o0) (nI 0)))), (mm, .inl (E.2 1, 2, .inl (pr2 (m0) (nI 0)))), (ml, .inl (E.2 1, 2, .inl (pr2 (l0) (nI (sl))))), (md, .inl (E.2 1, 2, .inl (pr2 (b0) (nI (bd))))), (mg, .inl (E.2 1, 58, .inl ((twG g (2640 + p1 + 2) h 64).1)))]) hA [6, 7, 0, 1, 2, 3, 4, 5, 8] rfl rfl (⟨rfl, by rw [mk4, if_neg (by omega), decide_eq_false (by omega)]; rfl⟩) (by decide) (by decide) d_M_take_274
abbrev rm_M_take_4 : Room := { frames := 2, cells := 0, slots := 0, locals := 47 }
set_option maxHeartbeats 4000000 in
set_option maxRecDepth 100000 in
theorem c_M_take_4 (l : Launch) (E : xE) (hm ms mf mc my mb mz mp mo mm ml md me mg : Nat) (re : Int32) (wr : Nat) (sp rp fi : Bool) (gd : Nat) (la : Int32) (lst : Int64) (z0 z1 : Nat) (g : Nat → Int32) (h : Nat → Int32) (fo : Bool) (mk bd v : Nat) (o0 m0 b0 : Int32) (p0 p1 sl : Nat) (l0 : Int32) (hn : z1 ≤ 2640) (hp : p1 ≤ z1) (hc : ¬ z1 - p1 < 66) (hi : g (2640 + p1) = g (2640 + p1 + 1)) (hv : v < 65536) (h4 : onF (laN v false) 16 ≤ 4) : xC l E y_M_take (.code y_M_take prog_10_method_24_code 4 (some .int)) rm_M_take_4 [.ref hm] [(hm, .inr (5, [.int (re), .ref ms, .ref mf, .ref mc, .ref my, .ref mb, .ref mz, .ref mp, .ref mo, .ref mm, .ref ml, .ref md, .int (nI (wr)), .int (bI sp), .int (bI rp), .int (bI fi), .int (nI (gd)), .ref me, .ref mg, .int (nI (v)), .int (nI 0), .long (lst), .int 0])), (mb, .inl (E.2 1, 5280, .inl (g))), (mz, .inl (E.2 1, 2, .inl (pr2 (nI (z0)) (nI (z1))))), (mp, .inl (E.2 1, 2, .inl (pr2 (nI (p0)) (nI (p1))))), (mo, .inl (E.2 3, 2, .inl (pr2 (o0) (bI true)))), (mm, .inl (E.2 1, 2, .inl (pr2 (m0) (nI (mk))))), (ml, .inl (E.2 1, 2, .inl (pr2 (l0) (nI (sl))))), (md, .inl (E.2 1, 2, .inl (pr2 (b0) (nI (bd))))), (mg, .inl (E.2 1, 58, .inl (h)))] (xRet (some (.int (-2))) [(hm, .inr (5, [.int (nI 0), .ref ms, .ref mf, .ref mc, .ref my, .ref mb, .ref mz, .ref mp, .ref mo, .ref mm, .ref ml, .ref md, .int (nI (wr)), .int (bI sp), .int (bI rp), .int (bI fi), .int (nI (gd)), .ref me, .ref mg, .int (nI (laN v false)), .int (nI 0), .long ((twG g (2640 + p1 + 2) h 64).2), .int 0])), (mb, .inl (E.2 1, 5280, .inl (g))), (mz, .inl (E.2 1, 2, .inl (pr2 (nI (z0)) (nI (z1))))), (mp, .inl (E.2 1, 2, .inl (pr2 (nI (p0)) (nI (p1 + 66))))), (mo, .inl (E.2 3, 2, .inl (pr2 (o0) (bI (decide (onF (laN v false) 16 < 4)))))), (mm, .inl (E.2 1, 2, .inl (pr2 (m0) (nI (mk4 (onF (laN v false) 16)))))), (ml, .inl (E.2 1, 2, .inl (pr2 (l0) (nI (sl))))), (md, .inl (E.2 1, 2, .inl (pr2 (b0) (nI (bd + 1))))), (mg, .inl (E.2 1, 58, .inl ((twG g (2640 + p1 + 2) h 64).1)))]) := by
  refine x_of' (own := "LineCoderModel") (mn := "take") (lv := [(0, .ref hm)]) (plainFor_of_name (by decide)) rfl rfl (Nat.le_of_ble_eq_true rfl) rfl ?_
  intro p_ e_ s_ m_ ar_ be_ me_ c_ A_ hA hB
  refine x_aload_n 1 hB d_M_take_0 rfl rfl ?_
  refine x_iconst (v := nI 0) 2 hB d_M_take_1 rfl (by decide) ?_
  refine x_put 5 hB 0 (ws' := [(hm, .inr (5, [.int (nI 0), .ref ms, .ref mf, .ref mc, .ref my, .ref mb, .ref mz, .ref mp, .ref mo, .ref mm, .ref ml, .ref md, .int (nI (wr)), .int (bI sp), .int (bI rp), .int (bI fi), .int (nI (gd)), .ref me, .ref mg, .int (nI (v)), .int (nI 0), .long (lst), .int 0])), (mb, .inl (E.2 1, 5280, .inl (g))), (mz, .inl (E.2 1, 2, .inl (pr2 (nI (z0)) (nI (z1))))), (mp, .inl (E.2 1, 2, .inl (pr2 (nI (p0)) (nI (p1))))), (mo, .inl (E.2 3, 2, .inl (pr2 (o0) (bI true)))), (mm, .inl (E.2 1, 2, .inl (pr2 (m0) (nI (mk))))), (ml, .inl (E.2 1, 2, .inl (pr2 (l0) (nI (sl))))), (md, .inl (E.2 1, 2, .inl (pr2 (b0) (nI (bd))))), (mg, .inl (E.2 1, 58, .inl (h)))]) fp_M_61_5 rfl (rfl) (rfl) (Nat.le_of_ble_eq_true rfl) rfl d_M_take_2 rfl ?_
  refine x_aload_n 6 hB d_M_take_5 rfl rfl ?_
  refine x_get 9 hB 0 fg_M_25_5 rfl rfl d_M_take_6 rfl ?_
  refine x_iconst (v := nI 1) 10 hB d_M_take_9 rfl (by decide) ?_
  refine x_iald 11 hB 2 rfl (by omega) (by decide) d_M_take_10 rfl ?_
  refine x_top (v' := .int (nI (z1))) rfl ?_
  refine x_aload_n 12 hB d_M_take_11 rfl rfl ?_
  refine x_get 15 hB 0 fg_M_28_5 rfl rfl d_M_take_12 rfl ?_
  refine x_iconst (v := nI 1) 16 hB d_M_take_15 rfl (by decide) ?_
  refine x_iald 17 hB 3 rfl (by omega) (by decide) d_M_take_16 rfl ?_
  refine x_top (v' := .int (nI (p1))) rfl ?_
  refine x_isub 18 hB d_M_take_17 rfl ?_
  refine x_top (v' := .int (nI (z1 - p1))) (congrArg Value.int (pk_sub (by omega))) ?_
  refine x_bipush (v := nI 66) 20 hB d_M_take_18 rfl (by decide) ?_
  refine x_icmp_ge 25 23 hB d_M_take_20 (by decide) rfl (fun _ => ?_) (fun hc => absurd (nI_le (by omega) (by omega)) hc)
  refine x_sipush (v := nI 2640) 28 hB d_M_take_25 rfl (by decide) ?_
  refine x_aload_n 29 hB d_M_take_28 rfl rfl ?_
  refine x_get 32 hB 0 fg_M_28_5 rfl rfl d_M_take_29 rfl ?_
  refine x_iconst (v := nI 1) 33 hB d_M_take_32 rfl (by decide) ?_
  refine x_iald 34 hB 3 rfl (by omega) (by decide) d_M_take_33 rfl ?_
  refine x_top (v' := .int (nI (p1))) rfl ?_
  refine x_iadd 35 hB d_M_take_34 rfl ?_
  refine x_top (v' := .int (nI (2640 + p1))) (congrArg Value.int (nI_add _ _)) ?_
  refine x_istore_n 36 hB d_M_take_35 rfl (by decide) (lv' := [(1, .int (nI (2640 + p1))), (0, .ref hm)]) rfl ?_
  refine x_aload_n 37 hB d_M_take_36 rfl rfl ?_
  refine x_get 40 hB 0 fg_M_22_5 rfl rfl d_M_take_37 rfl ?_
  refine x_iload_n 41 hB d_M_take_40 rfl rfl ?_
  refine x_iald 42 hB 1 rfl (by omega) (by decide) d_M_take_41 rfl ?_
  refine x_istore_n 43 hB d_M_take_42 rfl (by decide) (lv' := [(2, .int ((g) ((2640 + p1)))), (1, .int (nI (2640 + p1))), (0, .ref hm)]) rfl ?_
  refine x_iload_n 44 hB d_M_take_43 rfl rfl ?_
  refine x_aload_n 45 hB d_M_take_44 rfl rfl ?_
  refine x_get 48 hB 0 fg_M_22_5 rfl rfl d_M_take_45 rfl ?_
  refine x_iload_n 49 hB d_M_take_48 rfl rfl ?_
  refine x_iconst (v := nI 1) 50 hB d_M_take_49 rfl (by decide) ?_
  refine x_iadd 51 hB d_M_take_50 rfl ?_
  refine x_top (v' := .int (nI (2640 + p1 + 1))) (congrArg Value.int (nI_add _ _)) ?_
  refine x_iald 52 hB 1 rfl (by omega) (by decide) d_M_take_51 rfl ?_
  refine x_icmp_eq 59 55 hB d_M_take_52 (by decide) rfl (fun _ => ?_) (fun hc => absurd (hi) hc)
  refine x_iconst (v := nI 0) 60 hB d_M_take_59 rfl (by decide) ?_
  refine x_istore_n 61 hB d_M_take_60 rfl (by decide) (lv' := [(3, .int (nI 0)), (2, .int ((g) ((2640 + p1)))), (1, .int (nI (2640 + p1))), (0, .ref hm)]) rfl ?_
  refine x_aload_n 62 hB d_M_take_61 rfl rfl ?_
  refine x_get 65 hB 0 fg_M_31_5 rfl rfl d_M_take_62 rfl ?_
  refine x_iconst (v := nI 1) 66 hB d_M_take_65 rfl (by decide) ?_
  refine x_zald 67 hB 4 rfl (by omega) (by decide) d_M_take_66 rfl ?_
  refine x_top (v' := .int (bI true)) rfl ?_
  refine x_if_ne 104 70 hB d_M_take_67 (by decide) rfl (fun _ => ?_) (fun hc => absurd hc (by decide))
  refine x_aload_n 105 hB d_M_take_104 rfl rfl ?_
  refine x_iload_n 106 hB d_M_take_105 rfl rfl ?_
  refine x_iconst (v := nI 2) 107 hB d_M_take_106 rfl (by decide) ?_
  refine x_iadd 108 hB d_M_take_107 rfl ?_
  refine x_top (v' := .int (nI (2640 + p1 + 2))) (congrArg Value.int (nI_add _ _)) ?_
  refine x_callD (k' := 0) (n' := 0) (rest := []) (wr := [(mz, .inl (E.2 1, 2, .inl (pr2 (nI (z0)) (nI (z1))))), (mp, .inl (E.2 1, 2, .inl (pr2 (nI (p0)) (nI (p1))))), (mo, .inl (E.2 3, 2, .inl (pr2 (o0) (bI true)))), (mm, .inl (E.2 1, 2, .inl (pr2 (m0) (nI (mk))))), (ml, .inl (E.2 1, 2, .inl (pr2 (l0) (nI (sl))))), (md, .inl (E.2 1, 2, .inl (pr2 (b0) (nI (bd)))))]) (ws' := [(mz, .inl (E.2 1, 2, .inl (pr2 (nI (z0)) (nI (z1))))), (mp, .inl (E.2 1, 2, .inl (pr2 (nI (p0)) (nI (p1))))), (mo, .inl (E.2 3, 2, .inl (pr2 (o0) (bI true)))), (mm, .inl (E.2 1, 2, .inl (pr2 (m0) (nI (mk))))), (ml, .inl (E.2 1, 2, .inl (pr2 (l0) (nI (sl))))), (md, .inl (E.2 1, 2, .inl (pr2 (b0) (nI (bd))))), (hm, .inr (5, [.int (nI 0), .ref ms, .ref mf, .ref mc, .ref my, .ref mb, .ref mz, .ref mp, .ref mo, .ref mm, .ref ml, .ref md, .int (nI (wr)), .int (bI sp), .int (bI rp), .int (bI fi), .int (nI (gd)), .ref me, .ref mg, .int (nI (v)), .int (nI 0), .long ((twG g (2640 + p1 + 2) h 64).2), .int 0])), (mb, .inl (E.2 1, 5280, .inl (g))), (mg, .inl (E.2 1, 58, .inl ((twG g (2640 + p1 + 2) h 64).1)))]) (st' := []) 111 hB (x_pfV (av := [.int (nI (2640 + p1 + 2))]) (q0 := 0) hB w_757 xHd_code w_754 w_756 s_M_takeWord rfl rfl nm_M_takeWord rfl d_M_take_108) (c_M_takeWord l E hm ms mf mc my mb mz mp mo mm ml md me mg (nI 0) (wr) (sp) (rp) (fi) (gd) (nI (v)) (lst) g h (2640 + p1 + 2) (by omega)) w_757 xHd_code w_7 [0, 1, 8] [2, 3, 4, 5, 6, 7] rfl rfl rfl rfl (by decide) ⟨by decide, by decide⟩ ⟨by decide, by decide⟩ rfl rfl (Nat.le_of_ble_eq_true rfl) d_M_take_108 rfl rfl rfl ?_
  refine x_aload_n 112 hB d_M_take_111 rfl rfl ?_
  refine x_get 115 hB 6 fg_M_28_5 rfl rfl d_M_take_112 rfl ?_
  refine x_iconst (v := nI 1) 116 hB d_M_take_115 rfl (by decide) ?_
  refine x_aload_n 117 hB d_M_take_116 rfl rfl ?_
  refine x_get 120 hB 6 fg_M_28_5 rfl rfl d_M_take_117 rfl ?_
  refine x_iconst (v := nI 1) 121 hB d_M_take_120 rfl (by decide) ?_
  refine x_iald 122 hB 1 rfl (by omega) (by decide) d_M_take_121 rfl ?_
  refine x_top (v' := .int (nI (p1))) rfl ?_
  refine x_bipush (v := nI 66) 124 hB d_M_take_122 rfl (by decide) ?_
  refine x_iadd 125 hB d_M_take_124 rfl ?_
  refine x_top (v' := .int (nI (p1 + 66))) (congrArg Value.int (nI_add p1 66)) ?_
  refine x_iast 126 hB 1 (ws' := [(mz, .inl (E.2 1, 2, .inl (pr2 (nI (z0)) (nI (z1))))), (mp, .inl (E.2 1, 2, .inl (pr2 (nI (p0)) (nI (p1 + 66))))), (mo, .inl (E.2 3, 2, .inl (pr2 (o0) (bI true)))), (mm, .inl (E.2 1, 2, .inl (pr2 (m0) (nI (mk))))), (ml, .inl (E.2 1, 2, .inl (pr2 (l0) (nI (sl))))), (md, .inl (E.2 1, 2, .inl (pr2 (b0) (nI (bd))))), (hm, .inr (5, [.int (nI 0), .ref ms, .ref mf, .ref mc, .ref my, .ref mb, .ref mz, .ref mp, .ref mo, .ref mm, .ref ml, .ref md, .int (nI (wr)), .int (bI sp), .int (bI rp), .int (bI fi), .int (nI (gd)), .ref me, .ref mg, .int (nI (v)), .int (nI 0), .long ((twG g (2640 + p1 + 2) h 64).2), .int 0])), (mb, .inl (E.2 1, 5280, .inl (g))), (mg, .inl (E.2 1, 58, .inl ((twG g (2640 + p1 + 2) h 64).1)))]) rfl (by omega) (by decide) (x' := nI (p1 + 66)) (rfl) (by rw [pr2_1]; rfl) d_M_take_125 rfl ?_
  refine x_aload_n 127 hB d_M_take_126 rfl rfl ?_
  refine x_get 130 hB 6 fg_M_31_5 rfl rfl d_M_take_127 rfl ?_
  refine x_iconst (v := nI 1) 131 hB d_M_take_130 rfl (by decide) ?_
  refine x_zald 132 hB 2 rfl (by omega) (by decide) d_M_take_131 rfl ?_
  refine x_top (v' := .int (bI true)) rfl ?_
  refine x_if_ne 177 135 hB d_M_take_132 (by decide) rfl (fun _ => ?_) (fun hc => absurd hc (by decide))
  refine x_aload_n 178 hB d_M_take_177 rfl rfl ?_
  refine x_aload_n 179 hB d_M_take_178 rfl rfl ?_
  refine x_get 182 hB 6 fg_M_81_5 rfl rfl d_M_take_179 rfl ?_
  refine x_iconst (v := nI 1) 183 hB d_M_take_182 rfl (by decide) ?_
  refine x_ishl 184 hB d_M_take_183 rfl ?_
  refine x_iload_n 185 hB d_M_take_184 rfl rfl ?_
  refine x_if_eq 192 188 hB d_M_take_185 (by decide) rfl (fun _ => ?_) (fun hc => absurd (by decide) hc)
  refine x_iconst (v := nI 1) 193 hB d_M_take_192 rfl (by decide) ?_
  refine x_ior 194 hB d_M_take_193 rfl ?_
  refine x_ldc 196 hB d_M_take_194 rfl w_758 ?_
  refine x_iand 197 hB d_M_take_196 rfl ?_
  refine x_top (v' := .int (nI (laN v false))) (congrArg Value.int (sl16 hv 1 (by decide))) ?_
  refine x_put 200 hB 6 (ws' := [(mz, .inl (E.2 1, 2, .inl (pr2 (nI (z0)) (nI (z1))))), (mp, .inl (E.2 1, 2, .inl (pr2 (nI (p0)) (nI (p1 + 66))))), (mo, .inl (E.2 3, 2, .inl (pr2 (o0) (bI true)))), (mm, .inl (E.2 1, 2, .inl (pr2 (m0) (nI (mk))))), (ml, .inl (E.2 1, 2, .inl (pr2 (l0) (nI (sl))))), (md, .inl (E.2 1, 2, .inl (pr2 (b0) (nI (bd))))), (hm, .inr (5, [.int (nI 0), .ref ms, .ref mf, .ref mc, .ref my, .ref mb, .ref mz, .ref mp, .ref mo, .ref mm, .ref ml, .ref md, .int (nI (wr)), .int (bI sp), .int (bI rp), .int (bI fi), .int (nI (gd)), .ref me, .ref mg, .int (nI (laN v false)), .int (nI 0), .long ((twG g (2640 + p1 + 2) h 64).2), .int 0])), (mb, .inl (E.2 1, 5280, .inl (g))), (mg, .inl (E.2 1, 58, .inl ((twG g (2640 + p1 + 2) h 64).1)))]) fp_M_81_5 rfl (rfl) (rfl) (Nat.le_of_ble_eq_true rfl) rfl d_M_take_197 rfl ?_
  refine x_aload_n 201 hB d_M_take_200 rfl rfl ?_
  refine x_get 204 hB 6 fg_M_35_5 rfl rfl d_M_take_201 rfl ?_
  refine x_iconst (v := nI 1) 205 hB d_M_take_204 rfl (by decide) ?_
  refine x_aload_n 206 hB d_M_take_205 rfl rfl ?_
  refine x_get 209 hB 6 fg_M_81_5 rfl rfl d_M_take_206 rfl ?_
  refine x_callP (k' := 0) (n' := 0) (rest := [.int (nI 1), .ref mm]) (st' := [.int (nI (onF (laN v false) 16)), .int (nI 1), .ref mm]) 212 hB (x_pfS (av := [.int (nI (laN v false))]) hB w_761 xHd_code w_7 w_759 w_760 nm_M_onesOf rfl d_M_take_209) (c_M_onesOf l E (laN v false) (by have := laN_lt v false; omega)) w_761 xHd_code w_7 [] rfl rfl ⟨by decide, by decide⟩ ⟨by decide, by decide⟩ rfl rfl (Nat.le_of_ble_eq_true rfl) d_M_take_209 rfl rfl ?_
  refine x_iast 213 hB 3 (ws' := [(mz, .inl (E.2 1, 2, .inl (pr2 (nI (z0)) (nI (z1))))), (mp, .inl (E.2 1, 2, .inl (pr2 (nI (p0)) (nI (p1 + 66))))), (mo, .inl (E.2 3, 2, .inl (pr2 (o0) (bI true)))), (mm, .inl (E.2 1, 2, .inl (pr2 (m0) (nI (onF (laN v false) 16))))), (ml, .inl (E.2 1, 2, .inl (pr2 (l0) (nI (sl))))), (md, .inl (E.2 1, 2, .inl (pr2 (b0) (nI (bd))))), (hm, .inr (5, [.int (nI 0), .ref ms, .ref mf, .ref mc, .ref my, .ref mb, .ref mz, .ref mp, .ref mo, .ref mm, .ref ml, .ref md, .int (nI (wr)), .int (bI sp), .int (bI rp), .int (bI fi), .int (nI (gd)), .ref me, .ref mg, .int (nI (laN v false)), .int (nI 0), .long ((twG g (2640 + p1 + 2) h 64).2), .int 0])), (mb, .inl (E.2 1, 5280, .inl (g))), (mg, .inl (E.2 1, 58, .inl ((twG g (2640 + p1 + 2) h 64).1)))]) rfl (by omega) (by decide) (x' := nI (onF (laN v false) 16)) (rfl) (by rw [pr2_1]; rfl) d_M_take_212 rfl ?_
  refine x_aload_n 214 hB d_M_take_213 rfl rfl ?_
  refine x_get 217 hB 6 fg_M_41_5 rfl rfl d_M_take_214 rfl ?_
  refine x_iconst (v := nI 1) 218 hB d_M_take_217 rfl (by decide) ?_
  refine x_iload_n 219 hB d_M_take_218 rfl rfl ?_
  refine x_if_eq 231 222 hB d_M_take_219 (by decide) rfl (fun _ => ?_) (fun hc => absurd (by decide) hc)
  refine x_aload_n 232 hB d_M_take_231 rfl rfl ?_
  refine x_get 235 hB 6 fg_M_41_5 rfl rfl d_M_take_232 rfl ?_
  refine x_iconst (v := nI 1) 236 hB d_M_take_235 rfl (by decide) ?_
  refine x_iald 237 hB 5 rfl (by omega) (by decide) d_M_take_236 rfl ?_
  refine x_top (v' := .int (nI (bd))) rfl ?_
  refine x_iconst (v := nI 1) 238 hB d_M_take_237 rfl (by decide) ?_
  refine x_iadd 239 hB d_M_take_238 rfl ?_
  refine x_top (v' := .int (nI (bd + 1))) (congrArg Value.int (nI_add bd 1)) ?_
  refine x_iast 240 hB 5 (ws' := [(mz, .inl (E.2 1, 2, .inl (pr2 (nI (z0)) (nI (z1))))), (mp, .inl (E.2 1, 2, .inl (pr2 (nI (p0)) (nI (p1 + 66))))), (mo, .inl (E.2 3, 2, .inl (pr2 (o0) (bI true)))), (mm, .inl (E.2 1, 2, .inl (pr2 (m0) (nI (onF (laN v false) 16))))), (ml, .inl (E.2 1, 2, .inl (pr2 (l0) (nI (sl))))), (md, .inl (E.2 1, 2, .inl (pr2 (b0) (nI (bd + 1))))), (hm, .inr (5, [.int (nI 0), .ref ms, .ref mf, .ref mc, .ref my, .ref mb, .ref mz, .ref mp, .ref mo, .ref mm, .ref ml, .ref md, .int (nI (wr)), .int (bI sp), .int (bI rp), .int (bI fi), .int (nI (gd)), .ref me, .ref mg, .int (nI (laN v false)), .int (nI 0), .long ((twG g (2640 + p1 + 2) h 64).2), .int 0])), (mb, .inl (E.2 1, 5280, .inl (g))), (mg, .inl (E.2 1, 58, .inl ((twG g (2640 + p1 + 2) h 64).1)))]) rfl (by omega) (by decide) (x' := nI (bd + 1)) (rfl) (by rw [pr2_1]; rfl) d_M_take_239 rfl ?_
  refine x_aload_n 241 hB d_M_take_240 rfl rfl ?_
  refine x_get 244 hB 6 fg_M_35_5 rfl rfl d_M_take_241 rfl ?_
  refine x_iconst (v := nI 1) 245 hB d_M_take_244 rfl (by decide) ?_
  refine x_iald 246 hB 3 rfl (by omega) (by decide) d_M_take_245 rfl ?_
  refine x_top (v' := .int (nI (onF (laN v false) 16))) rfl ?_
  refine x_iconst (v := nI 4) 247 hB d_M_take_246 rfl (by decide) ?_
  refine x_icmp_ne 264 250 hB d_M_take_247 (by decide) rfl (fun h247 => ?_) (fun h247 => ?_)
  · skip
    have k247 : ¬ onF (laN v false) 16 = 4 := fun h => h247 ((nI_eq (by omega) (by omega)).mpr h)
    refine x_iload_n 265 hB d_M_take_264 rfl rfl ?_
    refine x_if_eq 272 268 hB d_M_take_265 (by decide) rfl (fun _ => ?_) (fun hc => absurd (by decide) hc)
    refine x_bipush (v := (-2 : Int32)) 274 hB d_M_take_272 rfl (by decide) ?_
    exact x_iret hB (w' := [(hm, .inr (5, [.int (nI 0), .ref ms, .ref mf, .ref mc, .ref my, .ref mb, .ref mz, .ref mp, .ref mo, .ref mm, .ref ml, .ref md, .int (nI (wr)), .int (bI sp), .int (bI rp), .int (bI fi), .int (nI (gd)), .ref me, .ref mg, .int (nI (laN v false)), .int (nI 0), .long ((twG g (2640 + p1 + 2) h 64).2), .int 0])), (mb, .inl (E.2 1, 5280, .inl (g))), (mz, .inl (E.2 1, 2, .inl (pr2 (nI (z0)) (nI (z1))))), (mp, .inl (E.2 1, 2, .inl (pr2 (nI (p0)) (nI (p1 + 66))))), (mo, .inl (E.2 3, 2, .inl (pr2 (o0) (bI true)))), (mm, .inl (E.2 1, 2, .inl (pr2 (m0) (nI (onF (laN v false) 16))))), (ml, .inl (E.2 1, 2, .inl (pr2 (l0) (nI (sl))))), (md, .inl (E.2 1, 2, .inl (pr2 (b0) (nI (bd + 1))))), (mg, .inl (E.2 1, 58, .inl ((twG g (2640 + p1 + 2) h 64).1)))]) hA [6, 7, 0, 1, 2, 3, 4, 5, 8] rfl rfl (⟨rfl, by rw [mk4, if_pos (by omega), decide_eq_true (by omega)]⟩) (by decide) (by decide) d_M_take_274
  · skip
    have k247 : onF (laN v false) 16 = 4 := (nI_eq (by omega) (by omega)).mp h247
    refine x_aload_n 251 hB d_M_take_250 rfl rfl ?_
    refine x_get 254 hB 6 fg_M_31_5 rfl rfl d_M_take_251 rfl ?_
    refine x_iconst (v := nI 1) 255 hB d_M_take_254 rfl (by decide) ?_
    refine x_iconst (v := nI 0) 256 hB d_M_take_255 rfl (by decide) ?_
    refine x_zast 257 hB 2 (ws' := [(mz, .inl (E.2 1, 2, .inl (pr2 (nI (z0)) (nI (z1))))), (mp, .inl (E.2 1, 2, .inl (pr2 (nI (p0)) (nI (p1 + 66))))), (mo, .inl (E.2 3, 2, .inl (pr2 (o0) (nI 0)))), (mm, .inl (E.2 1, 2, .inl (pr2 (m0) (nI (onF (laN v false) 16))))), (ml, .inl (E.2 1, 2, .inl (pr2 (l0) (nI (sl))))), (md, .inl (E.2 1, 2, .inl (pr2 (b0) (nI (bd + 1))))), (hm, .inr (5, [.int (nI 0), .ref ms, .ref mf, .ref mc, .ref my, .ref mb, .ref mz, .ref mp, .ref mo, .ref mm, .ref ml, .ref md, .int (nI (wr)), .int (bI sp), .int (bI rp), .int (bI fi), .int (nI (gd)), .ref me, .ref mg, .int (nI (laN v false)), .int (nI 0), .long ((twG g (2640 + p1 + 2) h 64).2), .int 0])), (mb, .inl (E.2 1, 5280, .inl (g))), (mg, .inl (E.2 1, 58, .inl ((twG g (2640 + p1 + 2) h 64).1)))]) rfl (by omega) (by decide) (x' := nI 0) (by decide) (by rw [pr2_1]; rfl) d_M_take_256 rfl ?_
    refine x_aload_n 258 hB d_M_take_257 rfl rfl ?_
    refine x_get 261 hB 6 fg_M_35_5 rfl rfl d_M_take_258 rfl ?_
    refine x_iconst (v := nI 1) 262 hB d_M_take_261 rfl (by decide) ?_
    refine x_iconst (v := nI 0) 263 hB d_M_take_262 rfl (by decide) ?_
    refine x_iast 264 hB 3 (ws' := [(mz, .inl (E.2 1, 2, .inl (pr2 (nI (z0)) (nI (z1))))), (mp, .inl (E.2 1, 2, .inl (pr2 (nI (p0)) (nI (p1 + 66))))), (mo, .inl (E.2 3, 2, .inl (pr2 (o0) (nI 0)))), (mm, .inl (E.2 1, 2, .inl (pr2 (m0) (nI 0)))), (ml, .inl (E.2 1, 2, .inl (pr2 (l0) (nI (sl))))), (md, .inl (E.2 1, 2, .inl (pr2 (b0) (nI (bd + 1))))), (hm, .inr (5, [.int (nI 0), .ref ms, .ref mf, .ref mc, .ref my, .ref mb, .ref mz, .ref mp, .ref mo, .ref mm, .ref ml, .ref md, .int (nI (wr)), .int (bI sp), .int (bI rp), .int (bI fi), .int (nI (gd)), .ref me, .ref mg, .int (nI (laN v false)), .int (nI 0), .long ((twG g (2640 + p1 + 2) h 64).2), .int 0])), (mb, .inl (E.2 1, 5280, .inl (g))), (mg, .inl (E.2 1, 58, .inl ((twG g (2640 + p1 + 2) h 64).1)))]) rfl (by omega) (by decide) (x' := nI 0) (rfl) (by rw [pr2_1]; rfl) d_M_take_263 rfl ?_
    refine x_iload_n 265 hB d_M_take_264 rfl rfl ?_
    refine x_if_eq 272 268 hB d_M_take_265 (by decide) rfl (fun _ => ?_) (fun hc => absurd (by decide) hc)
    refine x_bipush (v := (-2 : Int32)) 274 hB d_M_take_272 rfl (by decide) ?_
    exact x_iret hB (w' := [(hm, .inr (5, [.int (nI 0), .ref ms, .ref mf, .ref mc, .ref my, .ref mb, .ref mz, .ref mp, .ref mo, .ref mm, .ref ml, .ref md, .int (nI (wr)), .int (bI sp), .int (bI rp), .int (bI fi), .int (nI (gd)), .ref me, .ref mg, .int (nI (laN v false)), .int (nI 0), .long ((twG g (2640 + p1 + 2) h 64).2), .int 0])), (mb, .inl (E.2 1, 5280, .inl (g))), (mz, .inl (E.2 1, 2, .inl (pr2 (nI (z0)) (nI (z1))))), (mp, .inl (E.2 1, 2, .inl (pr2 (nI (p0)) (nI (p1 + 66))))), (mo, .inl (E.2 3, 2, .inl (pr2 (o0) (nI 0)))), (mm, .inl (E.2 1, 2, .inl (pr2 (m0) (nI 0)))), (ml, .inl (E.2 1, 2, .inl (pr2 (l0) (nI (sl))))), (md, .inl (E.2 1, 2, .inl (pr2 (b0) (nI (bd + 1))))), (mg, .inl (E.2 1, 58, .inl ((twG g (2640 + p1 + 2) h 64).1)))]) hA [6, 7, 0, 1, 2, 3, 4, 5, 8] rfl rfl (⟨rfl, by rw [mk4, if_neg (by omega), decide_eq_false (by omega)]; rfl⟩) (by decide) (by decide) d_M_take_274
abbrev rm_M_count0_0 : Room := { frames := 1, cells := 0, slots := 0, locals := 25 }
set_option maxHeartbeats 4000000 in
set_option maxRecDepth 100000 in
theorem c_M_count0_0 (l : Launch) (E : xE) (hm ms mf mc my mb mz mp mo mm ml md me mg : Nat) (re : Int32) (wr : Nat) (sp rp fi : Bool) (gd : Nat) (la : Int32) (lst : Int64) (e0 e1 : Int32) : xC l E y_M_count (.code y_M_count prog_10_method_33_code 3 (some .int)) rm_M_count0_0 [.ref hm, .int (nI 0), .int (nI 0)] [(hm, .inr (5, [.int (re), .ref ms, .ref mf, .ref mc, .ref my, .ref mb, .ref mz, .ref mp, .ref mo, .ref mm, .ref ml, .ref md, .int (nI (wr)), .int (bI sp), .int (bI rp), .int (bI fi), .int (nI (gd)), .ref me, .ref mg, .int (la), .int (nI 0), .long (lst), .int 0])), (mz, .inl (E.2 1, 2, .inl (pr2 (e0) (e1))))] (xRet (some (.int (e0))) [(hm, .inr (5, [.int (nI 0), .ref ms, .ref mf, .ref mc, .ref my, .ref mb, .ref mz, .ref mp, .ref mo, .ref mm, .ref ml, .ref md, .int (nI (wr)), .int (bI sp), .int (bI rp), .int (bI fi), .int (nI (gd)), .ref me, .ref mg, .int (la), .int (nI 0), .long (lst), .int 0])), (mz, .inl (E.2 1, 2, .inl (pr2 (e0) (e1))))]) := by
  refine x_of' (own := "LineCoderModel") (mn := "count") (lv := [(0, .ref hm), (1, .int (nI 0)), (2, .int (nI 0))]) (plainFor_of_name (by decide)) rfl rfl (Nat.le_of_ble_eq_true rfl) rfl ?_
  intro p_ e_ s_ m_ ar_ be_ me_ c_ A_ hA hB
  refine x_aload_n 1 hB d_M_count_0 rfl rfl ?_
  refine x_iload_n 2 hB d_M_count_1 rfl rfl ?_
  refine x_callP (k' := 0) (n' := 0) (rest := [.ref hm]) (st' := [.int (nI 1), .ref hm]) 5 hB (x_pfS (av := [.int (nI 0)]) hB w_772 xHd_code w_7 w_770 w_771 nm_M_isStream rfl d_M_count_2) (c_M_isStream_0 l E ) w_772 xHd_code w_7 [] rfl rfl ⟨by decide, by decide⟩ ⟨by decide, by decide⟩ rfl rfl (Nat.le_of_ble_eq_true rfl) d_M_count_2 rfl rfl ?_
  refine x_if_eq 22 8 hB d_M_count_5 (by decide) rfl (fun hc => absurd hc (by decide)) (fun _ => ?_)
  refine x_iload_n 9 hB d_M_count_8 rfl rfl ?_
  refine x_iconst (v := nI 0) 10 hB d_M_count_9 rfl (by decide) ?_
  refine x_bipush (v := nI 8) 12 hB d_M_count_10 rfl (by decide) ?_
  refine x_callP (k' := 0) (n' := 0) (rest := [.ref hm]) (st' := [.int (nI 1), .ref hm]) 15 hB (x_pfS (av := [.int (nI 0), .int (nI 0), .int (nI 8)]) hB w_716 xHd_code w_7 w_714 w_715 nm_M_isIn rfl d_M_count_12) (c_M_isIn_y l E (nI 0) (nI 0) (nI 8) (by decide) (by decide)) w_716 xHd_code w_7 [] rfl rfl ⟨by decide, by decide⟩ ⟨by decide, by decide⟩ rfl rfl (Nat.le_of_ble_eq_true rfl) d_M_count_12 rfl rfl ?_
  refine x_if_eq 22 18 hB d_M_count_15 (by decide) rfl (fun hc => absurd hc (by decide)) (fun _ => ?_)
  refine x_iconst (v := nI 0) 19 hB d_M_count_18 rfl (by decide) ?_
  refine x_goto 23 hB d_M_count_19 (by decide) ?_
  refine x_callD (k' := 0) (n' := 0) (rest := []) (wr := [(mz, .inl (E.2 1, 2, .inl (pr2 (e0) (e1))))]) (ws' := [(mz, .inl (E.2 1, 2, .inl (pr2 (e0) (e1)))), (hm, .inr (5, [.int (nI 0), .ref ms, .ref mf, .ref mc, .ref my, .ref mb, .ref mz, .ref mp, .ref mo, .ref mm, .ref ml, .ref md, .int (nI (wr)), .int (bI sp), .int (bI rp), .int (bI fi), .int (nI (gd)), .ref me, .ref mg, .int (la), .int (nI 0), .long (lst), .int 0]))]) (st' := [.int (nI 0)]) 26 hB (x_pfV (av := [.int (nI 0)]) (q0 := 0) hB w_709 xHd_code w_706 w_708 s_M_refused rfl rfl nm_M_refused rfl d_M_count_23) (c_M_refused0 l E hm ms mf mc my mb mz mp mo mm ml md me mg (re) (wr) (sp) (rp) (fi) (gd) (la) (lst)) w_709 xHd_code w_7 [0] [1] rfl rfl rfl rfl (by decide) ⟨by decide, by decide⟩ ⟨by decide, by decide⟩ rfl rfl (Nat.le_of_ble_eq_true rfl) d_M_count_23 rfl rfl rfl ?_
  refine x_if_eq 31 29 hB d_M_count_26 (by decide) rfl (fun _ => ?_) (fun hc => absurd (by decide) hc)
  refine x_iload_n 32 hB d_M_count_31 rfl rfl ?_
  refine x_tabIn 80 hB d_M_count_32 (by decide) (by decide) (off := 48) (by decide) (by decide) ?_
  refine x_aload_n 81 hB d_M_count_80 rfl rfl ?_
  refine x_get 84 hB 1 fg_M_25_5 rfl rfl d_M_count_81 rfl ?_
  refine x_iload_n 85 hB d_M_count_84 rfl rfl ?_
  refine x_iald 86 hB 0 rfl (by omega) (by decide) d_M_count_85 rfl ?_
  refine x_top (v' := .int (e0)) rfl ?_
  exact x_iret hB (w' := [(hm, .inr (5, [.int (nI 0), .ref ms, .ref mf, .ref mc, .ref my, .ref mb, .ref mz, .ref mp, .ref mo, .ref mm, .ref ml, .ref md, .int (nI (wr)), .int (bI sp), .int (bI rp), .int (bI fi), .int (nI (gd)), .ref me, .ref mg, .int (la), .int (nI 0), .long (lst), .int 0])), (mz, .inl (E.2 1, 2, .inl (pr2 (e0) (e1))))]) hA [1, 0] rfl rfl (xRet_i) (by decide) (by decide) d_M_count_86
abbrev rm_M_count0_1 : Room := { frames := 1, cells := 0, slots := 0, locals := 25 }
set_option maxHeartbeats 4000000 in
set_option maxRecDepth 100000 in
theorem c_M_count0_1 (l : Launch) (E : xE) (hm ms mf mc my mb mz mp mo mm ml md me mg : Nat) (re : Int32) (wr : Nat) (sp rp fi : Bool) (gd : Nat) (la : Int32) (lst : Int64) (e0 e1 : Int32) : xC l E y_M_count (.code y_M_count prog_10_method_33_code 3 (some .int)) rm_M_count0_1 [.ref hm, .int (nI 0), .int (nI 1)] [(hm, .inr (5, [.int (re), .ref ms, .ref mf, .ref mc, .ref my, .ref mb, .ref mz, .ref mp, .ref mo, .ref mm, .ref ml, .ref md, .int (nI (wr)), .int (bI sp), .int (bI rp), .int (bI fi), .int (nI (gd)), .ref me, .ref mg, .int (la), .int (nI 0), .long (lst), .int 0])), (mp, .inl (E.2 1, 2, .inl (pr2 (e0) (e1))))] (xRet (some (.int (e0))) [(hm, .inr (5, [.int (nI 0), .ref ms, .ref mf, .ref mc, .ref my, .ref mb, .ref mz, .ref mp, .ref mo, .ref mm, .ref ml, .ref md, .int (nI (wr)), .int (bI sp), .int (bI rp), .int (bI fi), .int (nI (gd)), .ref me, .ref mg, .int (la), .int (nI 0), .long (lst), .int 0])), (mp, .inl (E.2 1, 2, .inl (pr2 (e0) (e1))))]) := by
  refine x_of' (own := "LineCoderModel") (mn := "count") (lv := [(0, .ref hm), (1, .int (nI 0)), (2, .int (nI 1))]) (plainFor_of_name (by decide)) rfl rfl (Nat.le_of_ble_eq_true rfl) rfl ?_
  intro p_ e_ s_ m_ ar_ be_ me_ c_ A_ hA hB
  refine x_aload_n 1 hB d_M_count_0 rfl rfl ?_
  refine x_iload_n 2 hB d_M_count_1 rfl rfl ?_
  refine x_callP (k' := 0) (n' := 0) (rest := [.ref hm]) (st' := [.int (nI 1), .ref hm]) 5 hB (x_pfS (av := [.int (nI 0)]) hB w_772 xHd_code w_7 w_770 w_771 nm_M_isStream rfl d_M_count_2) (c_M_isStream_0 l E ) w_772 xHd_code w_7 [] rfl rfl ⟨by decide, by decide⟩ ⟨by decide, by decide⟩ rfl rfl (Nat.le_of_ble_eq_true rfl) d_M_count_2 rfl rfl ?_
  refine x_if_eq 22 8 hB d_M_count_5 (by decide) rfl (fun hc => absurd hc (by decide)) (fun _ => ?_)
  refine x_iload_n 9 hB d_M_count_8 rfl rfl ?_
  refine x_iconst (v := nI 0) 10 hB d_M_count_9 rfl (by decide) ?_
  refine x_bipush (v := nI 8) 12 hB d_M_count_10 rfl (by decide) ?_
  refine x_callP (k' := 0) (n' := 0) (rest := [.ref hm]) (st' := [.int (nI 1), .ref hm]) 15 hB (x_pfS (av := [.int (nI 1), .int (nI 0), .int (nI 8)]) hB w_716 xHd_code w_7 w_714 w_715 nm_M_isIn rfl d_M_count_12) (c_M_isIn_y l E (nI 1) (nI 0) (nI 8) (by decide) (by decide)) w_716 xHd_code w_7 [] rfl rfl ⟨by decide, by decide⟩ ⟨by decide, by decide⟩ rfl rfl (Nat.le_of_ble_eq_true rfl) d_M_count_12 rfl rfl ?_
  refine x_if_eq 22 18 hB d_M_count_15 (by decide) rfl (fun hc => absurd hc (by decide)) (fun _ => ?_)
  refine x_iconst (v := nI 0) 19 hB d_M_count_18 rfl (by decide) ?_
  refine x_goto 23 hB d_M_count_19 (by decide) ?_
  refine x_callD (k' := 0) (n' := 0) (rest := []) (wr := [(mp, .inl (E.2 1, 2, .inl (pr2 (e0) (e1))))]) (ws' := [(mp, .inl (E.2 1, 2, .inl (pr2 (e0) (e1)))), (hm, .inr (5, [.int (nI 0), .ref ms, .ref mf, .ref mc, .ref my, .ref mb, .ref mz, .ref mp, .ref mo, .ref mm, .ref ml, .ref md, .int (nI (wr)), .int (bI sp), .int (bI rp), .int (bI fi), .int (nI (gd)), .ref me, .ref mg, .int (la), .int (nI 0), .long (lst), .int 0]))]) (st' := [.int (nI 0)]) 26 hB (x_pfV (av := [.int (nI 0)]) (q0 := 0) hB w_709 xHd_code w_706 w_708 s_M_refused rfl rfl nm_M_refused rfl d_M_count_23) (c_M_refused0 l E hm ms mf mc my mb mz mp mo mm ml md me mg (re) (wr) (sp) (rp) (fi) (gd) (la) (lst)) w_709 xHd_code w_7 [0] [1] rfl rfl rfl rfl (by decide) ⟨by decide, by decide⟩ ⟨by decide, by decide⟩ rfl rfl (Nat.le_of_ble_eq_true rfl) d_M_count_23 rfl rfl rfl ?_
  refine x_if_eq 31 29 hB d_M_count_26 (by decide) rfl (fun _ => ?_) (fun hc => absurd (by decide) hc)
  refine x_iload_n 32 hB d_M_count_31 rfl rfl ?_
  refine x_tabIn 87 hB d_M_count_32 (by decide) (by decide) (off := 55) (by decide) (by decide) ?_
  refine x_aload_n 88 hB d_M_count_87 rfl rfl ?_
  refine x_get 91 hB 1 fg_M_28_5 rfl rfl d_M_count_88 rfl ?_
  refine x_iload_n 92 hB d_M_count_91 rfl rfl ?_
  refine x_iald 93 hB 0 rfl (by omega) (by decide) d_M_count_92 rfl ?_
  refine x_top (v' := .int (e0)) rfl ?_
  exact x_iret hB (w' := [(hm, .inr (5, [.int (nI 0), .ref ms, .ref mf, .ref mc, .ref my, .ref mb, .ref mz, .ref mp, .ref mo, .ref mm, .ref ml, .ref md, .int (nI (wr)), .int (bI sp), .int (bI rp), .int (bI fi), .int (nI (gd)), .ref me, .ref mg, .int (la), .int (nI 0), .long (lst), .int 0])), (mp, .inl (E.2 1, 2, .inl (pr2 (e0) (e1))))]) hA [1, 0] rfl rfl (xRet_i) (by decide) (by decide) d_M_count_93
abbrev rm_M_count0_3 : Room := { frames := 1, cells := 0, slots := 0, locals := 25 }
set_option maxHeartbeats 4000000 in
set_option maxRecDepth 100000 in
theorem c_M_count0_3 (l : Launch) (E : xE) (hm ms mf mc my mb mz mp mo mm ml md me mg : Nat) (re : Int32) (wr : Nat) (sp rp fi : Bool) (gd : Nat) (la : Int32) (lst : Int64) (e0 e1 : Int32) : xC l E y_M_count (.code y_M_count prog_10_method_33_code 3 (some .int)) rm_M_count0_3 [.ref hm, .int (nI 0), .int (nI 3)] [(hm, .inr (5, [.int (re), .ref ms, .ref mf, .ref mc, .ref my, .ref mb, .ref mz, .ref mp, .ref mo, .ref mm, .ref ml, .ref md, .int (nI (wr)), .int (bI sp), .int (bI rp), .int (bI fi), .int (nI (gd)), .ref me, .ref mg, .int (la), .int (nI 0), .long (lst), .int 0])), (mm, .inl (E.2 1, 2, .inl (pr2 (e0) (e1))))] (xRet (some (.int (e0))) [(hm, .inr (5, [.int (nI 0), .ref ms, .ref mf, .ref mc, .ref my, .ref mb, .ref mz, .ref mp, .ref mo, .ref mm, .ref ml, .ref md, .int (nI (wr)), .int (bI sp), .int (bI rp), .int (bI fi), .int (nI (gd)), .ref me, .ref mg, .int (la), .int (nI 0), .long (lst), .int 0])), (mm, .inl (E.2 1, 2, .inl (pr2 (e0) (e1))))]) := by
  refine x_of' (own := "LineCoderModel") (mn := "count") (lv := [(0, .ref hm), (1, .int (nI 0)), (2, .int (nI 3))]) (plainFor_of_name (by decide)) rfl rfl (Nat.le_of_ble_eq_true rfl) rfl ?_
  intro p_ e_ s_ m_ ar_ be_ me_ c_ A_ hA hB
  refine x_aload_n 1 hB d_M_count_0 rfl rfl ?_
  refine x_iload_n 2 hB d_M_count_1 rfl rfl ?_
  refine x_callP (k' := 0) (n' := 0) (rest := [.ref hm]) (st' := [.int (nI 1), .ref hm]) 5 hB (x_pfS (av := [.int (nI 0)]) hB w_772 xHd_code w_7 w_770 w_771 nm_M_isStream rfl d_M_count_2) (c_M_isStream_0 l E ) w_772 xHd_code w_7 [] rfl rfl ⟨by decide, by decide⟩ ⟨by decide, by decide⟩ rfl rfl (Nat.le_of_ble_eq_true rfl) d_M_count_2 rfl rfl ?_
  refine x_if_eq 22 8 hB d_M_count_5 (by decide) rfl (fun hc => absurd hc (by decide)) (fun _ => ?_)
  refine x_iload_n 9 hB d_M_count_8 rfl rfl ?_
  refine x_iconst (v := nI 0) 10 hB d_M_count_9 rfl (by decide) ?_
  refine x_bipush (v := nI 8) 12 hB d_M_count_10 rfl (by decide) ?_
  refine x_callP (k' := 0) (n' := 0) (rest := [.ref hm]) (st' := [.int (nI 1), .ref hm]) 15 hB (x_pfS (av := [.int (nI 3), .int (nI 0), .int (nI 8)]) hB w_716 xHd_code w_7 w_714 w_715 nm_M_isIn rfl d_M_count_12) (c_M_isIn_y l E (nI 3) (nI 0) (nI 8) (by decide) (by decide)) w_716 xHd_code w_7 [] rfl rfl ⟨by decide, by decide⟩ ⟨by decide, by decide⟩ rfl rfl (Nat.le_of_ble_eq_true rfl) d_M_count_12 rfl rfl ?_
  refine x_if_eq 22 18 hB d_M_count_15 (by decide) rfl (fun hc => absurd hc (by decide)) (fun _ => ?_)
  refine x_iconst (v := nI 0) 19 hB d_M_count_18 rfl (by decide) ?_
  refine x_goto 23 hB d_M_count_19 (by decide) ?_
  refine x_callD (k' := 0) (n' := 0) (rest := []) (wr := [(mm, .inl (E.2 1, 2, .inl (pr2 (e0) (e1))))]) (ws' := [(mm, .inl (E.2 1, 2, .inl (pr2 (e0) (e1)))), (hm, .inr (5, [.int (nI 0), .ref ms, .ref mf, .ref mc, .ref my, .ref mb, .ref mz, .ref mp, .ref mo, .ref mm, .ref ml, .ref md, .int (nI (wr)), .int (bI sp), .int (bI rp), .int (bI fi), .int (nI (gd)), .ref me, .ref mg, .int (la), .int (nI 0), .long (lst), .int 0]))]) (st' := [.int (nI 0)]) 26 hB (x_pfV (av := [.int (nI 0)]) (q0 := 0) hB w_709 xHd_code w_706 w_708 s_M_refused rfl rfl nm_M_refused rfl d_M_count_23) (c_M_refused0 l E hm ms mf mc my mb mz mp mo mm ml md me mg (re) (wr) (sp) (rp) (fi) (gd) (la) (lst)) w_709 xHd_code w_7 [0] [1] rfl rfl rfl rfl (by decide) ⟨by decide, by decide⟩ ⟨by decide, by decide⟩ rfl rfl (Nat.le_of_ble_eq_true rfl) d_M_count_23 rfl rfl rfl ?_
  refine x_if_eq 31 29 hB d_M_count_26 (by decide) rfl (fun _ => ?_) (fun hc => absurd (by decide) hc)
  refine x_iload_n 32 hB d_M_count_31 rfl rfl ?_
  refine x_tabIn 109 hB d_M_count_32 (by decide) (by decide) (off := 77) (by decide) (by decide) ?_
  refine x_aload_n 110 hB d_M_count_109 rfl rfl ?_
  refine x_get 113 hB 1 fg_M_35_5 rfl rfl d_M_count_110 rfl ?_
  refine x_iload_n 114 hB d_M_count_113 rfl rfl ?_
  refine x_iald 115 hB 0 rfl (by omega) (by decide) d_M_count_114 rfl ?_
  refine x_top (v' := .int (e0)) rfl ?_
  exact x_iret hB (w' := [(hm, .inr (5, [.int (nI 0), .ref ms, .ref mf, .ref mc, .ref my, .ref mb, .ref mz, .ref mp, .ref mo, .ref mm, .ref ml, .ref md, .int (nI (wr)), .int (bI sp), .int (bI rp), .int (bI fi), .int (nI (gd)), .ref me, .ref mg, .int (la), .int (nI 0), .long (lst), .int 0])), (mm, .inl (E.2 1, 2, .inl (pr2 (e0) (e1))))]) hA [1, 0] rfl rfl (xRet_i) (by decide) (by decide) d_M_count_115
abbrev rm_M_count0_4 : Room := { frames := 1, cells := 0, slots := 0, locals := 25 }
set_option maxHeartbeats 4000000 in
set_option maxRecDepth 100000 in
theorem c_M_count0_4 (l : Launch) (E : xE) (hm ms mf mc my mb mz mp mo mm ml md me mg : Nat) (re : Int32) (wr : Nat) (sp rp fi : Bool) (gd : Nat) (la : Int32) (lst : Int64) (e0 e1 : Int32) : xC l E y_M_count (.code y_M_count prog_10_method_33_code 3 (some .int)) rm_M_count0_4 [.ref hm, .int (nI 0), .int (nI 4)] [(hm, .inr (5, [.int (re), .ref ms, .ref mf, .ref mc, .ref my, .ref mb, .ref mz, .ref mp, .ref mo, .ref mm, .ref ml, .ref md, .int (nI (wr)), .int (bI sp), .int (bI rp), .int (bI fi), .int (nI (gd)), .ref me, .ref mg, .int (la), .int (nI 0), .long (lst), .int 0])), (ml, .inl (E.2 1, 2, .inl (pr2 (e0) (e1))))] (xRet (some (.int (e0))) [(hm, .inr (5, [.int (nI 0), .ref ms, .ref mf, .ref mc, .ref my, .ref mb, .ref mz, .ref mp, .ref mo, .ref mm, .ref ml, .ref md, .int (nI (wr)), .int (bI sp), .int (bI rp), .int (bI fi), .int (nI (gd)), .ref me, .ref mg, .int (la), .int (nI 0), .long (lst), .int 0])), (ml, .inl (E.2 1, 2, .inl (pr2 (e0) (e1))))]) := by
  refine x_of' (own := "LineCoderModel") (mn := "count") (lv := [(0, .ref hm), (1, .int (nI 0)), (2, .int (nI 4))]) (plainFor_of_name (by decide)) rfl rfl (Nat.le_of_ble_eq_true rfl) rfl ?_
  intro p_ e_ s_ m_ ar_ be_ me_ c_ A_ hA hB
  refine x_aload_n 1 hB d_M_count_0 rfl rfl ?_
  refine x_iload_n 2 hB d_M_count_1 rfl rfl ?_
  refine x_callP (k' := 0) (n' := 0) (rest := [.ref hm]) (st' := [.int (nI 1), .ref hm]) 5 hB (x_pfS (av := [.int (nI 0)]) hB w_772 xHd_code w_7 w_770 w_771 nm_M_isStream rfl d_M_count_2) (c_M_isStream_0 l E ) w_772 xHd_code w_7 [] rfl rfl ⟨by decide, by decide⟩ ⟨by decide, by decide⟩ rfl rfl (Nat.le_of_ble_eq_true rfl) d_M_count_2 rfl rfl ?_
  refine x_if_eq 22 8 hB d_M_count_5 (by decide) rfl (fun hc => absurd hc (by decide)) (fun _ => ?_)
  refine x_iload_n 9 hB d_M_count_8 rfl rfl ?_
  refine x_iconst (v := nI 0) 10 hB d_M_count_9 rfl (by decide) ?_
  refine x_bipush (v := nI 8) 12 hB d_M_count_10 rfl (by decide) ?_
  refine x_callP (k' := 0) (n' := 0) (rest := [.ref hm]) (st' := [.int (nI 1), .ref hm]) 15 hB (x_pfS (av := [.int (nI 4), .int (nI 0), .int (nI 8)]) hB w_716 xHd_code w_7 w_714 w_715 nm_M_isIn rfl d_M_count_12) (c_M_isIn_y l E (nI 4) (nI 0) (nI 8) (by decide) (by decide)) w_716 xHd_code w_7 [] rfl rfl ⟨by decide, by decide⟩ ⟨by decide, by decide⟩ rfl rfl (Nat.le_of_ble_eq_true rfl) d_M_count_12 rfl rfl ?_
  refine x_if_eq 22 18 hB d_M_count_15 (by decide) rfl (fun hc => absurd hc (by decide)) (fun _ => ?_)
  refine x_iconst (v := nI 0) 19 hB d_M_count_18 rfl (by decide) ?_
  refine x_goto 23 hB d_M_count_19 (by decide) ?_
  refine x_callD (k' := 0) (n' := 0) (rest := []) (wr := [(ml, .inl (E.2 1, 2, .inl (pr2 (e0) (e1))))]) (ws' := [(ml, .inl (E.2 1, 2, .inl (pr2 (e0) (e1)))), (hm, .inr (5, [.int (nI 0), .ref ms, .ref mf, .ref mc, .ref my, .ref mb, .ref mz, .ref mp, .ref mo, .ref mm, .ref ml, .ref md, .int (nI (wr)), .int (bI sp), .int (bI rp), .int (bI fi), .int (nI (gd)), .ref me, .ref mg, .int (la), .int (nI 0), .long (lst), .int 0]))]) (st' := [.int (nI 0)]) 26 hB (x_pfV (av := [.int (nI 0)]) (q0 := 0) hB w_709 xHd_code w_706 w_708 s_M_refused rfl rfl nm_M_refused rfl d_M_count_23) (c_M_refused0 l E hm ms mf mc my mb mz mp mo mm ml md me mg (re) (wr) (sp) (rp) (fi) (gd) (la) (lst)) w_709 xHd_code w_7 [0] [1] rfl rfl rfl rfl (by decide) ⟨by decide, by decide⟩ ⟨by decide, by decide⟩ rfl rfl (Nat.le_of_ble_eq_true rfl) d_M_count_23 rfl rfl rfl ?_
  refine x_if_eq 31 29 hB d_M_count_26 (by decide) rfl (fun _ => ?_) (fun hc => absurd (by decide) hc)
  refine x_iload_n 32 hB d_M_count_31 rfl rfl ?_
  refine x_tabIn 116 hB d_M_count_32 (by decide) (by decide) (off := 84) (by decide) (by decide) ?_
  refine x_aload_n 117 hB d_M_count_116 rfl rfl ?_
  refine x_get 120 hB 1 fg_M_38_5 rfl rfl d_M_count_117 rfl ?_
  refine x_iload_n 121 hB d_M_count_120 rfl rfl ?_
  refine x_iald 122 hB 0 rfl (by omega) (by decide) d_M_count_121 rfl ?_
  refine x_top (v' := .int (e0)) rfl ?_
  exact x_iret hB (w' := [(hm, .inr (5, [.int (nI 0), .ref ms, .ref mf, .ref mc, .ref my, .ref mb, .ref mz, .ref mp, .ref mo, .ref mm, .ref ml, .ref md, .int (nI (wr)), .int (bI sp), .int (bI rp), .int (bI fi), .int (nI (gd)), .ref me, .ref mg, .int (la), .int (nI 0), .long (lst), .int 0])), (ml, .inl (E.2 1, 2, .inl (pr2 (e0) (e1))))]) hA [1, 0] rfl rfl (xRet_i) (by decide) (by decide) d_M_count_122
abbrev rm_M_count0_5 : Room := { frames := 1, cells := 0, slots := 0, locals := 25 }
set_option maxHeartbeats 4000000 in
set_option maxRecDepth 100000 in
theorem c_M_count0_5 (l : Launch) (E : xE) (hm ms mf mc my mb mz mp mo mm ml md me mg : Nat) (re : Int32) (wr : Nat) (sp rp fi : Bool) (gd : Nat) (la : Int32) (lst : Int64) (e0 e1 : Int32) : xC l E y_M_count (.code y_M_count prog_10_method_33_code 3 (some .int)) rm_M_count0_5 [.ref hm, .int (nI 0), .int (nI 5)] [(hm, .inr (5, [.int (re), .ref ms, .ref mf, .ref mc, .ref my, .ref mb, .ref mz, .ref mp, .ref mo, .ref mm, .ref ml, .ref md, .int (nI (wr)), .int (bI sp), .int (bI rp), .int (bI fi), .int (nI (gd)), .ref me, .ref mg, .int (la), .int (nI 0), .long (lst), .int 0])), (md, .inl (E.2 1, 2, .inl (pr2 (e0) (e1))))] (xRet (some (.int (e0))) [(hm, .inr (5, [.int (nI 0), .ref ms, .ref mf, .ref mc, .ref my, .ref mb, .ref mz, .ref mp, .ref mo, .ref mm, .ref ml, .ref md, .int (nI (wr)), .int (bI sp), .int (bI rp), .int (bI fi), .int (nI (gd)), .ref me, .ref mg, .int (la), .int (nI 0), .long (lst), .int 0])), (md, .inl (E.2 1, 2, .inl (pr2 (e0) (e1))))]) := by
  refine x_of' (own := "LineCoderModel") (mn := "count") (lv := [(0, .ref hm), (1, .int (nI 0)), (2, .int (nI 5))]) (plainFor_of_name (by decide)) rfl rfl (Nat.le_of_ble_eq_true rfl) rfl ?_
  intro p_ e_ s_ m_ ar_ be_ me_ c_ A_ hA hB
  refine x_aload_n 1 hB d_M_count_0 rfl rfl ?_
  refine x_iload_n 2 hB d_M_count_1 rfl rfl ?_
  refine x_callP (k' := 0) (n' := 0) (rest := [.ref hm]) (st' := [.int (nI 1), .ref hm]) 5 hB (x_pfS (av := [.int (nI 0)]) hB w_772 xHd_code w_7 w_770 w_771 nm_M_isStream rfl d_M_count_2) (c_M_isStream_0 l E ) w_772 xHd_code w_7 [] rfl rfl ⟨by decide, by decide⟩ ⟨by decide, by decide⟩ rfl rfl (Nat.le_of_ble_eq_true rfl) d_M_count_2 rfl rfl ?_
  refine x_if_eq 22 8 hB d_M_count_5 (by decide) rfl (fun hc => absurd hc (by decide)) (fun _ => ?_)
  refine x_iload_n 9 hB d_M_count_8 rfl rfl ?_
  refine x_iconst (v := nI 0) 10 hB d_M_count_9 rfl (by decide) ?_
  refine x_bipush (v := nI 8) 12 hB d_M_count_10 rfl (by decide) ?_
  refine x_callP (k' := 0) (n' := 0) (rest := [.ref hm]) (st' := [.int (nI 1), .ref hm]) 15 hB (x_pfS (av := [.int (nI 5), .int (nI 0), .int (nI 8)]) hB w_716 xHd_code w_7 w_714 w_715 nm_M_isIn rfl d_M_count_12) (c_M_isIn_y l E (nI 5) (nI 0) (nI 8) (by decide) (by decide)) w_716 xHd_code w_7 [] rfl rfl ⟨by decide, by decide⟩ ⟨by decide, by decide⟩ rfl rfl (Nat.le_of_ble_eq_true rfl) d_M_count_12 rfl rfl ?_
  refine x_if_eq 22 18 hB d_M_count_15 (by decide) rfl (fun hc => absurd hc (by decide)) (fun _ => ?_)
  refine x_iconst (v := nI 0) 19 hB d_M_count_18 rfl (by decide) ?_
  refine x_goto 23 hB d_M_count_19 (by decide) ?_
  refine x_callD (k' := 0) (n' := 0) (rest := []) (wr := [(md, .inl (E.2 1, 2, .inl (pr2 (e0) (e1))))]) (ws' := [(md, .inl (E.2 1, 2, .inl (pr2 (e0) (e1)))), (hm, .inr (5, [.int (nI 0), .ref ms, .ref mf, .ref mc, .ref my, .ref mb, .ref mz, .ref mp, .ref mo, .ref mm, .ref ml, .ref md, .int (nI (wr)), .int (bI sp), .int (bI rp), .int (bI fi), .int (nI (gd)), .ref me, .ref mg, .int (la), .int (nI 0), .long (lst), .int 0]))]) (st' := [.int (nI 0)]) 26 hB (x_pfV (av := [.int (nI 0)]) (q0 := 0) hB w_709 xHd_code w_706 w_708 s_M_refused rfl rfl nm_M_refused rfl d_M_count_23) (c_M_refused0 l E hm ms mf mc my mb mz mp mo mm ml md me mg (re) (wr) (sp) (rp) (fi) (gd) (la) (lst)) w_709 xHd_code w_7 [0] [1] rfl rfl rfl rfl (by decide) ⟨by decide, by decide⟩ ⟨by decide, by decide⟩ rfl rfl (Nat.le_of_ble_eq_true rfl) d_M_count_23 rfl rfl rfl ?_
  refine x_if_eq 31 29 hB d_M_count_26 (by decide) rfl (fun _ => ?_) (fun hc => absurd (by decide) hc)
  refine x_iload_n 32 hB d_M_count_31 rfl rfl ?_
  refine x_tabIn 123 hB d_M_count_32 (by decide) (by decide) (off := 91) (by decide) (by decide) ?_
  refine x_aload_n 124 hB d_M_count_123 rfl rfl ?_
  refine x_get 127 hB 1 fg_M_41_5 rfl rfl d_M_count_124 rfl ?_
  refine x_iload_n 128 hB d_M_count_127 rfl rfl ?_
  refine x_iald 129 hB 0 rfl (by omega) (by decide) d_M_count_128 rfl ?_
  refine x_top (v' := .int (e0)) rfl ?_
  exact x_iret hB (w' := [(hm, .inr (5, [.int (nI 0), .ref ms, .ref mf, .ref mc, .ref my, .ref mb, .ref mz, .ref mp, .ref mo, .ref mm, .ref ml, .ref md, .int (nI (wr)), .int (bI sp), .int (bI rp), .int (bI fi), .int (nI (gd)), .ref me, .ref mg, .int (la), .int (nI 0), .long (lst), .int 0])), (md, .inl (E.2 1, 2, .inl (pr2 (e0) (e1))))]) hA [1, 0] rfl rfl (xRet_i) (by decide) (by decide) d_M_count_129
abbrev rm_M_count0_2 : Room := { frames := 1, cells := 0, slots := 0, locals := 25 }
set_option maxHeartbeats 4000000 in
set_option maxRecDepth 100000 in
theorem c_M_count0_2 (l : Launch) (E : xE) (hm ms mf mc my mb mz mp mo mm ml md me mg : Nat) (re : Int32) (wr : Nat) (sp rp fi : Bool) (gd : Nat) (la : Int32) (lst : Int64) (e0 e1 : Int32) (fo : Bool) : xC l E y_M_count (.code y_M_count prog_10_method_33_code 3 (some .int)) rm_M_count0_2 [.ref hm, .int (nI 0), .int (nI 2)] [(hm, .inr (5, [.int (re), .ref ms, .ref mf, .ref mc, .ref my, .ref mb, .ref mz, .ref mp, .ref mo, .ref mm, .ref ml, .ref md, .int (nI (wr)), .int (bI sp), .int (bI rp), .int (bI fi), .int (nI (gd)), .ref me, .ref mg, .int (la), .int (nI 0), .long (lst), .int 0])), (mo, .inl (E.2 3, 2, .inl (pr2 (bI fo) (e1))))] (xRet (some (.int (bI fo))) [(hm, .inr (5, [.int (nI 0), .ref ms, .ref mf, .ref mc, .ref my, .ref mb, .ref mz, .ref mp, .ref mo, .ref mm, .ref ml, .ref md, .int (nI (wr)), .int (bI sp), .int (bI rp), .int (bI fi), .int (nI (gd)), .ref me, .ref mg, .int (la), .int (nI 0), .long (lst), .int 0])), (mo, .inl (E.2 3, 2, .inl (pr2 (bI fo) (e1))))]) := by
  refine x_of' (own := "LineCoderModel") (mn := "count") (lv := [(0, .ref hm), (1, .int (nI 0)), (2, .int (nI 2))]) (plainFor_of_name (by decide)) rfl rfl (Nat.le_of_ble_eq_true rfl) rfl ?_
  intro p_ e_ s_ m_ ar_ be_ me_ c_ A_ hA hB
  refine x_aload_n 1 hB d_M_count_0 rfl rfl ?_
  refine x_iload_n 2 hB d_M_count_1 rfl rfl ?_
  refine x_callP (k' := 0) (n' := 0) (rest := [.ref hm]) (st' := [.int (nI 1), .ref hm]) 5 hB (x_pfS (av := [.int (nI 0)]) hB w_772 xHd_code w_7 w_770 w_771 nm_M_isStream rfl d_M_count_2) (c_M_isStream_0 l E ) w_772 xHd_code w_7 [] rfl rfl ⟨by decide, by decide⟩ ⟨by decide, by decide⟩ rfl rfl (Nat.le_of_ble_eq_true rfl) d_M_count_2 rfl rfl ?_
  refine x_if_eq 22 8 hB d_M_count_5 (by decide) rfl (fun hc => absurd hc (by decide)) (fun _ => ?_)
  refine x_iload_n 9 hB d_M_count_8 rfl rfl ?_
  refine x_iconst (v := nI 0) 10 hB d_M_count_9 rfl (by decide) ?_
  refine x_bipush (v := nI 8) 12 hB d_M_count_10 rfl (by decide) ?_
  refine x_callP (k' := 0) (n' := 0) (rest := [.ref hm]) (st' := [.int (nI 1), .ref hm]) 15 hB (x_pfS (av := [.int (nI 2), .int (nI 0), .int (nI 8)]) hB w_716 xHd_code w_7 w_714 w_715 nm_M_isIn rfl d_M_count_12) (c_M_isIn_y l E (nI 2) (nI 0) (nI 8) (by decide) (by decide)) w_716 xHd_code w_7 [] rfl rfl ⟨by decide, by decide⟩ ⟨by decide, by decide⟩ rfl rfl (Nat.le_of_ble_eq_true rfl) d_M_count_12 rfl rfl ?_
  refine x_if_eq 22 18 hB d_M_count_15 (by decide) rfl (fun hc => absurd hc (by decide)) (fun _ => ?_)
  refine x_iconst (v := nI 0) 19 hB d_M_count_18 rfl (by decide) ?_
  refine x_goto 23 hB d_M_count_19 (by decide) ?_
  refine x_callD (k' := 0) (n' := 0) (rest := []) (wr := [(mo, .inl (E.2 3, 2, .inl (pr2 (bI fo) (e1))))]) (ws' := [(mo, .inl (E.2 3, 2, .inl (pr2 (bI fo) (e1)))), (hm, .inr (5, [.int (nI 0), .ref ms, .ref mf, .ref mc, .ref my, .ref mb, .ref mz, .ref mp, .ref mo, .ref mm, .ref ml, .ref md, .int (nI (wr)), .int (bI sp), .int (bI rp), .int (bI fi), .int (nI (gd)), .ref me, .ref mg, .int (la), .int (nI 0), .long (lst), .int 0]))]) (st' := [.int (nI 0)]) 26 hB (x_pfV (av := [.int (nI 0)]) (q0 := 0) hB w_709 xHd_code w_706 w_708 s_M_refused rfl rfl nm_M_refused rfl d_M_count_23) (c_M_refused0 l E hm ms mf mc my mb mz mp mo mm ml md me mg (re) (wr) (sp) (rp) (fi) (gd) (la) (lst)) w_709 xHd_code w_7 [0] [1] rfl rfl rfl rfl (by decide) ⟨by decide, by decide⟩ ⟨by decide, by decide⟩ rfl rfl (Nat.le_of_ble_eq_true rfl) d_M_count_23 rfl rfl rfl ?_
  refine x_if_eq 31 29 hB d_M_count_26 (by decide) rfl (fun _ => ?_) (fun hc => absurd (by decide) hc)
  refine x_iload_n 32 hB d_M_count_31 rfl rfl ?_
  refine x_tabIn 94 hB d_M_count_32 (by decide) (by decide) (off := 62) (by decide) (by decide) ?_
  refine x_aload_n 95 hB d_M_count_94 rfl rfl ?_
  refine x_get 98 hB 1 fg_M_31_5 rfl rfl d_M_count_95 rfl ?_
  refine x_iload_n 99 hB d_M_count_98 rfl rfl ?_
  refine x_zald 100 hB 0 rfl (by omega) (by decide) d_M_count_99 rfl ?_
  refine x_top (v' := .int (bI fo)) rfl ?_
  refine x_if_eq 107 103 hB d_M_count_100 (by decide) rfl (fun h100 => ?_) (fun h100 => ?_)
  · skip
    have k100 : fo = false := bI_0 h100
    refine x_iconst (v := nI 0) 108 hB d_M_count_107 rfl (by decide) ?_
    exact x_iret hB (w' := [(hm, .inr (5, [.int (nI 0), .ref ms, .ref mf, .ref mc, .ref my, .ref mb, .ref mz, .ref mp, .ref mo, .ref mm, .ref ml, .ref md, .int (nI (wr)), .int (bI sp), .int (bI rp), .int (bI fi), .int (nI (gd)), .ref me, .ref mg, .int (la), .int (nI 0), .long (lst), .int 0])), (mo, .inl (E.2 3, 2, .inl (pr2 (bI fo) (e1))))]) hA [1, 0] rfl rfl (⟨by rw [k100]; rfl, rfl⟩) (by decide) (by decide) d_M_count_108
  · skip
    have k100 : fo = true := bI_1 h100
    refine x_iconst (v := nI 1) 104 hB d_M_count_103 rfl (by decide) ?_
    refine x_goto 108 hB d_M_count_104 (by decide) ?_
    exact x_iret hB (w' := [(hm, .inr (5, [.int (nI 0), .ref ms, .ref mf, .ref mc, .ref my, .ref mb, .ref mz, .ref mp, .ref mo, .ref mm, .ref ml, .ref md, .int (nI (wr)), .int (bI sp), .int (bI rp), .int (bI fi), .int (nI (gd)), .ref me, .ref mg, .int (la), .int (nI 0), .long (lst), .int 0])), (mo, .inl (E.2 3, 2, .inl (pr2 (bI fo) (e1))))]) hA [1, 0] rfl rfl (⟨by rw [k100]; rfl, rfl⟩) (by decide) (by decide) d_M_count_108
abbrev rm_M_count0_6 : Room := { frames := 1, cells := 0, slots := 0, locals := 25 }
set_option maxHeartbeats 4000000 in
set_option maxRecDepth 100000 in
theorem c_M_count0_6 (l : Launch) (E : xE) (hm ms mf mc my mb mz mp mo mm ml md me mg : Nat) (re : Int32) (wr : Nat) (sp rp fi : Bool) (gd : Nat) (la : Int32) (lst : Int64) : xC l E y_M_count (.code y_M_count prog_10_method_33_code 3 (some .int)) rm_M_count0_6 [.ref hm, .int (nI 0), .int (nI 6)] [(hm, .inr (5, [.int (re), .ref ms, .ref mf, .ref mc, .ref my, .ref mb, .ref mz, .ref mp, .ref mo, .ref mm, .ref ml, .ref md, .int (nI (wr)), .int (bI sp), .int (bI rp), .int (bI fi), .int (nI (gd)), .ref me, .ref mg, .int (la), .int (nI 0), .long (lst), .int 0]))] (xRet (some (.int (nI (wr)))) [(hm, .inr (5, [.int (nI 0), .ref ms, .ref mf, .ref mc, .ref my, .ref mb, .ref mz, .ref mp, .ref mo, .ref mm, .ref ml, .ref md, .int (nI (wr)), .int (bI sp), .int (bI rp), .int (bI fi), .int (nI (gd)), .ref me, .ref mg, .int (la), .int (nI 0), .long (lst), .int 0]))]) := by
  refine x_of' (own := "LineCoderModel") (mn := "count") (lv := [(0, .ref hm), (1, .int (nI 0)), (2, .int (nI 6))]) (plainFor_of_name (by decide)) rfl rfl (Nat.le_of_ble_eq_true rfl) rfl ?_
  intro p_ e_ s_ m_ ar_ be_ me_ c_ A_ hA hB
  refine x_aload_n 1 hB d_M_count_0 rfl rfl ?_
  refine x_iload_n 2 hB d_M_count_1 rfl rfl ?_
  refine x_callP (k' := 0) (n' := 0) (rest := [.ref hm]) (st' := [.int (nI 1), .ref hm]) 5 hB (x_pfS (av := [.int (nI 0)]) hB w_772 xHd_code w_7 w_770 w_771 nm_M_isStream rfl d_M_count_2) (c_M_isStream_0 l E ) w_772 xHd_code w_7 [] rfl rfl ⟨by decide, by decide⟩ ⟨by decide, by decide⟩ rfl rfl (Nat.le_of_ble_eq_true rfl) d_M_count_2 rfl rfl ?_
  refine x_if_eq 22 8 hB d_M_count_5 (by decide) rfl (fun hc => absurd hc (by decide)) (fun _ => ?_)
  refine x_iload_n 9 hB d_M_count_8 rfl rfl ?_
  refine x_iconst (v := nI 0) 10 hB d_M_count_9 rfl (by decide) ?_
  refine x_bipush (v := nI 8) 12 hB d_M_count_10 rfl (by decide) ?_
  refine x_callP (k' := 0) (n' := 0) (rest := [.ref hm]) (st' := [.int (nI 1), .ref hm]) 15 hB (x_pfS (av := [.int (nI 6), .int (nI 0), .int (nI 8)]) hB w_716 xHd_code w_7 w_714 w_715 nm_M_isIn rfl d_M_count_12) (c_M_isIn_y l E (nI 6) (nI 0) (nI 8) (by decide) (by decide)) w_716 xHd_code w_7 [] rfl rfl ⟨by decide, by decide⟩ ⟨by decide, by decide⟩ rfl rfl (Nat.le_of_ble_eq_true rfl) d_M_count_12 rfl rfl ?_
  refine x_if_eq 22 18 hB d_M_count_15 (by decide) rfl (fun hc => absurd hc (by decide)) (fun _ => ?_)
  refine x_iconst (v := nI 0) 19 hB d_M_count_18 rfl (by decide) ?_
  refine x_goto 23 hB d_M_count_19 (by decide) ?_
  refine x_callD (k' := 0) (n' := 0) (rest := []) (wr := []) (ws' := [(hm, .inr (5, [.int (nI 0), .ref ms, .ref mf, .ref mc, .ref my, .ref mb, .ref mz, .ref mp, .ref mo, .ref mm, .ref ml, .ref md, .int (nI (wr)), .int (bI sp), .int (bI rp), .int (bI fi), .int (nI (gd)), .ref me, .ref mg, .int (la), .int (nI 0), .long (lst), .int 0]))]) (st' := [.int (nI 0)]) 26 hB (x_pfV (av := [.int (nI 0)]) (q0 := 0) hB w_709 xHd_code w_706 w_708 s_M_refused rfl rfl nm_M_refused rfl d_M_count_23) (c_M_refused0 l E hm ms mf mc my mb mz mp mo mm ml md me mg (re) (wr) (sp) (rp) (fi) (gd) (la) (lst)) w_709 xHd_code w_7 [0] [] rfl rfl rfl rfl (by decide) ⟨by decide, by decide⟩ ⟨by decide, by decide⟩ rfl rfl (Nat.le_of_ble_eq_true rfl) d_M_count_23 rfl rfl rfl ?_
  refine x_if_eq 31 29 hB d_M_count_26 (by decide) rfl (fun _ => ?_) (fun hc => absurd (by decide) hc)
  refine x_iload_n 32 hB d_M_count_31 rfl rfl ?_
  refine x_tabIn 130 hB d_M_count_32 (by decide) (by decide) (off := 98) (by decide) (by decide) ?_
  refine x_iload_n 131 hB d_M_count_130 rfl rfl ?_
  refine x_if_ne 141 134 hB d_M_count_131 (by decide) rfl (fun hc => absurd (by decide) hc) (fun _ => ?_)
  refine x_aload_n 135 hB d_M_count_134 rfl rfl ?_
  refine x_get 138 hB 0 fg_M_65_5 rfl rfl d_M_count_135 rfl ?_
  refine x_goto 142 hB d_M_count_138 (by decide) ?_
  exact x_iret hB (w' := [(hm, .inr (5, [.int (nI 0), .ref ms, .ref mf, .ref mc, .ref my, .ref mb, .ref mz, .ref mp, .ref mo, .ref mm, .ref ml, .ref md, .int (nI (wr)), .int (bI sp), .int (bI rp), .int (bI fi), .int (nI (gd)), .ref me, .ref mg, .int (la), .int (nI 0), .long (lst), .int 0]))]) hA [0] rfl rfl (xRet_i) (by decide) (by decide) d_M_count_142
abbrev rm_M_count0_7 : Room := { frames := 1, cells := 0, slots := 0, locals := 25 }
set_option maxHeartbeats 4000000 in
set_option maxRecDepth 100000 in
theorem c_M_count0_7 (l : Launch) (E : xE) (hm ms mf mc my mb mz mp mo mm ml md me mg : Nat) (re : Int32) (wr : Nat) (sp rp fi : Bool) (gd : Nat) (la : Int32) (lst : Int64) (z0 z1 : Nat) (g : Nat → Int32) (hz : z0 ≤ 2640) : xC l E y_M_count (.code y_M_count prog_10_method_33_code 3 (some .int)) rm_M_count0_7 [.ref hm, .int (nI 0), .int (nI 7)] [(hm, .inr (5, [.int (re), .ref ms, .ref mf, .ref mc, .ref my, .ref mb, .ref mz, .ref mp, .ref mo, .ref mm, .ref ml, .ref md, .int (nI (wr)), .int (bI sp), .int (bI rp), .int (bI fi), .int (nI (gd)), .ref me, .ref mg, .int (la), .int (nI 0), .long (lst), .int 0])), (mb, .inl (E.2 1, 5280, .inl (g))), (mz, .inl (E.2 1, 2, .inl (pr2 (nI (z0)) (nI (z1)))))] (xRet (some (.int (blG g 0 z0))) [(hm, .inr (5, [.int (nI 0), .ref ms, .ref mf, .ref mc, .ref my, .ref mb, .ref mz, .ref mp, .ref mo, .ref mm, .ref ml, .ref md, .int (nI (wr)), .int (bI sp), .int (bI rp), .int (bI fi), .int (nI (gd)), .ref me, .ref mg, .int (la), .int (nI 0), .long (lst), .int 0])), (mb, .inl (E.2 1, 5280, .inl (g))), (mz, .inl (E.2 1, 2, .inl (pr2 (nI (z0)) (nI (z1)))))]) := by
  refine x_of' (own := "LineCoderModel") (mn := "count") (lv := [(0, .ref hm), (1, .int (nI 0)), (2, .int (nI 7))]) (plainFor_of_name (by decide)) rfl rfl (Nat.le_of_ble_eq_true rfl) rfl ?_
  intro p_ e_ s_ m_ ar_ be_ me_ c_ A_ hA hB
  refine x_aload_n 1 hB d_M_count_0 rfl rfl ?_
  refine x_iload_n 2 hB d_M_count_1 rfl rfl ?_
  refine x_callP (k' := 0) (n' := 0) (rest := [.ref hm]) (st' := [.int (nI 1), .ref hm]) 5 hB (x_pfS (av := [.int (nI 0)]) hB w_772 xHd_code w_7 w_770 w_771 nm_M_isStream rfl d_M_count_2) (c_M_isStream_0 l E ) w_772 xHd_code w_7 [] rfl rfl ⟨by decide, by decide⟩ ⟨by decide, by decide⟩ rfl rfl (Nat.le_of_ble_eq_true rfl) d_M_count_2 rfl rfl ?_
  refine x_if_eq 22 8 hB d_M_count_5 (by decide) rfl (fun hc => absurd hc (by decide)) (fun _ => ?_)
  refine x_iload_n 9 hB d_M_count_8 rfl rfl ?_
  refine x_iconst (v := nI 0) 10 hB d_M_count_9 rfl (by decide) ?_
  refine x_bipush (v := nI 8) 12 hB d_M_count_10 rfl (by decide) ?_
  refine x_callP (k' := 0) (n' := 0) (rest := [.ref hm]) (st' := [.int (nI 1), .ref hm]) 15 hB (x_pfS (av := [.int (nI 7), .int (nI 0), .int (nI 8)]) hB w_716 xHd_code w_7 w_714 w_715 nm_M_isIn rfl d_M_count_12) (c_M_isIn_y l E (nI 7) (nI 0) (nI 8) (by decide) (by decide)) w_716 xHd_code w_7 [] rfl rfl ⟨by decide, by decide⟩ ⟨by decide, by decide⟩ rfl rfl (Nat.le_of_ble_eq_true rfl) d_M_count_12 rfl rfl ?_
  refine x_if_eq 22 18 hB d_M_count_15 (by decide) rfl (fun hc => absurd hc (by decide)) (fun _ => ?_)
  refine x_iconst (v := nI 0) 19 hB d_M_count_18 rfl (by decide) ?_
  refine x_goto 23 hB d_M_count_19 (by decide) ?_
  refine x_callD (k' := 0) (n' := 0) (rest := []) (wr := [(mb, .inl (E.2 1, 5280, .inl (g))), (mz, .inl (E.2 1, 2, .inl (pr2 (nI (z0)) (nI (z1)))))]) (ws' := [(mb, .inl (E.2 1, 5280, .inl (g))), (mz, .inl (E.2 1, 2, .inl (pr2 (nI (z0)) (nI (z1))))), (hm, .inr (5, [.int (nI 0), .ref ms, .ref mf, .ref mc, .ref my, .ref mb, .ref mz, .ref mp, .ref mo, .ref mm, .ref ml, .ref md, .int (nI (wr)), .int (bI sp), .int (bI rp), .int (bI fi), .int (nI (gd)), .ref me, .ref mg, .int (la), .int (nI 0), .long (lst), .int 0]))]) (st' := [.int (nI 0)]) 26 hB (x_pfV (av := [.int (nI 0)]) (q0 := 0) hB w_709 xHd_code w_706 w_708 s_M_refused rfl rfl nm_M_refused rfl d_M_count_23) (c_M_refused0 l E hm ms mf mc my mb mz mp mo mm ml md me mg (re) (wr) (sp) (rp) (fi) (gd) (la) (lst)) w_709 xHd_code w_7 [0] [1, 2] rfl rfl rfl rfl (by decide) ⟨by decide, by decide⟩ ⟨by decide, by decide⟩ rfl rfl (Nat.le_of_ble_eq_true rfl) d_M_count_23 rfl rfl rfl ?_
  refine x_if_eq 31 29 hB d_M_count_26 (by decide) rfl (fun _ => ?_) (fun hc => absurd (by decide) hc)
  refine x_iload_n 32 hB d_M_count_31 rfl rfl ?_
  refine x_tabIn 143 hB d_M_count_32 (by decide) (by decide) (off := 111) (by decide) (by decide) ?_
  refine x_aload_n 144 hB d_M_count_143 rfl rfl ?_
  refine x_iload_n 145 hB d_M_count_144 rfl rfl ?_
  refine x_callP (k' := 0) (n' := 0) (rest := []) (st' := [.int (blG g 0 z0)]) 148 hB (x_pfV (av := [.int (nI 0)]) (q0 := 2) hB w_792 xHd_code w_789 w_791 s_M_balance rfl rfl nm_M_balance rfl d_M_count_145) (c_M_balance0 l E hm ms mf mc my mb mz mp mo mm ml md me mg (nI 0) (wr) (sp) (rp) (fi) (gd) (la) (lst) z0 z1 g hz) w_792 xHd_code w_7 [2, 0, 1] rfl rfl ⟨by decide, by decide⟩ ⟨by decide, by decide⟩ rfl rfl (Nat.le_of_ble_eq_true rfl) d_M_count_145 rfl rfl ?_
  exact x_iret hB (w' := [(hm, .inr (5, [.int (nI 0), .ref ms, .ref mf, .ref mc, .ref my, .ref mb, .ref mz, .ref mp, .ref mo, .ref mm, .ref ml, .ref md, .int (nI (wr)), .int (bI sp), .int (bI rp), .int (bI fi), .int (nI (gd)), .ref me, .ref mg, .int (la), .int (nI 0), .long (lst), .int 0])), (mb, .inl (E.2 1, 5280, .inl (g))), (mz, .inl (E.2 1, 2, .inl (pr2 (nI (z0)) (nI (z1)))))]) hA [2, 0, 1] rfl rfl (xRet_i) (by decide) (by decide) d_M_count_148
abbrev rm_M_count0_8 : Room := { frames := 1, cells := 0, slots := 0, locals := 25 }
set_option maxHeartbeats 4000000 in
set_option maxRecDepth 100000 in
theorem c_M_count0_8 (l : Launch) (E : xE) (hm ms mf mc my mb mz mp mo mm ml md me mg : Nat) (re : Int32) (wr : Nat) (sp rp fi : Bool) (gd : Nat) (la : Int32) (lst : Int64) (z0 z1 : Nat) (g : Nat → Int32) (hz : z0 ≤ 2640) : xC l E y_M_count (.code y_M_count prog_10_method_33_code 3 (some .int)) rm_M_count0_8 [.ref hm, .int (nI 0), .int (nI 8)] [(hm, .inr (5, [.int (re), .ref ms, .ref mf, .ref mc, .ref my, .ref mb, .ref mz, .ref mp, .ref mo, .ref mm, .ref ml, .ref md, .int (nI (wr)), .int (bI sp), .int (bI rp), .int (bI fi), .int (nI (gd)), .ref me, .ref mg, .int (la), .int (nI 0), .long (lst), .int 0])), (mb, .inl (E.2 1, 5280, .inl (g))), (mz, .inl (E.2 1, 2, .inl (pr2 (nI (z0)) (nI (z1)))))] (xRet (some (.int (nI ((lgG g 0 z0).2)))) [(hm, .inr (5, [.int (nI 0), .ref ms, .ref mf, .ref mc, .ref my, .ref mb, .ref mz, .ref mp, .ref mo, .ref mm, .ref ml, .ref md, .int (nI (wr)), .int (bI sp), .int (bI rp), .int (bI fi), .int (nI (gd)), .ref me, .ref mg, .int (la), .int (nI 0), .long (lst), .int 0])), (mb, .inl (E.2 1, 5280, .inl (g))), (mz, .inl (E.2 1, 2, .inl (pr2 (nI (z0)) (nI (z1)))))]) := by
  refine x_of' (own := "LineCoderModel") (mn := "count") (lv := [(0, .ref hm), (1, .int (nI 0)), (2, .int (nI 8))]) (plainFor_of_name (by decide)) rfl rfl (Nat.le_of_ble_eq_true rfl) rfl ?_
  intro p_ e_ s_ m_ ar_ be_ me_ c_ A_ hA hB
  refine x_aload_n 1 hB d_M_count_0 rfl rfl ?_
  refine x_iload_n 2 hB d_M_count_1 rfl rfl ?_
  refine x_callP (k' := 0) (n' := 0) (rest := [.ref hm]) (st' := [.int (nI 1), .ref hm]) 5 hB (x_pfS (av := [.int (nI 0)]) hB w_772 xHd_code w_7 w_770 w_771 nm_M_isStream rfl d_M_count_2) (c_M_isStream_0 l E ) w_772 xHd_code w_7 [] rfl rfl ⟨by decide, by decide⟩ ⟨by decide, by decide⟩ rfl rfl (Nat.le_of_ble_eq_true rfl) d_M_count_2 rfl rfl ?_
  refine x_if_eq 22 8 hB d_M_count_5 (by decide) rfl (fun hc => absurd hc (by decide)) (fun _ => ?_)
  refine x_iload_n 9 hB d_M_count_8 rfl rfl ?_
  refine x_iconst (v := nI 0) 10 hB d_M_count_9 rfl (by decide) ?_
  refine x_bipush (v := nI 8) 12 hB d_M_count_10 rfl (by decide) ?_
  refine x_callP (k' := 0) (n' := 0) (rest := [.ref hm]) (st' := [.int (nI 1), .ref hm]) 15 hB (x_pfS (av := [.int (nI 8), .int (nI 0), .int (nI 8)]) hB w_716 xHd_code w_7 w_714 w_715 nm_M_isIn rfl d_M_count_12) (c_M_isIn_y l E (nI 8) (nI 0) (nI 8) (by decide) (by decide)) w_716 xHd_code w_7 [] rfl rfl ⟨by decide, by decide⟩ ⟨by decide, by decide⟩ rfl rfl (Nat.le_of_ble_eq_true rfl) d_M_count_12 rfl rfl ?_
  refine x_if_eq 22 18 hB d_M_count_15 (by decide) rfl (fun hc => absurd hc (by decide)) (fun _ => ?_)
  refine x_iconst (v := nI 0) 19 hB d_M_count_18 rfl (by decide) ?_
  refine x_goto 23 hB d_M_count_19 (by decide) ?_
  refine x_callD (k' := 0) (n' := 0) (rest := []) (wr := [(mb, .inl (E.2 1, 5280, .inl (g))), (mz, .inl (E.2 1, 2, .inl (pr2 (nI (z0)) (nI (z1)))))]) (ws' := [(mb, .inl (E.2 1, 5280, .inl (g))), (mz, .inl (E.2 1, 2, .inl (pr2 (nI (z0)) (nI (z1))))), (hm, .inr (5, [.int (nI 0), .ref ms, .ref mf, .ref mc, .ref my, .ref mb, .ref mz, .ref mp, .ref mo, .ref mm, .ref ml, .ref md, .int (nI (wr)), .int (bI sp), .int (bI rp), .int (bI fi), .int (nI (gd)), .ref me, .ref mg, .int (la), .int (nI 0), .long (lst), .int 0]))]) (st' := [.int (nI 0)]) 26 hB (x_pfV (av := [.int (nI 0)]) (q0 := 0) hB w_709 xHd_code w_706 w_708 s_M_refused rfl rfl nm_M_refused rfl d_M_count_23) (c_M_refused0 l E hm ms mf mc my mb mz mp mo mm ml md me mg (re) (wr) (sp) (rp) (fi) (gd) (la) (lst)) w_709 xHd_code w_7 [0] [1, 2] rfl rfl rfl rfl (by decide) ⟨by decide, by decide⟩ ⟨by decide, by decide⟩ rfl rfl (Nat.le_of_ble_eq_true rfl) d_M_count_23 rfl rfl rfl ?_
  refine x_if_eq 31 29 hB d_M_count_26 (by decide) rfl (fun _ => ?_) (fun hc => absurd (by decide) hc)
  refine x_iload_n 32 hB d_M_count_31 rfl rfl ?_
  refine x_tabOut 149 hB d_M_count_32 (by decide) (by decide) ?_
  refine x_aload_n 150 hB d_M_count_149 rfl rfl ?_
  refine x_iload_n 151 hB d_M_count_150 rfl rfl ?_
  refine x_callP (k' := 0) (n' := 0) (rest := []) (st' := [.int (nI ((lgG g 0 z0).2))]) 154 hB (x_pfV (av := [.int (nI 0)]) (q0 := 2) hB w_796 xHd_code w_793 w_795 s_M_longest rfl rfl nm_M_longest rfl d_M_count_151) (c_M_longest0 l E hm ms mf mc my mb mz mp mo mm ml md me mg (nI 0) (wr) (sp) (rp) (fi) (gd) (la) (lst) z0 z1 g hz) w_796 xHd_code w_7 [2, 0, 1] rfl rfl ⟨by decide, by decide⟩ ⟨by decide, by decide⟩ rfl rfl (Nat.le_of_ble_eq_true rfl) d_M_count_151 rfl rfl ?_
  exact x_iret hB (w' := [(hm, .inr (5, [.int (nI 0), .ref ms, .ref mf, .ref mc, .ref my, .ref mb, .ref mz, .ref mp, .ref mo, .ref mm, .ref ml, .ref md, .int (nI (wr)), .int (bI sp), .int (bI rp), .int (bI fi), .int (nI (gd)), .ref me, .ref mg, .int (la), .int (nI 0), .long (lst), .int 0])), (mb, .inl (E.2 1, 5280, .inl (g))), (mz, .inl (E.2 1, 2, .inl (pr2 (nI (z0)) (nI (z1)))))]) hA [2, 0, 1] rfl rfl (xRet_i) (by decide) (by decide) d_M_count_154
abbrev rm_M_count0_b : Room := { frames := 1, cells := 0, slots := 0, locals := 25 }
set_option maxHeartbeats 4000000 in
set_option maxRecDepth 100000 in
theorem c_M_count0_b (l : Launch) (E : xE) (hm ms mf mc my mb mz mp mo mm ml md me mg : Nat) (re : Int32) (wr : Nat) (sp rp fi : Bool) (gd : Nat) (la : Int32) (lst : Int64) (k : Int32) (hk : k < 0 ∨ nI 8 < k) : xC l E y_M_count (.code y_M_count prog_10_method_33_code 3 (some .int)) rm_M_count0_b [.ref hm, .int (nI 0), .int (k)] [(hm, .inr (5, [.int (re), .ref ms, .ref mf, .ref mc, .ref my, .ref mb, .ref mz, .ref mp, .ref mo, .ref mm, .ref ml, .ref md, .int (nI (wr)), .int (bI sp), .int (bI rp), .int (bI fi), .int (nI (gd)), .ref me, .ref mg, .int (la), .int (nI 0), .long (lst), .int 0]))] (xRet (some (.int (nI 0))) [(hm, .inr (5, [.int (nI 1), .ref ms, .ref mf, .ref mc, .ref my, .ref mb, .ref mz, .ref mp, .ref mo, .ref mm, .ref ml, .ref md, .int (nI (wr)), .int (bI sp), .int (bI rp), .int (bI fi), .int (nI (gd)), .ref me, .ref mg, .int (la), .int (nI 0), .long (lst), .int 0]))]) := by
  refine x_of' (own := "LineCoderModel") (mn := "count") (lv := [(0, .ref hm), (1, .int (nI 0)), (2, .int (k))]) (plainFor_of_name (by decide)) rfl rfl (Nat.le_of_ble_eq_true rfl) rfl ?_
  intro p_ e_ s_ m_ ar_ be_ me_ c_ A_ hA hB
  refine x_aload_n 1 hB d_M_count_0 rfl rfl ?_
  refine x_iload_n 2 hB d_M_count_1 rfl rfl ?_
  refine x_callP (k' := 0) (n' := 0) (rest := [.ref hm]) (st' := [.int (nI 1), .ref hm]) 5 hB (x_pfS (av := [.int (nI 0)]) hB w_772 xHd_code w_7 w_770 w_771 nm_M_isStream rfl d_M_count_2) (c_M_isStream_0 l E ) w_772 xHd_code w_7 [] rfl rfl ⟨by decide, by decide⟩ ⟨by decide, by decide⟩ rfl rfl (Nat.le_of_ble_eq_true rfl) d_M_count_2 rfl rfl ?_
  refine x_if_eq 22 8 hB d_M_count_5 (by decide) rfl (fun hc => absurd hc (by decide)) (fun _ => ?_)
  refine x_iload_n 9 hB d_M_count_8 rfl rfl ?_
  refine x_iconst (v := nI 0) 10 hB d_M_count_9 rfl (by decide) ?_
  refine x_bipush (v := nI 8) 12 hB d_M_count_10 rfl (by decide) ?_
  refine x_callP (k' := 0) (n' := 0) (rest := [.ref hm]) (st' := [.int (nI 0), .ref hm]) 15 hB (x_pfS (av := [.int (k), .int (nI 0), .int (nI 8)]) hB w_716 xHd_code w_7 w_714 w_715 nm_M_isIn rfl d_M_count_12) (c_M_isIn_n l E k (nI 0) (nI 8) hk) w_716 xHd_code w_7 [] rfl rfl ⟨by decide, by decide⟩ ⟨by decide, by decide⟩ rfl rfl (Nat.le_of_ble_eq_true rfl) d_M_count_12 rfl rfl ?_
  refine x_if_eq 22 18 hB d_M_count_15 (by decide) rfl (fun _ => ?_) (fun hc => absurd (by decide) hc)
  refine x_iconst (v := nI 1) 23 hB d_M_count_22 rfl (by decide) ?_
  refine x_callD (k' := 0) (n' := 0) (rest := []) (wr := []) (ws' := [(hm, .inr (5, [.int (nI 1), .ref ms, .ref mf, .ref mc, .ref my, .ref mb, .ref mz, .ref mp, .ref mo, .ref mm, .ref ml, .ref md, .int (nI (wr)), .int (bI sp), .int (bI rp), .int (bI fi), .int (nI (gd)), .ref me, .ref mg, .int (la), .int (nI 0), .long (lst), .int 0]))]) (st' := [.int (nI 1)]) 26 hB (x_pfV (av := [.int (nI 1)]) (q0 := 0) hB w_709 xHd_code w_706 w_708 s_M_refused rfl rfl nm_M_refused rfl d_M_count_23) (c_M_refused1 l E hm ms mf mc my mb mz mp mo mm ml md me mg (re) (wr) (sp) (rp) (fi) (gd) (la) (lst)) w_709 xHd_code w_7 [0] [] rfl rfl rfl rfl (by decide) ⟨by decide, by decide⟩ ⟨by decide, by decide⟩ rfl rfl (Nat.le_of_ble_eq_true rfl) d_M_count_23 rfl rfl rfl ?_
  refine x_if_eq 31 29 hB d_M_count_26 (by decide) rfl (fun hc => absurd hc (by decide)) (fun _ => ?_)
  refine x_iconst (v := nI 0) 30 hB d_M_count_29 rfl (by decide) ?_
  exact x_iret hB (w' := [(hm, .inr (5, [.int (nI 1), .ref ms, .ref mf, .ref mc, .ref my, .ref mb, .ref mz, .ref mp, .ref mo, .ref mm, .ref ml, .ref md, .int (nI (wr)), .int (bI sp), .int (bI rp), .int (bI fi), .int (nI (gd)), .ref me, .ref mg, .int (la), .int (nI 0), .long (lst), .int 0]))]) hA [0] rfl rfl (xRet_i) (by decide) (by decide) d_M_count_30
abbrev rm_M_count1_0 : Room := { frames := 1, cells := 0, slots := 0, locals := 25 }
set_option maxHeartbeats 4000000 in
set_option maxRecDepth 100000 in
theorem c_M_count1_0 (l : Launch) (E : xE) (hm ms mf mc my mb mz mp mo mm ml md me mg : Nat) (re : Int32) (wr : Nat) (sp rp fi : Bool) (gd : Nat) (la : Int32) (lst : Int64) (e0 e1 : Int32) : xC l E y_M_count (.code y_M_count prog_10_method_33_code 3 (some .int)) rm_M_count1_0 [.ref hm, .int (nI 1), .int (nI 0)] [(hm, .inr (5, [.int (re), .ref ms, .ref mf, .ref mc, .ref my, .ref mb, .ref mz, .ref mp, .ref mo, .ref mm, .ref ml, .ref md, .int (nI (wr)), .int (bI sp), .int (bI rp), .int (bI fi), .int (nI (gd)), .ref me, .ref mg, .int (la), .int (nI 0), .long (lst), .int 0])), (mz, .inl (E.2 1, 2, .inl (pr2 (e0) (e1))))] (xRet (some (.int (e1))) [(hm, .inr (5, [.int (nI 0), .ref ms, .ref mf, .ref mc, .ref my, .ref mb, .ref mz, .ref mp, .ref mo, .ref mm, .ref ml, .ref md, .int (nI (wr)), .int (bI sp), .int (bI rp), .int (bI fi), .int (nI (gd)), .ref me, .ref mg, .int (la), .int (nI 0), .long (lst), .int 0])), (mz, .inl (E.2 1, 2, .inl (pr2 (e0) (e1))))]) := by
  refine x_of' (own := "LineCoderModel") (mn := "count") (lv := [(0, .ref hm), (1, .int (nI 1)), (2, .int (nI 0))]) (plainFor_of_name (by decide)) rfl rfl (Nat.le_of_ble_eq_true rfl) rfl ?_
  intro p_ e_ s_ m_ ar_ be_ me_ c_ A_ hA hB
  refine x_aload_n 1 hB d_M_count_0 rfl rfl ?_
  refine x_iload_n 2 hB d_M_count_1 rfl rfl ?_
  refine x_callP (k' := 0) (n' := 0) (rest := [.ref hm]) (st' := [.int (nI 1), .ref hm]) 5 hB (x_pfS (av := [.int (nI 1)]) hB w_772 xHd_code w_7 w_770 w_771 nm_M_isStream rfl d_M_count_2) (c_M_isStream_1 l E ) w_772 xHd_code w_7 [] rfl rfl ⟨by decide, by decide⟩ ⟨by decide, by decide⟩ rfl rfl (Nat.le_of_ble_eq_true rfl) d_M_count_2 rfl rfl ?_
  refine x_if_eq 22 8 hB d_M_count_5 (by decide) rfl (fun hc => absurd hc (by decide)) (fun _ => ?_)
  refine x_iload_n 9 hB d_M_count_8 rfl rfl ?_
  refine x_iconst (v := nI 0) 10 hB d_M_count_9 rfl (by decide) ?_
  refine x_bipush (v := nI 8) 12 hB d_M_count_10 rfl (by decide) ?_
  refine x_callP (k' := 0) (n' := 0) (rest := [.ref hm]) (st' := [.int (nI 1), .ref hm]) 15 hB (x_pfS (av := [.int (nI 0), .int (nI 0), .int (nI 8)]) hB w_716 xHd_code w_7 w_714 w_715 nm_M_isIn rfl d_M_count_12) (c_M_isIn_y l E (nI 0) (nI 0) (nI 8) (by decide) (by decide)) w_716 xHd_code w_7 [] rfl rfl ⟨by decide, by decide⟩ ⟨by decide, by decide⟩ rfl rfl (Nat.le_of_ble_eq_true rfl) d_M_count_12 rfl rfl ?_
  refine x_if_eq 22 18 hB d_M_count_15 (by decide) rfl (fun hc => absurd hc (by decide)) (fun _ => ?_)
  refine x_iconst (v := nI 0) 19 hB d_M_count_18 rfl (by decide) ?_
  refine x_goto 23 hB d_M_count_19 (by decide) ?_
  refine x_callD (k' := 0) (n' := 0) (rest := []) (wr := [(mz, .inl (E.2 1, 2, .inl (pr2 (e0) (e1))))]) (ws' := [(mz, .inl (E.2 1, 2, .inl (pr2 (e0) (e1)))), (hm, .inr (5, [.int (nI 0), .ref ms, .ref mf, .ref mc, .ref my, .ref mb, .ref mz, .ref mp, .ref mo, .ref mm, .ref ml, .ref md, .int (nI (wr)), .int (bI sp), .int (bI rp), .int (bI fi), .int (nI (gd)), .ref me, .ref mg, .int (la), .int (nI 0), .long (lst), .int 0]))]) (st' := [.int (nI 0)]) 26 hB (x_pfV (av := [.int (nI 0)]) (q0 := 0) hB w_709 xHd_code w_706 w_708 s_M_refused rfl rfl nm_M_refused rfl d_M_count_23) (c_M_refused0 l E hm ms mf mc my mb mz mp mo mm ml md me mg (re) (wr) (sp) (rp) (fi) (gd) (la) (lst)) w_709 xHd_code w_7 [0] [1] rfl rfl rfl rfl (by decide) ⟨by decide, by decide⟩ ⟨by decide, by decide⟩ rfl rfl (Nat.le_of_ble_eq_true rfl) d_M_count_23 rfl rfl rfl ?_
  refine x_if_eq 31 29 hB d_M_count_26 (by decide) rfl (fun _ => ?_) (fun hc => absurd (by decide) hc)
  refine x_iload_n 32 hB d_M_count_31 rfl rfl ?_
  refine x_tabIn 80 hB d_M_count_32 (by decide) (by decide) (off := 48) (by decide) (by decide) ?_
  refine x_aload_n 81 hB d_M_count_80 rfl rfl ?_
  refine x_get 84 hB 1 fg_M_25_5 rfl rfl d_M_count_81 rfl ?_
  refine x_iload_n 85 hB d_M_count_84 rfl rfl ?_
  refine x_iald 86 hB 0 rfl (by omega) (by decide) d_M_count_85 rfl ?_
  refine x_top (v' := .int (e1)) rfl ?_
  exact x_iret hB (w' := [(hm, .inr (5, [.int (nI 0), .ref ms, .ref mf, .ref mc, .ref my, .ref mb, .ref mz, .ref mp, .ref mo, .ref mm, .ref ml, .ref md, .int (nI (wr)), .int (bI sp), .int (bI rp), .int (bI fi), .int (nI (gd)), .ref me, .ref mg, .int (la), .int (nI 0), .long (lst), .int 0])), (mz, .inl (E.2 1, 2, .inl (pr2 (e0) (e1))))]) hA [1, 0] rfl rfl (xRet_i) (by decide) (by decide) d_M_count_86
abbrev rm_M_count1_1 : Room := { frames := 1, cells := 0, slots := 0, locals := 25 }
set_option maxHeartbeats 4000000 in
set_option maxRecDepth 100000 in
theorem c_M_count1_1 (l : Launch) (E : xE) (hm ms mf mc my mb mz mp mo mm ml md me mg : Nat) (re : Int32) (wr : Nat) (sp rp fi : Bool) (gd : Nat) (la : Int32) (lst : Int64) (e0 e1 : Int32) : xC l E y_M_count (.code y_M_count prog_10_method_33_code 3 (some .int)) rm_M_count1_1 [.ref hm, .int (nI 1), .int (nI 1)] [(hm, .inr (5, [.int (re), .ref ms, .ref mf, .ref mc, .ref my, .ref mb, .ref mz, .ref mp, .ref mo, .ref mm, .ref ml, .ref md, .int (nI (wr)), .int (bI sp), .int (bI rp), .int (bI fi), .int (nI (gd)), .ref me, .ref mg, .int (la), .int (nI 0), .long (lst), .int 0])), (mp, .inl (E.2 1, 2, .inl (pr2 (e0) (e1))))] (xRet (some (.int (e1))) [(hm, .inr (5, [.int (nI 0), .ref ms, .ref mf, .ref mc, .ref my, .ref mb, .ref mz, .ref mp, .ref mo, .ref mm, .ref ml, .ref md, .int (nI (wr)), .int (bI sp), .int (bI rp), .int (bI fi), .int (nI (gd)), .ref me, .ref mg, .int (la), .int (nI 0), .long (lst), .int 0])), (mp, .inl (E.2 1, 2, .inl (pr2 (e0) (e1))))]) := by
  refine x_of' (own := "LineCoderModel") (mn := "count") (lv := [(0, .ref hm), (1, .int (nI 1)), (2, .int (nI 1))]) (plainFor_of_name (by decide)) rfl rfl (Nat.le_of_ble_eq_true rfl) rfl ?_
  intro p_ e_ s_ m_ ar_ be_ me_ c_ A_ hA hB
  refine x_aload_n 1 hB d_M_count_0 rfl rfl ?_
  refine x_iload_n 2 hB d_M_count_1 rfl rfl ?_
  refine x_callP (k' := 0) (n' := 0) (rest := [.ref hm]) (st' := [.int (nI 1), .ref hm]) 5 hB (x_pfS (av := [.int (nI 1)]) hB w_772 xHd_code w_7 w_770 w_771 nm_M_isStream rfl d_M_count_2) (c_M_isStream_1 l E ) w_772 xHd_code w_7 [] rfl rfl ⟨by decide, by decide⟩ ⟨by decide, by decide⟩ rfl rfl (Nat.le_of_ble_eq_true rfl) d_M_count_2 rfl rfl ?_
  refine x_if_eq 22 8 hB d_M_count_5 (by decide) rfl (fun hc => absurd hc (by decide)) (fun _ => ?_)
  refine x_iload_n 9 hB d_M_count_8 rfl rfl ?_
  refine x_iconst (v := nI 0) 10 hB d_M_count_9 rfl (by decide) ?_
  refine x_bipush (v := nI 8) 12 hB d_M_count_10 rfl (by decide) ?_
  refine x_callP (k' := 0) (n' := 0) (rest := [.ref hm]) (st' := [.int (nI 1), .ref hm]) 15 hB (x_pfS (av := [.int (nI 1), .int (nI 0), .int (nI 8)]) hB w_716 xHd_code w_7 w_714 w_715 nm_M_isIn rfl d_M_count_12) (c_M_isIn_y l E (nI 1) (nI 0) (nI 8) (by decide) (by decide)) w_716 xHd_code w_7 [] rfl rfl ⟨by decide, by decide⟩ ⟨by decide, by decide⟩ rfl rfl (Nat.le_of_ble_eq_true rfl) d_M_count_12 rfl rfl ?_
  refine x_if_eq 22 18 hB d_M_count_15 (by decide) rfl (fun hc => absurd hc (by decide)) (fun _ => ?_)
  refine x_iconst (v := nI 0) 19 hB d_M_count_18 rfl (by decide) ?_
  refine x_goto 23 hB d_M_count_19 (by decide) ?_
  refine x_callD (k' := 0) (n' := 0) (rest := []) (wr := [(mp, .inl (E.2 1, 2, .inl (pr2 (e0) (e1))))]) (ws' := [(mp, .inl (E.2 1, 2, .inl (pr2 (e0) (e1)))), (hm, .inr (5, [.int (nI 0), .ref ms, .ref mf, .ref mc, .ref my, .ref mb, .ref mz, .ref mp, .ref mo, .ref mm, .ref ml, .ref md, .int (nI (wr)), .int (bI sp), .int (bI rp), .int (bI fi), .int (nI (gd)), .ref me, .ref mg, .int (la), .int (nI 0), .long (lst), .int 0]))]) (st' := [.int (nI 0)]) 26 hB (x_pfV (av := [.int (nI 0)]) (q0 := 0) hB w_709 xHd_code w_706 w_708 s_M_refused rfl rfl nm_M_refused rfl d_M_count_23) (c_M_refused0 l E hm ms mf mc my mb mz mp mo mm ml md me mg (re) (wr) (sp) (rp) (fi) (gd) (la) (lst)) w_709 xHd_code w_7 [0] [1] rfl rfl rfl rfl (by decide) ⟨by decide, by decide⟩ ⟨by decide, by decide⟩ rfl rfl (Nat.le_of_ble_eq_true rfl) d_M_count_23 rfl rfl rfl ?_
  refine x_if_eq 31 29 hB d_M_count_26 (by decide) rfl (fun _ => ?_) (fun hc => absurd (by decide) hc)
  refine x_iload_n 32 hB d_M_count_31 rfl rfl ?_
  refine x_tabIn 87 hB d_M_count_32 (by decide) (by decide) (off := 55) (by decide) (by decide) ?_
  refine x_aload_n 88 hB d_M_count_87 rfl rfl ?_
  refine x_get 91 hB 1 fg_M_28_5 rfl rfl d_M_count_88 rfl ?_
  refine x_iload_n 92 hB d_M_count_91 rfl rfl ?_
  refine x_iald 93 hB 0 rfl (by omega) (by decide) d_M_count_92 rfl ?_
  refine x_top (v' := .int (e1)) rfl ?_
  exact x_iret hB (w' := [(hm, .inr (5, [.int (nI 0), .ref ms, .ref mf, .ref mc, .ref my, .ref mb, .ref mz, .ref mp, .ref mo, .ref mm, .ref ml, .ref md, .int (nI (wr)), .int (bI sp), .int (bI rp), .int (bI fi), .int (nI (gd)), .ref me, .ref mg, .int (la), .int (nI 0), .long (lst), .int 0])), (mp, .inl (E.2 1, 2, .inl (pr2 (e0) (e1))))]) hA [1, 0] rfl rfl (xRet_i) (by decide) (by decide) d_M_count_93
abbrev rm_M_count1_3 : Room := { frames := 1, cells := 0, slots := 0, locals := 25 }
set_option maxHeartbeats 4000000 in
set_option maxRecDepth 100000 in
theorem c_M_count1_3 (l : Launch) (E : xE) (hm ms mf mc my mb mz mp mo mm ml md me mg : Nat) (re : Int32) (wr : Nat) (sp rp fi : Bool) (gd : Nat) (la : Int32) (lst : Int64) (e0 e1 : Int32) : xC l E y_M_count (.code y_M_count prog_10_method_33_code 3 (some .int)) rm_M_count1_3 [.ref hm, .int (nI 1), .int (nI 3)] [(hm, .inr (5, [.int (re), .ref ms, .ref mf, .ref mc, .ref my, .ref mb, .ref mz, .ref mp, .ref mo, .ref mm, .ref ml, .ref md, .int (nI (wr)), .int (bI sp), .int (bI rp), .int (bI fi), .int (nI (gd)), .ref me, .ref mg, .int (la), .int (nI 0), .long (lst), .int 0])), (mm, .inl (E.2 1, 2, .inl (pr2 (e0) (e1))))] (xRet (some (.int (e1))) [(hm, .inr (5, [.int (nI 0), .ref ms, .ref mf, .ref mc, .ref my, .ref mb, .ref mz, .ref mp, .ref mo, .ref mm, .ref ml, .ref md, .int (nI (wr)), .int (bI sp), .int (bI rp), .int (bI fi), .int (nI (gd)), .ref me, .ref mg, .int (la), .int (nI 0), .long (lst), .int 0])), (mm, .inl (E.2 1, 2, .inl (pr2 (e0) (e1))))]) := by
  refine x_of' (own := "LineCoderModel") (mn := "count") (lv := [(0, .ref hm), (1, .int (nI 1)), (2, .int (nI 3))]) (plainFor_of_name (by decide)) rfl rfl (Nat.le_of_ble_eq_true rfl) rfl ?_
  intro p_ e_ s_ m_ ar_ be_ me_ c_ A_ hA hB
  refine x_aload_n 1 hB d_M_count_0 rfl rfl ?_
  refine x_iload_n 2 hB d_M_count_1 rfl rfl ?_
  refine x_callP (k' := 0) (n' := 0) (rest := [.ref hm]) (st' := [.int (nI 1), .ref hm]) 5 hB (x_pfS (av := [.int (nI 1)]) hB w_772 xHd_code w_7 w_770 w_771 nm_M_isStream rfl d_M_count_2) (c_M_isStream_1 l E ) w_772 xHd_code w_7 [] rfl rfl ⟨by decide, by decide⟩ ⟨by decide, by decide⟩ rfl rfl (Nat.le_of_ble_eq_true rfl) d_M_count_2 rfl rfl ?_
  refine x_if_eq 22 8 hB d_M_count_5 (by decide) rfl (fun hc => absurd hc (by decide)) (fun _ => ?_)
  refine x_iload_n 9 hB d_M_count_8 rfl rfl ?_
  refine x_iconst (v := nI 0) 10 hB d_M_count_9 rfl (by decide) ?_
  refine x_bipush (v := nI 8) 12 hB d_M_count_10 rfl (by decide) ?_
  refine x_callP (k' := 0) (n' := 0) (rest := [.ref hm]) (st' := [.int (nI 1), .ref hm]) 15 hB (x_pfS (av := [.int (nI 3), .int (nI 0), .int (nI 8)]) hB w_716 xHd_code w_7 w_714 w_715 nm_M_isIn rfl d_M_count_12) (c_M_isIn_y l E (nI 3) (nI 0) (nI 8) (by decide) (by decide)) w_716 xHd_code w_7 [] rfl rfl ⟨by decide, by decide⟩ ⟨by decide, by decide⟩ rfl rfl (Nat.le_of_ble_eq_true rfl) d_M_count_12 rfl rfl ?_
  refine x_if_eq 22 18 hB d_M_count_15 (by decide) rfl (fun hc => absurd hc (by decide)) (fun _ => ?_)
  refine x_iconst (v := nI 0) 19 hB d_M_count_18 rfl (by decide) ?_
  refine x_goto 23 hB d_M_count_19 (by decide) ?_
  refine x_callD (k' := 0) (n' := 0) (rest := []) (wr := [(mm, .inl (E.2 1, 2, .inl (pr2 (e0) (e1))))]) (ws' := [(mm, .inl (E.2 1, 2, .inl (pr2 (e0) (e1)))), (hm, .inr (5, [.int (nI 0), .ref ms, .ref mf, .ref mc, .ref my, .ref mb, .ref mz, .ref mp, .ref mo, .ref mm, .ref ml, .ref md, .int (nI (wr)), .int (bI sp), .int (bI rp), .int (bI fi), .int (nI (gd)), .ref me, .ref mg, .int (la), .int (nI 0), .long (lst), .int 0]))]) (st' := [.int (nI 0)]) 26 hB (x_pfV (av := [.int (nI 0)]) (q0 := 0) hB w_709 xHd_code w_706 w_708 s_M_refused rfl rfl nm_M_refused rfl d_M_count_23) (c_M_refused0 l E hm ms mf mc my mb mz mp mo mm ml md me mg (re) (wr) (sp) (rp) (fi) (gd) (la) (lst)) w_709 xHd_code w_7 [0] [1] rfl rfl rfl rfl (by decide) ⟨by decide, by decide⟩ ⟨by decide, by decide⟩ rfl rfl (Nat.le_of_ble_eq_true rfl) d_M_count_23 rfl rfl rfl ?_
  refine x_if_eq 31 29 hB d_M_count_26 (by decide) rfl (fun _ => ?_) (fun hc => absurd (by decide) hc)
  refine x_iload_n 32 hB d_M_count_31 rfl rfl ?_
  refine x_tabIn 109 hB d_M_count_32 (by decide) (by decide) (off := 77) (by decide) (by decide) ?_
  refine x_aload_n 110 hB d_M_count_109 rfl rfl ?_
  refine x_get 113 hB 1 fg_M_35_5 rfl rfl d_M_count_110 rfl ?_
  refine x_iload_n 114 hB d_M_count_113 rfl rfl ?_
  refine x_iald 115 hB 0 rfl (by omega) (by decide) d_M_count_114 rfl ?_
  refine x_top (v' := .int (e1)) rfl ?_
  exact x_iret hB (w' := [(hm, .inr (5, [.int (nI 0), .ref ms, .ref mf, .ref mc, .ref my, .ref mb, .ref mz, .ref mp, .ref mo, .ref mm, .ref ml, .ref md, .int (nI (wr)), .int (bI sp), .int (bI rp), .int (bI fi), .int (nI (gd)), .ref me, .ref mg, .int (la), .int (nI 0), .long (lst), .int 0])), (mm, .inl (E.2 1, 2, .inl (pr2 (e0) (e1))))]) hA [1, 0] rfl rfl (xRet_i) (by decide) (by decide) d_M_count_115
abbrev rm_M_count1_4 : Room := { frames := 1, cells := 0, slots := 0, locals := 25 }
set_option maxHeartbeats 4000000 in
set_option maxRecDepth 100000 in
theorem c_M_count1_4 (l : Launch) (E : xE) (hm ms mf mc my mb mz mp mo mm ml md me mg : Nat) (re : Int32) (wr : Nat) (sp rp fi : Bool) (gd : Nat) (la : Int32) (lst : Int64) (e0 e1 : Int32) : xC l E y_M_count (.code y_M_count prog_10_method_33_code 3 (some .int)) rm_M_count1_4 [.ref hm, .int (nI 1), .int (nI 4)] [(hm, .inr (5, [.int (re), .ref ms, .ref mf, .ref mc, .ref my, .ref mb, .ref mz, .ref mp, .ref mo, .ref mm, .ref ml, .ref md, .int (nI (wr)), .int (bI sp), .int (bI rp), .int (bI fi), .int (nI (gd)), .ref me, .ref mg, .int (la), .int (nI 0), .long (lst), .int 0])), (ml, .inl (E.2 1, 2, .inl (pr2 (e0) (e1))))] (xRet (some (.int (e1))) [(hm, .inr (5, [.int (nI 0), .ref ms, .ref mf, .ref mc, .ref my, .ref mb, .ref mz, .ref mp, .ref mo, .ref mm, .ref ml, .ref md, .int (nI (wr)), .int (bI sp), .int (bI rp), .int (bI fi), .int (nI (gd)), .ref me, .ref mg, .int (la), .int (nI 0), .long (lst), .int 0])), (ml, .inl (E.2 1, 2, .inl (pr2 (e0) (e1))))]) := by
  refine x_of' (own := "LineCoderModel") (mn := "count") (lv := [(0, .ref hm), (1, .int (nI 1)), (2, .int (nI 4))]) (plainFor_of_name (by decide)) rfl rfl (Nat.le_of_ble_eq_true rfl) rfl ?_
  intro p_ e_ s_ m_ ar_ be_ me_ c_ A_ hA hB
  refine x_aload_n 1 hB d_M_count_0 rfl rfl ?_
  refine x_iload_n 2 hB d_M_count_1 rfl rfl ?_
  refine x_callP (k' := 0) (n' := 0) (rest := [.ref hm]) (st' := [.int (nI 1), .ref hm]) 5 hB (x_pfS (av := [.int (nI 1)]) hB w_772 xHd_code w_7 w_770 w_771 nm_M_isStream rfl d_M_count_2) (c_M_isStream_1 l E ) w_772 xHd_code w_7 [] rfl rfl ⟨by decide, by decide⟩ ⟨by decide, by decide⟩ rfl rfl (Nat.le_of_ble_eq_true rfl) d_M_count_2 rfl rfl ?_
  refine x_if_eq 22 8 hB d_M_count_5 (by decide) rfl (fun hc => absurd hc (by decide)) (fun _ => ?_)
  refine x_iload_n 9 hB d_M_count_8 rfl rfl ?_
  refine x_iconst (v := nI 0) 10 hB d_M_count_9 rfl (by decide) ?_
  refine x_bipush (v := nI 8) 12 hB d_M_count_10 rfl (by decide) ?_
  refine x_callP (k' := 0) (n' := 0) (rest := [.ref hm]) (st' := [.int (nI 1), .ref hm]) 15 hB (x_pfS (av := [.int (nI 4), .int (nI 0), .int (nI 8)]) hB w_716 xHd_code w_7 w_714 w_715 nm_M_isIn rfl d_M_count_12) (c_M_isIn_y l E (nI 4) (nI 0) (nI 8) (by decide) (by decide)) w_716 xHd_code w_7 [] rfl rfl ⟨by decide, by decide⟩ ⟨by decide, by decide⟩ rfl rfl (Nat.le_of_ble_eq_true rfl) d_M_count_12 rfl rfl ?_
  refine x_if_eq 22 18 hB d_M_count_15 (by decide) rfl (fun hc => absurd hc (by decide)) (fun _ => ?_)
  refine x_iconst (v := nI 0) 19 hB d_M_count_18 rfl (by decide) ?_
  refine x_goto 23 hB d_M_count_19 (by decide) ?_
  refine x_callD (k' := 0) (n' := 0) (rest := []) (wr := [(ml, .inl (E.2 1, 2, .inl (pr2 (e0) (e1))))]) (ws' := [(ml, .inl (E.2 1, 2, .inl (pr2 (e0) (e1)))), (hm, .inr (5, [.int (nI 0), .ref ms, .ref mf, .ref mc, .ref my, .ref mb, .ref mz, .ref mp, .ref mo, .ref mm, .ref ml, .ref md, .int (nI (wr)), .int (bI sp), .int (bI rp), .int (bI fi), .int (nI (gd)), .ref me, .ref mg, .int (la), .int (nI 0), .long (lst), .int 0]))]) (st' := [.int (nI 0)]) 26 hB (x_pfV (av := [.int (nI 0)]) (q0 := 0) hB w_709 xHd_code w_706 w_708 s_M_refused rfl rfl nm_M_refused rfl d_M_count_23) (c_M_refused0 l E hm ms mf mc my mb mz mp mo mm ml md me mg (re) (wr) (sp) (rp) (fi) (gd) (la) (lst)) w_709 xHd_code w_7 [0] [1] rfl rfl rfl rfl (by decide) ⟨by decide, by decide⟩ ⟨by decide, by decide⟩ rfl rfl (Nat.le_of_ble_eq_true rfl) d_M_count_23 rfl rfl rfl ?_
  refine x_if_eq 31 29 hB d_M_count_26 (by decide) rfl (fun _ => ?_) (fun hc => absurd (by decide) hc)
  refine x_iload_n 32 hB d_M_count_31 rfl rfl ?_
  refine x_tabIn 116 hB d_M_count_32 (by decide) (by decide) (off := 84) (by decide) (by decide) ?_
  refine x_aload_n 117 hB d_M_count_116 rfl rfl ?_
  refine x_get 120 hB 1 fg_M_38_5 rfl rfl d_M_count_117 rfl ?_
  refine x_iload_n 121 hB d_M_count_120 rfl rfl ?_
  refine x_iald 122 hB 0 rfl (by omega) (by decide) d_M_count_121 rfl ?_
  refine x_top (v' := .int (e1)) rfl ?_
  exact x_iret hB (w' := [(hm, .inr (5, [.int (nI 0), .ref ms, .ref mf, .ref mc, .ref my, .ref mb, .ref mz, .ref mp, .ref mo, .ref mm, .ref ml, .ref md, .int (nI (wr)), .int (bI sp), .int (bI rp), .int (bI fi), .int (nI (gd)), .ref me, .ref mg, .int (la), .int (nI 0), .long (lst), .int 0])), (ml, .inl (E.2 1, 2, .inl (pr2 (e0) (e1))))]) hA [1, 0] rfl rfl (xRet_i) (by decide) (by decide) d_M_count_122
abbrev rm_M_count1_5 : Room := { frames := 1, cells := 0, slots := 0, locals := 25 }
set_option maxHeartbeats 4000000 in
set_option maxRecDepth 100000 in
theorem c_M_count1_5 (l : Launch) (E : xE) (hm ms mf mc my mb mz mp mo mm ml md me mg : Nat) (re : Int32) (wr : Nat) (sp rp fi : Bool) (gd : Nat) (la : Int32) (lst : Int64) (e0 e1 : Int32) : xC l E y_M_count (.code y_M_count prog_10_method_33_code 3 (some .int)) rm_M_count1_5 [.ref hm, .int (nI 1), .int (nI 5)] [(hm, .inr (5, [.int (re), .ref ms, .ref mf, .ref mc, .ref my, .ref mb, .ref mz, .ref mp, .ref mo, .ref mm, .ref ml, .ref md, .int (nI (wr)), .int (bI sp), .int (bI rp), .int (bI fi), .int (nI (gd)), .ref me, .ref mg, .int (la), .int (nI 0), .long (lst), .int 0])), (md, .inl (E.2 1, 2, .inl (pr2 (e0) (e1))))] (xRet (some (.int (e1))) [(hm, .inr (5, [.int (nI 0), .ref ms, .ref mf, .ref mc, .ref my, .ref mb, .ref mz, .ref mp, .ref mo, .ref mm, .ref ml, .ref md, .int (nI (wr)), .int (bI sp), .int (bI rp), .int (bI fi), .int (nI (gd)), .ref me, .ref mg, .int (la), .int (nI 0), .long (lst), .int 0])), (md, .inl (E.2 1, 2, .inl (pr2 (e0) (e1))))]) := by
  refine x_of' (own := "LineCoderModel") (mn := "count") (lv := [(0, .ref hm), (1, .int (nI 1)), (2, .int (nI 5))]) (plainFor_of_name (by decide)) rfl rfl (Nat.le_of_ble_eq_true rfl) rfl ?_
  intro p_ e_ s_ m_ ar_ be_ me_ c_ A_ hA hB
  refine x_aload_n 1 hB d_M_count_0 rfl rfl ?_
  refine x_iload_n 2 hB d_M_count_1 rfl rfl ?_
  refine x_callP (k' := 0) (n' := 0) (rest := [.ref hm]) (st' := [.int (nI 1), .ref hm]) 5 hB (x_pfS (av := [.int (nI 1)]) hB w_772 xHd_code w_7 w_770 w_771 nm_M_isStream rfl d_M_count_2) (c_M_isStream_1 l E ) w_772 xHd_code w_7 [] rfl rfl ⟨by decide, by decide⟩ ⟨by decide, by decide⟩ rfl rfl (Nat.le_of_ble_eq_true rfl) d_M_count_2 rfl rfl ?_
  refine x_if_eq 22 8 hB d_M_count_5 (by decide) rfl (fun hc => absurd hc (by decide)) (fun _ => ?_)
  refine x_iload_n 9 hB d_M_count_8 rfl rfl ?_
  refine x_iconst (v := nI 0) 10 hB d_M_count_9 rfl (by decide) ?_
  refine x_bipush (v := nI 8) 12 hB d_M_count_10 rfl (by decide) ?_
  refine x_callP (k' := 0) (n' := 0) (rest := [.ref hm]) (st' := [.int (nI 1), .ref hm]) 15 hB (x_pfS (av := [.int (nI 5), .int (nI 0), .int (nI 8)]) hB w_716 xHd_code w_7 w_714 w_715 nm_M_isIn rfl d_M_count_12) (c_M_isIn_y l E (nI 5) (nI 0) (nI 8) (by decide) (by decide)) w_716 xHd_code w_7 [] rfl rfl ⟨by decide, by decide⟩ ⟨by decide, by decide⟩ rfl rfl (Nat.le_of_ble_eq_true rfl) d_M_count_12 rfl rfl ?_
  refine x_if_eq 22 18 hB d_M_count_15 (by decide) rfl (fun hc => absurd hc (by decide)) (fun _ => ?_)
  refine x_iconst (v := nI 0) 19 hB d_M_count_18 rfl (by decide) ?_
  refine x_goto 23 hB d_M_count_19 (by decide) ?_
  refine x_callD (k' := 0) (n' := 0) (rest := []) (wr := [(md, .inl (E.2 1, 2, .inl (pr2 (e0) (e1))))]) (ws' := [(md, .inl (E.2 1, 2, .inl (pr2 (e0) (e1)))), (hm, .inr (5, [.int (nI 0), .ref ms, .ref mf, .ref mc, .ref my, .ref mb, .ref mz, .ref mp, .ref mo, .ref mm, .ref ml, .ref md, .int (nI (wr)), .int (bI sp), .int (bI rp), .int (bI fi), .int (nI (gd)), .ref me, .ref mg, .int (la), .int (nI 0), .long (lst), .int 0]))]) (st' := [.int (nI 0)]) 26 hB (x_pfV (av := [.int (nI 0)]) (q0 := 0) hB w_709 xHd_code w_706 w_708 s_M_refused rfl rfl nm_M_refused rfl d_M_count_23) (c_M_refused0 l E hm ms mf mc my mb mz mp mo mm ml md me mg (re) (wr) (sp) (rp) (fi) (gd) (la) (lst)) w_709 xHd_code w_7 [0] [1] rfl rfl rfl rfl (by decide) ⟨by decide, by decide⟩ ⟨by decide, by decide⟩ rfl rfl (Nat.le_of_ble_eq_true rfl) d_M_count_23 rfl rfl rfl ?_
  refine x_if_eq 31 29 hB d_M_count_26 (by decide) rfl (fun _ => ?_) (fun hc => absurd (by decide) hc)
  refine x_iload_n 32 hB d_M_count_31 rfl rfl ?_
  refine x_tabIn 123 hB d_M_count_32 (by decide) (by decide) (off := 91) (by decide) (by decide) ?_
  refine x_aload_n 124 hB d_M_count_123 rfl rfl ?_
  refine x_get 127 hB 1 fg_M_41_5 rfl rfl d_M_count_124 rfl ?_
  refine x_iload_n 128 hB d_M_count_127 rfl rfl ?_
  refine x_iald 129 hB 0 rfl (by omega) (by decide) d_M_count_128 rfl ?_
  refine x_top (v' := .int (e1)) rfl ?_
  exact x_iret hB (w' := [(hm, .inr (5, [.int (nI 0), .ref ms, .ref mf, .ref mc, .ref my, .ref mb, .ref mz, .ref mp, .ref mo, .ref mm, .ref ml, .ref md, .int (nI (wr)), .int (bI sp), .int (bI rp), .int (bI fi), .int (nI (gd)), .ref me, .ref mg, .int (la), .int (nI 0), .long (lst), .int 0])), (md, .inl (E.2 1, 2, .inl (pr2 (e0) (e1))))]) hA [1, 0] rfl rfl (xRet_i) (by decide) (by decide) d_M_count_129
abbrev rm_M_count1_2 : Room := { frames := 1, cells := 0, slots := 0, locals := 25 }
set_option maxHeartbeats 4000000 in
set_option maxRecDepth 100000 in
theorem c_M_count1_2 (l : Launch) (E : xE) (hm ms mf mc my mb mz mp mo mm ml md me mg : Nat) (re : Int32) (wr : Nat) (sp rp fi : Bool) (gd : Nat) (la : Int32) (lst : Int64) (e0 e1 : Int32) (fo : Bool) : xC l E y_M_count (.code y_M_count prog_10_method_33_code 3 (some .int)) rm_M_count1_2 [.ref hm, .int (nI 1), .int (nI 2)] [(hm, .inr (5, [.int (re), .ref ms, .ref mf, .ref mc, .ref my, .ref mb, .ref mz, .ref mp, .ref mo, .ref mm, .ref ml, .ref md, .int (nI (wr)), .int (bI sp), .int (bI rp), .int (bI fi), .int (nI (gd)), .ref me, .ref mg, .int (la), .int (nI 0), .long (lst), .int 0])), (mo, .inl (E.2 3, 2, .inl (pr2 (e0) (bI fo))))] (xRet (some (.int (bI fo))) [(hm, .inr (5, [.int (nI 0), .ref ms, .ref mf, .ref mc, .ref my, .ref mb, .ref mz, .ref mp, .ref mo, .ref mm, .ref ml, .ref md, .int (nI (wr)), .int (bI sp), .int (bI rp), .int (bI fi), .int (nI (gd)), .ref me, .ref mg, .int (la), .int (nI 0), .long (lst), .int 0])), (mo, .inl (E.2 3, 2, .inl (pr2 (e0) (bI fo))))]) := by
  refine x_of' (own := "LineCoderModel") (mn := "count") (lv := [(0, .ref hm), (1, .int (nI 1)), (2, .int (nI 2))]) (plainFor_of_name (by decide)) rfl rfl (Nat.le_of_ble_eq_true rfl) rfl ?_
  intro p_ e_ s_ m_ ar_ be_ me_ c_ A_ hA hB
  refine x_aload_n 1 hB d_M_count_0 rfl rfl ?_
  refine x_iload_n 2 hB d_M_count_1 rfl rfl ?_
  refine x_callP (k' := 0) (n' := 0) (rest := [.ref hm]) (st' := [.int (nI 1), .ref hm]) 5 hB (x_pfS (av := [.int (nI 1)]) hB w_772 xHd_code w_7 w_770 w_771 nm_M_isStream rfl d_M_count_2) (c_M_isStream_1 l E ) w_772 xHd_code w_7 [] rfl rfl ⟨by decide, by decide⟩ ⟨by decide, by decide⟩ rfl rfl (Nat.le_of_ble_eq_true rfl) d_M_count_2 rfl rfl ?_
  refine x_if_eq 22 8 hB d_M_count_5 (by decide) rfl (fun hc => absurd hc (by decide)) (fun _ => ?_)
  refine x_iload_n 9 hB d_M_count_8 rfl rfl ?_
  refine x_iconst (v := nI 0) 10 hB d_M_count_9 rfl (by decide) ?_
  refine x_bipush (v := nI 8) 12 hB d_M_count_10 rfl (by decide) ?_
  refine x_callP (k' := 0) (n' := 0) (rest := [.ref hm]) (st' := [.int (nI 1), .ref hm]) 15 hB (x_pfS (av := [.int (nI 2), .int (nI 0), .int (nI 8)]) hB w_716 xHd_code w_7 w_714 w_715 nm_M_isIn rfl d_M_count_12) (c_M_isIn_y l E (nI 2) (nI 0) (nI 8) (by decide) (by decide)) w_716 xHd_code w_7 [] rfl rfl ⟨by decide, by decide⟩ ⟨by decide, by decide⟩ rfl rfl (Nat.le_of_ble_eq_true rfl) d_M_count_12 rfl rfl ?_
  refine x_if_eq 22 18 hB d_M_count_15 (by decide) rfl (fun hc => absurd hc (by decide)) (fun _ => ?_)
  refine x_iconst (v := nI 0) 19 hB d_M_count_18 rfl (by decide) ?_
  refine x_goto 23 hB d_M_count_19 (by decide) ?_
  refine x_callD (k' := 0) (n' := 0) (rest := []) (wr := [(mo, .inl (E.2 3, 2, .inl (pr2 (e0) (bI fo))))]) (ws' := [(mo, .inl (E.2 3, 2, .inl (pr2 (e0) (bI fo)))), (hm, .inr (5, [.int (nI 0), .ref ms, .ref mf, .ref mc, .ref my, .ref mb, .ref mz, .ref mp, .ref mo, .ref mm, .ref ml, .ref md, .int (nI (wr)), .int (bI sp), .int (bI rp), .int (bI fi), .int (nI (gd)), .ref me, .ref mg, .int (la), .int (nI 0), .long (lst), .int 0]))]) (st' := [.int (nI 0)]) 26 hB (x_pfV (av := [.int (nI 0)]) (q0 := 0) hB w_709 xHd_code w_706 w_708 s_M_refused rfl rfl nm_M_refused rfl d_M_count_23) (c_M_refused0 l E hm ms mf mc my mb mz mp mo mm ml md me mg (re) (wr) (sp) (rp) (fi) (gd) (la) (lst)) w_709 xHd_code w_7 [0] [1] rfl rfl rfl rfl (by decide) ⟨by decide, by decide⟩ ⟨by decide, by decide⟩ rfl rfl (Nat.le_of_ble_eq_true rfl) d_M_count_23 rfl rfl rfl ?_
  refine x_if_eq 31 29 hB d_M_count_26 (by decide) rfl (fun _ => ?_) (fun hc => absurd (by decide) hc)
  refine x_iload_n 32 hB d_M_count_31 rfl rfl ?_
  refine x_tabIn 94 hB d_M_count_32 (by decide) (by decide) (off := 62) (by decide) (by decide) ?_
  refine x_aload_n 95 hB d_M_count_94 rfl rfl ?_
  refine x_get 98 hB 1 fg_M_31_5 rfl rfl d_M_count_95 rfl ?_
  refine x_iload_n 99 hB d_M_count_98 rfl rfl ?_
  refine x_zald 100 hB 0 rfl (by omega) (by decide) d_M_count_99 rfl ?_
  refine x_top (v' := .int (bI fo)) rfl ?_
  refine x_if_eq 107 103 hB d_M_count_100 (by decide) rfl (fun h100 => ?_) (fun h100 => ?_)
  · skip
    have k100 : fo = false := bI_0 h100
    refine x_iconst (v := nI 0) 108 hB d_M_count_107 rfl (by decide) ?_
    exact x_iret hB (w' := [(hm, .inr (5, [.int (nI 0), .ref ms, .ref mf, .ref mc, .ref my, .ref mb, .ref mz, .ref mp, .ref mo, .ref mm, .ref ml, .ref md, .int (nI (wr)), .int (bI sp), .int (bI rp), .int (bI fi), .int (nI (gd)), .ref me, .ref mg, .int (la), .int (nI 0), .long (lst), .int 0])), (mo, .inl (E.2 3, 2, .inl (pr2 (e0) (bI fo))))]) hA [1, 0] rfl rfl (⟨by rw [k100]; rfl, rfl⟩) (by decide) (by decide) d_M_count_108
  · skip
    have k100 : fo = true := bI_1 h100
    refine x_iconst (v := nI 1) 104 hB d_M_count_103 rfl (by decide) ?_
    refine x_goto 108 hB d_M_count_104 (by decide) ?_
    exact x_iret hB (w' := [(hm, .inr (5, [.int (nI 0), .ref ms, .ref mf, .ref mc, .ref my, .ref mb, .ref mz, .ref mp, .ref mo, .ref mm, .ref ml, .ref md, .int (nI (wr)), .int (bI sp), .int (bI rp), .int (bI fi), .int (nI (gd)), .ref me, .ref mg, .int (la), .int (nI 0), .long (lst), .int 0])), (mo, .inl (E.2 3, 2, .inl (pr2 (e0) (bI fo))))]) hA [1, 0] rfl rfl (⟨by rw [k100]; rfl, rfl⟩) (by decide) (by decide) d_M_count_108
abbrev rm_M_count1_6 : Room := { frames := 1, cells := 0, slots := 0, locals := 25 }
set_option maxHeartbeats 4000000 in
set_option maxRecDepth 100000 in
theorem c_M_count1_6 (l : Launch) (E : xE) (hm ms mf mc my mb mz mp mo mm ml md me mg : Nat) (re : Int32) (wr : Nat) (sp rp fi : Bool) (gd : Nat) (la : Int32) (lst : Int64) : xC l E y_M_count (.code y_M_count prog_10_method_33_code 3 (some .int)) rm_M_count1_6 [.ref hm, .int (nI 1), .int (nI 6)] [(hm, .inr (5, [.int (re), .ref ms, .ref mf, .ref mc, .ref my, .ref mb, .ref mz, .ref mp, .ref mo, .ref mm, .ref ml, .ref md, .int (nI (wr)), .int (bI sp), .int (bI rp), .int (bI fi), .int (nI (gd)), .ref me, .ref mg, .int (la), .int (nI 0), .long (lst), .int 0]))] (xRet (some (.int (nI 0))) [(hm, .inr (5, [.int (nI 0), .ref ms, .ref mf, .ref mc, .ref my, .ref mb, .ref mz, .ref mp, .ref mo, .ref mm, .ref ml, .ref md, .int (nI (wr)), .int (bI sp), .int (bI rp), .int (bI fi), .int (nI (gd)), .ref me, .ref mg, .int (la), .int (nI 0), .long (lst), .int 0]))]) := by
  refine x_of' (own := "LineCoderModel") (mn := "count") (lv := [(0, .ref hm), (1, .int (nI 1)), (2, .int (nI 6))]) (plainFor_of_name (by decide)) rfl rfl (Nat.le_of_ble_eq_true rfl) rfl ?_
  intro p_ e_ s_ m_ ar_ be_ me_ c_ A_ hA hB
  refine x_aload_n 1 hB d_M_count_0 rfl rfl ?_
  refine x_iload_n 2 hB d_M_count_1 rfl rfl ?_
  refine x_callP (k' := 0) (n' := 0) (rest := [.ref hm]) (st' := [.int (nI 1), .ref hm]) 5 hB (x_pfS (av := [.int (nI 1)]) hB w_772 xHd_code w_7 w_770 w_771 nm_M_isStream rfl d_M_count_2) (c_M_isStream_1 l E ) w_772 xHd_code w_7 [] rfl rfl ⟨by decide, by decide⟩ ⟨by decide, by decide⟩ rfl rfl (Nat.le_of_ble_eq_true rfl) d_M_count_2 rfl rfl ?_
  refine x_if_eq 22 8 hB d_M_count_5 (by decide) rfl (fun hc => absurd hc (by decide)) (fun _ => ?_)
  refine x_iload_n 9 hB d_M_count_8 rfl rfl ?_
  refine x_iconst (v := nI 0) 10 hB d_M_count_9 rfl (by decide) ?_
  refine x_bipush (v := nI 8) 12 hB d_M_count_10 rfl (by decide) ?_
  refine x_callP (k' := 0) (n' := 0) (rest := [.ref hm]) (st' := [.int (nI 1), .ref hm]) 15 hB (x_pfS (av := [.int (nI 6), .int (nI 0), .int (nI 8)]) hB w_716 xHd_code w_7 w_714 w_715 nm_M_isIn rfl d_M_count_12) (c_M_isIn_y l E (nI 6) (nI 0) (nI 8) (by decide) (by decide)) w_716 xHd_code w_7 [] rfl rfl ⟨by decide, by decide⟩ ⟨by decide, by decide⟩ rfl rfl (Nat.le_of_ble_eq_true rfl) d_M_count_12 rfl rfl ?_
  refine x_if_eq 22 18 hB d_M_count_15 (by decide) rfl (fun hc => absurd hc (by decide)) (fun _ => ?_)
  refine x_iconst (v := nI 0) 19 hB d_M_count_18 rfl (by decide) ?_
  refine x_goto 23 hB d_M_count_19 (by decide) ?_
  refine x_callD (k' := 0) (n' := 0) (rest := []) (wr := []) (ws' := [(hm, .inr (5, [.int (nI 0), .ref ms, .ref mf, .ref mc, .ref my, .ref mb, .ref mz, .ref mp, .ref mo, .ref mm, .ref ml, .ref md, .int (nI (wr)), .int (bI sp), .int (bI rp), .int (bI fi), .int (nI (gd)), .ref me, .ref mg, .int (la), .int (nI 0), .long (lst), .int 0]))]) (st' := [.int (nI 0)]) 26 hB (x_pfV (av := [.int (nI 0)]) (q0 := 0) hB w_709 xHd_code w_706 w_708 s_M_refused rfl rfl nm_M_refused rfl d_M_count_23) (c_M_refused0 l E hm ms mf mc my mb mz mp mo mm ml md me mg (re) (wr) (sp) (rp) (fi) (gd) (la) (lst)) w_709 xHd_code w_7 [0] [] rfl rfl rfl rfl (by decide) ⟨by decide, by decide⟩ ⟨by decide, by decide⟩ rfl rfl (Nat.le_of_ble_eq_true rfl) d_M_count_23 rfl rfl rfl ?_
  refine x_if_eq 31 29 hB d_M_count_26 (by decide) rfl (fun _ => ?_) (fun hc => absurd (by decide) hc)
  refine x_iload_n 32 hB d_M_count_31 rfl rfl ?_
  refine x_tabIn 130 hB d_M_count_32 (by decide) (by decide) (off := 98) (by decide) (by decide) ?_
  refine x_iload_n 131 hB d_M_count_130 rfl rfl ?_
  refine x_if_ne 141 134 hB d_M_count_131 (by decide) rfl (fun _ => ?_) (fun hc => absurd hc (by decide))
  refine x_iconst (v := nI 0) 142 hB d_M_count_141 rfl (by decide) ?_
  exact x_iret hB (w' := [(hm, .inr (5, [.int (nI 0), .ref ms, .ref mf, .ref mc, .ref my, .ref mb, .ref mz, .ref mp, .ref mo, .ref mm, .ref ml, .ref md, .int (nI (wr)), .int (bI sp), .int (bI rp), .int (bI fi), .int (nI (gd)), .ref me, .ref mg, .int (la), .int (nI 0), .long (lst), .int 0]))]) hA [0] rfl rfl (xRet_i) (by decide) (by decide) d_M_count_142
abbrev rm_M_count1_7 : Room := { frames := 1, cells := 0, slots := 0, locals := 25 }
set_option maxHeartbeats 4000000 in
set_option maxRecDepth 100000 in
theorem c_M_count1_7 (l : Launch) (E : xE) (hm ms mf mc my mb mz mp mo mm ml md me mg : Nat) (re : Int32) (wr : Nat) (sp rp fi : Bool) (gd : Nat) (la : Int32) (lst : Int64) (z0 z1 : Nat) (g : Nat → Int32) (hz : z1 ≤ 2640) : xC l E y_M_count (.code y_M_count prog_10_method_33_code 3 (some .int)) rm_M_count1_7 [.ref hm, .int (nI 1), .int (nI 7)] [(hm, .inr (5, [.int (re), .ref ms, .ref mf, .ref mc, .ref my, .ref mb, .ref mz, .ref mp, .ref mo, .ref mm, .ref ml, .ref md, .int (nI (wr)), .int (bI sp), .int (bI rp), .int (bI fi), .int (nI (gd)), .ref me, .ref mg, .int (la), .int (nI 0), .long (lst), .int 0])), (mb, .inl (E.2 1, 5280, .inl (g))), (mz, .inl (E.2 1, 2, .inl (pr2 (nI (z0)) (nI (z1)))))] (xRet (some (.int (blG g 2640 z1))) [(hm, .inr (5, [.int (nI 0), .ref ms, .ref mf, .ref mc, .ref my, .ref mb, .ref mz, .ref mp, .ref mo, .ref mm, .ref ml, .ref md, .int (nI (wr)), .int (bI sp), .int (bI rp), .int (bI fi), .int (nI (gd)), .ref me, .ref mg, .int (la), .int (nI 0), .long (lst), .int 0])), (mb, .inl (E.2 1, 5280, .inl (g))), (mz, .inl (E.2 1, 2, .inl (pr2 (nI (z0)) (nI (z1)))))]) := by
  refine x_of' (own := "LineCoderModel") (mn := "count") (lv := [(0, .ref hm), (1, .int (nI 1)), (2, .int (nI 7))]) (plainFor_of_name (by decide)) rfl rfl (Nat.le_of_ble_eq_true rfl) rfl ?_
  intro p_ e_ s_ m_ ar_ be_ me_ c_ A_ hA hB
  refine x_aload_n 1 hB d_M_count_0 rfl rfl ?_
  refine x_iload_n 2 hB d_M_count_1 rfl rfl ?_
  refine x_callP (k' := 0) (n' := 0) (rest := [.ref hm]) (st' := [.int (nI 1), .ref hm]) 5 hB (x_pfS (av := [.int (nI 1)]) hB w_772 xHd_code w_7 w_770 w_771 nm_M_isStream rfl d_M_count_2) (c_M_isStream_1 l E ) w_772 xHd_code w_7 [] rfl rfl ⟨by decide, by decide⟩ ⟨by decide, by decide⟩ rfl rfl (Nat.le_of_ble_eq_true rfl) d_M_count_2 rfl rfl ?_
  refine x_if_eq 22 8 hB d_M_count_5 (by decide) rfl (fun hc => absurd hc (by decide)) (fun _ => ?_)
  refine x_iload_n 9 hB d_M_count_8 rfl rfl ?_
  refine x_iconst (v := nI 0) 10 hB d_M_count_9 rfl (by decide) ?_
  refine x_bipush (v := nI 8) 12 hB d_M_count_10 rfl (by decide) ?_
  refine x_callP (k' := 0) (n' := 0) (rest := [.ref hm]) (st' := [.int (nI 1), .ref hm]) 15 hB (x_pfS (av := [.int (nI 7), .int (nI 0), .int (nI 8)]) hB w_716 xHd_code w_7 w_714 w_715 nm_M_isIn rfl d_M_count_12) (c_M_isIn_y l E (nI 7) (nI 0) (nI 8) (by decide) (by decide)) w_716 xHd_code w_7 [] rfl rfl ⟨by decide, by decide⟩ ⟨by decide, by decide⟩ rfl rfl (Nat.le_of_ble_eq_true rfl) d_M_count_12 rfl rfl ?_
  refine x_if_eq 22 18 hB d_M_count_15 (by decide) rfl (fun hc => absurd hc (by decide)) (fun _ => ?_)
  refine x_iconst (v := nI 0) 19 hB d_M_count_18 rfl (by decide) ?_
  refine x_goto 23 hB d_M_count_19 (by decide) ?_
  refine x_callD (k' := 0) (n' := 0) (rest := []) (wr := [(mb, .inl (E.2 1, 5280, .inl (g))), (mz, .inl (E.2 1, 2, .inl (pr2 (nI (z0)) (nI (z1)))))]) (ws' := [(mb, .inl (E.2 1, 5280, .inl (g))), (mz, .inl (E.2 1, 2, .inl (pr2 (nI (z0)) (nI (z1))))), (hm, .inr (5, [.int (nI 0), .ref ms, .ref mf, .ref mc, .ref my, .ref mb, .ref mz, .ref mp, .ref mo, .ref mm, .ref ml, .ref md, .int (nI (wr)), .int (bI sp), .int (bI rp), .int (bI fi), .int (nI (gd)), .ref me, .ref mg, .int (la), .int (nI 0), .long (lst), .int 0]))]) (st' := [.int (nI 0)]) 26 hB (x_pfV (av := [.int (nI 0)]) (q0 := 0) hB w_709 xHd_code w_706 w_708 s_M_refused rfl rfl nm_M_refused rfl d_M_count_23) (c_M_refused0 l E hm ms mf mc my mb mz mp mo mm ml md me mg (re) (wr) (sp) (rp) (fi) (gd) (la) (lst)) w_709 xHd_code w_7 [0] [1, 2] rfl rfl rfl rfl (by decide) ⟨by decide, by decide⟩ ⟨by decide, by decide⟩ rfl rfl (Nat.le_of_ble_eq_true rfl) d_M_count_23 rfl rfl rfl ?_
  refine x_if_eq 31 29 hB d_M_count_26 (by decide) rfl (fun _ => ?_) (fun hc => absurd (by decide) hc)
  refine x_iload_n 32 hB d_M_count_31 rfl rfl ?_
  refine x_tabIn 143 hB d_M_count_32 (by decide) (by decide) (off := 111) (by decide) (by decide) ?_
  refine x_aload_n 144 hB d_M_count_143 rfl rfl ?_
  refine x_iload_n 145 hB d_M_count_144 rfl rfl ?_
  refine x_callP (k' := 0) (n' := 0) (rest := []) (st' := [.int (blG g 2640 z1)]) 148 hB (x_pfV (av := [.int (nI 1)]) (q0 := 2) hB w_792 xHd_code w_789 w_791 s_M_balance rfl rfl nm_M_balance rfl d_M_count_145) (c_M_balance1 l E hm ms mf mc my mb mz mp mo mm ml md me mg (nI 0) (wr) (sp) (rp) (fi) (gd) (la) (lst) z0 z1 g hz) w_792 xHd_code w_7 [2, 0, 1] rfl rfl ⟨by decide, by decide⟩ ⟨by decide, by decide⟩ rfl rfl (Nat.le_of_ble_eq_true rfl) d_M_count_145 rfl rfl ?_
  exact x_iret hB (w' := [(hm, .inr (5, [.int (nI 0), .ref ms, .ref mf, .ref mc, .ref my, .ref mb, .ref mz, .ref mp, .ref mo, .ref mm, .ref ml, .ref md, .int (nI (wr)), .int (bI sp), .int (bI rp), .int (bI fi), .int (nI (gd)), .ref me, .ref mg, .int (la), .int (nI 0), .long (lst), .int 0])), (mb, .inl (E.2 1, 5280, .inl (g))), (mz, .inl (E.2 1, 2, .inl (pr2 (nI (z0)) (nI (z1)))))]) hA [2, 0, 1] rfl rfl (xRet_i) (by decide) (by decide) d_M_count_148
abbrev rm_M_count1_8 : Room := { frames := 1, cells := 0, slots := 0, locals := 25 }
set_option maxHeartbeats 4000000 in
set_option maxRecDepth 100000 in
theorem c_M_count1_8 (l : Launch) (E : xE) (hm ms mf mc my mb mz mp mo mm ml md me mg : Nat) (re : Int32) (wr : Nat) (sp rp fi : Bool) (gd : Nat) (la : Int32) (lst : Int64) (z0 z1 : Nat) (g : Nat → Int32) (hz : z1 ≤ 2640) : xC l E y_M_count (.code y_M_count prog_10_method_33_code 3 (some .int)) rm_M_count1_8 [.ref hm, .int (nI 1), .int (nI 8)] [(hm, .inr (5, [.int (re), .ref ms, .ref mf, .ref mc, .ref my, .ref mb, .ref mz, .ref mp, .ref mo, .ref mm, .ref ml, .ref md, .int (nI (wr)), .int (bI sp), .int (bI rp), .int (bI fi), .int (nI (gd)), .ref me, .ref mg, .int (la), .int (nI 0), .long (lst), .int 0])), (mb, .inl (E.2 1, 5280, .inl (g))), (mz, .inl (E.2 1, 2, .inl (pr2 (nI (z0)) (nI (z1)))))] (xRet (some (.int (nI ((lgG g 2640 z1).2)))) [(hm, .inr (5, [.int (nI 0), .ref ms, .ref mf, .ref mc, .ref my, .ref mb, .ref mz, .ref mp, .ref mo, .ref mm, .ref ml, .ref md, .int (nI (wr)), .int (bI sp), .int (bI rp), .int (bI fi), .int (nI (gd)), .ref me, .ref mg, .int (la), .int (nI 0), .long (lst), .int 0])), (mb, .inl (E.2 1, 5280, .inl (g))), (mz, .inl (E.2 1, 2, .inl (pr2 (nI (z0)) (nI (z1)))))]) := by
  refine x_of' (own := "LineCoderModel") (mn := "count") (lv := [(0, .ref hm), (1, .int (nI 1)), (2, .int (nI 8))]) (plainFor_of_name (by decide)) rfl rfl (Nat.le_of_ble_eq_true rfl) rfl ?_
  intro p_ e_ s_ m_ ar_ be_ me_ c_ A_ hA hB
  refine x_aload_n 1 hB d_M_count_0 rfl rfl ?_
  refine x_iload_n 2 hB d_M_count_1 rfl rfl ?_
  refine x_callP (k' := 0) (n' := 0) (rest := [.ref hm]) (st' := [.int (nI 1), .ref hm]) 5 hB (x_pfS (av := [.int (nI 1)]) hB w_772 xHd_code w_7 w_770 w_771 nm_M_isStream rfl d_M_count_2) (c_M_isStream_1 l E ) w_772 xHd_code w_7 [] rfl rfl ⟨by decide, by decide⟩ ⟨by decide, by decide⟩ rfl rfl (Nat.le_of_ble_eq_true rfl) d_M_count_2 rfl rfl ?_
  refine x_if_eq 22 8 hB d_M_count_5 (by decide) rfl (fun hc => absurd hc (by decide)) (fun _ => ?_)
  refine x_iload_n 9 hB d_M_count_8 rfl rfl ?_
  refine x_iconst (v := nI 0) 10 hB d_M_count_9 rfl (by decide) ?_
  refine x_bipush (v := nI 8) 12 hB d_M_count_10 rfl (by decide) ?_
  refine x_callP (k' := 0) (n' := 0) (rest := [.ref hm]) (st' := [.int (nI 1), .ref hm]) 15 hB (x_pfS (av := [.int (nI 8), .int (nI 0), .int (nI 8)]) hB w_716 xHd_code w_7 w_714 w_715 nm_M_isIn rfl d_M_count_12) (c_M_isIn_y l E (nI 8) (nI 0) (nI 8) (by decide) (by decide)) w_716 xHd_code w_7 [] rfl rfl ⟨by decide, by decide⟩ ⟨by decide, by decide⟩ rfl rfl (Nat.le_of_ble_eq_true rfl) d_M_count_12 rfl rfl ?_
  refine x_if_eq 22 18 hB d_M_count_15 (by decide) rfl (fun hc => absurd hc (by decide)) (fun _ => ?_)
  refine x_iconst (v := nI 0) 19 hB d_M_count_18 rfl (by decide) ?_
  refine x_goto 23 hB d_M_count_19 (by decide) ?_
  refine x_callD (k' := 0) (n' := 0) (rest := []) (wr := [(mb, .inl (E.2 1, 5280, .inl (g))), (mz, .inl (E.2 1, 2, .inl (pr2 (nI (z0)) (nI (z1)))))]) (ws' := [(mb, .inl (E.2 1, 5280, .inl (g))), (mz, .inl (E.2 1, 2, .inl (pr2 (nI (z0)) (nI (z1))))), (hm, .inr (5, [.int (nI 0), .ref ms, .ref mf, .ref mc, .ref my, .ref mb, .ref mz, .ref mp, .ref mo, .ref mm, .ref ml, .ref md, .int (nI (wr)), .int (bI sp), .int (bI rp), .int (bI fi), .int (nI (gd)), .ref me, .ref mg, .int (la), .int (nI 0), .long (lst), .int 0]))]) (st' := [.int (nI 0)]) 26 hB (x_pfV (av := [.int (nI 0)]) (q0 := 0) hB w_709 xHd_code w_706 w_708 s_M_refused rfl rfl nm_M_refused rfl d_M_count_23) (c_M_refused0 l E hm ms mf mc my mb mz mp mo mm ml md me mg (re) (wr) (sp) (rp) (fi) (gd) (la) (lst)) w_709 xHd_code w_7 [0] [1, 2] rfl rfl rfl rfl (by decide) ⟨by decide, by decide⟩ ⟨by decide, by decide⟩ rfl rfl (Nat.le_of_ble_eq_true rfl) d_M_count_23 rfl rfl rfl ?_
  refine x_if_eq 31 29 hB d_M_count_26 (by decide) rfl (fun _ => ?_) (fun hc => absurd (by decide) hc)
  refine x_iload_n 32 hB d_M_count_31 rfl rfl ?_
  refine x_tabOut 149 hB d_M_count_32 (by decide) (by decide) ?_
  refine x_aload_n 150 hB d_M_count_149 rfl rfl ?_
  refine x_iload_n 151 hB d_M_count_150 rfl rfl ?_
  refine x_callP (k' := 0) (n' := 0) (rest := []) (st' := [.int (nI ((lgG g 2640 z1).2))]) 154 hB (x_pfV (av := [.int (nI 1)]) (q0 := 2) hB w_796 xHd_code w_793 w_795 s_M_longest rfl rfl nm_M_longest rfl d_M_count_151) (c_M_longest1 l E hm ms mf mc my mb mz mp mo mm ml md me mg (nI 0) (wr) (sp) (rp) (fi) (gd) (la) (lst) z0 z1 g hz) w_796 xHd_code w_7 [2, 0, 1] rfl rfl ⟨by decide, by decide⟩ ⟨by decide, by decide⟩ rfl rfl (Nat.le_of_ble_eq_true rfl) d_M_count_151 rfl rfl ?_
  exact x_iret hB (w' := [(hm, .inr (5, [.int (nI 0), .ref ms, .ref mf, .ref mc, .ref my, .ref mb, .ref mz, .ref mp, .ref mo, .ref mm, .ref ml, .ref md, .int (nI (wr)), .int (bI sp), .int (bI rp), .int (bI fi), .int (nI (gd)), .ref me, .ref mg, .int (la), .int (nI 0), .long (lst), .int 0])), (mb, .inl (E.2 1, 5280, .inl (g))), (mz, .inl (E.2 1, 2, .inl (pr2 (nI (z0)) (nI (z1)))))]) hA [2, 0, 1] rfl rfl (xRet_i) (by decide) (by decide) d_M_count_154
abbrev rm_M_count1_b : Room := { frames := 1, cells := 0, slots := 0, locals := 25 }
set_option maxHeartbeats 4000000 in
set_option maxRecDepth 100000 in
theorem c_M_count1_b (l : Launch) (E : xE) (hm ms mf mc my mb mz mp mo mm ml md me mg : Nat) (re : Int32) (wr : Nat) (sp rp fi : Bool) (gd : Nat) (la : Int32) (lst : Int64) (k : Int32) (hk : k < 0 ∨ nI 8 < k) : xC l E y_M_count (.code y_M_count prog_10_method_33_code 3 (some .int)) rm_M_count1_b [.ref hm, .int (nI 1), .int (k)] [(hm, .inr (5, [.int (re), .ref ms, .ref mf, .ref mc, .ref my, .ref mb, .ref mz, .ref mp, .ref mo, .ref mm, .ref ml, .ref md, .int (nI (wr)), .int (bI sp), .int (bI rp), .int (bI fi), .int (nI (gd)), .ref me, .ref mg, .int (la), .int (nI 0), .long (lst), .int 0]))] (xRet (some (.int (nI 0))) [(hm, .inr (5, [.int (nI 1), .ref ms, .ref mf, .ref mc, .ref my, .ref mb, .ref mz, .ref mp, .ref mo, .ref mm, .ref ml, .ref md, .int (nI (wr)), .int (bI sp), .int (bI rp), .int (bI fi), .int (nI (gd)), .ref me, .ref mg, .int (la), .int (nI 0), .long (lst), .int 0]))]) := by
  refine x_of' (own := "LineCoderModel") (mn := "count") (lv := [(0, .ref hm), (1, .int (nI 1)), (2, .int (k))]) (plainFor_of_name (by decide)) rfl rfl (Nat.le_of_ble_eq_true rfl) rfl ?_
  intro p_ e_ s_ m_ ar_ be_ me_ c_ A_ hA hB
  refine x_aload_n 1 hB d_M_count_0 rfl rfl ?_
  refine x_iload_n 2 hB d_M_count_1 rfl rfl ?_
  refine x_callP (k' := 0) (n' := 0) (rest := [.ref hm]) (st' := [.int (nI 1), .ref hm]) 5 hB (x_pfS (av := [.int (nI 1)]) hB w_772 xHd_code w_7 w_770 w_771 nm_M_isStream rfl d_M_count_2) (c_M_isStream_1 l E ) w_772 xHd_code w_7 [] rfl rfl ⟨by decide, by decide⟩ ⟨by decide, by decide⟩ rfl rfl (Nat.le_of_ble_eq_true rfl) d_M_count_2 rfl rfl ?_
  refine x_if_eq 22 8 hB d_M_count_5 (by decide) rfl (fun hc => absurd hc (by decide)) (fun _ => ?_)
  refine x_iload_n 9 hB d_M_count_8 rfl rfl ?_
  refine x_iconst (v := nI 0) 10 hB d_M_count_9 rfl (by decide) ?_
  refine x_bipush (v := nI 8) 12 hB d_M_count_10 rfl (by decide) ?_
  refine x_callP (k' := 0) (n' := 0) (rest := [.ref hm]) (st' := [.int (nI 0), .ref hm]) 15 hB (x_pfS (av := [.int (k), .int (nI 0), .int (nI 8)]) hB w_716 xHd_code w_7 w_714 w_715 nm_M_isIn rfl d_M_count_12) (c_M_isIn_n l E k (nI 0) (nI 8) hk) w_716 xHd_code w_7 [] rfl rfl ⟨by decide, by decide⟩ ⟨by decide, by decide⟩ rfl rfl (Nat.le_of_ble_eq_true rfl) d_M_count_12 rfl rfl ?_
  refine x_if_eq 22 18 hB d_M_count_15 (by decide) rfl (fun _ => ?_) (fun hc => absurd (by decide) hc)
  refine x_iconst (v := nI 1) 23 hB d_M_count_22 rfl (by decide) ?_
  refine x_callD (k' := 0) (n' := 0) (rest := []) (wr := []) (ws' := [(hm, .inr (5, [.int (nI 1), .ref ms, .ref mf, .ref mc, .ref my, .ref mb, .ref mz, .ref mp, .ref mo, .ref mm, .ref ml, .ref md, .int (nI (wr)), .int (bI sp), .int (bI rp), .int (bI fi), .int (nI (gd)), .ref me, .ref mg, .int (la), .int (nI 0), .long (lst), .int 0]))]) (st' := [.int (nI 1)]) 26 hB (x_pfV (av := [.int (nI 1)]) (q0 := 0) hB w_709 xHd_code w_706 w_708 s_M_refused rfl rfl nm_M_refused rfl d_M_count_23) (c_M_refused1 l E hm ms mf mc my mb mz mp mo mm ml md me mg (re) (wr) (sp) (rp) (fi) (gd) (la) (lst)) w_709 xHd_code w_7 [0] [] rfl rfl rfl rfl (by decide) ⟨by decide, by decide⟩ ⟨by decide, by decide⟩ rfl rfl (Nat.le_of_ble_eq_true rfl) d_M_count_23 rfl rfl rfl ?_
  refine x_if_eq 31 29 hB d_M_count_26 (by decide) rfl (fun hc => absurd hc (by decide)) (fun _ => ?_)
  refine x_iconst (v := nI 0) 30 hB d_M_count_29 rfl (by decide) ?_
  exact x_iret hB (w' := [(hm, .inr (5, [.int (nI 1), .ref ms, .ref mf, .ref mc, .ref my, .ref mb, .ref mz, .ref mp, .ref mo, .ref mm, .ref ml, .ref md, .int (nI (wr)), .int (bI sp), .int (bI rp), .int (bI fi), .int (nI (gd)), .ref me, .ref mg, .int (la), .int (nI 0), .long (lst), .int 0]))]) hA [0] rfl rfl (xRet_i) (by decide) (by decide) d_M_count_30
