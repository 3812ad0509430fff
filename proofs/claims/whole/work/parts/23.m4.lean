abbrev rm_M_put : Room := { frames := 1, cells := 0, slots := 0, locals := 22 }
set_option maxHeartbeats 4000000 in
set_option maxRecDepth 100000 in
theorem c_M_put (l : Launch) (E : xE) (hm ms mf mc my mb mz mp mo mm ml md me mg : Nat) (re : Int32) (wr : Nat) (sp rp fi : Bool) (gd : Nat) (la : Int32) (lst : Int64) (z0 z1 : Nat) (g : Nat → Int32) (h : Nat → Int32) (x : Int64) (ct : Bool) (hz : z1 + 66 ≤ 2640) : xC l E y_M_put (.code y_M_put prog_10_method_21_code 6 (some .int)) rm_M_put [.ref hm, .long (x), .int (bI ct)] [(hm, .inr (5, [.int (re), .ref ms, .ref mf, .ref mc, .ref my, .ref mb, .ref mz, .ref mp, .ref mo, .ref mm, .ref ml, .ref md, .int (nI (wr)), .int (bI sp), .int (bI rp), .int (bI fi), .int (nI (gd)), .ref me, .ref mg, .int (la), .int (nI 0), .long (lst), .int 0])), (mb, .inl (E.2 1, 5280, .inl (g))), (mz, .inl (E.2 1, 2, .inl (pr2 (nI (z0)) (nI (z1))))), (me, .inl (E.2 1, 58, .inl (h)))] (xRet (some (.int (nI (z1 + 2 + 64)))) [(hm, .inr (5, [.int (nI 0), .ref ms, .ref mf, .ref mc, .ref my, .ref mb, .ref mz, .ref mp, .ref mo, .ref mm, .ref ml, .ref md, .int (nI (wr)), .int (bI sp), .int (bI rp), .int (bI fi), .int (nI (gd)), .ref me, .ref mg, .int (la), .int (nI 0), .long (lst), .int 0])), (mb, .inl (E.2 1, 5280, .inl ((ptG x (upd (upd g (2640 + z1) (bI ct)) (2640 + (z1 + 1)) (bI (!ct))) (z1 + 2) h 64).2))), (mz, .inl (E.2 1, 2, .inl (pr2 (nI (z0)) (nI (z1 + 2 + 64))))), (me, .inl (E.2 1, 58, .inl ((ptG x (upd (upd g (2640 + z1) (bI ct)) (2640 + (z1 + 1)) (bI (!ct))) (z1 + 2) h 64).1)))]) := by
  refine x_of' (own := "LineCoderModel") (mn := "put") (lv := [(0, .ref hm), (1, .long (x)), (3, .int (bI ct))]) (plainFor_of_name (by decide)) rfl rfl (Nat.le_of_ble_eq_true rfl) rfl ?_
  intro p_ e_ s_ m_ ar_ be_ me_ c_ A_ hA hB
  refine x_aload_n 1 hB d_M_put_0 rfl rfl ?_
  refine x_aload_n 2 hB d_M_put_1 rfl rfl ?_
  refine x_get 5 hB 0 fg_M_25_5 rfl rfl d_M_put_2 rfl ?_
  refine x_iconst (v := nI 1) 6 hB d_M_put_5 rfl (by decide) ?_
  refine x_iald 7 hB 2 rfl (by omega) (by decide) d_M_put_6 rfl ?_
  refine x_top (v' := .int (nI (z1))) rfl ?_
  refine x_bipush (v := nI 66) 9 hB d_M_put_7 rfl (by decide) ?_
  refine x_iadd 10 hB d_M_put_9 rfl ?_
  refine x_top (v' := .int (nI (z1 + 66))) (congrArg Value.int (nI_add _ _)) ?_
  refine x_sipush (v := nI 2640) 13 hB d_M_put_10 rfl (by decide) ?_
  refine x_icmp_le 20 16 hB d_M_put_13 (by decide) rfl (fun _ => ?_) (fun hc => absurd (nI_le hz (by decide)) hc)
  refine x_iconst (v := nI 0) 21 hB d_M_put_20 rfl (by decide) ?_
  refine x_callD (k' := 0) (n' := 0) (rest := []) (wr := [(mb, .inl (E.2 1, 5280, .inl (g))), (mz, .inl (E.2 1, 2, .inl (pr2 (nI (z0)) (nI (z1))))), (me, .inl (E.2 1, 58, .inl (h)))]) (ws' := [(mb, .inl (E.2 1, 5280, .inl (g))), (mz, .inl (E.2 1, 2, .inl (pr2 (nI (z0)) (nI (z1))))), (me, .inl (E.2 1, 58, .inl (h))), (hm, .inr (5, [.int (nI 0), .ref ms, .ref mf, .ref mc, .ref my, .ref mb, .ref mz, .ref mp, .ref mo, .ref mm, .ref ml, .ref md, .int (nI (wr)), .int (bI sp), .int (bI rp), .int (bI fi), .int (nI (gd)), .ref me, .ref mg, .int (la), .int (nI 0), .long (lst), .int 0]))]) (st' := [.int (nI 0)]) 24 hB (x_pfV (av := [.int (nI 0)]) (q0 := 0) hB w_709 xHd_code w_706 w_708 s_M_refused rfl rfl nm_M_refused rfl d_M_put_21) (c_M_refused0 l E hm ms mf mc my mb mz mp mo mm ml md me mg (re) (wr) (sp) (rp) (fi) (gd) (la) (lst)) w_709 xHd_code w_7 [0] [1, 2, 3] rfl rfl rfl rfl (by decide) ⟨by decide, by decide⟩ ⟨by decide, by decide⟩ rfl rfl (Nat.le_of_ble_eq_true rfl) d_M_put_21 rfl rfl rfl ?_
  refine x_if_eq 29 27 hB d_M_put_24 (by decide) rfl (fun _ => ?_) (fun hc => absurd (by decide) hc)
  refine x_aload_n 30 hB d_M_put_29 rfl rfl ?_
  refine x_iconst (v := nI 1) 31 hB d_M_put_30 rfl (by decide) ?_
  refine x_join 40 (fun _u : Unit => True) (fun _u : Unit => [(mb, .inl (E.2 1, 5280, .inl (g))), (mz, .inl (E.2 1, 2, .inl (pr2 (nI (z0)) (nI (z1))))), (me, .inl (E.2 1, 58, .inl (h))), (hm, .inr (5, [.int (nI 0), .ref ms, .ref mf, .ref mc, .ref my, .ref mb, .ref mz, .ref mp, .ref mo, .ref mm, .ref ml, .ref md, .int (nI (wr)), .int (bI sp), .int (bI rp), .int (bI fi), .int (nI (gd)), .ref me, .ref mg, .int (la), .int (nI 0), .long (lst), .int 0]))]) (fun _u : Unit => [(0, .ref hm), (1, .long (x)), (3, .int (bI ct))]) (fun _u : Unit => [.int (bI ct), .int (nI 1), .ref hm]) (fun _u hJ40 => ?_) (fun J40 => ?_)
  · skip
    refine x_callD (k' := 0) (n' := 0) (rest := []) (wr := [(me, .inl (E.2 1, 58, .inl (h)))]) (ws' := [(me, .inl (E.2 1, 58, .inl (h))), (hm, .inr (5, [.int (nI 0), .ref ms, .ref mf, .ref mc, .ref my, .ref mb, .ref mz, .ref mp, .ref mo, .ref mm, .ref ml, .ref md, .int (nI (wr)), .int (bI sp), .int (bI rp), .int (bI fi), .int (nI (gd)), .ref me, .ref mg, .int (la), .int (nI 0), .long (lst), .int 0])), (mb, .inl (E.2 1, 5280, .inl (upd g (2640 + z1) (bI ct)))), (mz, .inl (E.2 1, 2, .inl (pr2 (nI (z0)) (nI (z1 + 1)))))]) (st' := []) 43 hB (x_pfV (av := [.int (nI 1), .int (bI ct)]) (q0 := 3) hB w_724 xHd_code w_721 w_723 s_M_append rfl rfl nm_M_append rfl d_M_put_40) (c_M_append1 l E hm ms mf mc my mb mz mp mo mm ml md me mg (nI 0) (wr) (sp) (rp) (fi) (gd) (la) (lst) z0 z1 g (bI ct) (by omega)) w_724 xHd_code w_7 [3, 0, 1] [2] rfl rfl rfl rfl (by decide) ⟨by decide, by decide⟩ ⟨by decide, by decide⟩ rfl rfl (Nat.le_of_ble_eq_true rfl) d_M_put_40 rfl rfl rfl ?_
    refine x_aload_n 44 hB d_M_put_43 rfl rfl ?_
    refine x_iconst (v := nI 1) 45 hB d_M_put_44 rfl (by decide) ?_
    refine x_join 54 (fun _u : Unit => True) (fun _u : Unit => [(me, .inl (E.2 1, 58, .inl (h))), (hm, .inr (5, [.int (nI 0), .ref ms, .ref mf, .ref mc, .ref my, .ref mb, .ref mz, .ref mp, .ref mo, .ref mm, .ref ml, .ref md, .int (nI (wr)), .int (bI sp), .int (bI rp), .int (bI fi), .int (nI (gd)), .ref me, .ref mg, .int (la), .int (nI 0), .long (lst), .int 0])), (mb, .inl (E.2 1, 5280, .inl (upd g (2640 + z1) (bI ct)))), (mz, .inl (E.2 1, 2, .inl (pr2 (nI (z0)) (nI (z1 + 1)))))]) (fun _u : Unit => [(0, .ref hm), (1, .long (x)), (3, .int (bI ct))]) (fun _u : Unit => [.int (bI (!ct)), .int (nI 1), .ref hm]) (fun _u hJ54 => ?_) (fun J54 => ?_)
    · skip
      refine x_callD (k' := 0) (n' := 0) (rest := []) (wr := [(me, .inl (E.2 1, 58, .inl (h)))]) (ws' := [(me, .inl (E.2 1, 58, .inl (h))), (hm, .inr (5, [.int (nI 0), .ref ms, .ref mf, .ref mc, .ref my, .ref mb, .ref mz, .ref mp, .ref mo, .ref mm, .ref ml, .ref md, .int (nI (wr)), .int (bI sp), .int (bI rp), .int (bI fi), .int (nI (gd)), .ref me, .ref mg, .int (la), .int (nI 0), .long (lst), .int 0])), (mb, .inl (E.2 1, 5280, .inl ((upd (upd g (2640 + z1) (bI ct)) (2640 + (z1 + 1)) (bI (!ct)))))), (mz, .inl (E.2 1, 2, .inl (pr2 (nI (z0)) (nI (z1 + 2)))))]) (st' := []) 57 hB (x_pfV (av := [.int (nI 1), .int (bI (!ct))]) (q0 := 1) hB w_724 xHd_code w_721 w_723 s_M_append rfl rfl nm_M_append rfl d_M_put_54) (c_M_append1 l E hm ms mf mc my mb mz mp mo mm ml md me mg (nI 0) (wr) (sp) (rp) (fi) (gd) (la) (lst) z0 (z1 + 1) (upd g (2640 + z1) (bI ct)) (bI (!ct)) (by omega)) w_724 xHd_code w_7 [1, 2, 3] [0] rfl rfl rfl rfl (by decide) ⟨by decide, by decide⟩ ⟨by decide, by decide⟩ rfl rfl (Nat.le_of_ble_eq_true rfl) d_M_put_54 rfl rfl rfl ?_
      refine x_iconst (v := nI 0) 58 hB d_M_put_57 rfl (by decide) ?_
      refine x_istore 60 hB d_M_put_58 rfl (by decide) (lv' := [(4, .int (nI 0)), (0, .ref hm), (1, .long (x)), (3, .int (bI ct))]) rfl ?_
      refine x_lv (lv' := [(0, .ref hm), (1, .long (x)), (3, .int (bI ct)), (4, .int (nI 0))]) [1, 2, 3, 0] rfl ?_
      refine x_loop (fun i : Nat => i ≤ 64) (fun i : Nat => 64 - i) (fun i : Nat => [(me, .inl (E.2 1, 58, .inl ((ptG x (upd (upd g (2640 + z1) (bI ct)) (2640 + (z1 + 1)) (bI (!ct))) (z1 + 2) h i).1))), (hm, .inr (5, [.int (nI 0), .ref ms, .ref mf, .ref mc, .ref my, .ref mb, .ref mz, .ref mp, .ref mo, .ref mm, .ref ml, .ref md, .int (nI (wr)), .int (bI sp), .int (bI rp), .int (bI fi), .int (nI (gd)), .ref me, .ref mg, .int (la), .int (nI 0), .long (lst), .int 0])), (mb, .inl (E.2 1, 5280, .inl ((ptG x (upd (upd g (2640 + z1) (bI ct)) (2640 + (z1 + 1)) (bI (!ct))) (z1 + 2) h i).2))), (mz, .inl (E.2 1, 2, .inl (pr2 (nI (z0)) (nI (z1 + 2 + i)))))]) (fun i : Nat => [(0, .ref hm), (1, .long (x)), (3, .int (bI ct)), (4, .int (nI (i)))]) (fun i : Nat => []) 0 (Nat.zero_le _) rfl rfl rfl (fun i hI60 IH60 => ?_)
      refine x_iload 62 hB d_M_put_60 rfl rfl ?_
      refine x_bipush (v := nI 64) 64 hB d_M_put_62 rfl (by decide) ?_
      refine x_icmp_ge 114 67 hB d_M_put_64 (by decide) rfl (fun h64 => ?_) (fun h64 => ?_)
      · skip
        have hi : 64 = i := by have := (nI_leI (by omega) (by omega)).mp h64; omega
        subst hi
        refine x_aload_n 115 hB d_M_put_114 rfl rfl ?_
        refine x_get 118 hB 1 fg_M_25_5 rfl rfl d_M_put_115 rfl ?_
        refine x_iconst (v := nI 1) 119 hB d_M_put_118 rfl (by decide) ?_
        refine x_iald 120 hB 3 rfl (by omega) (by decide) d_M_put_119 rfl ?_
        refine x_top (v' := .int (nI (z1 + 2 + 64))) rfl ?_
        exact x_iret hB (w' := [(hm, .inr (5, [.int (nI 0), .ref ms, .ref mf, .ref mc, .ref my, .ref mb, .ref mz, .ref mp, .ref mo, .ref mm, .ref ml, .ref md, .int (nI (wr)), .int (bI sp), .int (bI rp), .int (bI fi), .int (nI (gd)), .ref me, .ref mg, .int (la), .int (nI 0), .long (lst), .int 0])), (mb, .inl (E.2 1, 5280, .inl ((ptG x (upd (upd g (2640 + z1) (bI ct)) (2640 + (z1 + 1)) (bI (!ct))) (z1 + 2) h 64).2))), (mz, .inl (E.2 1, 2, .inl (pr2 (nI (z0)) (nI (z1 + 2 + 64))))), (me, .inl (E.2 1, 58, .inl ((ptG x (upd (upd g (2640 + z1) (bI ct)) (2640 + (z1 + 1)) (bI (!ct))) (z1 + 2) h 64).1)))]) hA [1, 2, 3, 0] rfl rfl (xRet_i) (by decide) (by decide) d_M_put_120
      · skip
        have k64 : i < 64 := Nat.lt_of_not_le (fun h => h64 (nI_le h (by omega)))
        refine x_lload_n 68 hB d_M_put_67 rfl rfl ?_
        refine x_iload 70 hB d_M_put_68 rfl rfl ?_
        refine x_lshr (v := x >>> ((nI i).toInt64 &&& 63)) 71 hB d_M_put_70 rfl (rfl) ?_
        refine x_lconst (v := 1) 72 hB d_M_put_71 rfl (by decide) ?_
        refine x_land 73 hB d_M_put_72 rfl ?_
        refine x_l2i (v := wdG x i) 74 hB d_M_put_73 rfl (rfl) ?_
        refine x_aload_n 75 hB d_M_put_74 rfl rfl ?_
        refine x_get 78 hB 1 fg_M_44_5 rfl rfl d_M_put_75 rfl ?_
        refine x_bipush (v := nI 38) 80 hB d_M_put_78 rfl (by decide) ?_
        refine x_iald 81 hB 0 rfl (by omega) (by decide) d_M_put_80 rfl ?_
        refine x_ixor 82 hB d_M_put_81 rfl ?_
        refine x_aload_n 83 hB d_M_put_82 rfl rfl ?_
        refine x_get 86 hB 1 fg_M_44_5 rfl rfl d_M_put_83 rfl ?_
        refine x_bipush (v := nI 57) 88 hB d_M_put_86 rfl (by decide) ?_
        refine x_iald 89 hB 0 rfl (by omega) (by decide) d_M_put_88 rfl ?_
        refine x_ixor 90 hB d_M_put_89 rfl ?_
        refine x_top (v' := .int (wdG x i ^^^ (ptG x (upd (upd g (2640 + z1) (bI ct)) (2640 + (z1 + 1)) (bI (!ct))) (z1 + 2) h i).1 38 ^^^ (ptG x (upd (upd g (2640 + z1) (bI ct)) (2640 + (z1 + 1)) (bI (!ct))) (z1 + 2) h i).1 57)) (congrArg Value.int (rfl)) ?_
        refine x_istore 92 hB d_M_put_90 rfl (by decide) (lv' := [(5, .int (wdG x i ^^^ (ptG x (upd (upd g (2640 + z1) (bI ct)) (2640 + (z1 + 1)) (bI (!ct))) (z1 + 2) h i).1 38 ^^^ (ptG x (upd (upd g (2640 + z1) (bI ct)) (2640 + (z1 + 1)) (bI (!ct))) (z1 + 2) h i).1 57)), (0, .ref hm), (1, .long (x)), (3, .int (bI ct)), (4, .int (nI (i)))]) rfl ?_
        refine x_aload_n 93 hB d_M_put_92 rfl rfl ?_
        refine x_iconst (v := nI 1) 94 hB d_M_put_93 rfl (by decide) ?_
        refine x_iload 96 hB d_M_put_94 rfl rfl ?_
        refine x_callD (k' := 0) (n' := 0) (rest := []) (wr := [(me, .inl (E.2 1, 58, .inl ((ptG x (upd (upd g (2640 + z1) (bI ct)) (2640 + (z1 + 1)) (bI (!ct))) (z1 + 2) h i).1)))]) (ws' := [(me, .inl (E.2 1, 58, .inl ((ptG x (upd (upd g (2640 + z1) (bI ct)) (2640 + (z1 + 1)) (bI (!ct))) (z1 + 2) h i).1))), (hm, .inr (5, [.int (nI 0), .ref ms, .ref mf, .ref mc, .ref my, .ref mb, .ref mz, .ref mp, .ref mo, .ref mm, .ref ml, .ref md, .int (nI (wr)), .int (bI sp), .int (bI rp), .int (bI fi), .int (nI (gd)), .ref me, .ref mg, .int (la), .int (nI 0), .long (lst), .int 0])), (mb, .inl (E.2 1, 5280, .inl ((ptG x (upd (upd g (2640 + z1) (bI ct)) (2640 + (z1 + 1)) (bI (!ct))) (z1 + 2) h (i + 1)).2))), (mz, .inl (E.2 1, 2, .inl (pr2 (nI (z0)) (nI (z1 + 2 + (i + 1))))))]) (st' := []) 99 hB (x_pfV (av := [.int (nI 1), .int (wdG x i ^^^ (ptG x (upd (upd g (2640 + z1) (bI ct)) (2640 + (z1 + 1)) (bI (!ct))) (z1 + 2) h i).1 38 ^^^ (ptG x (upd (upd g (2640 + z1) (bI ct)) (2640 + (z1 + 1)) (bI (!ct))) (z1 + 2) h i).1 57)]) (q0 := 1) hB w_724 xHd_code w_721 w_723 s_M_append rfl rfl nm_M_append rfl d_M_put_96) (c_M_append1 l E hm ms mf mc my mb mz mp mo mm ml md me mg (nI 0) (wr) (sp) (rp) (fi) (gd) (la) (lst) z0 (z1 + 2 + i) (ptG x (upd (upd g (2640 + z1) (bI ct)) (2640 + (z1 + 1)) (bI (!ct))) (z1 + 2) h i).2 (wdG x i ^^^ (ptG x (upd (upd g (2640 + z1) (bI ct)) (2640 + (z1 + 1)) (bI (!ct))) (z1 + 2) h i).1 38 ^^^ (ptG x (upd (upd g (2640 + z1) (bI ct)) (2640 + (z1 + 1)) (bI (!ct))) (z1 + 2) h i).1 57) (by omega)) w_724 xHd_code w_7 [1, 2, 3] [0] rfl rfl rfl rfl (by decide) ⟨by decide, by decide⟩ ⟨by decide, by decide⟩ rfl rfl (Nat.le_of_ble_eq_true rfl) d_M_put_96 rfl rfl rfl ?_
        refine x_aload_n 100 hB d_M_put_99 rfl rfl ?_
        refine x_get 103 hB 1 fg_M_44_5 rfl rfl d_M_put_100 rfl ?_
        refine x_iload 105 hB d_M_put_103 rfl rfl ?_
        refine x_callD (k' := 0) (n' := 0) (rest := []) (wr := [(hm, .inr (5, [.int (nI 0), .ref ms, .ref mf, .ref mc, .ref my, .ref mb, .ref mz, .ref mp, .ref mo, .ref mm, .ref ml, .ref md, .int (nI (wr)), .int (bI sp), .int (bI rp), .int (bI fi), .int (nI (gd)), .ref me, .ref mg, .int (la), .int (nI 0), .long (lst), .int 0])), (mb, .inl (E.2 1, 5280, .inl ((ptG x (upd (upd g (2640 + z1) (bI ct)) (2640 + (z1 + 1)) (bI (!ct))) (z1 + 2) h (i + 1)).2))), (mz, .inl (E.2 1, 2, .inl (pr2 (nI (z0)) (nI (z1 + 2 + (i + 1))))))]) (ws' := [(hm, .inr (5, [.int (nI 0), .ref ms, .ref mf, .ref mc, .ref my, .ref mb, .ref mz, .ref mp, .ref mo, .ref mm, .ref ml, .ref md, .int (nI (wr)), .int (bI sp), .int (bI rp), .int (bI fi), .int (nI (gd)), .ref me, .ref mg, .int (la), .int (nI 0), .long (lst), .int 0])), (mb, .inl (E.2 1, 5280, .inl ((ptG x (upd (upd g (2640 + z1) (bI ct)) (2640 + (z1 + 1)) (bI (!ct))) (z1 + 2) h (i + 1)).2))), (mz, .inl (E.2 1, 2, .inl (pr2 (nI (z0)) (nI (z1 + 2 + (i + 1)))))), (me, .inl (E.2 1, 58, .inl ((ptG x (upd (upd g (2640 + z1) (bI ct)) (2640 + (z1 + 1)) (bI (!ct))) (z1 + 2) h (i + 1)).1)))]) (st' := []) 108 hB (x_pfS (av := [.ref me, .int (wdG x i ^^^ (ptG x (upd (upd g (2640 + z1) (bI ct)) (2640 + (z1 + 1)) (bI (!ct))) (z1 + 2) h i).1 38 ^^^ (ptG x (upd (upd g (2640 + z1) (bI ct)) (2640 + (z1 + 1)) (bI (!ct))) (z1 + 2) h i).1 57)]) hB w_749 xHd_code w_7 w_747 w_748 nm_M_remember rfl d_M_put_105) (c_M_remember l E me (ptG x (upd (upd g (2640 + z1) (bI ct)) (2640 + (z1 + 1)) (bI (!ct))) (z1 + 2) h i).1 (wdG x i ^^^ (ptG x (upd (upd g (2640 + z1) (bI ct)) (2640 + (z1 + 1)) (bI (!ct))) (z1 + 2) h i).1 38 ^^^ (ptG x (upd (upd g (2640 + z1) (bI ct)) (2640 + (z1 + 1)) (bI (!ct))) (z1 + 2) h i).1 57)) w_749 xHd_code w_7 [0] [1, 2, 3] rfl rfl rfl rfl (by decide) ⟨by decide, by decide⟩ ⟨by decide, by decide⟩ rfl rfl (Nat.le_of_ble_eq_true rfl) d_M_put_105 rfl rfl rfl ?_
        refine x_iinc (v := nI (i + 1)) 111 hB d_M_put_108 rfl 4 rfl ((nI_succ i).symm) (by decide) (lv' := [(4, .int (nI (i + 1))), (5, .int (wdG x i ^^^ (ptG x (upd (upd g (2640 + z1) (bI ct)) (2640 + (z1 + 1)) (bI (!ct))) (z1 + 2) h i).1 38 ^^^ (ptG x (upd (upd g (2640 + z1) (bI ct)) (2640 + (z1 + 1)) (bI (!ct))) (z1 + 2) h i).1 57)), (0, .ref hm), (1, .long (x)), (3, .int (bI ct))]) rfl ?_
        refine x_goto 60 hB d_M_put_111 (by decide) ?_
        refine x_lv (lv' := [(0, .ref hm), (1, .long (x)), (3, .int (bI ct)), (4, .int (nI (i + 1)))]) [2, 3, 4, 0] rfl ?_
        refine x_wp (ws' := [(me, .inl (E.2 1, 58, .inl ((ptG x (upd (upd g (2640 + z1) (bI ct)) (2640 + (z1 + 1)) (bI (!ct))) (z1 + 2) h (i + 1)).1))), (hm, .inr (5, [.int (nI 0), .ref ms, .ref mf, .ref mc, .ref my, .ref mb, .ref mz, .ref mp, .ref mo, .ref mm, .ref ml, .ref md, .int (nI (wr)), .int (bI sp), .int (bI rp), .int (bI fi), .int (nI (gd)), .ref me, .ref mg, .int (la), .int (nI 0), .long (lst), .int 0])), (mb, .inl (E.2 1, 5280, .inl ((ptG x (upd (upd g (2640 + z1) (bI ct)) (2640 + (z1 + 1)) (bI (!ct))) (z1 + 2) h (i + 1)).2))), (mz, .inl (E.2 1, 2, .inl (pr2 (nI (z0)) (nI (z1 + 2 + (i + 1))))))]) [3, 0, 1, 2] rfl rfl ?_
        exact IH60 (i + 1) k64 (by omega)
    refine x_iload_n 46 hB d_M_put_45 rfl rfl ?_
    refine x_if_eq 53 49 hB d_M_put_46 (by decide) rfl (fun h46 => ?_) (fun h46 => ?_)
    · skip
      have k46 : ct = false := bI_0 h46
      refine x_iconst (v := nI 1) 54 hB d_M_put_53 rfl (by decide) ?_
      refine x_top (v' := .int (bI (!ct))) (congrArg Value.int (by rw [k46]; rfl)) ?_
      exact J54 () trivial
    · skip
      have k46 : ct = true := bI_1 h46
      refine x_iconst (v := nI 0) 50 hB d_M_put_49 rfl (by decide) ?_
      refine x_top (v' := .int (bI (!ct))) (congrArg Value.int (by rw [k46]; rfl)) ?_
      refine x_goto 54 hB d_M_put_50 (by decide) ?_
      exact J54 () trivial
  refine x_iload_n 32 hB d_M_put_31 rfl rfl ?_
  refine x_if_eq 39 35 hB d_M_put_32 (by decide) rfl (fun h32 => ?_) (fun h32 => ?_)
  · skip
    have k32 : ct = false := bI_0 h32
    refine x_iconst (v := nI 0) 40 hB d_M_put_39 rfl (by decide) ?_
    refine x_top (v' := .int (bI ct)) (congrArg Value.int (by rw [k32]; rfl)) ?_
    exact J40 () trivial
  · skip
    have k32 : ct = true := bI_1 h32
    refine x_iconst (v := nI 1) 36 hB d_M_put_35 rfl (by decide) ?_
    refine x_top (v' := .int (bI ct)) (congrArg Value.int (by rw [k32]; rfl)) ?_
    refine x_goto 40 hB d_M_put_36 (by decide) ?_
    exact J40 () trivial
abbrev rm_M_put_f : Room := { frames := 1, cells := 0, slots := 0, locals := 21 }
set_option maxHeartbeats 4000000 in
set_option maxRecDepth 100000 in
theorem c_M_put_f (l : Launch) (E : xE) (hm ms mf mc my mb mz mp mo mm ml md me mg : Nat) (re : Int32) (wr : Nat) (sp rp fi : Bool) (gd : Nat) (la : Int32) (lst : Int64) (z0 z1 : Nat) (x : Int64) (w : Int32) (hz0 : z1 ≤ 2640) (hz : 2640 < z1 + 66) : xC l E y_M_put (.code y_M_put prog_10_method_21_code 6 (some .int)) rm_M_put_f [.ref hm, .long (x), .int (w)] [(hm, .inr (5, [.int (re), .ref ms, .ref mf, .ref mc, .ref my, .ref mb, .ref mz, .ref mp, .ref mo, .ref mm, .ref ml, .ref md, .int (nI (wr)), .int (bI sp), .int (bI rp), .int (bI fi), .int (nI (gd)), .ref me, .ref mg, .int (la), .int (nI 0), .long (lst), .int 0])), (mz, .inl (E.2 1, 2, .inl (pr2 (nI (z0)) (nI (z1)))))] (xRet (some (.int (nI 0))) [(hm, .inr (5, [.int (nI 1), .ref ms, .ref mf, .ref mc, .ref my, .ref mb, .ref mz, .ref mp, .ref mo, .ref mm, .ref ml, .ref md, .int (nI (wr)), .int (bI sp), .int (bI rp), .int (bI fi), .int (nI (gd)), .ref me, .ref mg, .int (la), .int (nI 0), .long (lst), .int 0])), (mz, .inl (E.2 1, 2, .inl (pr2 (nI (z0)) (nI (z1)))))]) := by
  refine x_of' (own := "LineCoderModel") (mn := "put") (lv := [(0, .ref hm), (1, .long (x)), (3, .int (w))]) (plainFor_of_name (by decide)) rfl rfl (Nat.le_of_ble_eq_true rfl) rfl ?_
  intro p_ e_ s_ m_ ar_ be_ me_ c_ A_ hA hB
  refine x_aload_n 1 hB d_M_put_0 rfl rfl ?_
  refine x_aload_n 2 hB d_M_put_1 rfl rfl ?_
  refine x_get 5 hB 0 fg_M_25_5 rfl rfl d_M_put_2 rfl ?_
  refine x_iconst (v := nI 1) 6 hB d_M_put_5 rfl (by decide) ?_
  refine x_iald 7 hB 1 rfl (by omega) (by decide) d_M_put_6 rfl ?_
  refine x_top (v' := .int (nI (z1))) rfl ?_
  refine x_bipush (v := nI 66) 9 hB d_M_put_7 rfl (by decide) ?_
  refine x_iadd 10 hB d_M_put_9 rfl ?_
  refine x_top (v' := .int (nI (z1 + 66))) (congrArg Value.int (nI_add _ _)) ?_
  refine x_sipush (v := nI 2640) 13 hB d_M_put_10 rfl (by decide) ?_
  refine x_icmp_le 20 16 hB d_M_put_13 (by decide) rfl (fun hc => absurd hc (nI_ge hz (by omega))) (fun _ => ?_)
  refine x_iconst (v := nI 1) 17 hB d_M_put_16 rfl (by decide) ?_
  refine x_goto 21 hB d_M_put_17 (by decide) ?_
  refine x_callD (k' := 0) (n' := 0) (rest := []) (wr := [(mz, .inl (E.2 1, 2, .inl (pr2 (nI (z0)) (nI (z1)))))]) (ws' := [(mz, .inl (E.2 1, 2, .inl (pr2 (nI (z0)) (nI (z1))))), (hm, .inr (5, [.int (nI 1), .ref ms, .ref mf, .ref mc, .ref my, .ref mb, .ref mz, .ref mp, .ref mo, .ref mm, .ref ml, .ref md, .int (nI (wr)), .int (bI sp), .int (bI rp), .int (bI fi), .int (nI (gd)), .ref me, .ref mg, .int (la), .int (nI 0), .long (lst), .int 0]))]) (st' := [.int (nI 1)]) 24 hB (x_pfV (av := [.int (nI 1)]) (q0 := 0) hB w_709 xHd_code w_706 w_708 s_M_refused rfl rfl nm_M_refused rfl d_M_put_21) (c_M_refused1 l E hm ms mf mc my mb mz mp mo mm ml md me mg (re) (wr) (sp) (rp) (fi) (gd) (la) (lst)) w_709 xHd_code w_7 [0] [1] rfl rfl rfl rfl (by decide) ⟨by decide, by decide⟩ ⟨by decide, by decide⟩ rfl rfl (Nat.le_of_ble_eq_true rfl) d_M_put_21 rfl rfl rfl ?_
  refine x_if_eq 29 27 hB d_M_put_24 (by decide) rfl (fun hc => absurd hc (by decide)) (fun _ => ?_)
  refine x_iconst (v := nI 0) 28 hB d_M_put_27 rfl (by decide) ?_
  exact x_iret hB (w' := [(hm, .inr (5, [.int (nI 1), .ref ms, .ref mf, .ref mc, .ref my, .ref mb, .ref mz, .ref mp, .ref mo, .ref mm, .ref ml, .ref md, .int (nI (wr)), .int (bI sp), .int (bI rp), .int (bI fi), .int (nI (gd)), .ref me, .ref mg, .int (la), .int (nI 0), .long (lst), .int 0])), (mz, .inl (E.2 1, 2, .inl (pr2 (nI (z0)) (nI (z1)))))]) hA [1, 0] rfl rfl (xRet_i) (by decide) (by decide) d_M_put_28
abbrev rm_M_takeWord : Room := { frames := 1, cells := 0, slots := 0, locals := 22 }
set_option maxHeartbeats 4000000 in
set_option maxRecDepth 100000 in
theorem c_M_takeWord (l : Launch) (E : xE) (hm ms mf mc my mb mz mp mo mm ml md me mg : Nat) (re : Int32) (wr : Nat) (sp rp fi : Bool) (gd : Nat) (la : Int32) (lst : Int64) (g : Nat → Int32) (h : Nat → Int32) (q : Nat) (hq : q + 64 ≤ 5280) : xC l E y_M_takeWord (.code y_M_takeWord prog_10_method_22_code 4 none) rm_M_takeWord [.ref hm, .int (nI (q))] [(hm, .inr (5, [.int (re), .ref ms, .ref mf, .ref mc, .ref my, .ref mb, .ref mz, .ref mp, .ref mo, .ref mm, .ref ml, .ref md, .int (nI (wr)), .int (bI sp), .int (bI rp), .int (bI fi), .int (nI (gd)), .ref me, .ref mg, .int (la), .int (nI 0), .long (lst), .int 0])), (mb, .inl (E.2 1, 5280, .inl (g))), (mg, .inl (E.2 1, 58, .inl (h)))] (xRet none [(hm, .inr (5, [.int (re), .ref ms, .ref mf, .ref mc, .ref my, .ref mb, .ref mz, .ref mp, .ref mo, .ref mm, .ref ml, .ref md, .int (nI (wr)), .int (bI sp), .int (bI rp), .int (bI fi), .int (nI (gd)), .ref me, .ref mg, .int (la), .int (nI 0), .long ((twG g q h 64).2), .int 0])), (mb, .inl (E.2 1, 5280, .inl (g))), (mg, .inl (E.2 1, 58, .inl ((twG g q h 64).1)))]) := by
  refine x_of' (own := "LineCoderModel") (mn := "takeWord") (lv := [(0, .ref hm), (1, .int (nI (q)))]) (plainFor_of_name (by decide)) rfl rfl (Nat.le_of_ble_eq_true rfl) rfl ?_
  intro p_ e_ s_ m_ ar_ be_ me_ c_ A_ hA hB
  refine x_aload_n 1 hB d_M_takeWord_0 rfl rfl ?_
  refine x_lconst (v := 0) 2 hB d_M_takeWord_1 rfl (by decide) ?_
  refine x_put 5 hB 0 (ws' := [(hm, .inr (5, [.int (re), .ref ms, .ref mf, .ref mc, .ref my, .ref mb, .ref mz, .ref mp, .ref mo, .ref mm, .ref ml, .ref md, .int (nI (wr)), .int (bI sp), .int (bI rp), .int (bI fi), .int (nI (gd)), .ref me, .ref mg, .int (la), .int (nI 0), .long (0), .int 0])), (mb, .inl (E.2 1, 5280, .inl (g))), (mg, .inl (E.2 1, 58, .inl (h)))]) fp_M_87_5 rfl (rfl) (rfl) (Nat.le_of_ble_eq_true rfl) rfl d_M_takeWord_2 rfl ?_
  refine x_iconst (v := nI 0) 6 hB d_M_takeWord_5 rfl (by decide) ?_
  refine x_istore_n 7 hB d_M_takeWord_6 rfl (by decide) (lv' := [(2, .int (nI 0)), (0, .ref hm), (1, .int (nI (q)))]) rfl ?_
  refine x_lv (lv' := [(0, .ref hm), (1, .int (nI (q))), (2, .int (nI 0))]) [1, 2, 0] rfl ?_
  refine x_loop (fun i : Nat => i ≤ 64) (fun i : Nat => 64 - i) (fun i : Nat => [(hm, .inr (5, [.int (re), .ref ms, .ref mf, .ref mc, .ref my, .ref mb, .ref mz, .ref mp, .ref mo, .ref mm, .ref ml, .ref md, .int (nI (wr)), .int (bI sp), .int (bI rp), .int (bI fi), .int (nI (gd)), .ref me, .ref mg, .int (la), .int (nI 0), .long ((twG g q h i).2), .int 0])), (mb, .inl (E.2 1, 5280, .inl (g))), (mg, .inl (E.2 1, 58, .inl ((twG g q h i).1)))]) (fun i : Nat => [(0, .ref hm), (1, .int (nI (q))), (2, .int (nI (i)))]) (fun i : Nat => []) 0 (Nat.zero_le _) rfl rfl rfl (fun i hI7 IH7 => ?_)
  refine x_iload_n 8 hB d_M_takeWord_7 rfl rfl ?_
  refine x_bipush (v := nI 64) 10 hB d_M_takeWord_8 rfl (by decide) ?_
  refine x_icmp_ge 65 13 hB d_M_takeWord_10 (by decide) rfl (fun h10 => ?_) (fun h10 => ?_)
  · skip
    have hi : 64 = i := by have := (nI_leI (by omega) (by omega)).mp h10; omega
    subst hi
    exact x_vret hB (w' := [(hm, .inr (5, [.int (re), .ref ms, .ref mf, .ref mc, .ref my, .ref mb, .ref mz, .ref mp, .ref mo, .ref mm, .ref ml, .ref md, .int (nI (wr)), .int (bI sp), .int (bI rp), .int (bI fi), .int (nI (gd)), .ref me, .ref mg, .int (la), .int (nI 0), .long ((twG g q h 64).2), .int 0])), (mb, .inl (E.2 1, 5280, .inl (g))), (mg, .inl (E.2 1, 58, .inl ((twG g q h 64).1)))]) hA [0, 1, 2] rfl rfl (xRet_i) (by decide) (by decide) d_M_takeWord_65
  · skip
    have k10 : i < 64 := Nat.lt_of_not_le (fun h => h10 (nI_le h (by omega)))
    refine x_aload_n 14 hB d_M_takeWord_13 rfl rfl ?_
    refine x_get 17 hB 0 fg_M_22_5 rfl rfl d_M_takeWord_14 rfl ?_
    refine x_iload_n 18 hB d_M_takeWord_17 rfl rfl ?_
    refine x_iload_n 19 hB d_M_takeWord_18 rfl rfl ?_
    refine x_iadd 20 hB d_M_takeWord_19 rfl ?_
    refine x_top (v' := .int (nI (q + i))) (congrArg Value.int (nI_add _ _)) ?_
    refine x_iald 21 hB 1 rfl (by omega) (by decide) d_M_takeWord_20 rfl ?_
    refine x_istore_n 22 hB d_M_takeWord_21 rfl (by decide) (lv' := [(3, .int ((g) ((q + i)))), (0, .ref hm), (1, .int (nI (q))), (2, .int (nI (i)))]) rfl ?_
    refine x_aload_n 23 hB d_M_takeWord_22 rfl rfl ?_
    refine x_aload_n 24 hB d_M_takeWord_23 rfl rfl ?_
    refine x_get 27 hB 0 fg_M_87_5 rfl rfl d_M_takeWord_24 rfl ?_
    refine x_iload_n 28 hB d_M_takeWord_27 rfl rfl ?_
    refine x_aload_n 29 hB d_M_takeWord_28 rfl rfl ?_
    refine x_get 32 hB 0 fg_M_47_5 rfl rfl d_M_takeWord_29 rfl ?_
    refine x_bipush (v := nI 38) 34 hB d_M_takeWord_32 rfl (by decide) ?_
    refine x_iald 35 hB 2 rfl (by omega) (by decide) d_M_takeWord_34 rfl ?_
    refine x_ixor 36 hB d_M_takeWord_35 rfl ?_
    refine x_aload_n 37 hB d_M_takeWord_36 rfl rfl ?_
    refine x_get 40 hB 0 fg_M_47_5 rfl rfl d_M_takeWord_37 rfl ?_
    refine x_bipush (v := nI 57) 42 hB d_M_takeWord_40 rfl (by decide) ?_
    refine x_iald 43 hB 2 rfl (by omega) (by decide) d_M_takeWord_42 rfl ?_
    refine x_ixor 44 hB d_M_takeWord_43 rfl ?_
    refine x_i2l (v := ((((g) ((q + i))) ^^^ (((twG g q h i).1) (38))) ^^^ (((twG g q h i).1) (57))).toInt64) 45 hB d_M_takeWord_44 rfl (rfl) ?_
    refine x_iload_n 46 hB d_M_takeWord_45 rfl rfl ?_
    refine x_lshl (v := (g (q + i) ^^^ (twG g q h i).1 38 ^^^ (twG g q h i).1 57).toInt64 <<< ((nI i).toInt64 &&& 63)) 47 hB d_M_takeWord_46 rfl (rfl) ?_
    refine x_lor 48 hB d_M_takeWord_47 rfl ?_
    refine x_top (v' := .long ((twG g q h (i + 1)).2)) (congrArg Value.long (rfl)) ?_
    refine x_put 51 hB 0 (ws' := [(hm, .inr (5, [.int (re), .ref ms, .ref mf, .ref mc, .ref my, .ref mb, .ref mz, .ref mp, .ref mo, .ref mm, .ref ml, .ref md, .int (nI (wr)), .int (bI sp), .int (bI rp), .int (bI fi), .int (nI (gd)), .ref me, .ref mg, .int (la), .int (nI 0), .long ((twG g q h (i + 1)).2), .int 0])), (mb, .inl (E.2 1, 5280, .inl (g))), (mg, .inl (E.2 1, 58, .inl ((twG g q h i).1)))]) fp_M_87_5 rfl (rfl) (rfl) (Nat.le_of_ble_eq_true rfl) rfl d_M_takeWord_48 rfl ?_
    refine x_aload_n 52 hB d_M_takeWord_51 rfl rfl ?_
    refine x_get 55 hB 0 fg_M_47_5 rfl rfl d_M_takeWord_52 rfl ?_
    refine x_iload_n 56 hB d_M_takeWord_55 rfl rfl ?_
    refine x_callD (k' := 0) (n' := 0) (rest := []) (wr := [(hm, .inr (5, [.int (re), .ref ms, .ref mf, .ref mc, .ref my, .ref mb, .ref mz, .ref mp, .ref mo, .ref mm, .ref ml, .ref md, .int (nI (wr)), .int (bI sp), .int (bI rp), .int (bI fi), .int (nI (gd)), .ref me, .ref mg, .int (la), .int (nI 0), .long ((twG g q h (i + 1)).2), .int 0])), (mb, .inl (E.2 1, 5280, .inl (g)))]) (ws' := [(hm, .inr (5, [.int (re), .ref ms, .ref mf, .ref mc, .ref my, .ref mb, .ref mz, .ref mp, .ref mo, .ref mm, .ref ml, .ref md, .int (nI (wr)), .int (bI sp), .int (bI rp), .int (bI fi), .int (nI (gd)), .ref me, .ref mg, .int (la), .int (nI 0), .long ((twG g q h (i + 1)).2), .int 0])), (mb, .inl (E.2 1, 5280, .inl (g))), (mg, .inl (E.2 1, 58, .inl ((twG g q h (i + 1)).1)))]) (st' := []) 59 hB (x_pfS (av := [.ref mg, .int ((g) ((q + i)))]) hB w_749 xHd_code w_7 w_747 w_748 nm_M_remember rfl d_M_takeWord_56) (c_M_remember l E mg (twG g q h i).1 (g (q + i))) w_749 xHd_code w_7 [2] [0, 1] rfl rfl rfl rfl (by decide) ⟨by decide, by decide⟩ ⟨by decide, by decide⟩ rfl rfl (Nat.le_of_ble_eq_true rfl) d_M_takeWord_56 rfl rfl rfl ?_
    refine x_iinc (v := nI (i + 1)) 62 hB d_M_takeWord_59 rfl 3 rfl ((nI_succ i).symm) (by decide) (lv' := [(2, .int (nI (i + 1))), (3, .int ((g) ((q + i)))), (0, .ref hm), (1, .int (nI (q)))]) rfl ?_
    refine x_goto 7 hB d_M_takeWord_62 (by decide) ?_
    refine x_lv (lv' := [(0, .ref hm), (1, .int (nI (q))), (2, .int (nI (i + 1)))]) [2, 3, 0] rfl ?_
    exact IH7 (i + 1) k10 (by omega)
abbrev rm_M_empty : Room := { frames := 0, cells := 0, slots := 0, locals := 0 }
set_option maxHeartbeats 4000000 in
set_option maxRecDepth 100000 in
theorem c_M_empty (l : Launch) (E : xE) (hm ms mf mc my mb mz mp mo mm ml md me mg : Nat) (re : Int32) (wr : Nat) (sp rp fi : Bool) (gd : Nat) (la : Int32) (lst : Int64) (e0 e1 e2 e3 e4 e5 e6 e7 e8 e9 e10 e11 : Int32) (h h2 : Nat → Int32) : xC l E y_M_empty (.code y_M_empty prog_10_method_5_code 2 none) rm_M_empty [.ref hm] [(hm, .inr (5, [.int (re), .ref ms, .ref mf, .ref mc, .ref my, .ref mb, .ref mz, .ref mp, .ref mo, .ref mm, .ref ml, .ref md, .int (nI (wr)), .int (bI sp), .int (bI rp), .int (bI fi), .int (nI (gd)), .ref me, .ref mg, .int (la), .int (nI 0), .long (lst), .int 0])), (mz, .inl (E.2 1, 2, .inl (pr2 (e0) (e1)))), (mp, .inl (E.2 1, 2, .inl (pr2 (e2) (e3)))), (mo, .inl (E.2 3, 2, .inl (pr2 (e4) (e5)))), (mm, .inl (E.2 1, 2, .inl (pr2 (e6) (e7)))), (ml, .inl (E.2 1, 2, .inl (pr2 (e8) (e9)))), (md, .inl (E.2 1, 2, .inl (pr2 (e10) (e11)))), (me, .inl (E.2 1, 58, .inl (h))), (mg, .inl (E.2 1, 58, .inl (h2)))] (xRet none [(hm, .inr (5, [.int (re), .ref ms, .ref mf, .ref mc, .ref my, .ref mb, .ref mz, .ref mp, .ref mo, .ref mm, .ref ml, .ref md, .int (nI 0), .int (nI 0), .int (nI 0), .int (nI 0), .int (nI 0), .ref me, .ref mg, .int (nI 0), .int (nI 0), .long (0), .int 0])), (mz, .inl (E.2 1, 2, .inl (pr2 (nI 0) (nI 0)))), (mp, .inl (E.2 1, 2, .inl (pr2 (nI 0) (nI 0)))), (mo, .inl (E.2 3, 2, .inl (pr2 (nI 0) (nI 0)))), (mm, .inl (E.2 1, 2, .inl (pr2 (nI 0) (nI 0)))), (ml, .inl (E.2 1, 2, .inl (pr2 (nI 0) (nI 0)))), (md, .inl (E.2 1, 2, .inl (pr2 (nI 0) (nI 0)))), (me, .inl (E.2 1, 58, .inl (emF h 58))), (mg, .inl (E.2 1, 58, .inl (emF h2 58)))]) := by
  refine x_of' (own := "LineCoderModel") (mn := "empty") (lv := [(0, .ref hm)]) (plainFor_of_name (by decide)) rfl rfl (Nat.le_of_ble_eq_true rfl) rfl ?_
  intro p_ e_ s_ m_ ar_ be_ me_ c_ A_ hA hB
  refine x_iconst (v := nI 0) 1 hB d_M_empty_0 rfl (by decide) ?_
  refine x_istore_n 2 hB d_M_empty_1 rfl (by decide) (lv' := [(1, .int (nI 0)), (0, .ref hm)]) rfl ?_
  refine x_iload_n 3 hB d_M_empty_2 rfl rfl ?_
  refine x_iconst (v := nI 2) 4 hB d_M_empty_3 rfl (by decide) ?_
  refine x_icmp_ge 55 7 hB d_M_empty_4 (by decide) rfl (fun hc => absurd hc (by decide)) (fun _ => ?_)
  refine x_aload_n 8 hB d_M_empty_7 rfl rfl ?_
  refine x_get 11 hB 0 fg_M_25_5 rfl rfl d_M_empty_8 rfl ?_
  refine x_iload_n 12 hB d_M_empty_11 rfl rfl ?_
  refine x_iconst (v := nI 0) 13 hB d_M_empty_12 rfl (by decide) ?_
  refine x_iast 14 hB 1 (ws' := [(hm, .inr (5, [.int (re), .ref ms, .ref mf, .ref mc, .ref my, .ref mb, .ref mz, .ref mp, .ref mo, .ref mm, .ref ml, .ref md, .int (nI (wr)), .int (bI sp), .int (bI rp), .int (bI fi), .int (nI (gd)), .ref me, .ref mg, .int (la), .int (nI 0), .long (lst), .int 0])), (mz, .inl (E.2 1, 2, .inl (pr2 (nI 0) (e1)))), (mp, .inl (E.2 1, 2, .inl (pr2 (e2) (e3)))), (mo, .inl (E.2 3, 2, .inl (pr2 (e4) (e5)))), (mm, .inl (E.2 1, 2, .inl (pr2 (e6) (e7)))), (ml, .inl (E.2 1, 2, .inl (pr2 (e8) (e9)))), (md, .inl (E.2 1, 2, .inl (pr2 (e10) (e11)))), (me, .inl (E.2 1, 58, .inl (h))), (mg, .inl (E.2 1, 58, .inl (h2)))]) rfl (by omega) (by decide) (x' := nI 0) (rfl) (by rw [pr2_0]; rfl) d_M_empty_13 rfl ?_
  refine x_aload_n 15 hB d_M_empty_14 rfl rfl ?_
  refine x_get 18 hB 0 fg_M_28_5 rfl rfl d_M_empty_15 rfl ?_
  refine x_iload_n 19 hB d_M_empty_18 rfl rfl ?_
  refine x_iconst (v := nI 0) 20 hB d_M_empty_19 rfl (by decide) ?_
  refine x_iast 21 hB 2 (ws' := [(hm, .inr (5, [.int (re), .ref ms, .ref mf, .ref mc, .ref my, .ref mb, .ref mz, .ref mp, .ref mo, .ref mm, .ref ml, .ref md, .int (nI (wr)), .int (bI sp), .int (bI rp), .int (bI fi), .int (nI (gd)), .ref me, .ref mg, .int (la), .int (nI 0), .long (lst), .int 0])), (mz, .inl (E.2 1, 2, .inl (pr2 (nI 0) (e1)))), (mp, .inl (E.2 1, 2, .inl (pr2 (nI 0) (e3)))), (mo, .inl (E.2 3, 2, .inl (pr2 (e4) (e5)))), (mm, .inl (E.2 1, 2, .inl (pr2 (e6) (e7)))), (ml, .inl (E.2 1, 2, .inl (pr2 (e8) (e9)))), (md, .inl (E.2 1, 2, .inl (pr2 (e10) (e11)))), (me, .inl (E.2 1, 58, .inl (h))), (mg, .inl (E.2 1, 58, .inl (h2)))]) rfl (by omega) (by decide) (x' := nI 0) (rfl) (by rw [pr2_0]; rfl) d_M_empty_20 rfl ?_
  refine x_aload_n 22 hB d_M_empty_21 rfl rfl ?_
  refine x_get 25 hB 0 fg_M_31_5 rfl rfl d_M_empty_22 rfl ?_
  refine x_iload_n 26 hB d_M_empty_25 rfl rfl ?_
  refine x_iconst (v := nI 0) 27 hB d_M_empty_26 rfl (by decide) ?_
  refine x_zast 28 hB 3 (ws' := [(hm, .inr (5, [.int (re), .ref ms, .ref mf, .ref mc, .ref my, .ref mb, .ref mz, .ref mp, .ref mo, .ref mm, .ref ml, .ref md, .int (nI (wr)), .int (bI sp), .int (bI rp), .int (bI fi), .int (nI (gd)), .ref me, .ref mg, .int (la), .int (nI 0), .long (lst), .int 0])), (mz, .inl (E.2 1, 2, .inl (pr2 (nI 0) (e1)))), (mp, .inl (E.2 1, 2, .inl (pr2 (nI 0) (e3)))), (mo, .inl (E.2 3, 2, .inl (pr2 (nI 0) (e5)))), (mm, .inl (E.2 1, 2, .inl (pr2 (e6) (e7)))), (ml, .inl (E.2 1, 2, .inl (pr2 (e8) (e9)))), (md, .inl (E.2 1, 2, .inl (pr2 (e10) (e11)))), (me, .inl (E.2 1, 58, .inl (h))), (mg, .inl (E.2 1, 58, .inl (h2)))]) rfl (by omega) (by decide) (x' := nI 0) (by decide) (by rw [pr2_0]; rfl) d_M_empty_27 rfl ?_
  refine x_aload_n 29 hB d_M_empty_28 rfl rfl ?_
  refine x_get 32 hB 0 fg_M_35_5 rfl rfl d_M_empty_29 rfl ?_
  refine x_iload_n 33 hB d_M_empty_32 rfl rfl ?_
  refine x_iconst (v := nI 0) 34 hB d_M_empty_33 rfl (by decide) ?_
  refine x_iast 35 hB 4 (ws' := [(hm, .inr (5, [.int (re), .ref ms, .ref mf, .ref mc, .ref my, .ref mb, .ref mz, .ref mp, .ref mo, .ref mm, .ref ml, .ref md, .int (nI (wr)), .int (bI sp), .int (bI rp), .int (bI fi), .int (nI (gd)), .ref me, .ref mg, .int (la), .int (nI 0), .long (lst), .int 0])), (mz, .inl (E.2 1, 2, .inl (pr2 (nI 0) (e1)))), (mp, .inl (E.2 1, 2, .inl (pr2 (nI 0) (e3)))), (mo, .inl (E.2 3, 2, .inl (pr2 (nI 0) (e5)))), (mm, .inl (E.2 1, 2, .inl (pr2 (nI 0) (e7)))), (ml, .inl (E.2 1, 2, .inl (pr2 (e8) (e9)))), (md, .inl (E.2 1, 2, .inl (pr2 (e10) (e11)))), (me, .inl (E.2 1, 58, .inl (h))), (mg, .inl (E.2 1, 58, .inl (h2)))]) rfl (by omega) (by decide) (x' := nI 0) (rfl) (by rw [pr2_0]; rfl) d_M_empty_34 rfl ?_
  refine x_aload_n 36 hB d_M_empty_35 rfl rfl ?_
  refine x_get 39 hB 0 fg_M_38_5 rfl rfl d_M_empty_36 rfl ?_
  refine x_iload_n 40 hB d_M_empty_39 rfl rfl ?_
  refine x_iconst (v := nI 0) 41 hB d_M_empty_40 rfl (by decide) ?_
  refine x_iast 42 hB 5 (ws' := [(hm, .inr (5, [.int (re), .ref ms, .ref mf, .ref mc, .ref my, .ref mb, .ref mz, .ref mp, .ref mo, .ref mm, .ref ml, .ref md, .int (nI (wr)), .int (bI sp), .int (bI rp), .int (bI fi), .int (nI (gd)), .ref me, .ref mg, .int (la), .int (nI 0), .long (lst), .int 0])), (mz, .inl (E.2 1, 2, .inl (pr2 (nI 0) (e1)))), (mp, .inl (E.2 1, 2, .inl (pr2 (nI 0) (e3)))), (mo, .inl (E.2 3, 2, .inl (pr2 (nI 0) (e5)))), (mm, .inl (E.2 1, 2, .inl (pr2 (nI 0) (e7)))), (ml, .inl (E.2 1, 2, .inl (pr2 (nI 0) (e9)))), (md, .inl (E.2 1, 2, .inl (pr2 (e10) (e11)))), (me, .inl (E.2 1, 58, .inl (h))), (mg, .inl (E.2 1, 58, .inl (h2)))]) rfl (by omega) (by decide) (x' := nI 0) (rfl) (by rw [pr2_0]; rfl) d_M_empty_41 rfl ?_
  refine x_aload_n 43 hB d_M_empty_42 rfl rfl ?_
  refine x_get 46 hB 0 fg_M_41_5 rfl rfl d_M_empty_43 rfl ?_
  refine x_iload_n 47 hB d_M_empty_46 rfl rfl ?_
  refine x_iconst (v := nI 0) 48 hB d_M_empty_47 rfl (by decide) ?_
  refine x_iast 49 hB 6 (ws' := [(hm, .inr (5, [.int (re), .ref ms, .ref mf, .ref mc, .ref my, .ref mb, .ref mz, .ref mp, .ref mo, .ref mm, .ref ml, .ref md, .int (nI (wr)), .int (bI sp), .int (bI rp), .int (bI fi), .int (nI (gd)), .ref me, .ref mg, .int (la), .int (nI 0), .long (lst), .int 0])), (mz, .inl (E.2 1, 2, .inl (pr2 (nI 0) (e1)))), (mp, .inl (E.2 1, 2, .inl (pr2 (nI 0) (e3)))), (mo, .inl (E.2 3, 2, .inl (pr2 (nI 0) (e5)))), (mm, .inl (E.2 1, 2, .inl (pr2 (nI 0) (e7)))), (ml, .inl (E.2 1, 2, .inl (pr2 (nI 0) (e9)))), (md, .inl (E.2 1, 2, .inl (pr2 (nI 0) (e11)))), (me, .inl (E.2 1, 58, .inl (h))), (mg, .inl (E.2 1, 58, .inl (h2)))]) rfl (by omega) (by decide) (x' := nI 0) (rfl) (by rw [pr2_0]; rfl) d_M_empty_48 rfl ?_
  refine x_iinc (v := nI 1) 52 hB d_M_empty_49 rfl 0 rfl (by decide) (by decide) (lv' := [(1, .int (nI 1)), (0, .ref hm)]) rfl ?_
  refine x_goto 2 hB d_M_empty_52 (by decide) ?_
  refine x_iload_n 3 hB d_M_empty_2 rfl rfl ?_
  refine x_iconst (v := nI 2) 4 hB d_M_empty_3 rfl (by decide) ?_
  refine x_icmp_ge 55 7 hB d_M_empty_4 (by decide) rfl (fun hc => absurd hc (by decide)) (fun _ => ?_)
  refine x_aload_n 8 hB d_M_empty_7 rfl rfl ?_
  refine x_get 11 hB 0 fg_M_25_5 rfl rfl d_M_empty_8 rfl ?_
  refine x_iload_n 12 hB d_M_empty_11 rfl rfl ?_
  refine x_iconst (v := nI 0) 13 hB d_M_empty_12 rfl (by decide) ?_
  refine x_iast 14 hB 1 (ws' := [(hm, .inr (5, [.int (re), .ref ms, .ref mf, .ref mc, .ref my, .ref mb, .ref mz, .ref mp, .ref mo, .ref mm, .ref ml, .ref md, .int (nI (wr)), .int (bI sp), .int (bI rp), .int (bI fi), .int (nI (gd)), .ref me, .ref mg, .int (la), .int (nI 0), .long (lst), .int 0])), (mz, .inl (E.2 1, 2, .inl (pr2 (nI 0) (nI 0)))), (mp, .inl (E.2 1, 2, .inl (pr2 (nI 0) (e3)))), (mo, .inl (E.2 3, 2, .inl (pr2 (nI 0) (e5)))), (mm, .inl (E.2 1, 2, .inl (pr2 (nI 0) (e7)))), (ml, .inl (E.2 1, 2, .inl (pr2 (nI 0) (e9)))), (md, .inl (E.2 1, 2, .inl (pr2 (nI 0) (e11)))), (me, .inl (E.2 1, 58, .inl (h))), (mg, .inl (E.2 1, 58, .inl (h2)))]) rfl (by omega) (by decide) (x' := nI 0) (rfl) (by rw [pr2_1]; rfl) d_M_empty_13 rfl ?_
  refine x_aload_n 15 hB d_M_empty_14 rfl rfl ?_
  refine x_get 18 hB 0 fg_M_28_5 rfl rfl d_M_empty_15 rfl ?_
  refine x_iload_n 19 hB d_M_empty_18 rfl rfl ?_
  refine x_iconst (v := nI 0) 20 hB d_M_empty_19 rfl (by decide) ?_
  refine x_iast 21 hB 2 (ws' := [(hm, .inr (5, [.int (re), .ref ms, .ref mf, .ref mc, .ref my, .ref mb, .ref mz, .ref mp, .ref mo, .ref mm, .ref ml, .ref md, .int (nI (wr)), .int (bI sp), .int (bI rp), .int (bI fi), .int (nI (gd)), .ref me, .ref mg, .int (la), .int (nI 0), .long (lst), .int 0])), (mz, .inl (E.2 1, 2, .inl (pr2 (nI 0) (nI 0)))), (mp, .inl (E.2 1, 2, .inl (pr2 (nI 0) (nI 0)))), (mo, .inl (E.2 3, 2, .inl (pr2 (nI 0) (e5)))), (mm, .inl (E.2 1, 2, .inl (pr2 (nI 0) (e7)))), (ml, .inl (E.2 1, 2, .inl (pr2 (nI 0) (e9)))), (md, .inl (E.2 1, 2, .inl (pr2 (nI 0) (e11)))), (me, .inl (E.2 1, 58, .inl (h))), (mg, .inl (E.2 1, 58, .inl (h2)))]) rfl (by omega) (by decide) (x' := nI 0) (rfl) (by rw [pr2_1]; rfl) d_M_empty_20 rfl ?_
  refine x_aload_n 22 hB d_M_empty_21 rfl rfl ?_
  refine x_get 25 hB 0 fg_M_31_5 rfl rfl d_M_empty_22 rfl ?_
  refine x_iload_n 26 hB d_M_empty_25 rfl rfl ?_
  refine x_iconst (v := nI 0) 27 hB d_M_empty_26 rfl (by decide) ?_
  refine x_zast 28 hB 3 (ws' := [(hm, .inr (5, [.int (re), .ref ms, .ref mf, .ref mc, .ref my, .ref mb, .ref mz, .ref mp, .ref mo, .ref mm, .ref ml, .ref md, .int (nI (wr)), .int (bI sp), .int (bI rp), .int (bI fi), .int (nI (gd)), .ref me, .ref mg, .int (la), .int (nI 0), .long (lst), .int 0])), (mz, .inl (E.2 1, 2, .inl (pr2 (nI 0) (nI 0)))), (mp, .inl (E.2 1, 2, .inl (pr2 (nI 0) (nI 0)))), (mo, .inl (E.2 3, 2, .inl (pr2 (nI 0) (nI 0)))), (mm, .inl (E.2 1, 2, .inl (pr2 (nI 0) (e7)))), (ml, .inl (E.2 1, 2, .inl (pr2 (nI 0) (e9)))), (md, .inl (E.2 1, 2, .inl (pr2 (nI 0) (e11)))), (me, .inl (E.2 1, 58, .inl (h))), (mg, .inl (E.2 1, 58, .inl (h2)))]) rfl (by omega) (by decide) (x' := nI 0) (by decide) (by rw [pr2_1]; rfl) d_M_empty_27 rfl ?_
  refine x_aload_n 29 hB d_M_empty_28 rfl rfl ?_
  refine x_get 32 hB 0 fg_M_35_5 rfl rfl d_M_empty_29 rfl ?_
  refine x_iload_n 33 hB d_M_empty_32 rfl rfl ?_
  refine x_iconst (v := nI 0) 34 hB d_M_empty_33 rfl (by decide) ?_
  refine x_iast 35 hB 4 (ws' := [(hm, .inr (5, [.int (re), .ref ms, .ref mf, .ref mc, .ref my, .ref mb, .ref mz, .ref mp, .ref mo, .ref mm, .ref ml, .ref md, .int (nI (wr)), .int (bI sp), .int (bI rp), .int (bI fi), .int (nI (gd)), .ref me, .ref mg, .int (la), .int (nI 0), .long (lst), .int 0])), (mz, .inl (E.2 1, 2, .inl (pr2 (nI 0) (nI 0)))), (mp, .inl (E.2 1, 2, .inl (pr2 (nI 0) (nI 0)))), (mo, .inl (E.2 3, 2, .inl (pr2 (nI 0) (nI 0)))), (mm, .inl (E.2 1, 2, .inl (pr2 (nI 0) (nI 0)))), (ml, .inl (E.2 1, 2, .inl (pr2 (nI 0) (e9)))), (md, .inl (E.2 1, 2, .inl (pr2 (nI 0) (e11)))), (me, .inl (E.2 1, 58, .inl (h))), (mg, .inl (E.2 1, 58, .inl (h2)))]) rfl (by omega) (by decide) (x' := nI 0) (rfl) (by rw [pr2_1]; rfl) d_M_empty_34 rfl ?_
  refine x_aload_n 36 hB d_M_empty_35 rfl rfl ?_
  refine x_get 39 hB 0 fg_M_38_5 rfl rfl d_M_empty_36 rfl ?_
  refine x_iload_n 40 hB d_M_empty_39 rfl rfl ?_
  refine x_iconst (v := nI 0) 41 hB d_M_empty_40 rfl (by decide) ?_
  refine x_iast 42 hB 5 (ws' := [(hm, .inr (5, [.int (re), .ref ms, .ref mf, .ref mc, .ref my, .ref mb, .ref mz, .ref mp, .ref mo, .ref mm, .ref ml, .ref md, .int (nI (wr)), .int (bI sp), .int (bI rp), .int (bI fi), .int (nI (gd)), .ref me, .ref mg, .int (la), .int (nI 0), .long (lst), .int 0])), (mz, .inl (E.2 1, 2, .inl (pr2 (nI 0) (nI 0)))), (mp, .inl (E.2 1, 2, .inl (pr2 (nI 0) (nI 0)))), (mo, .inl (E.2 3, 2, .inl (pr2 (nI 0) (nI 0)))), (mm, .inl (E.2 1, 2, .inl (pr2 (nI 0) (nI 0)))), (ml, .inl (E.2 1, 2, .inl (pr2 (nI 0) (nI 0)))), (md, .inl (E.2 1, 2, .inl (pr2 (nI 0) (e11)))), (me, .inl (E.2 1, 58, .inl (h))), (mg, .inl (E.2 1, 58, .inl (h2)))]) rfl (by omega) (by decide) (x' := nI 0) (rfl) (by rw [pr2_1]; rfl) d_M_empty_41 rfl ?_
  refine x_aload_n 43 hB d_M_empty_42 rfl rfl ?_
  refine x_get 46 hB 0 fg_M_41_5 rfl rfl d_M_empty_43 rfl ?_
  refine x_iload_n 47 hB d_M_empty_46 rfl rfl ?_
  refine x_iconst (v := nI 0) 48 hB d_M_empty_47 rfl (by decide) ?_
  refine x_iast 49 hB 6 (ws' := [(hm, .inr (5, [.int (re), .ref ms, .ref mf, .ref mc, .ref my, .ref mb, .ref mz, .ref mp, .ref mo, .ref mm, .ref ml, .ref md, .int (nI (wr)), .int (bI sp), .int (bI rp), .int (bI fi), .int (nI (gd)), .ref me, .ref mg, .int (la), .int (nI 0), .long (lst), .int 0])), (mz, .inl (E.2 1, 2, .inl (pr2 (nI 0) (nI 0)))), (mp, .inl (E.2 1, 2, .inl (pr2 (nI 0) (nI 0)))), (mo, .inl (E.2 3, 2, .inl (pr2 (nI 0) (nI 0)))), (mm, .inl (E.2 1, 2, .inl (pr2 (nI 0) (nI 0)))), (ml, .inl (E.2 1, 2, .inl (pr2 (nI 0) (nI 0)))), (md, .inl (E.2 1, 2, .inl (pr2 (nI 0) (nI 0)))), (me, .inl (E.2 1, 58, .inl (h))), (mg, .inl (E.2 1, 58, .inl (h2)))]) rfl (by omega) (by decide) (x' := nI 0) (rfl) (by rw [pr2_1]; rfl) d_M_empty_48 rfl ?_
  refine x_iinc (v := nI 2) 52 hB d_M_empty_49 rfl 0 rfl (by decide) (by decide) (lv' := [(1, .int (nI 2)), (0, .ref hm)]) rfl ?_
  refine x_goto 2 hB d_M_empty_52 (by decide) ?_
  refine x_iload_n 3 hB d_M_empty_2 rfl rfl ?_
  refine x_iconst (v := nI 2) 4 hB d_M_empty_3 rfl (by decide) ?_
  refine x_icmp_ge 55 7 hB d_M_empty_4 (by decide) rfl (fun _ => ?_) (fun hc => absurd (by decide) hc)
  refine x_iconst (v := nI 0) 56 hB d_M_empty_55 rfl (by decide) ?_
  refine x_istore_n 57 hB d_M_empty_56 rfl (by decide) (lv' := [(1, .int (nI 0)), (0, .ref hm)]) rfl ?_
  refine x_lv (lv' := [(0, .ref hm), (1, .int (nI 0))]) [1, 0] rfl ?_
  refine x_loop (fun t : Nat => t ≤ 58) (fun t : Nat => 58 - t) (fun t : Nat => [(hm, .inr (5, [.int (re), .ref ms, .ref mf, .ref mc, .ref my, .ref mb, .ref mz, .ref mp, .ref mo, .ref mm, .ref ml, .ref md, .int (nI (wr)), .int (bI sp), .int (bI rp), .int (bI fi), .int (nI (gd)), .ref me, .ref mg, .int (la), .int (nI 0), .long (lst), .int 0])), (mz, .inl (E.2 1, 2, .inl (pr2 (nI 0) (nI 0)))), (mp, .inl (E.2 1, 2, .inl (pr2 (nI 0) (nI 0)))), (mo, .inl (E.2 3, 2, .inl (pr2 (nI 0) (nI 0)))), (mm, .inl (E.2 1, 2, .inl (pr2 (nI 0) (nI 0)))), (ml, .inl (E.2 1, 2, .inl (pr2 (nI 0) (nI 0)))), (md, .inl (E.2 1, 2, .inl (pr2 (nI 0) (nI 0)))), (me, .inl (E.2 1, 58, .inl (emF h t))), (mg, .inl (E.2 1, 58, .inl (emF h2 t)))]) (fun t : Nat => [(0, .ref hm), (1, .int (nI (t)))]) (fun t : Nat => []) 0 (Nat.zero_le _) (by rw [← emF_0, ← emF_0]) rfl rfl (fun t hI57 IH57 => ?_)
  refine x_iload_n 58 hB d_M_empty_57 rfl rfl ?_
  refine x_bipush (v := nI 58) 60 hB d_M_empty_58 rfl (by decide) ?_
  refine x_icmp_ge 83 63 hB d_M_empty_60 (by decide) rfl (fun h60 => ?_) (fun h60 => ?_)
  · skip
    have ht : 58 = t := by have := (nI_leI (by omega) (by omega)).mp h60; omega
    subst ht
    refine x_aload_n 84 hB d_M_empty_83 rfl rfl ?_
    refine x_iconst (v := nI 0) 85 hB d_M_empty_84 rfl (by decide) ?_
    refine x_put 88 hB 0 (ws' := [(hm, .inr (5, [.int (re), .ref ms, .ref mf, .ref mc, .ref my, .ref mb, .ref mz, .ref mp, .ref mo, .ref mm, .ref ml, .ref md, .int (nI 0), .int (bI sp), .int (bI rp), .int (bI fi), .int (nI (gd)), .ref me, .ref mg, .int (la), .int (nI 0), .long (lst), .int 0])), (mz, .inl (E.2 1, 2, .inl (pr2 (nI 0) (nI 0)))), (mp, .inl (E.2 1, 2, .inl (pr2 (nI 0) (nI 0)))), (mo, .inl (E.2 3, 2, .inl (pr2 (nI 0) (nI 0)))), (mm, .inl (E.2 1, 2, .inl (pr2 (nI 0) (nI 0)))), (ml, .inl (E.2 1, 2, .inl (pr2 (nI 0) (nI 0)))), (md, .inl (E.2 1, 2, .inl (pr2 (nI 0) (nI 0)))), (me, .inl (E.2 1, 58, .inl (emF h 58))), (mg, .inl (E.2 1, 58, .inl (emF h2 58)))]) fp_M_65_5 rfl (rfl) (rfl) (Nat.le_of_ble_eq_true rfl) rfl d_M_empty_85 rfl ?_
    refine x_aload_n 89 hB d_M_empty_88 rfl rfl ?_
    refine x_iconst (v := nI 0) 90 hB d_M_empty_89 rfl (by decide) ?_
    refine x_put 93 hB 0 (ws' := [(hm, .inr (5, [.int (re), .ref ms, .ref mf, .ref mc, .ref my, .ref mb, .ref mz, .ref mp, .ref mo, .ref mm, .ref ml, .ref md, .int (nI 0), .int (nI 0), .int (bI rp), .int (bI fi), .int (nI (gd)), .ref me, .ref mg, .int (la), .int (nI 0), .long (lst), .int 0])), (mz, .inl (E.2 1, 2, .inl (pr2 (nI 0) (nI 0)))), (mp, .inl (E.2 1, 2, .inl (pr2 (nI 0) (nI 0)))), (mo, .inl (E.2 3, 2, .inl (pr2 (nI 0) (nI 0)))), (mm, .inl (E.2 1, 2, .inl (pr2 (nI 0) (nI 0)))), (ml, .inl (E.2 1, 2, .inl (pr2 (nI 0) (nI 0)))), (md, .inl (E.2 1, 2, .inl (pr2 (nI 0) (nI 0)))), (me, .inl (E.2 1, 58, .inl (emF h 58))), (mg, .inl (E.2 1, 58, .inl (emF h2 58)))]) fp_M_68_5 rfl (rfl) (rfl) (Nat.le_of_ble_eq_true rfl) rfl d_M_empty_90 rfl ?_
    refine x_aload_n 94 hB d_M_empty_93 rfl rfl ?_
    refine x_iconst (v := nI 0) 95 hB d_M_empty_94 rfl (by decide) ?_
    refine x_put 98 hB 0 (ws' := [(hm, .inr (5, [.int (re), .ref ms, .ref mf, .ref mc, .ref my, .ref mb, .ref mz, .ref mp, .ref mo, .ref mm, .ref ml, .ref md, .int (nI 0), .int (nI 0), .int (nI 0), .int (bI fi), .int (nI (gd)), .ref me, .ref mg, .int (la), .int (nI 0), .long (lst), .int 0])), (mz, .inl (E.2 1, 2, .inl (pr2 (nI 0) (nI 0)))), (mp, .inl (E.2 1, 2, .inl (pr2 (nI 0) (nI 0)))), (mo, .inl (E.2 3, 2, .inl (pr2 (nI 0) (nI 0)))), (mm, .inl (E.2 1, 2, .inl (pr2 (nI 0) (nI 0)))), (ml, .inl (E.2 1, 2, .inl (pr2 (nI 0) (nI 0)))), (md, .inl (E.2 1, 2, .inl (pr2 (nI 0) (nI 0)))), (me, .inl (E.2 1, 58, .inl (emF h 58))), (mg, .inl (E.2 1, 58, .inl (emF h2 58)))]) fp_M_72_5 rfl (rfl) (rfl) (Nat.le_of_ble_eq_true rfl) rfl d_M_empty_95 rfl ?_
    refine x_aload_n 99 hB d_M_empty_98 rfl rfl ?_
    refine x_iconst (v := nI 0) 100 hB d_M_empty_99 rfl (by decide) ?_
    refine x_put 103 hB 0 (ws' := [(hm, .inr (5, [.int (re), .ref ms, .ref mf, .ref mc, .ref my, .ref mb, .ref mz, .ref mp, .ref mo, .ref mm, .ref ml, .ref md, .int (nI 0), .int (nI 0), .int (nI 0), .int (nI 0), .int (nI (gd)), .ref me, .ref mg, .int (la), .int (nI 0), .long (lst), .int 0])), (mz, .inl (E.2 1, 2, .inl (pr2 (nI 0) (nI 0)))), (mp, .inl (E.2 1, 2, .inl (pr2 (nI 0) (nI 0)))), (mo, .inl (E.2 3, 2, .inl (pr2 (nI 0) (nI 0)))), (mm, .inl (E.2 1, 2, .inl (pr2 (nI 0) (nI 0)))), (ml, .inl (E.2 1, 2, .inl (pr2 (nI 0) (nI 0)))), (md, .inl (E.2 1, 2, .inl (pr2 (nI 0) (nI 0)))), (me, .inl (E.2 1, 58, .inl (emF h 58))), (mg, .inl (E.2 1, 58, .inl (emF h2 58)))]) fp_M_75_5 rfl (rfl) (rfl) (Nat.le_of_ble_eq_true rfl) rfl d_M_empty_100 rfl ?_
    refine x_aload_n 104 hB d_M_empty_103 rfl rfl ?_
    refine x_iconst (v := nI 0) 105 hB d_M_empty_104 rfl (by decide) ?_
    refine x_put 108 hB 0 (ws' := [(hm, .inr (5, [.int (re), .ref ms, .ref mf, .ref mc, .ref my, .ref mb, .ref mz, .ref mp, .ref mo, .ref mm, .ref ml, .ref md, .int (nI 0), .int (nI 0), .int (nI 0), .int (nI 0), .int (nI 0), .ref me, .ref mg, .int (la), .int (nI 0), .long (lst), .int 0])), (mz, .inl (E.2 1, 2, .inl (pr2 (nI 0) (nI 0)))), (mp, .inl (E.2 1, 2, .inl (pr2 (nI 0) (nI 0)))), (mo, .inl (E.2 3, 2, .inl (pr2 (nI 0) (nI 0)))), (mm, .inl (E.2 1, 2, .inl (pr2 (nI 0) (nI 0)))), (ml, .inl (E.2 1, 2, .inl (pr2 (nI 0) (nI 0)))), (md, .inl (E.2 1, 2, .inl (pr2 (nI 0) (nI 0)))), (me, .inl (E.2 1, 58, .inl (emF h 58))), (mg, .inl (E.2 1, 58, .inl (emF h2 58)))]) fp_M_78_5 rfl (rfl) (rfl) (Nat.le_of_ble_eq_true rfl) rfl d_M_empty_105 rfl ?_
    refine x_aload_n 109 hB d_M_empty_108 rfl rfl ?_
    refine x_iconst (v := nI 0) 110 hB d_M_empty_109 rfl (by decide) ?_
    refine x_put 113 hB 0 (ws' := [(hm, .inr (5, [.int (re), .ref ms, .ref mf, .ref mc, .ref my, .ref mb, .ref mz, .ref mp, .ref mo, .ref mm, .ref ml, .ref md, .int (nI 0), .int (nI 0), .int (nI 0), .int (nI 0), .int (nI 0), .ref me, .ref mg, .int (nI 0), .int (nI 0), .long (lst), .int 0])), (mz, .inl (E.2 1, 2, .inl (pr2 (nI 0) (nI 0)))), (mp, .inl (E.2 1, 2, .inl (pr2 (nI 0) (nI 0)))), (mo, .inl (E.2 3, 2, .inl (pr2 (nI 0) (nI 0)))), (mm, .inl (E.2 1, 2, .inl (pr2 (nI 0) (nI 0)))), (ml, .inl (E.2 1, 2, .inl (pr2 (nI 0) (nI 0)))), (md, .inl (E.2 1, 2, .inl (pr2 (nI 0) (nI 0)))), (me, .inl (E.2 1, 58, .inl (emF h 58))), (mg, .inl (E.2 1, 58, .inl (emF h2 58)))]) fp_M_81_5 rfl (rfl) (rfl) (Nat.le_of_ble_eq_true rfl) rfl d_M_empty_110 rfl ?_
    refine x_aload_n 114 hB d_M_empty_113 rfl rfl ?_
    refine x_iconst (v := nI 0) 115 hB d_M_empty_114 rfl (by decide) ?_
    refine x_put 118 hB 0 (ws' := [(hm, .inr (5, [.int (re), .ref ms, .ref mf, .ref mc, .ref my, .ref mb, .ref mz, .ref mp, .ref mo, .ref mm, .ref ml, .ref md, .int (nI 0), .int (nI 0), .int (nI 0), .int (nI 0), .int (nI 0), .ref me, .ref mg, .int (nI 0), .int (nI 0), .long (lst), .int 0])), (mz, .inl (E.2 1, 2, .inl (pr2 (nI 0) (nI 0)))), (mp, .inl (E.2 1, 2, .inl (pr2 (nI 0) (nI 0)))), (mo, .inl (E.2 3, 2, .inl (pr2 (nI 0) (nI 0)))), (mm, .inl (E.2 1, 2, .inl (pr2 (nI 0) (nI 0)))), (ml, .inl (E.2 1, 2, .inl (pr2 (nI 0) (nI 0)))), (md, .inl (E.2 1, 2, .inl (pr2 (nI 0) (nI 0)))), (me, .inl (E.2 1, 58, .inl (emF h 58))), (mg, .inl (E.2 1, 58, .inl (emF h2 58)))]) fp_M_84_5 rfl (rfl) (rfl) (Nat.le_of_ble_eq_true rfl) rfl d_M_empty_115 rfl ?_
    refine x_aload_n 119 hB d_M_empty_118 rfl rfl ?_
    refine x_lconst (v := 0) 120 hB d_M_empty_119 rfl (by decide) ?_
    refine x_put 123 hB 0 (ws' := [(hm, .inr (5, [.int (re), .ref ms, .ref mf, .ref mc, .ref my, .ref mb, .ref mz, .ref mp, .ref mo, .ref mm, .ref ml, .ref md, .int (nI 0), .int (nI 0), .int (nI 0), .int (nI 0), .int (nI 0), .ref me, .ref mg, .int (nI 0), .int (nI 0), .long (0), .int 0])), (mz, .inl (E.2 1, 2, .inl (pr2 (nI 0) (nI 0)))), (mp, .inl (E.2 1, 2, .inl (pr2 (nI 0) (nI 0)))), (mo, .inl (E.2 3, 2, .inl (pr2 (nI 0) (nI 0)))), (mm, .inl (E.2 1, 2, .inl (pr2 (nI 0) (nI 0)))), (ml, .inl (E.2 1, 2, .inl (pr2 (nI 0) (nI 0)))), (md, .inl (E.2 1, 2, .inl (pr2 (nI 0) (nI 0)))), (me, .inl (E.2 1, 58, .inl (emF h 58))), (mg, .inl (E.2 1, 58, .inl (emF h2 58)))]) fp_M_87_5 rfl (rfl) (rfl) (Nat.le_of_ble_eq_true rfl) rfl d_M_empty_120 rfl ?_
    exact x_vret hB (w' := [(hm, .inr (5, [.int (re), .ref ms, .ref mf, .ref mc, .ref my, .ref mb, .ref mz, .ref mp, .ref mo, .ref mm, .ref ml, .ref md, .int (nI 0), .int (nI 0), .int (nI 0), .int (nI 0), .int (nI 0), .ref me, .ref mg, .int (nI 0), .int (nI 0), .long (0), .int 0])), (mz, .inl (E.2 1, 2, .inl (pr2 (nI 0) (nI 0)))), (mp, .inl (E.2 1, 2, .inl (pr2 (nI 0) (nI 0)))), (mo, .inl (E.2 3, 2, .inl (pr2 (nI 0) (nI 0)))), (mm, .inl (E.2 1, 2, .inl (pr2 (nI 0) (nI 0)))), (ml, .inl (E.2 1, 2, .inl (pr2 (nI 0) (nI 0)))), (md, .inl (E.2 1, 2, .inl (pr2 (nI 0) (nI 0)))), (me, .inl (E.2 1, 58, .inl (emF h 58))), (mg, .inl (E.2 1, 58, .inl (emF h2 58)))]) hA [0, 1, 2, 3, 4, 5, 6, 7, 8] rfl rfl (xRet_i) (by decide) (by decide) d_M_empty_123
  · skip
    have k60 : t < 58 := Nat.lt_of_not_le (fun h => h60 (nI_le h (by omega)))
    refine x_aload_n 64 hB d_M_empty_63 rfl rfl ?_
    refine x_get 67 hB 0 fg_M_44_5 rfl rfl d_M_empty_64 rfl ?_
    refine x_iload_n 68 hB d_M_empty_67 rfl rfl ?_
    refine x_iconst (v := nI 1) 69 hB d_M_empty_68 rfl (by decide) ?_
    refine x_iast 70 hB 7 (ws' := [(hm, .inr (5, [.int (re), .ref ms, .ref mf, .ref mc, .ref my, .ref mb, .ref mz, .ref mp, .ref mo, .ref mm, .ref ml, .ref md, .int (nI (wr)), .int (bI sp), .int (bI rp), .int (bI fi), .int (nI (gd)), .ref me, .ref mg, .int (la), .int (nI 0), .long (lst), .int 0])), (mz, .inl (E.2 1, 2, .inl (pr2 (nI 0) (nI 0)))), (mp, .inl (E.2 1, 2, .inl (pr2 (nI 0) (nI 0)))), (mo, .inl (E.2 3, 2, .inl (pr2 (nI 0) (nI 0)))), (mm, .inl (E.2 1, 2, .inl (pr2 (nI 0) (nI 0)))), (ml, .inl (E.2 1, 2, .inl (pr2 (nI 0) (nI 0)))), (md, .inl (E.2 1, 2, .inl (pr2 (nI 0) (nI 0)))), (me, .inl (E.2 1, 58, .inl (emF h (t + 1)))), (mg, .inl (E.2 1, 58, .inl (emF h2 t)))]) rfl (by omega) (by decide) (x' := nI 1) (rfl) (by rw [emF_s]; rfl) d_M_empty_69 rfl ?_
    refine x_aload_n 71 hB d_M_empty_70 rfl rfl ?_
    refine x_get 74 hB 0 fg_M_47_5 rfl rfl d_M_empty_71 rfl ?_
    refine x_iload_n 75 hB d_M_empty_74 rfl rfl ?_
    refine x_iconst (v := nI 1) 76 hB d_M_empty_75 rfl (by decide) ?_
    refine x_iast 77 hB 8 (ws' := [(hm, .inr (5, [.int (re), .ref ms, .ref mf, .ref mc, .ref my, .ref mb, .ref mz, .ref mp, .ref mo, .ref mm, .ref ml, .ref md, .int (nI (wr)), .int (bI sp), .int (bI rp), .int (bI fi), .int (nI (gd)), .ref me, .ref mg, .int (la), .int (nI 0), .long (lst), .int 0])), (mz, .inl (E.2 1, 2, .inl (pr2 (nI 0) (nI 0)))), (mp, .inl (E.2 1, 2, .inl (pr2 (nI 0) (nI 0)))), (mo, .inl (E.2 3, 2, .inl (pr2 (nI 0) (nI 0)))), (mm, .inl (E.2 1, 2, .inl (pr2 (nI 0) (nI 0)))), (ml, .inl (E.2 1, 2, .inl (pr2 (nI 0) (nI 0)))), (md, .inl (E.2 1, 2, .inl (pr2 (nI 0) (nI 0)))), (me, .inl (E.2 1, 58, .inl (emF h (t + 1)))), (mg, .inl (E.2 1, 58, .inl (emF h2 (t + 1))))]) rfl (by omega) (by decide) (x' := nI 1) (rfl) (by rw [emF_s]; rfl) d_M_empty_76 rfl ?_
    refine x_iinc (v := nI (t + 1)) 80 hB d_M_empty_77 rfl 1 rfl ((nI_succ t).symm) (by decide) (lv' := [(1, .int (nI (t + 1))), (0, .ref hm)]) rfl ?_
    refine x_goto 57 hB d_M_empty_80 (by decide) ?_
    refine x_lv (lv' := [(0, .ref hm), (1, .int (nI (t + 1)))]) [1, 0] rfl ?_
    exact IH57 (t + 1) k60 (by omega)
abbrev rm_M_clear : Room := { frames := 1, cells := 0, slots := 0, locals := 21 }
set_option maxHeartbeats 4000000 in
set_option maxRecDepth 100000 in
theorem c_M_clear (l : Launch) (E : xE) (hm ms mf mc my mb mz mp mo mm ml md me mg : Nat) (re : Int32) (wr : Nat) (sp rp fi : Bool) (gd : Nat) (la : Int32) (lst : Int64) (e0 e1 e2 e3 e4 e5 e6 e7 e8 e9 e10 e11 : Int32) (h h2 : Nat → Int32) : xC l E y_M_clear (.code y_M_clear prog_10_method_6_code 1 none) rm_M_clear [.ref hm] [(hm, .inr (5, [.int (re), .ref ms, .ref mf, .ref mc, .ref my, .ref mb, .ref mz, .ref mp, .ref mo, .ref mm, .ref ml, .ref md, .int (nI (wr)), .int (bI sp), .int (bI rp), .int (bI fi), .int (nI (gd)), .ref me, .ref mg, .int (la), .int (nI 0), .long (lst), .int 0])), (mz, .inl (E.2 1, 2, .inl (pr2 (e0) (e1)))), (mp, .inl (E.2 1, 2, .inl (pr2 (e2) (e3)))), (mo, .inl (E.2 3, 2, .inl (pr2 (e4) (e5)))), (mm, .inl (E.2 1, 2, .inl (pr2 (e6) (e7)))), (ml, .inl (E.2 1, 2, .inl (pr2 (e8) (e9)))), (md, .inl (E.2 1, 2, .inl (pr2 (e10) (e11)))), (me, .inl (E.2 1, 58, .inl (h))), (mg, .inl (E.2 1, 58, .inl (h2)))] (xRet none [(hm, .inr (5, [.int (nI 0), .ref ms, .ref mf, .ref mc, .ref my, .ref mb, .ref mz, .ref mp, .ref mo, .ref mm, .ref ml, .ref md, .int (nI 0), .int (nI 0), .int (nI 0), .int (nI 0), .int (nI 0), .ref me, .ref mg, .int (nI 0), .int (nI 0), .long (0), .int 0])), (mz, .inl (E.2 1, 2, .inl (pr2 (nI 0) (nI 0)))), (mp, .inl (E.2 1, 2, .inl (pr2 (nI 0) (nI 0)))), (mo, .inl (E.2 3, 2, .inl (pr2 (nI 0) (nI 0)))), (mm, .inl (E.2 1, 2, .inl (pr2 (nI 0) (nI 0)))), (ml, .inl (E.2 1, 2, .inl (pr2 (nI 0) (nI 0)))), (md, .inl (E.2 1, 2, .inl (pr2 (nI 0) (nI 0)))), (me, .inl (E.2 1, 58, .inl (emF h 58))), (mg, .inl (E.2 1, 58, .inl (emF h2 58)))]) := by
  refine x_of' (own := "LineCoderModel") (mn := "clear") (lv := [(0, .ref hm)]) (plainFor_of_name (by decide)) rfl rfl (Nat.le_of_ble_eq_true rfl) rfl ?_
  intro p_ e_ s_ m_ ar_ be_ me_ c_ A_ hA hB
  refine x_aload_n 1 hB d_M_clear_0 rfl rfl ?_
  refine x_iconst (v := nI 0) 2 hB d_M_clear_1 rfl (by decide) ?_
  refine x_put 5 hB 0 (ws' := [(hm, .inr (5, [.int (nI 0), .ref ms, .ref mf, .ref mc, .ref my, .ref mb, .ref mz, .ref mp, .ref mo, .ref mm, .ref ml, .ref md, .int (nI (wr)), .int (bI sp), .int (bI rp), .int (bI fi), .int (nI (gd)), .ref me, .ref mg, .int (la), .int (nI 0), .long (lst), .int 0])), (mz, .inl (E.2 1, 2, .inl (pr2 (e0) (e1)))), (mp, .inl (E.2 1, 2, .inl (pr2 (e2) (e3)))), (mo, .inl (E.2 3, 2, .inl (pr2 (e4) (e5)))), (mm, .inl (E.2 1, 2, .inl (pr2 (e6) (e7)))), (ml, .inl (E.2 1, 2, .inl (pr2 (e8) (e9)))), (md, .inl (E.2 1, 2, .inl (pr2 (e10) (e11)))), (me, .inl (E.2 1, 58, .inl (h))), (mg, .inl (E.2 1, 58, .inl (h2)))]) fp_M_61_5 rfl (rfl) (rfl) (Nat.le_of_ble_eq_true rfl) rfl d_M_clear_2 rfl ?_
  refine x_aload_n 6 hB d_M_clear_5 rfl rfl ?_
  refine x_callD (k' := 0) (n' := 0) (rest := []) (wr := []) (ws' := [(hm, .inr (5, [.int (nI 0), .ref ms, .ref mf, .ref mc, .ref my, .ref mb, .ref mz, .ref mp, .ref mo, .ref mm, .ref ml, .ref md, .int (nI 0), .int (nI 0), .int (nI 0), .int (nI 0), .int (nI 0), .ref me, .ref mg, .int (nI 0), .int (nI 0), .long (0), .int 0])), (mz, .inl (E.2 1, 2, .inl (pr2 (nI 0) (nI 0)))), (mp, .inl (E.2 1, 2, .inl (pr2 (nI 0) (nI 0)))), (mo, .inl (E.2 3, 2, .inl (pr2 (nI 0) (nI 0)))), (mm, .inl (E.2 1, 2, .inl (pr2 (nI 0) (nI 0)))), (ml, .inl (E.2 1, 2, .inl (pr2 (nI 0) (nI 0)))), (md, .inl (E.2 1, 2, .inl (pr2 (nI 0) (nI 0)))), (me, .inl (E.2 1, 58, .inl (emF h 58))), (mg, .inl (E.2 1, 58, .inl (emF h2 58)))]) (st' := []) 9 hB (x_pfV (av := []) (q0 := 0) hB w_622 xHd_code w_619 w_621 s_M_empty rfl rfl nm_M_empty rfl d_M_clear_6) (c_M_empty l E hm ms mf mc my mb mz mp mo mm ml md me mg (nI 0) (wr) (sp) (rp) (fi) (gd) (la) (lst) e0 e1 e2 e3 e4 e5 e6 e7 e8 e9 e10 e11 h h2) w_622 xHd_code w_7 [0, 1, 2, 3, 4, 5, 6, 7, 8] [] rfl rfl rfl rfl (by decide) ⟨by decide, by decide⟩ ⟨by decide, by decide⟩ rfl rfl (Nat.le_of_ble_eq_true rfl) d_M_clear_6 rfl rfl rfl ?_
  exact x_vret hB (w' := [(hm, .inr (5, [.int (nI 0), .ref ms, .ref mf, .ref mc, .ref my, .ref mb, .ref mz, .ref mp, .ref mo, .ref mm, .ref ml, .ref md, .int (nI 0), .int (nI 0), .int (nI 0), .int (nI 0), .int (nI 0), .ref me, .ref mg, .int (nI 0), .int (nI 0), .long (0), .int 0])), (mz, .inl (E.2 1, 2, .inl (pr2 (nI 0) (nI 0)))), (mp, .inl (E.2 1, 2, .inl (pr2 (nI 0) (nI 0)))), (mo, .inl (E.2 3, 2, .inl (pr2 (nI 0) (nI 0)))), (mm, .inl (E.2 1, 2, .inl (pr2 (nI 0) (nI 0)))), (ml, .inl (E.2 1, 2, .inl (pr2 (nI 0) (nI 0)))), (md, .inl (E.2 1, 2, .inl (pr2 (nI 0) (nI 0)))), (me, .inl (E.2 1, 58, .inl (emF h 58))), (mg, .inl (E.2 1, 58, .inl (emF h2 58)))]) hA [0, 1, 2, 3, 4, 5, 6, 7, 8] rfl rfl (xRet_i) (by decide) (by decide) d_M_clear_9
abbrev rm_M_taken_A : Room := { frames := 3, cells := 0, slots := 0, locals := 65 }
set_option maxHeartbeats 4000000 in
set_option maxRecDepth 100000 in
theorem c_M_taken_A (l : Launch) (E : xE) (hm ms mf mc my mb mz mp mo mm ml md me mg : Nat) (re : Int32) (wr : Nat) (sp rp fi : Bool) (gd : Nat) (la : Int32) (lst : Int64) (cd sy : Nat → Int32) (fo : Bool) (mk bd : Nat) (o1 m1 b1 : Int32) (ten : Nat) (hten : ten < 1024) (hm9 : mk < 4) (hg9 : gd < 4) (y : Nat) (hy : y < 512) (hs : sy ten = nI y) (hc : cd (2 * y + (if rp then 1 else 0)) = nI ten) : xC l E y_M_taken (.code y_M_taken prog_10_method_19_code 5 (some .int)) rm_M_taken_A [.ref hm, .int (nI (ten))] [(hm, .inr (5, [.int (re), .ref ms, .ref mf, .ref mc, .ref my, .ref mb, .ref mz, .ref mp, .ref mo, .ref mm, .ref ml, .ref md, .int (nI (wr)), .int (bI sp), .int (bI rp), .int (bI fi), .int (nI (gd)), .ref me, .ref mg, .int (la), .int (nI 0), .long (lst), .int 0])), (mc, .inl (E.2 1, 1024, .inl (cd))), (my, .inl (E.2 1, 1024, .inl (sy))), (mo, .inl (E.2 3, 2, .inl (pr2 (bI fo) (o1)))), (mm, .inl (E.2 1, 2, .inl (pr2 (nI (mk)) (m1)))), (md, .inl (E.2 1, 2, .inl (pr2 (nI (bd)) (b1))))] (xRet (some (.int (nI (y)))) [(hm, .inr (5, [.int (re), .ref ms, .ref mf, .ref mc, .ref my, .ref mb, .ref mz, .ref mp, .ref mo, .ref mm, .ref ml, .ref md, .int (nI (wr)), .int (bI sp), .int (bI (pbT ten (rp))), .int (nI 0), .int (nI (rwF gd)), .ref me, .ref mg, .int (la), .int (nI 0), .long (lst), .int 0])), (mc, .inl (E.2 1, 1024, .inl (cd))), (my, .inl (E.2 1, 1024, .inl (sy))), (mo, .inl (E.2 3, 2, .inl (pr2 (bI fo) (o1)))), (mm, .inl (E.2 1, 2, .inl (pr2 (nI (mpF mk gd)) (m1)))), (md, .inl (E.2 1, 2, .inl (pr2 (nI (bd)) (b1))))]) := by
  refine x_of' (own := "LineCoderModel") (mn := "taken") (lv := [(0, .ref hm), (1, .int (nI (ten)))]) (plainFor_of_name (by decide)) rfl rfl (Nat.le_of_ble_eq_true rfl) rfl ?_
  intro p_ e_ s_ m_ ar_ be_ me_ c_ A_ hA hB
  refine x_aload_n 1 hB d_M_taken_0 rfl rfl ?_
  refine x_get 4 hB 0 fg_M_19_5 rfl rfl d_M_taken_1 rfl ?_
  refine x_iload_n 5 hB d_M_taken_4 rfl rfl ?_
  refine x_iald 6 hB 2 rfl (hten) (by decide) d_M_taken_5 rfl ?_
  refine x_top (v' := .int (nI (y))) (congrArg Value.int (hs)) ?_
  refine x_istore_n 7 hB d_M_taken_6 rfl (by decide) (lv' := [(2, .int (nI (y))), (0, .ref hm), (1, .int (nI (ten)))]) rfl ?_
  refine x_iload_n 8 hB d_M_taken_7 rfl rfl ?_
  refine x_if_ge 15 11 hB d_M_taken_8 (by decide) rfl (fun _ => ?_) (fun hc => absurd (nI_pos' (by omega)) hc)
  refine x_iconst (v := nI 0) 16 hB d_M_taken_15 rfl (by decide) ?_
  refine x_istore_n 17 hB d_M_taken_16 rfl (by decide) (lv' := [(3, .int (nI 0)), (2, .int (nI (y))), (0, .ref hm), (1, .int (nI (ten)))]) rfl ?_
  refine x_iload_n 18 hB d_M_taken_17 rfl rfl ?_
  refine x_if_ne 50 21 hB d_M_taken_18 (by decide) rfl (fun hc => absurd (by decide) hc) (fun _ => ?_)
  refine x_aload_n 22 hB d_M_taken_21 rfl rfl ?_
  refine x_get 25 hB 0 fg_M_16_5 rfl rfl d_M_taken_22 rfl ?_
  refine x_iconst (v := nI 2) 26 hB d_M_taken_25 rfl (by decide) ?_
  refine x_iload_n 27 hB d_M_taken_26 rfl rfl ?_
  refine x_imul 28 hB d_M_taken_27 rfl ?_
  refine x_top (v' := .int (nI (2 * y))) (congrArg Value.int (pk_mul _ _)) ?_
  refine x_join 40 (fun _u : Unit => True) (fun _u : Unit => [(hm, .inr (5, [.int (re), .ref ms, .ref mf, .ref mc, .ref my, .ref mb, .ref mz, .ref mp, .ref mo, .ref mm, .ref ml, .ref md, .int (nI (wr)), .int (bI sp), .int (bI rp), .int (bI fi), .int (nI (gd)), .ref me, .ref mg, .int (la), .int (nI 0), .long (lst), .int 0])), (mc, .inl (E.2 1, 1024, .inl (cd))), (my, .inl (E.2 1, 1024, .inl (sy))), (mo, .inl (E.2 3, 2, .inl (pr2 (bI fo) (o1)))), (mm, .inl (E.2 1, 2, .inl (pr2 (nI (mk)) (m1)))), (md, .inl (E.2 1, 2, .inl (pr2 (nI (bd)) (b1))))]) (fun _u : Unit => [(0, .ref hm), (1, .int (nI (ten))), (2, .int (nI (y))), (3, .int (nI 0))]) (fun _u : Unit => [.int (nI (if rp then 1 else 0)), .int (nI (2 * y)), .ref mc]) (fun _u hJ40 => ?_) (fun J40 => ?_)
  · skip
    refine x_iadd 41 hB d_M_taken_40 rfl ?_
    refine x_top (v' := .int (nI (2 * y + (if rp then 1 else 0)))) (congrArg Value.int (nI_add _ _)) ?_
    have hix : 2 * y + (if rp then 1 else 0) < 1024 := by split <;> omega
    refine x_iald 42 hB 1 rfl (hix) (by decide) d_M_taken_41 rfl ?_
    refine x_top (v' := .int (nI (ten))) (congrArg Value.int (hc)) ?_
    refine x_iload_n 43 hB d_M_taken_42 rfl rfl ?_
    refine x_icmp_ne 50 46 hB d_M_taken_43 (by decide) rfl (fun hc => absurd (rfl) hc) (fun _ => ?_)
    refine x_iconst (v := nI 1) 47 hB d_M_taken_46 rfl (by decide) ?_
    refine x_goto 51 hB d_M_taken_47 (by decide) ?_
    refine x_istore 53 hB d_M_taken_51 rfl (by decide) (lv' := [(4, .int (nI 1)), (0, .ref hm), (1, .int (nI (ten))), (2, .int (nI (y))), (3, .int (nI 0))]) rfl ?_
    refine x_iload_n 54 hB d_M_taken_53 rfl rfl ?_
    refine x_if_ne 88 57 hB d_M_taken_54 (by decide) rfl (fun hc => absurd (by decide) hc) (fun _ => ?_)
    refine x_iload 59 hB d_M_taken_57 rfl rfl ?_
    refine x_if_ne 88 62 hB d_M_taken_59 (by decide) rfl (fun _ => ?_) (fun hc => absurd hc (by decide))
    refine x_aload_n 89 hB d_M_taken_88 rfl rfl ?_
    refine x_iconst (v := nI 0) 90 hB d_M_taken_89 rfl (by decide) ?_
    refine x_put 93 hB 0 (ws' := [(hm, .inr (5, [.int (re), .ref ms, .ref mf, .ref mc, .ref my, .ref mb, .ref mz, .ref mp, .ref mo, .ref mm, .ref ml, .ref md, .int (nI (wr)), .int (bI sp), .int (bI rp), .int (nI 0), .int (nI (gd)), .ref me, .ref mg, .int (la), .int (nI 0), .long (lst), .int 0])), (mc, .inl (E.2 1, 1024, .inl (cd))), (my, .inl (E.2 1, 1024, .inl (sy))), (mo, .inl (E.2 3, 2, .inl (pr2 (bI fo) (o1)))), (mm, .inl (E.2 1, 2, .inl (pr2 (nI (mk)) (m1)))), (md, .inl (E.2 1, 2, .inl (pr2 (nI (bd)) (b1))))]) fp_M_75_5 rfl (rfl) (rfl) (Nat.le_of_ble_eq_true rfl) rfl d_M_taken_90 rfl ?_
    refine x_aload_n 94 hB d_M_taken_93 rfl rfl ?_
    refine x_iload_n 95 hB d_M_taken_94 rfl rfl ?_
    refine x_aload_n 96 hB d_M_taken_95 rfl rfl ?_
    refine x_get 99 hB 0 fg_M_72_5 rfl rfl d_M_taken_96 rfl ?_
    refine x_callP (k' := 0) (n' := 0) (rest := [.ref hm]) (st' := [.int (bI (pbT ten (rp))), .ref hm]) 102 hB (x_pfS (av := [.int (nI (ten)), .int (bI rp)]) hB w_727 xHd_code w_7 w_725 w_726 nm_M_behind rfl d_M_taken_99) (c_M_behind l E ten hten (rp)) w_727 xHd_code w_7 [] rfl rfl ⟨by decide, by decide⟩ ⟨by decide, by decide⟩ rfl rfl (Nat.le_of_ble_eq_true rfl) d_M_taken_99 rfl rfl ?_
    refine x_put 105 hB 0 (ws' := [(hm, .inr (5, [.int (re), .ref ms, .ref mf, .ref mc, .ref my, .ref mb, .ref mz, .ref mp, .ref mo, .ref mm, .ref ml, .ref md, .int (nI (wr)), .int (bI sp), .int (bI (pbT ten (rp))), .int (nI 0), .int (nI (gd)), .ref me, .ref mg, .int (la), .int (nI 0), .long (lst), .int 0])), (mc, .inl (E.2 1, 1024, .inl (cd))), (my, .inl (E.2 1, 1024, .inl (sy))), (mo, .inl (E.2 3, 2, .inl (pr2 (bI fo) (o1)))), (mm, .inl (E.2 1, 2, .inl (pr2 (nI (mk)) (m1)))), (md, .inl (E.2 1, 2, .inl (pr2 (nI (bd)) (b1))))]) fp_M_72_5 rfl (nrb _) (by cases (pbT ten (rp)) <;> rfl) (Nat.le_of_ble_eq_true rfl) rfl d_M_taken_102 rfl ?_
    refine x_iload_n 106 hB d_M_taken_105 rfl rfl ?_
    refine x_if_ne 114 109 hB d_M_taken_106 (by decide) rfl (fun hc => absurd (by decide) hc) (fun _ => ?_)
    refine x_iload 111 hB d_M_taken_109 rfl rfl ?_
    refine x_if_ne 216 114 hB d_M_taken_111 (by decide) rfl (fun _ => ?_) (fun hc => absurd hc (by decide))
    refine x_aload_n 217 hB d_M_taken_216 rfl rfl ?_
    refine x_dup 218 hB d_M_taken_217 rfl rfl ?_
    refine x_get 221 hB 0 fg_M_78_5 rfl rfl d_M_taken_218 rfl ?_
    refine x_iconst (v := nI 1) 222 hB d_M_taken_221 rfl (by decide) ?_
    refine x_iadd 223 hB d_M_taken_222 rfl ?_
    refine x_top (v' := .int (nI (gd + 1))) (congrArg Value.int (nI_add gd 1)) ?_
    refine x_put 226 hB 0 (ws' := [(hm, .inr (5, [.int (re), .ref ms, .ref mf, .ref mc, .ref my, .ref mb, .ref mz, .ref mp, .ref mo, .ref mm, .ref ml, .ref md, .int (nI (wr)), .int (bI sp), .int (bI (pbT ten (rp))), .int (nI 0), .int (nI (gd + 1)), .ref me, .ref mg, .int (la), .int (nI 0), .long (lst), .int 0])), (mc, .inl (E.2 1, 1024, .inl (cd))), (my, .inl (E.2 1, 1024, .inl (sy))), (mo, .inl (E.2 3, 2, .inl (pr2 (bI fo) (o1)))), (mm, .inl (E.2 1, 2, .inl (pr2 (nI (mk)) (m1)))), (md, .inl (E.2 1, 2, .inl (pr2 (nI (bd)) (b1))))]) fp_M_78_5 rfl (rfl) (rfl) (Nat.le_of_ble_eq_true rfl) rfl d_M_taken_223 rfl ?_
    refine x_aload_n 227 hB d_M_taken_226 rfl rfl ?_
    refine x_get 230 hB 0 fg_M_78_5 rfl rfl d_M_taken_227 rfl ?_
    refine x_iconst (v := nI 4) 231 hB d_M_taken_230 rfl (by decide) ?_
    refine x_icmp_ne 266 234 hB d_M_taken_231 (by decide) rfl (fun h231 => ?_) (fun h231 => ?_)
    · skip
      have k231 : ¬ (gd + 1) = 4 := fun h => h231 ((nI_eq (by omega) (by omega)).mpr h)
      refine x_iload_n 267 hB d_M_taken_266 rfl rfl ?_
      exact x_iret hB (w' := [(hm, .inr (5, [.int (re), .ref ms, .ref mf, .ref mc, .ref my, .ref mb, .ref mz, .ref mp, .ref mo, .ref mm, .ref ml, .ref md, .int (nI (wr)), .int (bI sp), .int (bI (pbT ten (rp))), .int (nI 0), .int (nI (gd + 1)), .ref me, .ref mg, .int (la), .int (nI 0), .long (lst), .int 0])), (mc, .inl (E.2 1, 1024, .inl (cd))), (my, .inl (E.2 1, 1024, .inl (sy))), (mo, .inl (E.2 3, 2, .inl (pr2 (bI fo) (o1)))), (mm, .inl (E.2 1, 2, .inl (pr2 (nI (mk)) (m1)))), (md, .inl (E.2 1, 2, .inl (pr2 (nI (bd)) (b1))))]) hA [0, 1, 2, 3, 4, 5] rfl rfl (⟨rfl, by rw [mpF, rwF, if_neg (by omega), if_neg (by omega)]⟩) (by decide) (by decide) d_M_taken_267
    · skip
      have k231 : (gd + 1) = 4 := (nI_eq (by omega) (by omega)).mp h231
      refine x_aload_n 235 hB d_M_taken_234 rfl rfl ?_
      refine x_iconst (v := nI 0) 236 hB d_M_taken_235 rfl (by decide) ?_
      refine x_put 239 hB 0 (ws' := [(hm, .inr (5, [.int (re), .ref ms, .ref mf, .ref mc, .ref my, .ref mb, .ref mz, .ref mp, .ref mo, .ref mm, .ref ml, .ref md, .int (nI (wr)), .int (bI sp), .int (bI (pbT ten (rp))), .int (nI 0), .int (nI 0), .ref me, .ref mg, .int (la), .int (nI 0), .long (lst), .int 0])), (mc, .inl (E.2 1, 1024, .inl (cd))), (my, .inl (E.2 1, 1024, .inl (sy))), (mo, .inl (E.2 3, 2, .inl (pr2 (bI fo) (o1)))), (mm, .inl (E.2 1, 2, .inl (pr2 (nI (mk)) (m1)))), (md, .inl (E.2 1, 2, .inl (pr2 (nI (bd)) (b1))))]) fp_M_78_5 rfl (rfl) (rfl) (Nat.le_of_ble_eq_true rfl) rfl d_M_taken_236 rfl ?_
      refine x_aload_n 240 hB d_M_taken_239 rfl rfl ?_
      refine x_get 243 hB 0 fg_M_35_5 rfl rfl d_M_taken_240 rfl ?_
      refine x_iconst (v := nI 0) 244 hB d_M_taken_243 rfl (by decide) ?_
      refine x_aload_n 245 hB d_M_taken_244 rfl rfl ?_
      refine x_get 248 hB 0 fg_M_35_5 rfl rfl d_M_taken_245 rfl ?_
      refine x_iconst (v := nI 0) 249 hB d_M_taken_248 rfl (by decide) ?_
      refine x_iald 250 hB 4 rfl (by omega) (by decide) d_M_taken_249 rfl ?_
      refine x_top (v' := .int (nI (mk))) rfl ?_
      refine x_if_le 264 253 hB d_M_taken_250 (by decide) rfl (fun h250 => ?_) (fun h250 => ?_)
      · skip
        have k250 : mk = 0 := (le0 (by omega)).mp h250
        refine x_iconst (v := nI 0) 265 hB d_M_taken_264 rfl (by decide) ?_
        refine x_iast 266 hB 4 (ws' := [(hm, .inr (5, [.int (re), .ref ms, .ref mf, .ref mc, .ref my, .ref mb, .ref mz, .ref mp, .ref mo, .ref mm, .ref ml, .ref md, .int (nI (wr)), .int (bI sp), .int (bI (pbT ten (rp))), .int (nI 0), .int (nI 0), .ref me, .ref mg, .int (la), .int (nI 0), .long (lst), .int 0])), (mc, .inl (E.2 1, 1024, .inl (cd))), (my, .inl (E.2 1, 1024, .inl (sy))), (mo, .inl (E.2 3, 2, .inl (pr2 (bI fo) (o1)))), (mm, .inl (E.2 1, 2, .inl (pr2 (nI 0) (m1)))), (md, .inl (E.2 1, 2, .inl (pr2 (nI (bd)) (b1))))]) rfl (by omega) (by decide) (x' := nI 0) (rfl) (by rw [pr2_0]; rfl) d_M_taken_265 rfl ?_
        refine x_iload_n 267 hB d_M_taken_266 rfl rfl ?_
        exact x_iret hB (w' := [(hm, .inr (5, [.int (re), .ref ms, .ref mf, .ref mc, .ref my, .ref mb, .ref mz, .ref mp, .ref mo, .ref mm, .ref ml, .ref md, .int (nI (wr)), .int (bI sp), .int (bI (pbT ten (rp))), .int (nI 0), .int (nI 0), .ref me, .ref mg, .int (la), .int (nI 0), .long (lst), .int 0])), (mc, .inl (E.2 1, 1024, .inl (cd))), (my, .inl (E.2 1, 1024, .inl (sy))), (mo, .inl (E.2 3, 2, .inl (pr2 (bI fo) (o1)))), (mm, .inl (E.2 1, 2, .inl (pr2 (nI 0) (m1)))), (md, .inl (E.2 1, 2, .inl (pr2 (nI (bd)) (b1))))]) hA [0, 1, 2, 3, 4, 5] rfl rfl (⟨rfl, by rw [mpF, rwF, if_pos (by omega), if_pos (by omega), show mk - 1 = 0 by omega]⟩) (by decide) (by decide) d_M_taken_267
      · skip
        have k250 : 0 < mk := Nat.pos_of_ne_zero (fun h => h250 ((le0 (by omega)).mpr h))
        refine x_aload_n 254 hB d_M_taken_253 rfl rfl ?_
        refine x_get 257 hB 0 fg_M_35_5 rfl rfl d_M_taken_254 rfl ?_
        refine x_iconst (v := nI 0) 258 hB d_M_taken_257 rfl (by decide) ?_
        refine x_iald 259 hB 4 rfl (by omega) (by decide) d_M_taken_258 rfl ?_
        refine x_top (v' := .int (nI (mk))) rfl ?_
        refine x_iconst (v := nI 1) 260 hB d_M_taken_259 rfl (by decide) ?_
        refine x_isub 261 hB d_M_taken_260 rfl ?_
        refine x_top (v' := .int (nI (mk - 1))) (congrArg Value.int (pk_sub (by omega))) ?_
        refine x_goto 265 hB d_M_taken_261 (by decide) ?_
        refine x_iast 266 hB 4 (ws' := [(hm, .inr (5, [.int (re), .ref ms, .ref mf, .ref mc, .ref my, .ref mb, .ref mz, .ref mp, .ref mo, .ref mm, .ref ml, .ref md, .int (nI (wr)), .int (bI sp), .int (bI (pbT ten (rp))), .int (nI 0), .int (nI 0), .ref me, .ref mg, .int (la), .int (nI 0), .long (lst), .int 0])), (mc, .inl (E.2 1, 1024, .inl (cd))), (my, .inl (E.2 1, 1024, .inl (sy))), (mo, .inl (E.2 3, 2, .inl (pr2 (bI fo) (o1)))), (mm, .inl (E.2 1, 2, .inl (pr2 (nI (mk - 1)) (m1)))), (md, .inl (E.2 1, 2, .inl (pr2 (nI (bd)) (b1))))]) rfl (by omega) (by decide) (x' := nI (mk - 1)) (rfl) (by rw [pr2_0]; rfl) d_M_taken_265 rfl ?_
        refine x_iload_n 267 hB d_M_taken_266 rfl rfl ?_
        exact x_iret hB (w' := [(hm, .inr (5, [.int (re), .ref ms, .ref mf, .ref mc, .ref my, .ref mb, .ref mz, .ref mp, .ref mo, .ref mm, .ref ml, .ref md, .int (nI (wr)), .int (bI sp), .int (bI (pbT ten (rp))), .int (nI 0), .int (nI 0), .ref me, .ref mg, .int (la), .int (nI 0), .long (lst), .int 0])), (mc, .inl (E.2 1, 1024, .inl (cd))), (my, .inl (E.2 1, 1024, .inl (sy))), (mo, .inl (E.2 3, 2, .inl (pr2 (bI fo) (o1)))), (mm, .inl (E.2 1, 2, .inl (pr2 (nI (mk - 1)) (m1)))), (md, .inl (E.2 1, 2, .inl (pr2 (nI (bd)) (b1))))]) hA [0, 1, 2, 3, 4, 5] rfl rfl (⟨rfl, by rw [mpF, rwF, if_pos (by omega), if_pos (by omega)]⟩) (by decide) (by decide) d_M_taken_267
  refine x_aload_n 29 hB d_M_taken_28 rfl rfl ?_
  refine x_get 32 hB 0 fg_M_72_5 rfl rfl d_M_taken_29 rfl ?_
  refine x_if_eq 39 35 hB d_M_taken_32 (by decide) rfl (fun h32 => ?_) (fun h32 => ?_)
  · skip
    have k32 : rp = false := bI_0 h32
    refine x_iconst (v := nI 0) 40 hB d_M_taken_39 rfl (by decide) ?_
    refine x_top (v' := .int (nI (if rp then 1 else 0))) (congrArg Value.int (by rw [k32]; rfl)) ?_
    refine x_lv (lv' := [(0, .ref hm), (1, .int (nI (ten))), (2, .int (nI (y))), (3, .int (nI 0))]) [2, 3, 1, 0] rfl ?_
    exact J40 () trivial
  · skip
    have k32 : rp = true := bI_1 h32
    refine x_iconst (v := nI 1) 36 hB d_M_taken_35 rfl (by decide) ?_
    refine x_top (v' := .int (nI (if rp then 1 else 0))) (congrArg Value.int (by rw [k32]; rfl)) ?_
    refine x_goto 40 hB d_M_taken_36 (by decide) ?_
    refine x_lv (lv' := [(0, .ref hm), (1, .int (nI (ten))), (2, .int (nI (y))), (3, .int (nI 0))]) [2, 3, 1, 0] rfl ?_
    exact J40 () trivial
abbrev rm_M_taken_B : Room := { frames := 3, cells := 0, slots := 0, locals := 65 }
set_option maxHeartbeats 4000000 in
set_option maxRecDepth 100000 in
theorem c_M_taken_B (l : Launch) (E : xE) (hm ms mf mc my mb mz mp mo mm ml md me mg : Nat) (re : Int32) (wr : Nat) (sp rp fi : Bool) (gd : Nat) (la : Int32) (lst : Int64) (cd sy : Nat → Int32) (fo : Bool) (mk bd : Nat) (o1 m1 b1 : Int32) (ten : Nat) (hten : ten < 1024) (hm9 : mk < 4) (hg9 : gd < 4) (hs : sy ten = -1) : xC l E y_M_taken (.code y_M_taken prog_10_method_19_code 5 (some .int)) rm_M_taken_B [.ref hm, .int (nI (ten))] [(hm, .inr (5, [.int (re), .ref ms, .ref mf, .ref mc, .ref my, .ref mb, .ref mz, .ref mp, .ref mo, .ref mm, .ref ml, .ref md, .int (nI (wr)), .int (bI sp), .int (bI rp), .int (bI fi), .int (nI (gd)), .ref me, .ref mg, .int (la), .int (nI 0), .long (lst), .int 0])), (mc, .inl (E.2 1, 1024, .inl (cd))), (my, .inl (E.2 1, 1024, .inl (sy))), (mo, .inl (E.2 3, 2, .inl (pr2 (bI fo) (o1)))), (mm, .inl (E.2 1, 2, .inl (pr2 (nI (mk)) (m1)))), (md, .inl (E.2 1, 2, .inl (pr2 (nI (bd)) (b1))))] (xRet (some (.int (-2))) [(hm, .inr (5, [.int (re), .ref ms, .ref mf, .ref mc, .ref my, .ref mb, .ref mz, .ref mp, .ref mo, .ref mm, .ref ml, .ref md, .int (nI (wr)), .int (bI sp), .int (bI (pbT ten (rp))), .int (nI 0), .int (nI 0), .ref me, .ref mg, .int (la), .int (nI 0), .long (lst), .int 0])), (mc, .inl (E.2 1, 1024, .inl (cd))), (my, .inl (E.2 1, 1024, .inl (sy))), (mo, .inl (E.2 3, 2, .inl (pr2 (bI (fkF fo mk)) (o1)))), (mm, .inl (E.2 1, 2, .inl (pr2 (nI (mkF mk)) (m1)))), (md, .inl (E.2 1, 2, .inl (pr2 (nI (bd + 1)) (b1))))]) := by
  refine x_of' (own := "LineCoderModel") (mn := "taken") (lv := [(0, .ref hm), (1, .int (nI (ten)))]) (plainFor_of_name (by decide)) rfl rfl (Nat.le_of_ble_eq_true rfl) rfl ?_
  intro p_ e_ s_ m_ ar_ be_ me_ c_ A_ hA hB
  refine x_aload_n 1 hB d_M_taken_0 rfl rfl ?_
  refine x_get 4 hB 0 fg_M_19_5 rfl rfl d_M_taken_1 rfl ?_
  refine x_iload_n 5 hB d_M_taken_4 rfl rfl ?_
  refine x_iald 6 hB 2 rfl (hten) (by decide) d_M_taken_5 rfl ?_
  refine x_top (v' := .int ((-1 : Int32))) (congrArg Value.int (hs)) ?_
  refine x_istore_n 7 hB d_M_taken_6 rfl (by decide) (lv' := [(2, .int ((-1 : Int32))), (0, .ref hm), (1, .int (nI (ten)))]) rfl ?_
  refine x_iload_n 8 hB d_M_taken_7 rfl rfl ?_
  refine x_if_ge 15 11 hB d_M_taken_8 (by decide) rfl (fun hc => absurd hc (by decide)) (fun _ => ?_)
  refine x_iconst (v := nI 1) 12 hB d_M_taken_11 rfl (by decide) ?_
  refine x_goto 16 hB d_M_taken_12 (by decide) ?_
  refine x_istore_n 17 hB d_M_taken_16 rfl (by decide) (lv' := [(3, .int (nI 1)), (2, .int ((-1 : Int32))), (0, .ref hm), (1, .int (nI (ten)))]) rfl ?_
  refine x_iload_n 18 hB d_M_taken_17 rfl rfl ?_
  refine x_if_ne 50 21 hB d_M_taken_18 (by decide) rfl (fun _ => ?_) (fun hc => absurd hc (by decide))
  refine x_iconst (v := nI 0) 51 hB d_M_taken_50 rfl (by decide) ?_
  refine x_istore 53 hB d_M_taken_51 rfl (by decide) (lv' := [(4, .int (nI 0)), (3, .int (nI 1)), (2, .int ((-1 : Int32))), (0, .ref hm), (1, .int (nI (ten)))]) rfl ?_
  refine x_iload_n 54 hB d_M_taken_53 rfl rfl ?_
  refine x_if_ne 88 57 hB d_M_taken_54 (by decide) rfl (fun _ => ?_) (fun hc => absurd hc (by decide))
  refine x_aload_n 89 hB d_M_taken_88 rfl rfl ?_
  refine x_iconst (v := nI 0) 90 hB d_M_taken_89 rfl (by decide) ?_
  refine x_put 93 hB 0 (ws' := [(hm, .inr (5, [.int (re), .ref ms, .ref mf, .ref mc, .ref my, .ref mb, .ref mz, .ref mp, .ref mo, .ref mm, .ref ml, .ref md, .int (nI (wr)), .int (bI sp), .int (bI rp), .int (nI 0), .int (nI (gd)), .ref me, .ref mg, .int (la), .int (nI 0), .long (lst), .int 0])), (mc, .inl (E.2 1, 1024, .inl (cd))), (my, .inl (E.2 1, 1024, .inl (sy))), (mo, .inl (E.2 3, 2, .inl (pr2 (bI fo) (o1)))), (mm, .inl (E.2 1, 2, .inl (pr2 (nI (mk)) (m1)))), (md, .inl (E.2 1, 2, .inl (pr2 (nI (bd)) (b1))))]) fp_M_75_5 rfl (rfl) (rfl) (Nat.le_of_ble_eq_true rfl) rfl d_M_taken_90 rfl ?_
  refine x_aload_n 94 hB d_M_taken_93 rfl rfl ?_
  refine x_iload_n 95 hB d_M_taken_94 rfl rfl ?_
  refine x_aload_n 96 hB d_M_taken_95 rfl rfl ?_
  refine x_get 99 hB 0 fg_M_72_5 rfl rfl d_M_taken_96 rfl ?_
  refine x_callP (k' := 0) (n' := 0) (rest := [.ref hm]) (st' := [.int (bI (pbT ten (rp))), .ref hm]) 102 hB (x_pfS (av := [.int (nI (ten)), .int (bI rp)]) hB w_727 xHd_code w_7 w_725 w_726 nm_M_behind rfl d_M_taken_99) (c_M_behind l E ten hten (rp)) w_727 xHd_code w_7 [] rfl rfl ⟨by decide, by decide⟩ ⟨by decide, by decide⟩ rfl rfl (Nat.le_of_ble_eq_true rfl) d_M_taken_99 rfl rfl ?_
  refine x_put 105 hB 0 (ws' := [(hm, .inr (5, [.int (re), .ref ms, .ref mf, .ref mc, .ref my, .ref mb, .ref mz, .ref mp, .ref mo, .ref mm, .ref ml, .ref md, .int (nI (wr)), .int (bI sp), .int (bI (pbT ten (rp))), .int (nI 0), .int (nI (gd)), .ref me, .ref mg, .int (la), .int (nI 0), .long (lst), .int 0])), (mc, .inl (E.2 1, 1024, .inl (cd))), (my, .inl (E.2 1, 1024, .inl (sy))), (mo, .inl (E.2 3, 2, .inl (pr2 (bI fo) (o1)))), (mm, .inl (E.2 1, 2, .inl (pr2 (nI (mk)) (m1)))), (md, .inl (E.2 1, 2, .inl (pr2 (nI (bd)) (b1))))]) fp_M_72_5 rfl (nrb _) (by cases (pbT ten (rp)) <;> rfl) (Nat.le_of_ble_eq_true rfl) rfl d_M_taken_102 rfl ?_
  refine x_iload_n 106 hB d_M_taken_105 rfl rfl ?_
  refine x_if_ne 114 109 hB d_M_taken_106 (by decide) rfl (fun _ => ?_) (fun hc => absurd hc (by decide))
  refine x_aload_n 115 hB d_M_taken_114 rfl rfl ?_
  refine x_get 118 hB 0 fg_M_41_5 rfl rfl d_M_taken_115 rfl ?_
  refine x_iconst (v := nI 0) 119 hB d_M_taken_118 rfl (by decide) ?_
  refine x_iload_n 120 hB d_M_taken_119 rfl rfl ?_
  refine x_if_eq 134 123 hB d_M_taken_120 (by decide) rfl (fun hc => absurd hc (by decide)) (fun _ => ?_)
  refine x_aload_n 124 hB d_M_taken_123 rfl rfl ?_
  refine x_get 127 hB 0 fg_M_41_5 rfl rfl d_M_taken_124 rfl ?_
  refine x_iconst (v := nI 0) 128 hB d_M_taken_127 rfl (by decide) ?_
  refine x_iald 129 hB 5 rfl (by omega) (by decide) d_M_taken_128 rfl ?_
  refine x_top (v' := .int (nI (bd))) rfl ?_
  refine x_iconst (v := nI 1) 130 hB d_M_taken_129 rfl (by decide) ?_
  refine x_iadd 131 hB d_M_taken_130 rfl ?_
  refine x_top (v' := .int (nI (bd + 1))) (congrArg Value.int (nI_add bd 1)) ?_
  refine x_goto 140 hB d_M_taken_131 (by decide) ?_
  refine x_iast 141 hB 5 (ws' := [(hm, .inr (5, [.int (re), .ref ms, .ref mf, .ref mc, .ref my, .ref mb, .ref mz, .ref mp, .ref mo, .ref mm, .ref ml, .ref md, .int (nI (wr)), .int (bI sp), .int (bI (pbT ten (rp))), .int (nI 0), .int (nI (gd)), .ref me, .ref mg, .int (la), .int (nI 0), .long (lst), .int 0])), (mc, .inl (E.2 1, 1024, .inl (cd))), (my, .inl (E.2 1, 1024, .inl (sy))), (mo, .inl (E.2 3, 2, .inl (pr2 (bI fo) (o1)))), (mm, .inl (E.2 1, 2, .inl (pr2 (nI (mk)) (m1)))), (md, .inl (E.2 1, 2, .inl (pr2 (nI (bd + 1)) (b1))))]) rfl (by omega) (by decide) (x' := nI (bd + 1)) (rfl) (by rw [pr2_0]; rfl) d_M_taken_140 rfl ?_
  refine x_aload_n 142 hB d_M_taken_141 rfl rfl ?_
  refine x_iload_n 143 hB d_M_taken_142 rfl rfl ?_
  refine x_if_eq 153 146 hB d_M_taken_143 (by decide) rfl (fun hc => absurd hc (by decide)) (fun _ => ?_)
  refine x_aload_n 147 hB d_M_taken_146 rfl rfl ?_
  refine x_get 150 hB 0 fg_M_65_5 rfl rfl d_M_taken_147 rfl ?_
  refine x_goto 159 hB d_M_taken_150 (by decide) ?_
  refine x_put 162 hB 0 (ws' := [(hm, .inr (5, [.int (re), .ref ms, .ref mf, .ref mc, .ref my, .ref mb, .ref mz, .ref mp, .ref mo, .ref mm, .ref ml, .ref md, .int (nI (wr)), .int (bI sp), .int (bI (pbT ten (rp))), .int (nI 0), .int (nI (gd)), .ref me, .ref mg, .int (la), .int (nI 0), .long (lst), .int 0])), (mc, .inl (E.2 1, 1024, .inl (cd))), (my, .inl (E.2 1, 1024, .inl (sy))), (mo, .inl (E.2 3, 2, .inl (pr2 (bI fo) (o1)))), (mm, .inl (E.2 1, 2, .inl (pr2 (nI (mk)) (m1)))), (md, .inl (E.2 1, 2, .inl (pr2 (nI (bd + 1)) (b1))))]) fp_M_65_5 rfl (rfl) (rfl) (Nat.le_of_ble_eq_true rfl) rfl d_M_taken_159 rfl ?_
  refine x_aload_n 163 hB d_M_taken_162 rfl rfl ?_
  refine x_iconst (v := nI 0) 164 hB d_M_taken_163 rfl (by decide) ?_
  refine x_put 167 hB 0 (ws' := [(hm, .inr (5, [.int (re), .ref ms, .ref mf, .ref mc, .ref my, .ref mb, .ref mz, .ref mp, .ref mo, .ref mm, .ref ml, .ref md, .int (nI (wr)), .int (bI sp), .int (bI (pbT ten (rp))), .int (nI 0), .int (nI 0), .ref me, .ref mg, .int (la), .int (nI 0), .long (lst), .int 0])), (mc, .inl (E.2 1, 1024, .inl (cd))), (my, .inl (E.2 1, 1024, .inl (sy))), (mo, .inl (E.2 3, 2, .inl (pr2 (bI fo) (o1)))), (mm, .inl (E.2 1, 2, .inl (pr2 (nI (mk)) (m1)))), (md, .inl (E.2 1, 2, .inl (pr2 (nI (bd + 1)) (b1))))]) fp_M_78_5 rfl (rfl) (rfl) (Nat.le_of_ble_eq_true rfl) rfl d_M_taken_164 rfl ?_
  refine x_aload_n 168 hB d_M_taken_167 rfl rfl ?_
  refine x_get 171 hB 0 fg_M_35_5 rfl rfl d_M_taken_168 rfl ?_
  refine x_iconst (v := nI 0) 172 hB d_M_taken_171 rfl (by decide) ?_
  refine x_dup2 173 hB d_M_taken_172 rfl rfl rfl ?_
  refine x_iald 174 hB 4 rfl (by omega) (by decide) d_M_taken_173 rfl ?_
  refine x_top (v' := .int (nI (mk))) rfl ?_
  refine x_iconst (v := nI 1) 175 hB d_M_taken_174 rfl (by decide) ?_
  refine x_iadd 176 hB d_M_taken_175 rfl ?_
  refine x_top (v' := .int (nI (mk + 1))) (congrArg Value.int (nI_add mk 1)) ?_
  refine x_iast 177 hB 4 (ws' := [(hm, .inr (5, [.int (re), .ref ms, .ref mf, .ref mc, .ref my, .ref mb, .ref mz, .ref mp, .ref mo, .ref mm, .ref ml, .ref md, .int (nI (wr)), .int (bI sp), .int (bI (pbT ten (rp))), .int (nI 0), .int (nI 0), .ref me, .ref mg, .int (la), .int (nI 0), .long (lst), .int 0])), (mc, .inl (E.2 1, 1024, .inl (cd))), (my, .inl (E.2 1, 1024, .inl (sy))), (mo, .inl (E.2 3, 2, .inl (pr2 (bI fo) (o1)))), (mm, .inl (E.2 1, 2, .inl (pr2 (nI (mk + 1)) (m1)))), (md, .inl (E.2 1, 2, .inl (pr2 (nI (bd + 1)) (b1))))]) rfl (by omega) (by decide) (x' := nI (mk + 1)) (rfl) (by rw [pr2_0]; rfl) d_M_taken_176 rfl ?_
  refine x_aload_n 178 hB d_M_taken_177 rfl rfl ?_
  refine x_get 181 hB 0 fg_M_35_5 rfl rfl d_M_taken_178 rfl ?_
  refine x_iconst (v := nI 0) 182 hB d_M_taken_181 rfl (by decide) ?_
  refine x_iald 183 hB 4 rfl (by omega) (by decide) d_M_taken_182 rfl ?_
  refine x_top (v' := .int (nI (mk + 1))) rfl ?_
  refine x_iconst (v := nI 4) 184 hB d_M_taken_183 rfl (by decide) ?_
  refine x_icmp_ne 201 187 hB d_M_taken_184 (by decide) rfl (fun h184 => ?_) (fun h184 => ?_)
  · skip
    have k184 : ¬ (mk + 1) = 4 := fun h => h184 ((nI_eq (by omega) (by omega)).mpr h)
    refine x_iload_n 202 hB d_M_taken_201 rfl rfl ?_
    refine x_if_eq 210 205 hB d_M_taken_202 (by decide) rfl (fun hc => absurd hc (by decide)) (fun _ => ?_)
    refine x_bipush (v := (-2 : Int32)) 207 hB d_M_taken_205 rfl (by decide) ?_
    refine x_goto 215 hB d_M_taken_207 (by decide) ?_
    exact x_iret hB (w' := [(hm, .inr (5, [.int (re), .ref ms, .ref mf, .ref mc, .ref my, .ref mb, .ref mz, .ref mp, .ref mo, .ref mm, .ref ml, .ref md, .int (nI (wr)), .int (bI sp), .int (bI (pbT ten (rp))), .int (nI 0), .int (nI 0), .ref me, .ref mg, .int (la), .int (nI 0), .long (lst), .int 0])), (mc, .inl (E.2 1, 1024, .inl (cd))), (my, .inl (E.2 1, 1024, .inl (sy))), (mo, .inl (E.2 3, 2, .inl (pr2 (bI fo) (o1)))), (mm, .inl (E.2 1, 2, .inl (pr2 (nI (mk + 1)) (m1)))), (md, .inl (E.2 1, 2, .inl (pr2 (nI (bd + 1)) (b1))))]) hA [0, 1, 2, 3, 4, 5] rfl rfl (⟨rfl, by rw [mkF, fkF, if_pos (by omega), if_pos (by omega)]⟩) (by decide) (by decide) d_M_taken_215
  · skip
    have k184 : (mk + 1) = 4 := (nI_eq (by omega) (by omega)).mp h184
    refine x_aload_n 188 hB d_M_taken_187 rfl rfl ?_
    refine x_get 191 hB 0 fg_M_35_5 rfl rfl d_M_taken_188 rfl ?_
    refine x_iconst (v := nI 0) 192 hB d_M_taken_191 rfl (by decide) ?_
    refine x_iconst (v := nI 0) 193 hB d_M_taken_192 rfl (by decide) ?_
    refine x_iast 194 hB 4 (ws' := [(hm, .inr (5, [.int (re), .ref ms, .ref mf, .ref mc, .ref my, .ref mb, .ref mz, .ref mp, .ref mo, .ref mm, .ref ml, .ref md, .int (nI (wr)), .int (bI sp), .int (bI (pbT ten (rp))), .int (nI 0), .int (nI 0), .ref me, .ref mg, .int (la), .int (nI 0), .long (lst), .int 0])), (mc, .inl (E.2 1, 1024, .inl (cd))), (my, .inl (E.2 1, 1024, .inl (sy))), (mo, .inl (E.2 3, 2, .inl (pr2 (bI fo) (o1)))), (mm, .inl (E.2 1, 2, .inl (pr2 (nI 0) (m1)))), (md, .inl (E.2 1, 2, .inl (pr2 (nI (bd + 1)) (b1))))]) rfl (by omega) (by decide) (x' := nI 0) (rfl) (by rw [pr2_0]; rfl) d_M_taken_193 rfl ?_
    refine x_aload_n 195 hB d_M_taken_194 rfl rfl ?_
    refine x_get 198 hB 0 fg_M_31_5 rfl rfl d_M_taken_195 rfl ?_
    refine x_iconst (v := nI 0) 199 hB d_M_taken_198 rfl (by decide) ?_
    refine x_iconst (v := nI 0) 200 hB d_M_taken_199 rfl (by decide) ?_
    refine x_zast 201 hB 3 (ws' := [(hm, .inr (5, [.int (re), .ref ms, .ref mf, .ref mc, .ref my, .ref mb, .ref mz, .ref mp, .ref mo, .ref mm, .ref ml, .ref md, .int (nI (wr)), .int (bI sp), .int (bI (pbT ten (rp))), .int (nI 0), .int (nI 0), .ref me, .ref mg, .int (la), .int (nI 0), .long (lst), .int 0])), (mc, .inl (E.2 1, 1024, .inl (cd))), (my, .inl (E.2 1, 1024, .inl (sy))), (mo, .inl (E.2 3, 2, .inl (pr2 (nI 0) (o1)))), (mm, .inl (E.2 1, 2, .inl (pr2 (nI 0) (m1)))), (md, .inl (E.2 1, 2, .inl (pr2 (nI (bd + 1)) (b1))))]) rfl (by omega) (by decide) (x' := nI 0) (by decide) (by rw [pr2_0]; rfl) d_M_taken_200 rfl ?_
    refine x_iload_n 202 hB d_M_taken_201 rfl rfl ?_
    refine x_if_eq 210 205 hB d_M_taken_202 (by decide) rfl (fun hc => absurd hc (by decide)) (fun _ => ?_)
    refine x_bipush (v := (-2 : Int32)) 207 hB d_M_taken_205 rfl (by decide) ?_
    refine x_goto 215 hB d_M_taken_207 (by decide) ?_
    exact x_iret hB (w' := [(hm, .inr (5, [.int (re), .ref ms, .ref mf, .ref mc, .ref my, .ref mb, .ref mz, .ref mp, .ref mo, .ref mm, .ref ml, .ref md, .int (nI (wr)), .int (bI sp), .int (bI (pbT ten (rp))), .int (nI 0), .int (nI 0), .ref me, .ref mg, .int (la), .int (nI 0), .long (lst), .int 0])), (mc, .inl (E.2 1, 1024, .inl (cd))), (my, .inl (E.2 1, 1024, .inl (sy))), (mo, .inl (E.2 3, 2, .inl (pr2 (nI 0) (o1)))), (mm, .inl (E.2 1, 2, .inl (pr2 (nI 0) (m1)))), (md, .inl (E.2 1, 2, .inl (pr2 (nI (bd + 1)) (b1))))]) hA [0, 1, 2, 3, 4, 5] rfl rfl (⟨rfl, by rw [mkF, fkF, if_neg (by omega), if_neg (by omega)]; rfl⟩) (by decide) (by decide) d_M_taken_215
abbrev rm_M_taken_C : Room := { frames := 3, cells := 0, slots := 0, locals := 65 }
set_option maxHeartbeats 4000000 in
set_option maxRecDepth 100000 in
theorem c_M_taken_C (l : Launch) (E : xE) (hm ms mf mc my mb mz mp mo mm ml md me mg : Nat) (re : Int32) (wr : Nat) (sp rp fi : Bool) (gd : Nat) (la : Int32) (lst : Int64) (cd sy : Nat → Int32) (fo : Bool) (mk bd : Nat) (o1 m1 b1 : Int32) (ten : Nat) (hten : ten < 1024) (hm9 : mk < 4) (hg9 : gd < 4) (y : Nat) (hy : y < 512) (hs : sy ten = nI y) (hcd : ¬ cd (2 * y + (if rp then 1 else 0)) = nI ten) : xC l E y_M_taken (.code y_M_taken prog_10_method_19_code 5 (some .int)) rm_M_taken_C [.ref hm, .int (nI (ten))] [(hm, .inr (5, [.int (re), .ref ms, .ref mf, .ref mc, .ref my, .ref mb, .ref mz, .ref mp, .ref mo, .ref mm, .ref ml, .ref md, .int (nI (wr)), .int (bI sp), .int (bI rp), .int (nI 1), .int (nI (gd)), .ref me, .ref mg, .int (la), .int (nI 0), .long (lst), .int 0])), (mc, .inl (E.2 1, 1024, .inl (cd))), (my, .inl (E.2 1, 1024, .inl (sy))), (mo, .inl (E.2 3, 2, .inl (pr2 (bI fo) (o1)))), (mm, .inl (E.2 1, 2, .inl (pr2 (nI (mk)) (m1)))), (md, .inl (E.2 1, 2, .inl (pr2 (nI (bd)) (b1))))] (xRet (some (.int (nI (y)))) [(hm, .inr (5, [.int (re), .ref ms, .ref mf, .ref mc, .ref my, .ref mb, .ref mz, .ref mp, .ref mo, .ref mm, .ref ml, .ref md, .int (nI (wr)), .int (bI sp), .int (bI (pbT ten (!rp))), .int (nI 0), .int (nI (rwF gd)), .ref me, .ref mg, .int (la), .int (nI 0), .long (lst), .int 0])), (mc, .inl (E.2 1, 1024, .inl (cd))), (my, .inl (E.2 1, 1024, .inl (sy))), (mo, .inl (E.2 3, 2, .inl (pr2 (bI fo) (o1)))), (mm, .inl (E.2 1, 2, .inl (pr2 (nI (mpF mk gd)) (m1)))), (md, .inl (E.2 1, 2, .inl (pr2 (nI (bd)) (b1))))]) := by
  refine x_of' (own := "LineCoderModel") (mn := "taken") (lv := [(0, .ref hm), (1, .int (nI (ten)))]) (plainFor_of_name (by decide)) rfl rfl (Nat.le_of_ble_eq_true rfl) rfl ?_
  intro p_ e_ s_ m_ ar_ be_ me_ c_ A_ hA hB
  refine x_aload_n 1 hB d_M_taken_0 rfl rfl ?_
  refine x_get 4 hB 0 fg_M_19_5 rfl rfl d_M_taken_1 rfl ?_
  refine x_iload_n 5 hB d_M_taken_4 rfl rfl ?_
  refine x_iald 6 hB 2 rfl (hten) (by decide) d_M_taken_5 rfl ?_
  refine x_top (v' := .int (nI (y))) (congrArg Value.int (hs)) ?_
  refine x_istore_n 7 hB d_M_taken_6 rfl (by decide) (lv' := [(2, .int (nI (y))), (0, .ref hm), (1, .int (nI (ten)))]) rfl ?_
  refine x_iload_n 8 hB d_M_taken_7 rfl rfl ?_
  refine x_if_ge 15 11 hB d_M_taken_8 (by decide) rfl (fun _ => ?_) (fun hc => absurd (nI_pos' (by omega)) hc)
  refine x_iconst (v := nI 0) 16 hB d_M_taken_15 rfl (by decide) ?_
  refine x_istore_n 17 hB d_M_taken_16 rfl (by decide) (lv' := [(3, .int (nI 0)), (2, .int (nI (y))), (0, .ref hm), (1, .int (nI (ten)))]) rfl ?_
  refine x_iload_n 18 hB d_M_taken_17 rfl rfl ?_
  refine x_if_ne 50 21 hB d_M_taken_18 (by decide) rfl (fun hc => absurd (by decide) hc) (fun _ => ?_)
  refine x_aload_n 22 hB d_M_taken_21 rfl rfl ?_
  refine x_get 25 hB 0 fg_M_16_5 rfl rfl d_M_taken_22 rfl ?_
  refine x_iconst (v := nI 2) 26 hB d_M_taken_25 rfl (by decide) ?_
  refine x_iload_n 27 hB d_M_taken_26 rfl rfl ?_
  refine x_imul 28 hB d_M_taken_27 rfl ?_
  refine x_top (v' := .int (nI (2 * y))) (congrArg Value.int (pk_mul _ _)) ?_
  refine x_join 40 (fun _u : Unit => True) (fun _u : Unit => [(hm, .inr (5, [.int (re), .ref ms, .ref mf, .ref mc, .ref my, .ref mb, .ref mz, .ref mp, .ref mo, .ref mm, .ref ml, .ref md, .int (nI (wr)), .int (bI sp), .int (bI rp), .int (nI 1), .int (nI (gd)), .ref me, .ref mg, .int (la), .int (nI 0), .long (lst), .int 0])), (mc, .inl (E.2 1, 1024, .inl (cd))), (my, .inl (E.2 1, 1024, .inl (sy))), (mo, .inl (E.2 3, 2, .inl (pr2 (bI fo) (o1)))), (mm, .inl (E.2 1, 2, .inl (pr2 (nI (mk)) (m1)))), (md, .inl (E.2 1, 2, .inl (pr2 (nI (bd)) (b1))))]) (fun _u : Unit => [(0, .ref hm), (1, .int (nI (ten))), (2, .int (nI (y))), (3, .int (nI 0))]) (fun _u : Unit => [.int (nI (if rp then 1 else 0)), .int (nI (2 * y)), .ref mc]) (fun _u hJ40 => ?_) (fun J40 => ?_)
  · skip
    refine x_iadd 41 hB d_M_taken_40 rfl ?_
    refine x_top (v' := .int (nI (2 * y + (if rp then 1 else 0)))) (congrArg Value.int (nI_add _ _)) ?_
    have hix : 2 * y + (if rp then 1 else 0) < 1024 := by split <;> omega
    refine x_iald 42 hB 1 rfl (hix) (by decide) d_M_taken_41 rfl ?_
    refine x_iload_n 43 hB d_M_taken_42 rfl rfl ?_
    refine x_icmp_ne 50 46 hB d_M_taken_43 (by decide) rfl (fun _ => ?_) (fun hc => absurd hc (hcd))
    refine x_iconst (v := nI 0) 51 hB d_M_taken_50 rfl (by decide) ?_
    refine x_istore 53 hB d_M_taken_51 rfl (by decide) (lv' := [(4, .int (nI 0)), (0, .ref hm), (1, .int (nI (ten))), (2, .int (nI (y))), (3, .int (nI 0))]) rfl ?_
    refine x_iload_n 54 hB d_M_taken_53 rfl rfl ?_
    refine x_if_ne 88 57 hB d_M_taken_54 (by decide) rfl (fun hc => absurd (by decide) hc) (fun _ => ?_)
    refine x_iload 59 hB d_M_taken_57 rfl rfl ?_
    refine x_if_ne 88 62 hB d_M_taken_59 (by decide) rfl (fun hc => absurd (by decide) hc) (fun _ => ?_)
    refine x_aload_n 63 hB d_M_taken_62 rfl rfl ?_
    refine x_get 66 hB 0 fg_M_75_5 rfl rfl d_M_taken_63 rfl ?_
    refine x_if_eq 88 69 hB d_M_taken_66 (by decide) rfl (fun hc => absurd hc (by decide)) (fun _ => ?_)
    refine x_aload_n 70 hB d_M_taken_69 rfl rfl ?_
    refine x_join 82 (fun _u : Unit => True) (fun _u : Unit => [(hm, .inr (5, [.int (re), .ref ms, .ref mf, .ref mc, .ref my, .ref mb, .ref mz, .ref mp, .ref mo, .ref mm, .ref ml, .ref md, .int (nI (wr)), .int (bI sp), .int (bI rp), .int (nI 1), .int (nI (gd)), .ref me, .ref mg, .int (la), .int (nI 0), .long (lst), .int 0])), (mc, .inl (E.2 1, 1024, .inl (cd))), (my, .inl (E.2 1, 1024, .inl (sy))), (mo, .inl (E.2 3, 2, .inl (pr2 (bI fo) (o1)))), (mm, .inl (E.2 1, 2, .inl (pr2 (nI (mk)) (m1)))), (md, .inl (E.2 1, 2, .inl (pr2 (nI (bd)) (b1))))]) (fun _u : Unit => [(0, .ref hm), (1, .int (nI (ten))), (2, .int (nI (y))), (3, .int (nI 0)), (4, .int (nI 0))]) (fun _u : Unit => [.int (bI (!rp)), .ref hm]) (fun _u hJ82 => ?_) (fun J82 => ?_)
    · skip
      refine x_put 85 hB 0 (ws' := [(hm, .inr (5, [.int (re), .ref ms, .ref mf, .ref mc, .ref my, .ref mb, .ref mz, .ref mp, .ref mo, .ref mm, .ref ml, .ref md, .int (nI (wr)), .int (bI sp), .int (bI (!rp)), .int (nI 1), .int (nI (gd)), .ref me, .ref mg, .int (la), .int (nI 0), .long (lst), .int 0])), (mc, .inl (E.2 1, 1024, .inl (cd))), (my, .inl (E.2 1, 1024, .inl (sy))), (mo, .inl (E.2 3, 2, .inl (pr2 (bI fo) (o1)))), (mm, .inl (E.2 1, 2, .inl (pr2 (nI (mk)) (m1)))), (md, .inl (E.2 1, 2, .inl (pr2 (nI (bd)) (b1))))]) fp_M_72_5 rfl (nrb _) (by cases rp <;> rfl) (Nat.le_of_ble_eq_true rfl) rfl d_M_taken_82 rfl ?_
      refine x_iconst (v := nI 1) 86 hB d_M_taken_85 rfl (by decide) ?_
      refine x_istore 88 hB d_M_taken_86 rfl (by decide) (lv' := [(4, .int (nI 1)), (0, .ref hm), (1, .int (nI (ten))), (2, .int (nI (y))), (3, .int (nI 0))]) rfl ?_
      refine x_aload_n 89 hB d_M_taken_88 rfl rfl ?_
      refine x_iconst (v := nI 0) 90 hB d_M_taken_89 rfl (by decide) ?_
      refine x_put 93 hB 0 (ws' := [(hm, .inr (5, [.int (re), .ref ms, .ref mf, .ref mc, .ref my, .ref mb, .ref mz, .ref mp, .ref mo, .ref mm, .ref ml, .ref md, .int (nI (wr)), .int (bI sp), .int (bI (!rp)), .int (nI 0), .int (nI (gd)), .ref me, .ref mg, .int (la), .int (nI 0), .long (lst), .int 0])), (mc, .inl (E.2 1, 1024, .inl (cd))), (my, .inl (E.2 1, 1024, .inl (sy))), (mo, .inl (E.2 3, 2, .inl (pr2 (bI fo) (o1)))), (mm, .inl (E.2 1, 2, .inl (pr2 (nI (mk)) (m1)))), (md, .inl (E.2 1, 2, .inl (pr2 (nI (bd)) (b1))))]) fp_M_75_5 rfl (rfl) (rfl) (Nat.le_of_ble_eq_true rfl) rfl d_M_taken_90 rfl ?_
      refine x_aload_n 94 hB d_M_taken_93 rfl rfl ?_
      refine x_iload_n 95 hB d_M_taken_94 rfl rfl ?_
      refine x_aload_n 96 hB d_M_taken_95 rfl rfl ?_
      refine x_get 99 hB 0 fg_M_72_5 rfl rfl d_M_taken_96 rfl ?_
      refine x_callP (k' := 0) (n' := 0) (rest := [.ref hm]) (st' := [.int (bI (pbT ten (!rp))), .ref hm]) 102 hB (x_pfS (av := [.int (nI (ten)), .int (bI (!rp))]) hB w_727 xHd_code w_7 w_725 w_726 nm_M_behind rfl d_M_taken_99) (c_M_behind l E ten hten (!rp)) w_727 xHd_code w_7 [] rfl rfl ⟨by decide, by decide⟩ ⟨by decide, by decide⟩ rfl rfl (Nat.le_of_ble_eq_true rfl) d_M_taken_99 rfl rfl ?_
      refine x_put 105 hB 0 (ws' := [(hm, .inr (5, [.int (re), .ref ms, .ref mf, .ref mc, .ref my, .ref mb, .ref mz, .ref mp, .ref mo, .ref mm, .ref ml, .ref md, .int (nI (wr)), .int (bI sp), .int (bI (pbT ten (!rp))), .int (nI 0), .int (nI (gd)), .ref me, .ref mg, .int (la), .int (nI 0), .long (lst), .int 0])), (mc, .inl (E.2 1, 1024, .inl (cd))), (my, .inl (E.2 1, 1024, .inl (sy))), (mo, .inl (E.2 3, 2, .inl (pr2 (bI fo) (o1)))), (mm, .inl (E.2 1, 2, .inl (pr2 (nI (mk)) (m1)))), (md, .inl (E.2 1, 2, .inl (pr2 (nI (bd)) (b1))))]) fp_M_72_5 rfl (nrb _) (by cases (pbT ten (!rp)) <;> rfl) (Nat.le_of_ble_eq_true rfl) rfl d_M_taken_102 rfl ?_
      refine x_iload_n 106 hB d_M_taken_105 rfl rfl ?_
      refine x_if_ne 114 109 hB d_M_taken_106 (by decide) rfl (fun hc => absurd (by decide) hc) (fun _ => ?_)
      refine x_iload 111 hB d_M_taken_109 rfl rfl ?_
      refine x_if_ne 216 114 hB d_M_taken_111 (by decide) rfl (fun _ => ?_) (fun hc => absurd hc (by decide))
      refine x_aload_n 217 hB d_M_taken_216 rfl rfl ?_
      refine x_dup 218 hB d_M_taken_217 rfl rfl ?_
      refine x_get 221 hB 0 fg_M_78_5 rfl rfl d_M_taken_218 rfl ?_
      refine x_iconst (v := nI 1) 222 hB d_M_taken_221 rfl (by decide) ?_
      refine x_iadd 223 hB d_M_taken_222 rfl ?_
      refine x_top (v' := .int (nI (gd + 1))) (congrArg Value.int (nI_add gd 1)) ?_
      refine x_put 226 hB 0 (ws' := [(hm, .inr (5, [.int (re), .ref ms, .ref mf, .ref mc, .ref my, .ref mb, .ref mz, .ref mp, .ref mo, .ref mm, .ref ml, .ref md, .int (nI (wr)), .int (bI sp), .int (bI (pbT ten (!rp))), .int (nI 0), .int (nI (gd + 1)), .ref me, .ref mg, .int (la), .int (nI 0), .long (lst), .int 0])), (mc, .inl (E.2 1, 1024, .inl (cd))), (my, .inl (E.2 1, 1024, .inl (sy))), (mo, .inl (E.2 3, 2, .inl (pr2 (bI fo) (o1)))), (mm, .inl (E.2 1, 2, .inl (pr2 (nI (mk)) (m1)))), (md, .inl (E.2 1, 2, .inl (pr2 (nI (bd)) (b1))))]) fp_M_78_5 rfl (rfl) (rfl) (Nat.le_of_ble_eq_true rfl) rfl d_M_taken_223 rfl ?_
      refine x_aload_n 227 hB d_M_taken_226 rfl rfl ?_
      refine x_get 230 hB 0 fg_M_78_5 rfl rfl d_M_taken_227 rfl ?_
      refine x_iconst (v := nI 4) 231 hB d_M_taken_230 rfl (by decide) ?_
      refine x_icmp_ne 266 234 hB d_M_taken_231 (by decide) rfl (fun h231 => ?_) (fun h231 => ?_)
      · skip
        have k231 : ¬ (gd + 1) = 4 := fun h => h231 ((nI_eq (by omega) (by omega)).mpr h)
        refine x_iload_n 267 hB d_M_taken_266 rfl rfl ?_
        exact x_iret hB (w' := [(hm, .inr (5, [.int (re), .ref ms, .ref mf, .ref mc, .ref my, .ref mb, .ref mz, .ref mp, .ref mo, .ref mm, .ref ml, .ref md, .int (nI (wr)), .int (bI sp), .int (bI (pbT ten (!rp))), .int (nI 0), .int (nI (gd + 1)), .ref me, .ref mg, .int (la), .int (nI 0), .long (lst), .int 0])), (mc, .inl (E.2 1, 1024, .inl (cd))), (my, .inl (E.2 1, 1024, .inl (sy))), (mo, .inl (E.2 3, 2, .inl (pr2 (bI fo) (o1)))), (mm, .inl (E.2 1, 2, .inl (pr2 (nI (mk)) (m1)))), (md, .inl (E.2 1, 2, .inl (pr2 (nI (bd)) (b1))))]) hA [0, 1, 2, 3, 4, 5] rfl rfl (⟨rfl, by rw [mpF, rwF, if_neg (by omega), if_neg (by omega)]⟩) (by decide) (by decide) d_M_taken_267
      · skip
        have k231 : (gd + 1) = 4 := (nI_eq (by omega) (by omega)).mp h231
        refine x_aload_n 235 hB d_M_taken_234 rfl rfl ?_
        refine x_iconst (v := nI 0) 236 hB d_M_taken_235 rfl (by decide) ?_
        refine x_put 239 hB 0 (ws' := [(hm, .inr (5, [.int (re), .ref ms, .ref mf, .ref mc, .ref my, .ref mb, .ref mz, .ref mp, .ref mo, .ref mm, .ref ml, .ref md, .int (nI (wr)), .int (bI sp), .int (bI (pbT ten (!rp))), .int (nI 0), .int (nI 0), .ref me, .ref mg, .int (la), .int (nI 0), .long (lst), .int 0])), (mc, .inl (E.2 1, 1024, .inl (cd))), (my, .inl (E.2 1, 1024, .inl (sy))), (mo, .inl (E.2 3, 2, .inl (pr2 (bI fo) (o1)))), (mm, .inl (E.2 1, 2, .inl (pr2 (nI (mk)) (m1)))), (md, .inl (E.2 1, 2, .inl (pr2 (nI (bd)) (b1))))]) fp_M_78_5 rfl (rfl) (rfl) (Nat.le_of_ble_eq_true rfl) rfl d_M_taken_236 rfl ?_
        refine x_aload_n 240 hB d_M_taken_239 rfl rfl ?_
        refine x_get 243 hB 0 fg_M_35_5 rfl rfl d_M_taken_240 rfl ?_
        refine x_iconst (v := nI 0) 244 hB d_M_taken_243 rfl (by decide) ?_
        refine x_aload_n 245 hB d_M_taken_244 rfl rfl ?_
        refine x_get 248 hB 0 fg_M_35_5 rfl rfl d_M_taken_245 rfl ?_
        refine x_iconst (v := nI 0) 249 hB d_M_taken_248 rfl (by decide) ?_
        refine x_iald 250 hB 4 rfl (by omega) (by decide) d_M_taken_249 rfl ?_
        refine x_top (v' := .int (nI (mk))) rfl ?_
        refine x_if_le 264 253 hB d_M_taken_250 (by decide) rfl (fun h250 => ?_) (fun h250 => ?_)
        · skip
          have k250 : mk = 0 := (le0 (by omega)).mp h250
          refine x_iconst (v := nI 0) 265 hB d_M_taken_264 rfl (by decide) ?_
          refine x_iast 266 hB 4 (ws' := [(hm, .inr (5, [.int (re), .ref ms, .ref mf, .ref mc, .ref my, .ref mb, .ref mz, .ref mp, .ref mo, .ref mm, .ref ml, .ref md, .int (nI (wr)), .int (bI sp), .int (bI (pbT ten (!rp))), .int (nI 0), .int (nI 0), .ref me, .ref mg, .int (la), .int (nI 0), .long (lst), .int 0])), (mc, .inl (E.2 1, 1024, .inl (cd))), (my, .inl (E.2 1, 1024, .inl (sy))), (mo, .inl (E.2 3, 2, .inl (pr2 (bI fo) (o1)))), (mm, .inl (E.2 1, 2, .inl (pr2 (nI 0) (m1)))), (md, .inl (E.2 1, 2, .inl (pr2 (nI (bd)) (b1))))]) rfl (by omega) (by decide) (x' := nI 0) (rfl) (by rw [pr2_0]; rfl) d_M_taken_265 rfl ?_
          refine x_iload_n 267 hB d_M_taken_266 rfl rfl ?_
          exact x_iret hB (w' := [(hm, .inr (5, [.int (re), .ref ms, .ref mf, .ref mc, .ref my, .ref mb, .ref mz, .ref mp, .ref mo, .ref mm, .ref ml, .ref md, .int (nI (wr)), .int (bI sp), .int (bI (pbT ten (!rp))), .int (nI 0), .int (nI 0), .ref me, .ref mg, .int (la), .int (nI 0), .long (lst), .int 0])), (mc, .inl (E.2 1, 1024, .inl (cd))), (my, .inl (E.2 1, 1024, .inl (sy))), (mo, .inl (E.2 3, 2, .inl (pr2 (bI fo) (o1)))), (mm, .inl (E.2 1, 2, .inl (pr2 (nI 0) (m1)))), (md, .inl (E.2 1, 2, .inl (pr2 (nI (bd)) (b1))))]) hA [0, 1, 2, 3, 4, 5] rfl rfl (⟨rfl, by rw [mpF, rwF, if_pos (by omega), if_pos (by omega), show mk - 1 = 0 by omega]⟩) (by decide) (by decide) d_M_taken_267
        · skip
          have k250 : 0 < mk := Nat.pos_of_ne_zero (fun h => h250 ((le0 (by omega)).mpr h))
          refine x_aload_n 254 hB d_M_taken_253 rfl rfl ?_
          refine x_get 257 hB 0 fg_M_35_5 rfl rfl d_M_taken_254 rfl ?_
          refine x_iconst (v := nI 0) 258 hB d_M_taken_257 rfl (by decide) ?_
          refine x_iald 259 hB 4 rfl (by omega) (by decide) d_M_taken_258 rfl ?_
          refine x_top (v' := .int (nI (mk))) rfl ?_
          refine x_iconst (v := nI 1) 260 hB d_M_taken_259 rfl (by decide) ?_
          refine x_isub 261 hB d_M_taken_260 rfl ?_
          refine x_top (v' := .int (nI (mk - 1))) (congrArg Value.int (pk_sub (by omega))) ?_
          refine x_goto 265 hB d_M_taken_261 (by decide) ?_
          refine x_iast 266 hB 4 (ws' := [(hm, .inr (5, [.int (re), .ref ms, .ref mf, .ref mc, .ref my, .ref mb, .ref mz, .ref mp, .ref mo, .ref mm, .ref ml, .ref md, .int (nI (wr)), .int (bI sp), .int (bI (pbT ten (!rp))), .int (nI 0), .int (nI 0), .ref me, .ref mg, .int (la), .int (nI 0), .long (lst), .int 0])), (mc, .inl (E.2 1, 1024, .inl (cd))), (my, .inl (E.2 1, 1024, .inl (sy))), (mo, .inl (E.2 3, 2, .inl (pr2 (bI fo) (o1)))), (mm, .inl (E.2 1, 2, .inl (pr2 (nI (mk - 1)) (m1)))), (md, .inl (E.2 1, 2, .inl (pr2 (nI (bd)) (b1))))]) rfl (by omega) (by decide) (x' := nI (mk - 1)) (rfl) (by rw [pr2_0]; rfl) d_M_taken_265 rfl ?_
          refine x_iload_n 267 hB d_M_taken_266 rfl rfl ?_
          exact x_iret hB (w' := [(hm, .inr (5, [.int (re), .ref ms, .ref mf, .ref mc, .ref my, .ref mb, .ref mz, .ref mp, .ref mo, .ref mm, .ref ml, .ref md, .int (nI (wr)), .int (bI sp), .int (bI (pbT ten (!rp))), .int (nI 0), .int (nI 0), .ref me, .ref mg, .int (la), .int (nI 0), .long (lst), .int 0])), (mc, .inl (E.2 1, 1024, .inl (cd))), (my, .inl (E.2 1, 1024, .inl (sy))), (mo, .inl (E.2 3, 2, .inl (pr2 (bI fo) (o1)))), (mm, .inl (E.2 1, 2, .inl (pr2 (nI (mk - 1)) (m1)))), (md, .inl (E.2 1, 2, .inl (pr2 (nI (bd)) (b1))))]) hA [0, 1, 2, 3, 4, 5] rfl rfl (⟨rfl, by rw [mpF, rwF, if_pos (by omega), if_pos (by omega)]⟩) (by decide) (by decide) d_M_taken_267
    refine x_aload_n 71 hB d_M_taken_70 rfl rfl ?_
    refine x_get 74 hB 0 fg_M_72_5 rfl rfl d_M_taken_71 rfl ?_
    refine x_if_ne 81 77 hB d_M_taken_74 (by decide) rfl (fun h74 => ?_) (fun h74 => ?_)
    · skip
      have k74 : rp = true := bI_1 h74
      refine x_iconst (v := nI 0) 82 hB d_M_taken_81 rfl (by decide) ?_
      refine x_top (v' := .int (bI (!rp))) (congrArg Value.int (by rw [k74]; rfl)) ?_
      refine x_lv (lv' := [(0, .ref hm), (1, .int (nI (ten))), (2, .int (nI (y))), (3, .int (nI 0)), (4, .int (nI 0))]) [1, 2, 3, 4, 0] rfl ?_
      exact J82 () trivial
    · skip
      have k74 : rp = false := bI_0 h74
      refine x_iconst (v := nI 1) 78 hB d_M_taken_77 rfl (by decide) ?_
      refine x_top (v' := .int (bI (!rp))) (congrArg Value.int (by rw [k74]; rfl)) ?_
      refine x_goto 82 hB d_M_taken_78 (by decide) ?_
      refine x_lv (lv' := [(0, .ref hm), (1, .int (nI (ten))), (2, .int (nI (y))), (3, .int (nI 0)), (4, .int (nI 0))]) [1, 2, 3, 4, 0] rfl ?_
      exact J82 () trivial
  refine x_aload_n 29 hB d_M_taken_28 rfl rfl ?_
  refine x_get 32 hB 0 fg_M_72_5 rfl rfl d_M_taken_29 rfl ?_
  refine x_if_eq 39 35 hB d_M_taken_32 (by decide) rfl (fun h32 => ?_) (fun h32 => ?_)
  · skip
    have k32 : rp = false := bI_0 h32
    refine x_iconst (v := nI 0) 40 hB d_M_taken_39 rfl (by decide) ?_
    refine x_top (v' := .int (nI (if rp then 1 else 0))) (congrArg Value.int (by rw [k32]; rfl)) ?_
    refine x_lv (lv' := [(0, .ref hm), (1, .int (nI (ten))), (2, .int (nI (y))), (3, .int (nI 0))]) [2, 3, 1, 0] rfl ?_
    exact J40 () trivial
  · skip
    have k32 : rp = true := bI_1 h32
    refine x_iconst (v := nI 1) 36 hB d_M_taken_35 rfl (by decide) ?_
    refine x_top (v' := .int (nI (if rp then 1 else 0))) (congrArg Value.int (by rw [k32]; rfl)) ?_
    refine x_goto 40 hB d_M_taken_36 (by decide) ?_
    refine x_lv (lv' := [(0, .ref hm), (1, .int (nI (ten))), (2, .int (nI (y))), (3, .int (nI 0))]) [2, 3, 1, 0] rfl ?_
    exact J40 () trivial
abbrev rm_M_taken_D : Room := { frames := 3, cells := 0, slots := 0, locals := 65 }
set_option maxHeartbeats 4000000 in
set_option maxRecDepth 100000 in
theorem c_M_taken_D (l : Launch) (E : xE) (hm ms mf mc my mb mz mp mo mm ml md me mg : Nat) (re : Int32) (wr : Nat) (sp rp fi : Bool) (gd : Nat) (la : Int32) (lst : Int64) (cd sy : Nat → Int32) (fo : Bool) (mk bd : Nat) (o1 m1 b1 : Int32) (ten : Nat) (hten : ten < 1024) (hm9 : mk < 4) (hg9 : gd < 4) (y : Nat) (hy : y < 512) (hs : sy ten = nI y) (hcd : ¬ cd (2 * y + (if rp then 1 else 0)) = nI ten) : xC l E y_M_taken (.code y_M_taken prog_10_method_19_code 5 (some .int)) rm_M_taken_D [.ref hm, .int (nI (ten))] [(hm, .inr (5, [.int (re), .ref ms, .ref mf, .ref mc, .ref my, .ref mb, .ref mz, .ref mp, .ref mo, .ref mm, .ref ml, .ref md, .int (nI (wr)), .int (bI sp), .int (bI rp), .int (nI 0), .int (nI (gd)), .ref me, .ref mg, .int (la), .int (nI 0), .long (lst), .int 0])), (mc, .inl (E.2 1, 1024, .inl (cd))), (my, .inl (E.2 1, 1024, .inl (sy))), (mo, .inl (E.2 3, 2, .inl (pr2 (bI fo) (o1)))), (mm, .inl (E.2 1, 2, .inl (pr2 (nI (mk)) (m1)))), (md, .inl (E.2 1, 2, .inl (pr2 (nI (bd)) (b1))))] (xRet (some (.int (nI (y + 512)))) [(hm, .inr (5, [.int (re), .ref ms, .ref mf, .ref mc, .ref my, .ref mb, .ref mz, .ref mp, .ref mo, .ref mm, .ref ml, .ref md, .int (nI (wr + 1)), .int (bI sp), .int (bI (pbT ten (rp))), .int (nI 0), .int (nI 0), .ref me, .ref mg, .int (la), .int (nI 0), .long (lst), .int 0])), (mc, .inl (E.2 1, 1024, .inl (cd))), (my, .inl (E.2 1, 1024, .inl (sy))), (mo, .inl (E.2 3, 2, .inl (pr2 (bI (fkF fo mk)) (o1)))), (mm, .inl (E.2 1, 2, .inl (pr2 (nI (mkF mk)) (m1)))), (md, .inl (E.2 1, 2, .inl (pr2 (nI (bd)) (b1))))]) := by
  refine x_of' (own := "LineCoderModel") (mn := "taken") (lv := [(0, .ref hm), (1, .int (nI (ten)))]) (plainFor_of_name (by decide)) rfl rfl (Nat.le_of_ble_eq_true rfl) rfl ?_
  intro p_ e_ s_ m_ ar_ be_ me_ c_ A_ hA hB
  refine x_aload_n 1 hB d_M_taken_0 rfl rfl ?_
  refine x_get 4 hB 0 fg_M_19_5 rfl rfl d_M_taken_1 rfl ?_
  refine x_iload_n 5 hB d_M_taken_4 rfl rfl ?_
  refine x_iald 6 hB 2 rfl (hten) (by decide) d_M_taken_5 rfl ?_
  refine x_top (v' := .int (nI (y))) (congrArg Value.int (hs)) ?_
  refine x_istore_n 7 hB d_M_taken_6 rfl (by decide) (lv' := [(2, .int (nI (y))), (0, .ref hm), (1, .int (nI (ten)))]) rfl ?_
  refine x_iload_n 8 hB d_M_taken_7 rfl rfl ?_
  refine x_if_ge 15 11 hB d_M_taken_8 (by decide) rfl (fun _ => ?_) (fun hc => absurd (nI_pos' (by omega)) hc)
  refine x_iconst (v := nI 0) 16 hB d_M_taken_15 rfl (by decide) ?_
  refine x_istore_n 17 hB d_M_taken_16 rfl (by decide) (lv' := [(3, .int (nI 0)), (2, .int (nI (y))), (0, .ref hm), (1, .int (nI (ten)))]) rfl ?_
  refine x_iload_n 18 hB d_M_taken_17 rfl rfl ?_
  refine x_if_ne 50 21 hB d_M_taken_18 (by decide) rfl (fun hc => absurd (by decide) hc) (fun _ => ?_)
  refine x_aload_n 22 hB d_M_taken_21 rfl rfl ?_
  refine x_get 25 hB 0 fg_M_16_5 rfl rfl d_M_taken_22 rfl ?_
  refine x_iconst (v := nI 2) 26 hB d_M_taken_25 rfl (by decide) ?_
  refine x_iload_n 27 hB d_M_taken_26 rfl rfl ?_
  refine x_imul 28 hB d_M_taken_27 rfl ?_
  refine x_top (v' := .int (nI (2 * y))) (congrArg Value.int (pk_mul _ _)) ?_
  refine x_join 40 (fun _u : Unit => True) (fun _u : Unit => [(hm, .inr (5, [.int (re), .ref ms, .ref mf, .ref mc, .ref my, .ref mb, .ref mz, .ref mp, .ref mo, .ref mm, .ref ml, .ref md, .int (nI (wr)), .int (bI sp), .int (bI rp), .int (nI 0), .int (nI (gd)), .ref me, .ref mg, .int (la), .int (nI 0), .long (lst), .int 0])), (mc, .inl (E.2 1, 1024, .inl (cd))), (my, .inl (E.2 1, 1024, .inl (sy))), (mo, .inl (E.2 3, 2, .inl (pr2 (bI fo) (o1)))), (mm, .inl (E.2 1, 2, .inl (pr2 (nI (mk)) (m1)))), (md, .inl (E.2 1, 2, .inl (pr2 (nI (bd)) (b1))))]) (fun _u : Unit => [(0, .ref hm), (1, .int (nI (ten))), (2, .int (nI (y))), (3, .int (nI 0))]) (fun _u : Unit => [.int (nI (if rp then 1 else 0)), .int (nI (2 * y)), .ref mc]) (fun _u hJ40 => ?_) (fun J40 => ?_)
  · skip
    refine x_iadd 41 hB d_M_taken_40 rfl ?_
    refine x_top (v' := .int (nI (2 * y + (if rp then 1 else 0)))) (congrArg Value.int (nI_add _ _)) ?_
    have hix : 2 * y + (if rp then 1 else 0) < 1024 := by split <;> omega
    refine x_iald 42 hB 1 rfl (hix) (by decide) d_M_taken_41 rfl ?_
    refine x_iload_n 43 hB d_M_taken_42 rfl rfl ?_
    refine x_icmp_ne 50 46 hB d_M_taken_43 (by decide) rfl (fun _ => ?_) (fun hc => absurd hc (hcd))
    refine x_iconst (v := nI 0) 51 hB d_M_taken_50 rfl (by decide) ?_
    refine x_istore 53 hB d_M_taken_51 rfl (by decide) (lv' := [(4, .int (nI 0)), (0, .ref hm), (1, .int (nI (ten))), (2, .int (nI (y))), (3, .int (nI 0))]) rfl ?_
    refine x_iload_n 54 hB d_M_taken_53 rfl rfl ?_
    refine x_if_ne 88 57 hB d_M_taken_54 (by decide) rfl (fun hc => absurd (by decide) hc) (fun _ => ?_)
    refine x_iload 59 hB d_M_taken_57 rfl rfl ?_
    refine x_if_ne 88 62 hB d_M_taken_59 (by decide) rfl (fun hc => absurd (by decide) hc) (fun _ => ?_)
    refine x_aload_n 63 hB d_M_taken_62 rfl rfl ?_
    refine x_get 66 hB 0 fg_M_75_5 rfl rfl d_M_taken_63 rfl ?_
    refine x_if_eq 88 69 hB d_M_taken_66 (by decide) rfl (fun _ => ?_) (fun hc => absurd (by decide) hc)
    refine x_aload_n 89 hB d_M_taken_88 rfl rfl ?_
    refine x_iconst (v := nI 0) 90 hB d_M_taken_89 rfl (by decide) ?_
    refine x_put 93 hB 0 (ws' := [(hm, .inr (5, [.int (re), .ref ms, .ref mf, .ref mc, .ref my, .ref mb, .ref mz, .ref mp, .ref mo, .ref mm, .ref ml, .ref md, .int (nI (wr)), .int (bI sp), .int (bI rp), .int (nI 0), .int (nI (gd)), .ref me, .ref mg, .int (la), .int (nI 0), .long (lst), .int 0])), (mc, .inl (E.2 1, 1024, .inl (cd))), (my, .inl (E.2 1, 1024, .inl (sy))), (mo, .inl (E.2 3, 2, .inl (pr2 (bI fo) (o1)))), (mm, .inl (E.2 1, 2, .inl (pr2 (nI (mk)) (m1)))), (md, .inl (E.2 1, 2, .inl (pr2 (nI (bd)) (b1))))]) fp_M_75_5 rfl (rfl) (rfl) (Nat.le_of_ble_eq_true rfl) rfl d_M_taken_90 rfl ?_
    refine x_aload_n 94 hB d_M_taken_93 rfl rfl ?_
    refine x_iload_n 95 hB d_M_taken_94 rfl rfl ?_
    refine x_aload_n 96 hB d_M_taken_95 rfl rfl ?_
    refine x_get 99 hB 0 fg_M_72_5 rfl rfl d_M_taken_96 rfl ?_
    refine x_callP (k' := 0) (n' := 0) (rest := [.ref hm]) (st' := [.int (bI (pbT ten (rp))), .ref hm]) 102 hB (x_pfS (av := [.int (nI (ten)), .int (bI rp)]) hB w_727 xHd_code w_7 w_725 w_726 nm_M_behind rfl d_M_taken_99) (c_M_behind l E ten hten (rp)) w_727 xHd_code w_7 [] rfl rfl ⟨by decide, by decide⟩ ⟨by decide, by decide⟩ rfl rfl (Nat.le_of_ble_eq_true rfl) d_M_taken_99 rfl rfl ?_
    refine x_put 105 hB 0 (ws' := [(hm, .inr (5, [.int (re), .ref ms, .ref mf, .ref mc, .ref my, .ref mb, .ref mz, .ref mp, .ref mo, .ref mm, .ref ml, .ref md, .int (nI (wr)), .int (bI sp), .int (bI (pbT ten (rp))), .int (nI 0), .int (nI (gd)), .ref me, .ref mg, .int (la), .int (nI 0), .long (lst), .int 0])), (mc, .inl (E.2 1, 1024, .inl (cd))), (my, .inl (E.2 1, 1024, .inl (sy))), (mo, .inl (E.2 3, 2, .inl (pr2 (bI fo) (o1)))), (mm, .inl (E.2 1, 2, .inl (pr2 (nI (mk)) (m1)))), (md, .inl (E.2 1, 2, .inl (pr2 (nI (bd)) (b1))))]) fp_M_72_5 rfl (nrb _) (by cases (pbT ten (rp)) <;> rfl) (Nat.le_of_ble_eq_true rfl) rfl d_M_taken_102 rfl ?_
    refine x_iload_n 106 hB d_M_taken_105 rfl rfl ?_
    refine x_if_ne 114 109 hB d_M_taken_106 (by decide) rfl (fun hc => absurd (by decide) hc) (fun _ => ?_)
    refine x_iload 111 hB d_M_taken_109 rfl rfl ?_
    refine x_if_ne 216 114 hB d_M_taken_111 (by decide) rfl (fun hc => absurd (by decide) hc) (fun _ => ?_)
    refine x_aload_n 115 hB d_M_taken_114 rfl rfl ?_
    refine x_get 118 hB 0 fg_M_41_5 rfl rfl d_M_taken_115 rfl ?_
    refine x_iconst (v := nI 0) 119 hB d_M_taken_118 rfl (by decide) ?_
    refine x_iload_n 120 hB d_M_taken_119 rfl rfl ?_
    refine x_if_eq 134 123 hB d_M_taken_120 (by decide) rfl (fun _ => ?_) (fun hc => absurd (by decide) hc)
    refine x_aload_n 135 hB d_M_taken_134 rfl rfl ?_
    refine x_get 138 hB 0 fg_M_41_5 rfl rfl d_M_taken_135 rfl ?_
    refine x_iconst (v := nI 0) 139 hB d_M_taken_138 rfl (by decide) ?_
    refine x_iald 140 hB 5 rfl (by omega) (by decide) d_M_taken_139 rfl ?_
    refine x_top (v' := .int (nI (bd))) rfl ?_
    refine x_iast 141 hB 5 (ws' := [(hm, .inr (5, [.int (re), .ref ms, .ref mf, .ref mc, .ref my, .ref mb, .ref mz, .ref mp, .ref mo, .ref mm, .ref ml, .ref md, .int (nI (wr)), .int (bI sp), .int (bI (pbT ten (rp))), .int (nI 0), .int (nI (gd)), .ref me, .ref mg, .int (la), .int (nI 0), .long (lst), .int 0])), (mc, .inl (E.2 1, 1024, .inl (cd))), (my, .inl (E.2 1, 1024, .inl (sy))), (mo, .inl (E.2 3, 2, .inl (pr2 (bI fo) (o1)))), (mm, .inl (E.2 1, 2, .inl (pr2 (nI (mk)) (m1)))), (md, .inl (E.2 1, 2, .inl (pr2 (nI (bd)) (b1))))]) rfl (by omega) (by decide) (x' := nI (bd)) (rfl) (by rw [pr2_0]; rfl) d_M_taken_140 rfl ?_
    refine x_aload_n 142 hB d_M_taken_141 rfl rfl ?_
    refine x_iload_n 143 hB d_M_taken_142 rfl rfl ?_
    refine x_if_eq 153 146 hB d_M_taken_143 (by decide) rfl (fun _ => ?_) (fun hc => absurd (by decide) hc)
    refine x_aload_n 154 hB d_M_taken_153 rfl rfl ?_
    refine x_get 157 hB 0 fg_M_65_5 rfl rfl d_M_taken_154 rfl ?_
    refine x_iconst (v := nI 1) 158 hB d_M_taken_157 rfl (by decide) ?_
    refine x_iadd 159 hB d_M_taken_158 rfl ?_
    refine x_top (v' := .int (nI (wr + 1))) (congrArg Value.int (nI_add wr 1)) ?_
    refine x_put 162 hB 0 (ws' := [(hm, .inr (5, [.int (re), .ref ms, .ref mf, .ref mc, .ref my, .ref mb, .ref mz, .ref mp, .ref mo, .ref mm, .ref ml, .ref md, .int (nI (wr + 1)), .int (bI sp), .int (bI (pbT ten (rp))), .int (nI 0), .int (nI (gd)), .ref me, .ref mg, .int (la), .int (nI 0), .long (lst), .int 0])), (mc, .inl (E.2 1, 1024, .inl (cd))), (my, .inl (E.2 1, 1024, .inl (sy))), (mo, .inl (E.2 3, 2, .inl (pr2 (bI fo) (o1)))), (mm, .inl (E.2 1, 2, .inl (pr2 (nI (mk)) (m1)))), (md, .inl (E.2 1, 2, .inl (pr2 (nI (bd)) (b1))))]) fp_M_65_5 rfl (rfl) (rfl) (Nat.le_of_ble_eq_true rfl) rfl d_M_taken_159 rfl ?_
    refine x_aload_n 163 hB d_M_taken_162 rfl rfl ?_
    refine x_iconst (v := nI 0) 164 hB d_M_taken_163 rfl (by decide) ?_
    refine x_put 167 hB 0 (ws' := [(hm, .inr (5, [.int (re), .ref ms, .ref mf, .ref mc, .ref my, .ref mb, .ref mz, .ref mp, .ref mo, .ref mm, .ref ml, .ref md, .int (nI (wr + 1)), .int (bI sp), .int (bI (pbT ten (rp))), .int (nI 0), .int (nI 0), .ref me, .ref mg, .int (la), .int (nI 0), .long (lst), .int 0])), (mc, .inl (E.2 1, 1024, .inl (cd))), (my, .inl (E.2 1, 1024, .inl (sy))), (mo, .inl (E.2 3, 2, .inl (pr2 (bI fo) (o1)))), (mm, .inl (E.2 1, 2, .inl (pr2 (nI (mk)) (m1)))), (md, .inl (E.2 1, 2, .inl (pr2 (nI (bd)) (b1))))]) fp_M_78_5 rfl (rfl) (rfl) (Nat.le_of_ble_eq_true rfl) rfl d_M_taken_164 rfl ?_
    refine x_aload_n 168 hB d_M_taken_167 rfl rfl ?_
    refine x_get 171 hB 0 fg_M_35_5 rfl rfl d_M_taken_168 rfl ?_
    refine x_iconst (v := nI 0) 172 hB d_M_taken_171 rfl (by decide) ?_
    refine x_dup2 173 hB d_M_taken_172 rfl rfl rfl ?_
    refine x_iald 174 hB 4 rfl (by omega) (by decide) d_M_taken_173 rfl ?_
    refine x_top (v' := .int (nI (mk))) rfl ?_
    refine x_iconst (v := nI 1) 175 hB d_M_taken_174 rfl (by decide) ?_
    refine x_iadd 176 hB d_M_taken_175 rfl ?_
    refine x_top (v' := .int (nI (mk + 1))) (congrArg Value.int (nI_add mk 1)) ?_
    refine x_iast 177 hB 4 (ws' := [(hm, .inr (5, [.int (re), .ref ms, .ref mf, .ref mc, .ref my, .ref mb, .ref mz, .ref mp, .ref mo, .ref mm, .ref ml, .ref md, .int (nI (wr + 1)), .int (bI sp), .int (bI (pbT ten (rp))), .int (nI 0), .int (nI 0), .ref me, .ref mg, .int (la), .int (nI 0), .long (lst), .int 0])), (mc, .inl (E.2 1, 1024, .inl (cd))), (my, .inl (E.2 1, 1024, .inl (sy))), (mo, .inl (E.2 3, 2, .inl (pr2 (bI fo) (o1)))), (mm, .inl (E.2 1, 2, .inl (pr2 (nI (mk + 1)) (m1)))), (md, .inl (E.2 1, 2, .inl (pr2 (nI (bd)) (b1))))]) rfl (by omega) (by decide) (x' := nI (mk + 1)) (rfl) (by rw [pr2_0]; rfl) d_M_taken_176 rfl ?_
    refine x_aload_n 178 hB d_M_taken_177 rfl rfl ?_
    refine x_get 181 hB 0 fg_M_35_5 rfl rfl d_M_taken_178 rfl ?_
    refine x_iconst (v := nI 0) 182 hB d_M_taken_181 rfl (by decide) ?_
    refine x_iald 183 hB 4 rfl (by omega) (by decide) d_M_taken_182 rfl ?_
    refine x_top (v' := .int (nI (mk + 1))) rfl ?_
    refine x_iconst (v := nI 4) 184 hB d_M_taken_183 rfl (by decide) ?_
    refine x_icmp_ne 201 187 hB d_M_taken_184 (by decide) rfl (fun h184 => ?_) (fun h184 => ?_)
    · skip
      have k184 : ¬ (mk + 1) = 4 := fun h => h184 ((nI_eq (by omega) (by omega)).mpr h)
      refine x_iload_n 202 hB d_M_taken_201 rfl rfl ?_
      refine x_if_eq 210 205 hB d_M_taken_202 (by decide) rfl (fun _ => ?_) (fun hc => absurd (by decide) hc)
      refine x_sipush (v := nI 512) 213 hB d_M_taken_210 rfl (by decide) ?_
      refine x_iload_n 214 hB d_M_taken_213 rfl rfl ?_
      refine x_iadd 215 hB d_M_taken_214 rfl ?_
      refine x_top (v' := .int (nI (y + 512))) (congrArg Value.int ((nI_add 512 y).trans (by rw [Nat.add_comm]))) ?_
      exact x_iret hB (w' := [(hm, .inr (5, [.int (re), .ref ms, .ref mf, .ref mc, .ref my, .ref mb, .ref mz, .ref mp, .ref mo, .ref mm, .ref ml, .ref md, .int (nI (wr + 1)), .int (bI sp), .int (bI (pbT ten (rp))), .int (nI 0), .int (nI 0), .ref me, .ref mg, .int (la), .int (nI 0), .long (lst), .int 0])), (mc, .inl (E.2 1, 1024, .inl (cd))), (my, .inl (E.2 1, 1024, .inl (sy))), (mo, .inl (E.2 3, 2, .inl (pr2 (bI fo) (o1)))), (mm, .inl (E.2 1, 2, .inl (pr2 (nI (mk + 1)) (m1)))), (md, .inl (E.2 1, 2, .inl (pr2 (nI (bd)) (b1))))]) hA [0, 1, 2, 3, 4, 5] rfl rfl (⟨rfl, by rw [mkF, fkF, if_pos (by omega), if_pos (by omega)]⟩) (by decide) (by decide) d_M_taken_215
    · skip
      have k184 : (mk + 1) = 4 := (nI_eq (by omega) (by omega)).mp h184
      refine x_aload_n 188 hB d_M_taken_187 rfl rfl ?_
      refine x_get 191 hB 0 fg_M_35_5 rfl rfl d_M_taken_188 rfl ?_
      refine x_iconst (v := nI 0) 192 hB d_M_taken_191 rfl (by decide) ?_
      refine x_iconst (v := nI 0) 193 hB d_M_taken_192 rfl (by decide) ?_
      refine x_iast 194 hB 4 (ws' := [(hm, .inr (5, [.int (re), .ref ms, .ref mf, .ref mc, .ref my, .ref mb, .ref mz, .ref mp, .ref mo, .ref mm, .ref ml, .ref md, .int (nI (wr + 1)), .int (bI sp), .int (bI (pbT ten (rp))), .int (nI 0), .int (nI 0), .ref me, .ref mg, .int (la), .int (nI 0), .long (lst), .int 0])), (mc, .inl (E.2 1, 1024, .inl (cd))), (my, .inl (E.2 1, 1024, .inl (sy))), (mo, .inl (E.2 3, 2, .inl (pr2 (bI fo) (o1)))), (mm, .inl (E.2 1, 2, .inl (pr2 (nI 0) (m1)))), (md, .inl (E.2 1, 2, .inl (pr2 (nI (bd)) (b1))))]) rfl (by omega) (by decide) (x' := nI 0) (rfl) (by rw [pr2_0]; rfl) d_M_taken_193 rfl ?_
      refine x_aload_n 195 hB d_M_taken_194 rfl rfl ?_
      refine x_get 198 hB 0 fg_M_31_5 rfl rfl d_M_taken_195 rfl ?_
      refine x_iconst (v := nI 0) 199 hB d_M_taken_198 rfl (by decide) ?_
      refine x_iconst (v := nI 0) 200 hB d_M_taken_199 rfl (by decide) ?_
      refine x_zast 201 hB 3 (ws' := [(hm, .inr (5, [.int (re), .ref ms, .ref mf, .ref mc, .ref my, .ref mb, .ref mz, .ref mp, .ref mo, .ref mm, .ref ml, .ref md, .int (nI (wr + 1)), .int (bI sp), .int (bI (pbT ten (rp))), .int (nI 0), .int (nI 0), .ref me, .ref mg, .int (la), .int (nI 0), .long (lst), .int 0])), (mc, .inl (E.2 1, 1024, .inl (cd))), (my, .inl (E.2 1, 1024, .inl (sy))), (mo, .inl (E.2 3, 2, .inl (pr2 (nI 0) (o1)))), (mm, .inl (E.2 1, 2, .inl (pr2 (nI 0) (m1)))), (md, .inl (E.2 1, 2, .inl (pr2 (nI (bd)) (b1))))]) rfl (by omega) (by decide) (x' := nI 0) (by decide) (by rw [pr2_0]; rfl) d_M_taken_200 rfl ?_
      refine x_iload_n 202 hB d_M_taken_201 rfl rfl ?_
      refine x_if_eq 210 205 hB d_M_taken_202 (by decide) rfl (fun _ => ?_) (fun hc => absurd (by decide) hc)
      refine x_sipush (v := nI 512) 213 hB d_M_taken_210 rfl (by decide) ?_
      refine x_iload_n 214 hB d_M_taken_213 rfl rfl ?_
      refine x_iadd 215 hB d_M_taken_214 rfl ?_
      refine x_top (v' := .int (nI (y + 512))) (congrArg Value.int ((nI_add 512 y).trans (by rw [Nat.add_comm]))) ?_
      exact x_iret hB (w' := [(hm, .inr (5, [.int (re), .ref ms, .ref mf, .ref mc, .ref my, .ref mb, .ref mz, .ref mp, .ref mo, .ref mm, .ref ml, .ref md, .int (nI (wr + 1)), .int (bI sp), .int (bI (pbT ten (rp))), .int (nI 0), .int (nI 0), .ref me, .ref mg, .int (la), .int (nI 0), .long (lst), .int 0])), (mc, .inl (E.2 1, 1024, .inl (cd))), (my, .inl (E.2 1, 1024, .inl (sy))), (mo, .inl (E.2 3, 2, .inl (pr2 (nI 0) (o1)))), (mm, .inl (E.2 1, 2, .inl (pr2 (nI 0) (m1)))), (md, .inl (E.2 1, 2, .inl (pr2 (nI (bd)) (b1))))]) hA [0, 1, 2, 3, 4, 5] rfl rfl (⟨rfl, by rw [mkF, fkF, if_neg (by omega), if_neg (by omega)]; rfl⟩) (by decide) (by decide) d_M_taken_215
  refine x_aload_n 29 hB d_M_taken_28 rfl rfl ?_
  refine x_get 32 hB 0 fg_M_72_5 rfl rfl d_M_taken_29 rfl ?_
  refine x_if_eq 39 35 hB d_M_taken_32 (by decide) rfl (fun h32 => ?_) (fun h32 => ?_)
  · skip
    have k32 : rp = false := bI_0 h32
    refine x_iconst (v := nI 0) 40 hB d_M_taken_39 rfl (by decide) ?_
    refine x_top (v' := .int (nI (if rp then 1 else 0))) (congrArg Value.int (by rw [k32]; rfl)) ?_
    refine x_lv (lv' := [(0, .ref hm), (1, .int (nI (ten))), (2, .int (nI (y))), (3, .int (nI 0))]) [2, 3, 1, 0] rfl ?_
    exact J40 () trivial
  · skip
    have k32 : rp = true := bI_1 h32
    refine x_iconst (v := nI 1) 36 hB d_M_taken_35 rfl (by decide) ?_
    refine x_top (v' := .int (nI (if rp then 1 else 0))) (congrArg Value.int (by rw [k32]; rfl)) ?_
    refine x_goto 40 hB d_M_taken_36 (by decide) ?_
    refine x_lv (lv' := [(0, .ref hm), (1, .int (nI (ten))), (2, .int (nI (y))), (3, .int (nI 0))]) [2, 3, 1, 0] rfl ?_
    exact J40 () trivial
