abbrev rm_M_send : Room := { frames := 3, cells := 0, slots := 0, locals := 65 }
set_option maxHeartbeats 4000000 in
set_option maxRecDepth 100000 in
theorem c_M_send (l : Launch) (E : xE) (hm ms mf mc my mb mz mp mo mm ml md me mg : Nat) (re : Int32) (wr : Nat) (sp rp fi : Bool) (gd : Nat) (la : Int32) (lst : Int64) (z0 z1 : Nat) (g : Nat → Int32) (cd : Nat → Int32) (s : Nat) (hs : s < 512) (hS : isS s = true) (t : Nat) (ht : t < 1024) (hc : cd (2 * s + (if sp then 1 else 0)) = nI t) (hz : z0 + 10 ≤ 2640) : xC l E y_M_send (.code y_M_send prog_10_method_16_code 4 (some .int)) rm_M_send [.ref hm, .int (nI (s))] [(hm, .inr (5, [.int (re), .ref ms, .ref mf, .ref mc, .ref my, .ref mb, .ref mz, .ref mp, .ref mo, .ref mm, .ref ml, .ref md, .int (nI (wr)), .int (bI sp), .int (bI rp), .int (bI fi), .int (nI (gd)), .ref me, .ref mg, .int (la), .int (nI 0), .long (lst), .int 0])), (mc, .inl (E.2 1, 1024, .inl (cd))), (mb, .inl (E.2 1, 5280, .inl (g))), (mz, .inl (E.2 1, 2, .inl (pr2 (nI (z0)) (nI (z1)))))] (xRet (some (.int (nI (t)))) [(hm, .inr (5, [.int (nI 0), .ref ms, .ref mf, .ref mc, .ref my, .ref mb, .ref mz, .ref mp, .ref mo, .ref mm, .ref ml, .ref md, .int (nI (wr)), .int (bI (pbT t sp)), .int (bI rp), .int (bI fi), .int (nI (gd)), .ref me, .ref mg, .int (la), .int (nI 0), .long (lst), .int 0])), (mc, .inl (E.2 1, 1024, .inl (cd))), (mb, .inl (E.2 1, 5280, .inl (apG g 0 z0 (nI (t)) 10 10))), (mz, .inl (E.2 1, 2, .inl (pr2 (nI (z0 + 10)) (nI (z1)))))]) := by
  refine x_of' (own := "LineCoderModel") (mn := "send") (lv := [(0, .ref hm), (1, .int (nI (s)))]) (plainFor_of_name (by decide)) rfl rfl (Nat.le_of_ble_eq_true rfl) rfl ?_
  intro p_ e_ s_ m_ ar_ be_ me_ c_ A_ hA hB
  refine x_aload_n 1 hB d_M_send_0 rfl rfl ?_
  refine x_iload_n 2 hB d_M_send_1 rfl rfl ?_
  refine x_callP (k' := 0) (n' := 0) (rest := [.ref hm]) (st' := [.int (bI (isS s)), .ref hm]) 5 hB (x_pfS (av := [.int (nI (s))]) hB w_608 xHd_code w_7 w_606 w_607 nm_M_isSymbol rfl d_M_send_2) (c_M_isSymbol l E s hs) w_608 xHd_code w_7 [] rfl rfl ⟨by decide, by decide⟩ ⟨by decide, by decide⟩ rfl rfl (Nat.le_of_ble_eq_true rfl) d_M_send_2 rfl rfl ?_
  refine x_top (v' := .int (nI 1)) (congrArg Value.int (by rw [hS]; rfl)) ?_
  refine x_if_ne 12 8 hB d_M_send_5 (by decide) rfl (fun _ => ?_) (fun hc => absurd hc (by decide))
  refine x_aload_n 13 hB d_M_send_12 rfl rfl ?_
  refine x_get 16 hB 0 fg_M_25_5 rfl rfl d_M_send_13 rfl ?_
  refine x_iconst (v := nI 0) 17 hB d_M_send_16 rfl (by decide) ?_
  refine x_iald 18 hB 3 rfl (by omega) (by decide) d_M_send_17 rfl ?_
  refine x_top (v' := .int (nI (z0))) rfl ?_
  refine x_bipush (v := nI 10) 20 hB d_M_send_18 rfl (by decide) ?_
  refine x_iadd 21 hB d_M_send_20 rfl ?_
  refine x_top (v' := .int (nI (z0 + 10))) (congrArg Value.int (nI_add _ _)) ?_
  refine x_sipush (v := nI 2640) 24 hB d_M_send_21 rfl (by decide) ?_
  refine x_icmp_le 31 27 hB d_M_send_24 (by decide) rfl (fun _ => ?_) (fun hc => absurd (nI_le hz (by decide)) hc)
  refine x_iconst (v := nI 0) 32 hB d_M_send_31 rfl (by decide) ?_
  refine x_callD (k' := 0) (n' := 0) (rest := []) (wr := [(mc, .inl (E.2 1, 1024, .inl (cd))), (mb, .inl (E.2 1, 5280, .inl (g))), (mz, .inl (E.2 1, 2, .inl (pr2 (nI (z0)) (nI (z1)))))]) (ws' := [(mc, .inl (E.2 1, 1024, .inl (cd))), (mb, .inl (E.2 1, 5280, .inl (g))), (mz, .inl (E.2 1, 2, .inl (pr2 (nI (z0)) (nI (z1))))), (hm, .inr (5, [.int (nI 0), .ref ms, .ref mf, .ref mc, .ref my, .ref mb, .ref mz, .ref mp, .ref mo, .ref mm, .ref ml, .ref md, .int (nI (wr)), .int (bI sp), .int (bI rp), .int (bI fi), .int (nI (gd)), .ref me, .ref mg, .int (la), .int (nI 0), .long (lst), .int 0]))]) (st' := [.int (nI 0)]) 35 hB (x_pfV (av := [.int (nI 0)]) (q0 := 0) hB w_709 xHd_code w_706 w_708 s_M_refused rfl rfl nm_M_refused rfl d_M_send_32) (c_M_refused0 l E hm ms mf mc my mb mz mp mo mm ml md me mg (re) (wr) (sp) (rp) (fi) (gd) (la) (lst)) w_709 xHd_code w_7 [0] [1, 2, 3] rfl rfl rfl rfl (by decide) ⟨by decide, by decide⟩ ⟨by decide, by decide⟩ rfl rfl (Nat.le_of_ble_eq_true rfl) d_M_send_32 rfl rfl rfl ?_
  refine x_if_eq 40 38 hB d_M_send_35 (by decide) rfl (fun _ => ?_) (fun hc => absurd (by decide) hc)
  refine x_aload_n 41 hB d_M_send_40 rfl rfl ?_
  refine x_get 44 hB 3 fg_M_16_5 rfl rfl d_M_send_41 rfl ?_
  refine x_iconst (v := nI 2) 45 hB d_M_send_44 rfl (by decide) ?_
  refine x_iload_n 46 hB d_M_send_45 rfl rfl ?_
  refine x_imul 47 hB d_M_send_46 rfl ?_
  refine x_top (v' := .int (nI (2 * s))) (congrArg Value.int (pk_mul _ _)) ?_
  refine x_join 59 (fun _u : Unit => True) (fun _u : Unit => [(mc, .inl (E.2 1, 1024, .inl (cd))), (mb, .inl (E.2 1, 5280, .inl (g))), (mz, .inl (E.2 1, 2, .inl (pr2 (nI (z0)) (nI (z1))))), (hm, .inr (5, [.int (nI 0), .ref ms, .ref mf, .ref mc, .ref my, .ref mb, .ref mz, .ref mp, .ref mo, .ref mm, .ref ml, .ref md, .int (nI (wr)), .int (bI sp), .int (bI rp), .int (bI fi), .int (nI (gd)), .ref me, .ref mg, .int (la), .int (nI 0), .long (lst), .int 0]))]) (fun _u : Unit => [(0, .ref hm), (1, .int (nI (s)))]) (fun _u : Unit => [.int (nI (if sp then 1 else 0)), .int (nI (2 * s)), .ref mc]) (fun _u hJ59 => ?_) (fun J59 => ?_)
  · skip
    refine x_iadd 60 hB d_M_send_59 rfl ?_
    refine x_top (v' := .int (nI (2 * s + (if sp then 1 else 0)))) (congrArg Value.int (nI_add _ _)) ?_
    have hix : 2 * s + (if sp then 1 else 0) < 1024 := by split <;> omega
    refine x_iald 61 hB 0 rfl (by omega) (by decide) d_M_send_60 rfl ?_
    refine x_top (v' := .int (nI (t))) (congrArg Value.int (hc)) ?_
    refine x_istore_n 62 hB d_M_send_61 rfl (by decide) (lv' := [(2, .int (nI (t))), (0, .ref hm), (1, .int (nI (s)))]) rfl ?_
    refine x_bipush (v := nI 9) 64 hB d_M_send_62 rfl (by decide) ?_
    refine x_top (v' := .int (nI (10 - 0) - nI 1)) (congrArg Value.int (by decide)) ?_
    refine x_istore_n 65 hB d_M_send_64 rfl (by decide) (lv' := [(3, .int (nI (10 - 0) - nI 1)), (2, .int (nI (t))), (0, .ref hm), (1, .int (nI (s)))]) rfl ?_
    refine x_lv (lv' := [(0, .ref hm), (1, .int (nI (s))), (2, .int (nI (t))), (3, .int (nI (10 - 0) - nI 1))]) [2, 3, 1, 0] rfl ?_
    refine x_loop (fun u : Nat => u ≤ 10) (fun u : Nat => 10 - u) (fun u : Nat => [(mc, .inl (E.2 1, 1024, .inl (cd))), (mb, .inl (E.2 1, 5280, .inl (apG g 0 z0 (nI (t)) 10 u))), (mz, .inl (E.2 1, 2, .inl (pr2 (nI (z0 + u)) (nI (z1))))), (hm, .inr (5, [.int (nI 0), .ref ms, .ref mf, .ref mc, .ref my, .ref mb, .ref mz, .ref mp, .ref mo, .ref mm, .ref ml, .ref md, .int (nI (wr)), .int (bI sp), .int (bI rp), .int (bI fi), .int (nI (gd)), .ref me, .ref mg, .int (la), .int (nI 0), .long (lst), .int 0]))]) (fun u : Nat => [(0, .ref hm), (1, .int (nI (s))), (2, .int (nI (t))), (3, .int (nI (10 - u) - nI 1))]) (fun u : Nat => []) 0 (Nat.zero_le _) rfl rfl rfl (fun u hI65 IH65 => ?_)
    refine x_iload_n 66 hB d_M_send_65 rfl rfl ?_
    refine x_if_lt 85 69 hB d_M_send_66 (by decide) rfl (fun h66 => ?_) (fun h66 => ?_)
    · skip
      have hu : 10 = u := by have := xneg h66 (by omega); omega
      subst hu
      refine x_aload_n 86 hB d_M_send_85 rfl rfl ?_
      refine x_iload_n 87 hB d_M_send_86 rfl rfl ?_
      refine x_aload_n 88 hB d_M_send_87 rfl rfl ?_
      refine x_get 91 hB 3 fg_M_68_5 rfl rfl d_M_send_88 rfl ?_
      refine x_callP (k' := 0) (n' := 0) (rest := [.ref hm]) (st' := [.int (bI (pbT t sp)), .ref hm]) 94 hB (x_pfS (av := [.int (nI (t)), .int (bI sp)]) hB w_727 xHd_code w_7 w_725 w_726 nm_M_behind rfl d_M_send_91) (c_M_behind l E t ht sp) w_727 xHd_code w_7 [] rfl rfl ⟨by decide, by decide⟩ ⟨by decide, by decide⟩ rfl rfl (Nat.le_of_ble_eq_true rfl) d_M_send_91 rfl rfl ?_
      refine x_put 97 hB 3 (ws' := [(mc, .inl (E.2 1, 1024, .inl (cd))), (mb, .inl (E.2 1, 5280, .inl (apG g 0 z0 (nI (t)) 10 10))), (mz, .inl (E.2 1, 2, .inl (pr2 (nI (z0 + 10)) (nI (z1))))), (hm, .inr (5, [.int (nI 0), .ref ms, .ref mf, .ref mc, .ref my, .ref mb, .ref mz, .ref mp, .ref mo, .ref mm, .ref ml, .ref md, .int (nI (wr)), .int (bI (pbT t sp)), .int (bI rp), .int (bI fi), .int (nI (gd)), .ref me, .ref mg, .int (la), .int (nI 0), .long (lst), .int 0]))]) fp_M_68_5 rfl (nrb _) (by cases (pbT t sp) <;> rfl) (Nat.le_of_ble_eq_true rfl) rfl d_M_send_94 rfl ?_
      refine x_iload_n 98 hB d_M_send_97 rfl rfl ?_
      exact x_iret hB (w' := [(hm, .inr (5, [.int (nI 0), .ref ms, .ref mf, .ref mc, .ref my, .ref mb, .ref mz, .ref mp, .ref mo, .ref mm, .ref ml, .ref md, .int (nI (wr)), .int (bI (pbT t sp)), .int (bI rp), .int (bI fi), .int (nI (gd)), .ref me, .ref mg, .int (la), .int (nI 0), .long (lst), .int 0])), (mc, .inl (E.2 1, 1024, .inl (cd))), (mb, .inl (E.2 1, 5280, .inl (apG g 0 z0 (nI (t)) 10 10))), (mz, .inl (E.2 1, 2, .inl (pr2 (nI (z0 + 10)) (nI (z1)))))]) hA [3, 0, 1, 2] rfl rfl (xRet_i) (by decide) (by decide) d_M_send_98
    · skip
      have hu : u < 10 := Nat.lt_of_not_le (fun h => h66 (by rw [show 10 - u = 0 by omega]; decide))
      refine x_aload_n 70 hB d_M_send_69 rfl rfl ?_
      refine x_iconst (v := nI 0) 71 hB d_M_send_70 rfl (by decide) ?_
      refine x_iload_n 72 hB d_M_send_71 rfl rfl ?_
      refine x_iload_n 73 hB d_M_send_72 rfl rfl ?_
      refine x_top (v' := .int (nI (10 - u - 1))) (congrArg Value.int (pk_sub (by omega))) ?_
      refine x_ishr 74 hB d_M_send_73 rfl ?_
      refine x_iconst (v := nI 1) 75 hB d_M_send_74 rfl (by decide) ?_
      refine x_iand 76 hB d_M_send_75 rfl ?_
      refine x_top (v' := .int (sbit (nI (t)) (10 - u - 1))) (congrArg Value.int (rfl)) ?_
      refine x_callD (k' := 0) (n' := 0) (rest := []) (wr := [(mc, .inl (E.2 1, 1024, .inl (cd)))]) (ws' := [(mc, .inl (E.2 1, 1024, .inl (cd))), (hm, .inr (5, [.int (nI 0), .ref ms, .ref mf, .ref mc, .ref my, .ref mb, .ref mz, .ref mp, .ref mo, .ref mm, .ref ml, .ref md, .int (nI (wr)), .int (bI sp), .int (bI rp), .int (bI fi), .int (nI (gd)), .ref me, .ref mg, .int (la), .int (nI 0), .long (lst), .int 0])), (mb, .inl (E.2 1, 5280, .inl (apG g 0 z0 (nI (t)) 10 (u + 1)))), (mz, .inl (E.2 1, 2, .inl (pr2 (nI (z0 + (u + 1))) (nI (z1)))))]) (st' := []) 79 hB (x_pfV (av := [.int (nI 0), .int (sbit (nI (t)) (10 - u - 1))]) (q0 := 3) hB w_724 xHd_code w_721 w_723 s_M_append rfl rfl nm_M_append rfl d_M_send_76) (c_M_append0 l E hm ms mf mc my mb mz mp mo mm ml md me mg (nI 0) (wr) (sp) (rp) (fi) (gd) (la) (lst) (z0 + u) z1 (apG g 0 z0 (nI (t)) 10 u) (sbit (nI (t)) (10 - u - 1)) (by omega)) w_724 xHd_code w_7 [3, 1, 2] [0] rfl rfl rfl rfl (by decide) ⟨by decide, by decide⟩ ⟨by decide, by decide⟩ rfl rfl (Nat.le_of_ble_eq_true rfl) d_M_send_76 rfl rfl rfl ?_
      refine x_iinc (v := nI (10 - (u + 1)) - nI 1) 82 hB d_M_send_79 rfl 3 rfl ((xdec (by omega)).trans (by rw [Nat.sub_sub])) (by decide) (lv' := [(3, .int (nI (10 - (u + 1)) - nI 1)), (0, .ref hm), (1, .int (nI (s))), (2, .int (nI (t)))]) rfl ?_
      refine x_goto 65 hB d_M_send_82 (by decide) ?_
      refine x_lv (lv' := [(0, .ref hm), (1, .int (nI (s))), (2, .int (nI (t))), (3, .int (nI (10 - (u + 1)) - nI 1))]) [1, 2, 3, 0] rfl ?_
      refine x_wp (ws' := [(mc, .inl (E.2 1, 1024, .inl (cd))), (mb, .inl (E.2 1, 5280, .inl (apG g 0 z0 (nI (t)) 10 (u + 1)))), (mz, .inl (E.2 1, 2, .inl (pr2 (nI (z0 + (u + 1))) (nI (z1))))), (hm, .inr (5, [.int (nI 0), .ref ms, .ref mf, .ref mc, .ref my, .ref mb, .ref mz, .ref mp, .ref mo, .ref mm, .ref ml, .ref md, .int (nI (wr)), .int (bI sp), .int (bI rp), .int (bI fi), .int (nI (gd)), .ref me, .ref mg, .int (la), .int (nI 0), .long (lst), .int 0]))]) [0, 2, 3, 1] rfl rfl ?_
      exact IH65 (u + 1) hu (by omega)
  refine x_aload_n 48 hB d_M_send_47 rfl rfl ?_
  refine x_get 51 hB 3 fg_M_68_5 rfl rfl d_M_send_48 rfl ?_
  refine x_if_eq 58 54 hB d_M_send_51 (by decide) rfl (fun h51 => ?_) (fun h51 => ?_)
  · skip
    have k51 : sp = false := bI_0 h51
    refine x_iconst (v := nI 0) 59 hB d_M_send_58 rfl (by decide) ?_
    refine x_top (v' := .int (nI (if sp then 1 else 0))) (congrArg Value.int (by rw [k51]; rfl)) ?_
    exact J59 () trivial
  · skip
    have k51 : sp = true := bI_1 h51
    refine x_iconst (v := nI 1) 55 hB d_M_send_54 rfl (by decide) ?_
    refine x_top (v' := .int (nI (if sp then 1 else 0))) (congrArg Value.int (by rw [k51]; rfl)) ?_
    refine x_goto 59 hB d_M_send_55 (by decide) ?_
    exact J59 () trivial
abbrev rm_M_send_b : Room := { frames := 1, cells := 0, slots := 0, locals := 22 }
set_option maxHeartbeats 4000000 in
set_option maxRecDepth 100000 in
theorem c_M_send_b (l : Launch) (E : xE) (hm ms mf mc my mb mz mp mo mm ml md me mg : Nat) (re : Int32) (wr : Nat) (sp rp fi : Bool) (gd : Nat) (la : Int32) (lst : Int64) (s : Nat) (hs : s < 512) (hS : isS s = false) : xC l E y_M_send (.code y_M_send prog_10_method_16_code 4 (some .int)) rm_M_send_b [.ref hm, .int (nI (s))] [(hm, .inr (5, [.int (re), .ref ms, .ref mf, .ref mc, .ref my, .ref mb, .ref mz, .ref mp, .ref mo, .ref mm, .ref ml, .ref md, .int (nI (wr)), .int (bI sp), .int (bI rp), .int (bI fi), .int (nI (gd)), .ref me, .ref mg, .int (la), .int (nI 0), .long (lst), .int 0]))] (xRet (some (.int (nI 0))) [(hm, .inr (5, [.int (nI 1), .ref ms, .ref mf, .ref mc, .ref my, .ref mb, .ref mz, .ref mp, .ref mo, .ref mm, .ref ml, .ref md, .int (nI (wr)), .int (bI sp), .int (bI rp), .int (bI fi), .int (nI (gd)), .ref me, .ref mg, .int (la), .int (nI 0), .long (lst), .int 0]))]) := by
  refine x_of' (own := "LineCoderModel") (mn := "send") (lv := [(0, .ref hm), (1, .int (nI (s)))]) (plainFor_of_name (by decide)) rfl rfl (Nat.le_of_ble_eq_true rfl) rfl ?_
  intro p_ e_ s_ m_ ar_ be_ me_ c_ A_ hA hB
  refine x_aload_n 1 hB d_M_send_0 rfl rfl ?_
  refine x_iload_n 2 hB d_M_send_1 rfl rfl ?_
  refine x_callP (k' := 0) (n' := 0) (rest := [.ref hm]) (st' := [.int (bI (isS s)), .ref hm]) 5 hB (x_pfS (av := [.int (nI (s))]) hB w_608 xHd_code w_7 w_606 w_607 nm_M_isSymbol rfl d_M_send_2) (c_M_isSymbol l E s hs) w_608 xHd_code w_7 [] rfl rfl ⟨by decide, by decide⟩ ⟨by decide, by decide⟩ rfl rfl (Nat.le_of_ble_eq_true rfl) d_M_send_2 rfl rfl ?_
  refine x_top (v' := .int (nI 0)) (congrArg Value.int (by rw [hS]; rfl)) ?_
  refine x_if_ne 12 8 hB d_M_send_5 (by decide) rfl (fun hc => absurd (by decide) hc) (fun _ => ?_)
  refine x_iconst (v := nI 1) 9 hB d_M_send_8 rfl (by decide) ?_
  refine x_goto 32 hB d_M_send_9 (by decide) ?_
  refine x_callD (k' := 0) (n' := 0) (rest := []) (wr := []) (ws' := [(hm, .inr (5, [.int (nI 1), .ref ms, .ref mf, .ref mc, .ref my, .ref mb, .ref mz, .ref mp, .ref mo, .ref mm, .ref ml, .ref md, .int (nI (wr)), .int (bI sp), .int (bI rp), .int (bI fi), .int (nI (gd)), .ref me, .ref mg, .int (la), .int (nI 0), .long (lst), .int 0]))]) (st' := [.int (nI 1)]) 35 hB (x_pfV (av := [.int (nI 1)]) (q0 := 0) hB w_709 xHd_code w_706 w_708 s_M_refused rfl rfl nm_M_refused rfl d_M_send_32) (c_M_refused1 l E hm ms mf mc my mb mz mp mo mm ml md me mg (re) (wr) (sp) (rp) (fi) (gd) (la) (lst)) w_709 xHd_code w_7 [0] [] rfl rfl rfl rfl (by decide) ⟨by decide, by decide⟩ ⟨by decide, by decide⟩ rfl rfl (Nat.le_of_ble_eq_true rfl) d_M_send_32 rfl rfl rfl ?_
  refine x_if_eq 40 38 hB d_M_send_35 (by decide) rfl (fun hc => absurd hc (by decide)) (fun _ => ?_)
  refine x_iconst (v := nI 0) 39 hB d_M_send_38 rfl (by decide) ?_
  exact x_iret hB (w' := [(hm, .inr (5, [.int (nI 1), .ref ms, .ref mf, .ref mc, .ref my, .ref mb, .ref mz, .ref mp, .ref mo, .ref mm, .ref ml, .ref md, .int (nI (wr)), .int (bI sp), .int (bI rp), .int (bI fi), .int (nI (gd)), .ref me, .ref mg, .int (la), .int (nI 0), .long (lst), .int 0]))]) hA [0] rfl rfl (xRet_i) (by decide) (by decide) d_M_send_39
abbrev rm_M_send_o : Room := { frames := 1, cells := 0, slots := 0, locals := 22 }
set_option maxHeartbeats 4000000 in
set_option maxRecDepth 100000 in
theorem c_M_send_o (l : Launch) (E : xE) (hm ms mf mc my mb mz mp mo mm ml md me mg : Nat) (re : Int32) (wr : Nat) (sp rp fi : Bool) (gd : Nat) (la : Int32) (lst : Int64) (k : Int32) (hk : k < 0 ∨ nI 512 ≤ k) : xC l E y_M_send (.code y_M_send prog_10_method_16_code 4 (some .int)) rm_M_send_o [.ref hm, .int (k)] [(hm, .inr (5, [.int (re), .ref ms, .ref mf, .ref mc, .ref my, .ref mb, .ref mz, .ref mp, .ref mo, .ref mm, .ref ml, .ref md, .int (nI (wr)), .int (bI sp), .int (bI rp), .int (bI fi), .int (nI (gd)), .ref me, .ref mg, .int (la), .int (nI 0), .long (lst), .int 0]))] (xRet (some (.int (nI 0))) [(hm, .inr (5, [.int (nI 1), .ref ms, .ref mf, .ref mc, .ref my, .ref mb, .ref mz, .ref mp, .ref mo, .ref mm, .ref ml, .ref md, .int (nI (wr)), .int (bI sp), .int (bI rp), .int (bI fi), .int (nI (gd)), .ref me, .ref mg, .int (la), .int (nI 0), .long (lst), .int 0]))]) := by
  refine x_of' (own := "LineCoderModel") (mn := "send") (lv := [(0, .ref hm), (1, .int (k))]) (plainFor_of_name (by decide)) rfl rfl (Nat.le_of_ble_eq_true rfl) rfl ?_
  intro p_ e_ s_ m_ ar_ be_ me_ c_ A_ hA hB
  refine x_aload_n 1 hB d_M_send_0 rfl rfl ?_
  refine x_iload_n 2 hB d_M_send_1 rfl rfl ?_
  refine x_callP (k' := 0) (n' := 0) (rest := [.ref hm]) (st' := [.int (nI 0), .ref hm]) 5 hB (x_pfS (av := [.int (k)]) hB w_608 xHd_code w_7 w_606 w_607 nm_M_isSymbol rfl d_M_send_2) (c_M_isSymbol_out l E k hk) w_608 xHd_code w_7 [] rfl rfl ⟨by decide, by decide⟩ ⟨by decide, by decide⟩ rfl rfl (Nat.le_of_ble_eq_true rfl) d_M_send_2 rfl rfl ?_
  refine x_if_ne 12 8 hB d_M_send_5 (by decide) rfl (fun hc => absurd (by decide) hc) (fun _ => ?_)
  refine x_iconst (v := nI 1) 9 hB d_M_send_8 rfl (by decide) ?_
  refine x_goto 32 hB d_M_send_9 (by decide) ?_
  refine x_callD (k' := 0) (n' := 0) (rest := []) (wr := []) (ws' := [(hm, .inr (5, [.int (nI 1), .ref ms, .ref mf, .ref mc, .ref my, .ref mb, .ref mz, .ref mp, .ref mo, .ref mm, .ref ml, .ref md, .int (nI (wr)), .int (bI sp), .int (bI rp), .int (bI fi), .int (nI (gd)), .ref me, .ref mg, .int (la), .int (nI 0), .long (lst), .int 0]))]) (st' := [.int (nI 1)]) 35 hB (x_pfV (av := [.int (nI 1)]) (q0 := 0) hB w_709 xHd_code w_706 w_708 s_M_refused rfl rfl nm_M_refused rfl d_M_send_32) (c_M_refused1 l E hm ms mf mc my mb mz mp mo mm ml md me mg (re) (wr) (sp) (rp) (fi) (gd) (la) (lst)) w_709 xHd_code w_7 [0] [] rfl rfl rfl rfl (by decide) ⟨by decide, by decide⟩ ⟨by decide, by decide⟩ rfl rfl (Nat.le_of_ble_eq_true rfl) d_M_send_32 rfl rfl rfl ?_
  refine x_if_eq 40 38 hB d_M_send_35 (by decide) rfl (fun hc => absurd hc (by decide)) (fun _ => ?_)
  refine x_iconst (v := nI 0) 39 hB d_M_send_38 rfl (by decide) ?_
  exact x_iret hB (w' := [(hm, .inr (5, [.int (nI 1), .ref ms, .ref mf, .ref mc, .ref my, .ref mb, .ref mz, .ref mp, .ref mo, .ref mm, .ref ml, .ref md, .int (nI (wr)), .int (bI sp), .int (bI rp), .int (bI fi), .int (nI (gd)), .ref me, .ref mg, .int (la), .int (nI 0), .long (lst), .int 0]))]) hA [0] rfl rfl (xRet_i) (by decide) (by decide) d_M_send_39
abbrev rm_M_send_f : Room := { frames := 1, cells := 0, slots := 0, locals := 22 }
set_option maxHeartbeats 4000000 in
set_option maxRecDepth 100000 in
theorem c_M_send_f (l : Launch) (E : xE) (hm ms mf mc my mb mz mp mo mm ml md me mg : Nat) (re : Int32) (wr : Nat) (sp rp fi : Bool) (gd : Nat) (la : Int32) (lst : Int64) (z0 z1 : Nat) (s : Nat) (hs : s < 512) (hS : isS s = true) (hz0 : z0 ≤ 2640) (hz : 2640 < z0 + 10) : xC l E y_M_send (.code y_M_send prog_10_method_16_code 4 (some .int)) rm_M_send_f [.ref hm, .int (nI (s))] [(hm, .inr (5, [.int (re), .ref ms, .ref mf, .ref mc, .ref my, .ref mb, .ref mz, .ref mp, .ref mo, .ref mm, .ref ml, .ref md, .int (nI (wr)), .int (bI sp), .int (bI rp), .int (bI fi), .int (nI (gd)), .ref me, .ref mg, .int (la), .int (nI 0), .long (lst), .int 0])), (mz, .inl (E.2 1, 2, .inl (pr2 (nI (z0)) (nI (z1)))))] (xRet (some (.int (nI 0))) [(hm, .inr (5, [.int (nI 2), .ref ms, .ref mf, .ref mc, .ref my, .ref mb, .ref mz, .ref mp, .ref mo, .ref mm, .ref ml, .ref md, .int (nI (wr)), .int (bI sp), .int (bI rp), .int (bI fi), .int (nI (gd)), .ref me, .ref mg, .int (la), .int (nI 0), .long (lst), .int 0])), (mz, .inl (E.2 1, 2, .inl (pr2 (nI (z0)) (nI (z1)))))]) := by
  refine x_of' (own := "LineCoderModel") (mn := "send") (lv := [(0, .ref hm), (1, .int (nI (s)))]) (plainFor_of_name (by decide)) rfl rfl (Nat.le_of_ble_eq_true rfl) rfl ?_
  intro p_ e_ s_ m_ ar_ be_ me_ c_ A_ hA hB
  refine x_aload_n 1 hB d_M_send_0 rfl rfl ?_
  refine x_iload_n 2 hB d_M_send_1 rfl rfl ?_
  refine x_callP (k' := 0) (n' := 0) (rest := [.ref hm]) (st' := [.int (bI (isS s)), .ref hm]) 5 hB (x_pfS (av := [.int (nI (s))]) hB w_608 xHd_code w_7 w_606 w_607 nm_M_isSymbol rfl d_M_send_2) (c_M_isSymbol l E s hs) w_608 xHd_code w_7 [] rfl rfl ⟨by decide, by decide⟩ ⟨by decide, by decide⟩ rfl rfl (Nat.le_of_ble_eq_true rfl) d_M_send_2 rfl rfl ?_
  refine x_top (v' := .int (nI 1)) (congrArg Value.int (by rw [hS]; rfl)) ?_
  refine x_if_ne 12 8 hB d_M_send_5 (by decide) rfl (fun _ => ?_) (fun hc => absurd hc (by decide))
  refine x_aload_n 13 hB d_M_send_12 rfl rfl ?_
  refine x_get 16 hB 0 fg_M_25_5 rfl rfl d_M_send_13 rfl ?_
  refine x_iconst (v := nI 0) 17 hB d_M_send_16 rfl (by decide) ?_
  refine x_iald 18 hB 1 rfl (by omega) (by decide) d_M_send_17 rfl ?_
  refine x_top (v' := .int (nI (z0))) rfl ?_
  refine x_bipush (v := nI 10) 20 hB d_M_send_18 rfl (by decide) ?_
  refine x_iadd 21 hB d_M_send_20 rfl ?_
  refine x_top (v' := .int (nI (z0 + 10))) (congrArg Value.int (nI_add _ _)) ?_
  refine x_sipush (v := nI 2640) 24 hB d_M_send_21 rfl (by decide) ?_
  refine x_icmp_le 31 27 hB d_M_send_24 (by decide) rfl (fun hc => absurd hc (nI_ge hz (by omega))) (fun _ => ?_)
  refine x_iconst (v := nI 2) 28 hB d_M_send_27 rfl (by decide) ?_
  refine x_goto 32 hB d_M_send_28 (by decide) ?_
  refine x_callD (k' := 0) (n' := 0) (rest := []) (wr := [(mz, .inl (E.2 1, 2, .inl (pr2 (nI (z0)) (nI (z1)))))]) (ws' := [(mz, .inl (E.2 1, 2, .inl (pr2 (nI (z0)) (nI (z1))))), (hm, .inr (5, [.int (nI 2), .ref ms, .ref mf, .ref mc, .ref my, .ref mb, .ref mz, .ref mp, .ref mo, .ref mm, .ref ml, .ref md, .int (nI (wr)), .int (bI sp), .int (bI rp), .int (bI fi), .int (nI (gd)), .ref me, .ref mg, .int (la), .int (nI 0), .long (lst), .int 0]))]) (st' := [.int (nI 1)]) 35 hB (x_pfV (av := [.int (nI 2)]) (q0 := 0) hB w_709 xHd_code w_706 w_708 s_M_refused rfl rfl nm_M_refused rfl d_M_send_32) (c_M_refused2 l E hm ms mf mc my mb mz mp mo mm ml md me mg (re) (wr) (sp) (rp) (fi) (gd) (la) (lst)) w_709 xHd_code w_7 [0] [1] rfl rfl rfl rfl (by decide) ⟨by decide, by decide⟩ ⟨by decide, by decide⟩ rfl rfl (Nat.le_of_ble_eq_true rfl) d_M_send_32 rfl rfl rfl ?_
  refine x_if_eq 40 38 hB d_M_send_35 (by decide) rfl (fun hc => absurd hc (by decide)) (fun _ => ?_)
  refine x_iconst (v := nI 0) 39 hB d_M_send_38 rfl (by decide) ?_
  exact x_iret hB (w' := [(hm, .inr (5, [.int (nI 2), .ref ms, .ref mf, .ref mc, .ref my, .ref mb, .ref mz, .ref mp, .ref mo, .ref mm, .ref ml, .ref md, .int (nI (wr)), .int (bI sp), .int (bI rp), .int (bI fi), .int (nI (gd)), .ref me, .ref mg, .int (la), .int (nI 0), .long (lst), .int 0])), (mz, .inl (E.2 1, 2, .inl (pr2 (nI (z0)) (nI (z1)))))]) hA [1, 0] rfl rfl (xRet_i) (by decide) (by decide) d_M_send_39
abbrev rm_M_raw0 : Room := { frames := 1, cells := 0, slots := 0, locals := 22 }
set_option maxHeartbeats 4000000 in
set_option maxRecDepth 100000 in
theorem c_M_raw0 (l : Launch) (E : xE) (hm ms mf mc my mb mz mp mo mm ml md me mg : Nat) (re : Int32) (wr : Nat) (sp rp fi : Bool) (gd : Nat) (la : Int32) (lst : Int64) (z0 z1 : Nat) (g : Nat → Int32) (x : Int32) (q : Nat) (hq : q ≤ 32) (hz : z0 + q ≤ 2640) : xC l E y_M_raw (.code y_M_raw prog_10_method_27_code 6 (some .int)) rm_M_raw0 [.ref hm, .int (nI 0), .int (x), .int (nI (q))] [(hm, .inr (5, [.int (re), .ref ms, .ref mf, .ref mc, .ref my, .ref mb, .ref mz, .ref mp, .ref mo, .ref mm, .ref ml, .ref md, .int (nI (wr)), .int (bI sp), .int (bI rp), .int (bI fi), .int (nI (gd)), .ref me, .ref mg, .int (la), .int (nI 0), .long (lst), .int 0])), (mb, .inl (E.2 1, 5280, .inl (g))), (mz, .inl (E.2 1, 2, .inl (pr2 (nI (z0)) (nI (z1)))))] (xRet (some (.int (nI (z0 + q)))) [(hm, .inr (5, [.int (nI 0), .ref ms, .ref mf, .ref mc, .ref my, .ref mb, .ref mz, .ref mp, .ref mo, .ref mm, .ref ml, .ref md, .int (nI (wr)), .int (bI sp), .int (bI rp), .int (bI fi), .int (nI (gd)), .ref me, .ref mg, .int (la), .int (nI 0), .long (lst), .int 0])), (mb, .inl (E.2 1, 5280, .inl (apG g 0 z0 (x) q q))), (mz, .inl (E.2 1, 2, .inl (pr2 (nI (z0 + q)) (nI (z1)))))]) := by
  refine x_of' (own := "LineCoderModel") (mn := "raw") (lv := [(0, .ref hm), (1, .int (nI 0)), (2, .int (x)), (3, .int (nI (q)))]) (plainFor_of_name (by decide)) rfl rfl (Nat.le_of_ble_eq_true rfl) rfl ?_
  intro p_ e_ s_ m_ ar_ be_ me_ c_ A_ hA hB
  refine x_iload_n 1 hB d_M_raw_0 rfl rfl ?_
  refine x_callP (k' := 0) (n' := 0) (rest := []) (st' := [.int (nI 1)]) 4 hB (x_pfS (av := [.int (nI 0)]) hB w_772 xHd_code w_7 w_770 w_771 nm_M_isStream rfl d_M_raw_1) (c_M_isStream_0 l E ) w_772 xHd_code w_7 [] rfl rfl ⟨by decide, by decide⟩ ⟨by decide, by decide⟩ rfl rfl (Nat.le_of_ble_eq_true rfl) d_M_raw_1 rfl rfl ?_
  refine x_if_eq 21 7 hB d_M_raw_4 (by decide) rfl (fun hc => absurd hc (by decide)) (fun _ => ?_)
  refine x_iload_n 8 hB d_M_raw_7 rfl rfl ?_
  refine x_iconst (v := nI 0) 9 hB d_M_raw_8 rfl (by decide) ?_
  refine x_bipush (v := nI 32) 11 hB d_M_raw_9 rfl (by decide) ?_
  refine x_callP (k' := 0) (n' := 0) (rest := []) (st' := [.int (nI 1)]) 14 hB (x_pfS (av := [.int (nI (q)), .int (nI 0), .int (nI 32)]) hB w_716 xHd_code w_7 w_714 w_715 nm_M_isIn rfl d_M_raw_11) (c_M_isIn_y l E (nI q) (nI 0) (nI 32) (nI_nlt (by omega) (by omega)) (nI_nlt (by omega) (by omega))) w_716 xHd_code w_7 [] rfl rfl ⟨by decide, by decide⟩ ⟨by decide, by decide⟩ rfl rfl (Nat.le_of_ble_eq_true rfl) d_M_raw_11 rfl rfl ?_
  refine x_if_eq 21 17 hB d_M_raw_14 (by decide) rfl (fun hc => absurd hc (by decide)) (fun _ => ?_)
  refine x_iconst (v := nI 1) 18 hB d_M_raw_17 rfl (by decide) ?_
  refine x_goto 22 hB d_M_raw_18 (by decide) ?_
  refine x_istore 24 hB d_M_raw_22 rfl (by decide) (lv' := [(4, .int (nI 1)), (0, .ref hm), (1, .int (nI 0)), (2, .int (x)), (3, .int (nI (q)))]) rfl ?_
  refine x_aload_n 25 hB d_M_raw_24 rfl rfl ?_
  refine x_iload 27 hB d_M_raw_25 rfl rfl ?_
  refine x_if_ne 34 30 hB d_M_raw_27 (by decide) rfl (fun _ => ?_) (fun hc => absurd hc (by decide))
  refine x_aload_n 35 hB d_M_raw_34 rfl rfl ?_
  refine x_get 38 hB 0 fg_M_25_5 rfl rfl d_M_raw_35 rfl ?_
  refine x_iload_n 39 hB d_M_raw_38 rfl rfl ?_
  refine x_iald 40 hB 2 rfl (by omega) (by decide) d_M_raw_39 rfl ?_
  refine x_top (v' := .int (nI (z0))) rfl ?_
  refine x_iload_n 41 hB d_M_raw_40 rfl rfl ?_
  refine x_iadd 42 hB d_M_raw_41 rfl ?_
  refine x_top (v' := .int (nI (z0 + q))) (congrArg Value.int (nI_add _ _)) ?_
  refine x_sipush (v := nI 2640) 45 hB d_M_raw_42 rfl (by decide) ?_
  refine x_icmp_le 52 48 hB d_M_raw_45 (by decide) rfl (fun _ => ?_) (fun hc => absurd (nI_le hz (by decide)) hc)
  refine x_iconst (v := nI 0) 53 hB d_M_raw_52 rfl (by decide) ?_
  refine x_callD (k' := 0) (n' := 0) (rest := []) (wr := [(mb, .inl (E.2 1, 5280, .inl (g))), (mz, .inl (E.2 1, 2, .inl (pr2 (nI (z0)) (nI (z1)))))]) (ws' := [(mb, .inl (E.2 1, 5280, .inl (g))), (mz, .inl (E.2 1, 2, .inl (pr2 (nI (z0)) (nI (z1))))), (hm, .inr (5, [.int (nI 0), .ref ms, .ref mf, .ref mc, .ref my, .ref mb, .ref mz, .ref mp, .ref mo, .ref mm, .ref ml, .ref md, .int (nI (wr)), .int (bI sp), .int (bI rp), .int (bI fi), .int (nI (gd)), .ref me, .ref mg, .int (la), .int (nI 0), .long (lst), .int 0]))]) (st' := [.int (nI 0)]) 56 hB (x_pfV (av := [.int (nI 0)]) (q0 := 0) hB w_709 xHd_code w_706 w_708 s_M_refused rfl rfl nm_M_refused rfl d_M_raw_53) (c_M_refused0 l E hm ms mf mc my mb mz mp mo mm ml md me mg (re) (wr) (sp) (rp) (fi) (gd) (la) (lst)) w_709 xHd_code w_7 [0] [1, 2] rfl rfl rfl rfl (by decide) ⟨by decide, by decide⟩ ⟨by decide, by decide⟩ rfl rfl (Nat.le_of_ble_eq_true rfl) d_M_raw_53 rfl rfl rfl ?_
  refine x_if_eq 61 59 hB d_M_raw_56 (by decide) rfl (fun _ => ?_) (fun hc => absurd (by decide) hc)
  refine x_iload_n 62 hB d_M_raw_61 rfl rfl ?_
  refine x_iconst (v := nI 1) 63 hB d_M_raw_62 rfl (by decide) ?_
  refine x_isub 64 hB d_M_raw_63 rfl ?_
  refine x_istore 66 hB d_M_raw_64 rfl (by decide) (lv' := [(5, .int ((nI (q)) - (nI 1))), (4, .int (nI 1)), (0, .ref hm), (1, .int (nI 0)), (2, .int (x)), (3, .int (nI (q)))]) rfl ?_
  refine x_lv (lv' := [(0, .ref hm), (1, .int (nI 0)), (2, .int (x)), (3, .int (nI (q))), (4, .int (nI 1)), (5, .int ((nI (q)) - (nI 1)))]) [2, 3, 4, 5, 1, 0] rfl ?_
  refine x_loop (fun u : Nat => u ≤ q) (fun u : Nat => q - u) (fun u : Nat => [(mb, .inl (E.2 1, 5280, .inl (apG g 0 z0 (x) q u))), (mz, .inl (E.2 1, 2, .inl (pr2 (nI (z0 + u)) (nI (z1))))), (hm, .inr (5, [.int (nI 0), .ref ms, .ref mf, .ref mc, .ref my, .ref mb, .ref mz, .ref mp, .ref mo, .ref mm, .ref ml, .ref md, .int (nI (wr)), .int (bI sp), .int (bI rp), .int (bI fi), .int (nI (gd)), .ref me, .ref mg, .int (la), .int (nI 0), .long (lst), .int 0]))]) (fun u : Nat => [(0, .ref hm), (1, .int (nI 0)), (2, .int (x)), (3, .int (nI (q))), (4, .int (nI 1)), (5, .int (nI (q - u) - nI 1))]) (fun u : Nat => []) 0 (Nat.zero_le _) rfl rfl rfl (fun u hI66 IH66 => ?_)
  refine x_iload 68 hB d_M_raw_66 rfl rfl ?_
  refine x_if_lt 88 71 hB d_M_raw_68 (by decide) rfl (fun h68 => ?_) (fun h68 => ?_)
  · skip
    have hu : q = u := by have := xneg h68 (by omega); omega
    subst hu
    refine x_aload_n 89 hB d_M_raw_88 rfl rfl ?_
    refine x_get 92 hB 2 fg_M_25_5 rfl rfl d_M_raw_89 rfl ?_
    refine x_iload_n 93 hB d_M_raw_92 rfl rfl ?_
    refine x_iald 94 hB 1 rfl (by omega) (by decide) d_M_raw_93 rfl ?_
    refine x_top (v' := .int (nI (z0 + q))) rfl ?_
    exact x_iret hB (w' := [(hm, .inr (5, [.int (nI 0), .ref ms, .ref mf, .ref mc, .ref my, .ref mb, .ref mz, .ref mp, .ref mo, .ref mm, .ref ml, .ref md, .int (nI (wr)), .int (bI sp), .int (bI rp), .int (bI fi), .int (nI (gd)), .ref me, .ref mg, .int (la), .int (nI 0), .long (lst), .int 0])), (mb, .inl (E.2 1, 5280, .inl (apG g 0 z0 (x) q q))), (mz, .inl (E.2 1, 2, .inl (pr2 (nI (z0 + q)) (nI (z1)))))]) hA [2, 0, 1] rfl rfl (xRet_i) (by decide) (by decide) d_M_raw_94
  · skip
    have hu : u < q := Nat.lt_of_not_le (fun h => h68 (by rw [show q - u = 0 by omega]; decide))
    refine x_aload_n 72 hB d_M_raw_71 rfl rfl ?_
    refine x_iload_n 73 hB d_M_raw_72 rfl rfl ?_
    refine x_iload_n 74 hB d_M_raw_73 rfl rfl ?_
    refine x_iload 76 hB d_M_raw_74 rfl rfl ?_
    refine x_top (v' := .int (nI (q - u - 1))) (congrArg Value.int (pk_sub (by omega))) ?_
    refine x_ishr 77 hB d_M_raw_76 rfl ?_
    refine x_iconst (v := nI 1) 78 hB d_M_raw_77 rfl (by decide) ?_
    refine x_iand 79 hB d_M_raw_78 rfl ?_
    refine x_top (v' := .int (sbit (x) (q - u - 1))) (congrArg Value.int (rfl)) ?_
    refine x_callD (k' := 0) (n' := 0) (rest := []) (wr := []) (ws' := [(hm, .inr (5, [.int (nI 0), .ref ms, .ref mf, .ref mc, .ref my, .ref mb, .ref mz, .ref mp, .ref mo, .ref mm, .ref ml, .ref md, .int (nI (wr)), .int (bI sp), .int (bI rp), .int (bI fi), .int (nI (gd)), .ref me, .ref mg, .int (la), .int (nI 0), .long (lst), .int 0])), (mb, .inl (E.2 1, 5280, .inl (apG g 0 z0 (x) q (u + 1)))), (mz, .inl (E.2 1, 2, .inl (pr2 (nI (z0 + (u + 1))) (nI (z1)))))]) (st' := []) 82 hB (x_pfV (av := [.int (nI 0), .int (sbit (x) (q - u - 1))]) (q0 := 2) hB w_724 xHd_code w_721 w_723 s_M_append rfl rfl nm_M_append rfl d_M_raw_79) (c_M_append0 l E hm ms mf mc my mb mz mp mo mm ml md me mg (nI 0) (wr) (sp) (rp) (fi) (gd) (la) (lst) (z0 + u) z1 (apG g 0 z0 (x) q u) (sbit (x) (q - u - 1)) (by omega)) w_724 xHd_code w_7 [2, 0, 1] [] rfl rfl rfl rfl (by decide) ⟨by decide, by decide⟩ ⟨by decide, by decide⟩ rfl rfl (Nat.le_of_ble_eq_true rfl) d_M_raw_79 rfl rfl rfl ?_
    refine x_iinc (v := nI (q - (u + 1)) - nI 1) 85 hB d_M_raw_82 rfl 5 rfl ((xdec (by omega)).trans (by rw [Nat.sub_sub])) (by decide) (lv' := [(5, .int (nI (q - (u + 1)) - nI 1)), (0, .ref hm), (1, .int (nI 0)), (2, .int (x)), (3, .int (nI (q))), (4, .int (nI 1))]) rfl ?_
    refine x_goto 66 hB d_M_raw_85 (by decide) ?_
    refine x_lv (lv' := [(0, .ref hm), (1, .int (nI 0)), (2, .int (x)), (3, .int (nI (q))), (4, .int (nI 1)), (5, .int (nI (q - (u + 1)) - nI 1))]) [1, 2, 3, 4, 5, 0] rfl ?_
    refine x_wp (ws' := [(mb, .inl (E.2 1, 5280, .inl (apG g 0 z0 (x) q (u + 1)))), (mz, .inl (E.2 1, 2, .inl (pr2 (nI (z0 + (u + 1))) (nI (z1))))), (hm, .inr (5, [.int (nI 0), .ref ms, .ref mf, .ref mc, .ref my, .ref mb, .ref mz, .ref mp, .ref mo, .ref mm, .ref ml, .ref md, .int (nI (wr)), .int (bI sp), .int (bI rp), .int (bI fi), .int (nI (gd)), .ref me, .ref mg, .int (la), .int (nI 0), .long (lst), .int 0]))]) [1, 2, 0] rfl rfl ?_
    exact IH66 (u + 1) hu (by omega)
abbrev rm_M_raw0_m : Room := { frames := 1, cells := 0, slots := 0, locals := 22 }
set_option maxHeartbeats 4000000 in
set_option maxRecDepth 100000 in
theorem c_M_raw0_m (l : Launch) (E : xE) (hm ms mf mc my mb mz mp mo mm ml md me mg : Nat) (re : Int32) (wr : Nat) (sp rp fi : Bool) (gd : Nat) (la : Int32) (lst : Int64) (x w : Int32) (hw : w < 0 ∨ nI 32 < w) : xC l E y_M_raw (.code y_M_raw prog_10_method_27_code 6 (some .int)) rm_M_raw0_m [.ref hm, .int (nI 0), .int (x), .int (w)] [(hm, .inr (5, [.int (re), .ref ms, .ref mf, .ref mc, .ref my, .ref mb, .ref mz, .ref mp, .ref mo, .ref mm, .ref ml, .ref md, .int (nI (wr)), .int (bI sp), .int (bI rp), .int (bI fi), .int (nI (gd)), .ref me, .ref mg, .int (la), .int (nI 0), .long (lst), .int 0]))] (xRet (some (.int (nI 0))) [(hm, .inr (5, [.int (nI 1), .ref ms, .ref mf, .ref mc, .ref my, .ref mb, .ref mz, .ref mp, .ref mo, .ref mm, .ref ml, .ref md, .int (nI (wr)), .int (bI sp), .int (bI rp), .int (bI fi), .int (nI (gd)), .ref me, .ref mg, .int (la), .int (nI 0), .long (lst), .int 0]))]) := by
  refine x_of' (own := "LineCoderModel") (mn := "raw") (lv := [(0, .ref hm), (1, .int (nI 0)), (2, .int (x)), (3, .int (w))]) (plainFor_of_name (by decide)) rfl rfl (Nat.le_of_ble_eq_true rfl) rfl ?_
  intro p_ e_ s_ m_ ar_ be_ me_ c_ A_ hA hB
  refine x_iload_n 1 hB d_M_raw_0 rfl rfl ?_
  refine x_callP (k' := 0) (n' := 0) (rest := []) (st' := [.int (nI 1)]) 4 hB (x_pfS (av := [.int (nI 0)]) hB w_772 xHd_code w_7 w_770 w_771 nm_M_isStream rfl d_M_raw_1) (c_M_isStream_0 l E ) w_772 xHd_code w_7 [] rfl rfl ⟨by decide, by decide⟩ ⟨by decide, by decide⟩ rfl rfl (Nat.le_of_ble_eq_true rfl) d_M_raw_1 rfl rfl ?_
  refine x_if_eq 21 7 hB d_M_raw_4 (by decide) rfl (fun hc => absurd hc (by decide)) (fun _ => ?_)
  refine x_iload_n 8 hB d_M_raw_7 rfl rfl ?_
  refine x_iconst (v := nI 0) 9 hB d_M_raw_8 rfl (by decide) ?_
  refine x_bipush (v := nI 32) 11 hB d_M_raw_9 rfl (by decide) ?_
  refine x_callP (k' := 0) (n' := 0) (rest := []) (st' := [.int (nI 0)]) 14 hB (x_pfS (av := [.int (w), .int (nI 0), .int (nI 32)]) hB w_716 xHd_code w_7 w_714 w_715 nm_M_isIn rfl d_M_raw_11) (c_M_isIn_n l E w (nI 0) (nI 32) hw) w_716 xHd_code w_7 [] rfl rfl ⟨by decide, by decide⟩ ⟨by decide, by decide⟩ rfl rfl (Nat.le_of_ble_eq_true rfl) d_M_raw_11 rfl rfl ?_
  refine x_if_eq 21 17 hB d_M_raw_14 (by decide) rfl (fun _ => ?_) (fun hc => absurd (by decide) hc)
  refine x_iconst (v := nI 0) 22 hB d_M_raw_21 rfl (by decide) ?_
  refine x_istore 24 hB d_M_raw_22 rfl (by decide) (lv' := [(4, .int (nI 0)), (0, .ref hm), (1, .int (nI 0)), (2, .int (x)), (3, .int (w))]) rfl ?_
  refine x_aload_n 25 hB d_M_raw_24 rfl rfl ?_
  refine x_iload 27 hB d_M_raw_25 rfl rfl ?_
  refine x_if_ne 34 30 hB d_M_raw_27 (by decide) rfl (fun hc => absurd (by decide) hc) (fun _ => ?_)
  refine x_iconst (v := nI 1) 31 hB d_M_raw_30 rfl (by decide) ?_
  refine x_goto 53 hB d_M_raw_31 (by decide) ?_
  refine x_callD (k' := 0) (n' := 0) (rest := []) (wr := []) (ws' := [(hm, .inr (5, [.int (nI 1), .ref ms, .ref mf, .ref mc, .ref my, .ref mb, .ref mz, .ref mp, .ref mo, .ref mm, .ref ml, .ref md, .int (nI (wr)), .int (bI sp), .int (bI rp), .int (bI fi), .int (nI (gd)), .ref me, .ref mg, .int (la), .int (nI 0), .long (lst), .int 0]))]) (st' := [.int (nI 1)]) 56 hB (x_pfV (av := [.int (nI 1)]) (q0 := 0) hB w_709 xHd_code w_706 w_708 s_M_refused rfl rfl nm_M_refused rfl d_M_raw_53) (c_M_refused1 l E hm ms mf mc my mb mz mp mo mm ml md me mg (re) (wr) (sp) (rp) (fi) (gd) (la) (lst)) w_709 xHd_code w_7 [0] [] rfl rfl rfl rfl (by decide) ⟨by decide, by decide⟩ ⟨by decide, by decide⟩ rfl rfl (Nat.le_of_ble_eq_true rfl) d_M_raw_53 rfl rfl rfl ?_
  refine x_if_eq 61 59 hB d_M_raw_56 (by decide) rfl (fun hc => absurd hc (by decide)) (fun _ => ?_)
  refine x_iconst (v := nI 0) 60 hB d_M_raw_59 rfl (by decide) ?_
  exact x_iret hB (w' := [(hm, .inr (5, [.int (nI 1), .ref ms, .ref mf, .ref mc, .ref my, .ref mb, .ref mz, .ref mp, .ref mo, .ref mm, .ref ml, .ref md, .int (nI (wr)), .int (bI sp), .int (bI rp), .int (bI fi), .int (nI (gd)), .ref me, .ref mg, .int (la), .int (nI 0), .long (lst), .int 0]))]) hA [0] rfl rfl (xRet_i) (by decide) (by decide) d_M_raw_60
abbrev rm_M_raw0_f : Room := { frames := 1, cells := 0, slots := 0, locals := 22 }
set_option maxHeartbeats 4000000 in
set_option maxRecDepth 100000 in
theorem c_M_raw0_f (l : Launch) (E : xE) (hm ms mf mc my mb mz mp mo mm ml md me mg : Nat) (re : Int32) (wr : Nat) (sp rp fi : Bool) (gd : Nat) (la : Int32) (lst : Int64) (z0 z1 : Nat) (x : Int32) (q : Nat) (hq : q ≤ 32) (hz0 : z0 ≤ 2640) (hz : 2640 < z0 + q) : xC l E y_M_raw (.code y_M_raw prog_10_method_27_code 6 (some .int)) rm_M_raw0_f [.ref hm, .int (nI 0), .int (x), .int (nI (q))] [(hm, .inr (5, [.int (re), .ref ms, .ref mf, .ref mc, .ref my, .ref mb, .ref mz, .ref mp, .ref mo, .ref mm, .ref ml, .ref md, .int (nI (wr)), .int (bI sp), .int (bI rp), .int (bI fi), .int (nI (gd)), .ref me, .ref mg, .int (la), .int (nI 0), .long (lst), .int 0])), (mz, .inl (E.2 1, 2, .inl (pr2 (nI (z0)) (nI (z1)))))] (xRet (some (.int (nI 0))) [(hm, .inr (5, [.int (nI 2), .ref ms, .ref mf, .ref mc, .ref my, .ref mb, .ref mz, .ref mp, .ref mo, .ref mm, .ref ml, .ref md, .int (nI (wr)), .int (bI sp), .int (bI rp), .int (bI fi), .int (nI (gd)), .ref me, .ref mg, .int (la), .int (nI 0), .long (lst), .int 0])), (mz, .inl (E.2 1, 2, .inl (pr2 (nI (z0)) (nI (z1)))))]) := by
  refine x_of' (own := "LineCoderModel") (mn := "raw") (lv := [(0, .ref hm), (1, .int (nI 0)), (2, .int (x)), (3, .int (nI (q)))]) (plainFor_of_name (by decide)) rfl rfl (Nat.le_of_ble_eq_true rfl) rfl ?_
  intro p_ e_ s_ m_ ar_ be_ me_ c_ A_ hA hB
  refine x_iload_n 1 hB d_M_raw_0 rfl rfl ?_
  refine x_callP (k' := 0) (n' := 0) (rest := []) (st' := [.int (nI 1)]) 4 hB (x_pfS (av := [.int (nI 0)]) hB w_772 xHd_code w_7 w_770 w_771 nm_M_isStream rfl d_M_raw_1) (c_M_isStream_0 l E ) w_772 xHd_code w_7 [] rfl rfl ⟨by decide, by decide⟩ ⟨by decide, by decide⟩ rfl rfl (Nat.le_of_ble_eq_true rfl) d_M_raw_1 rfl rfl ?_
  refine x_if_eq 21 7 hB d_M_raw_4 (by decide) rfl (fun hc => absurd hc (by decide)) (fun _ => ?_)
  refine x_iload_n 8 hB d_M_raw_7 rfl rfl ?_
  refine x_iconst (v := nI 0) 9 hB d_M_raw_8 rfl (by decide) ?_
  refine x_bipush (v := nI 32) 11 hB d_M_raw_9 rfl (by decide) ?_
  refine x_callP (k' := 0) (n' := 0) (rest := []) (st' := [.int (nI 1)]) 14 hB (x_pfS (av := [.int (nI (q)), .int (nI 0), .int (nI 32)]) hB w_716 xHd_code w_7 w_714 w_715 nm_M_isIn rfl d_M_raw_11) (c_M_isIn_y l E (nI q) (nI 0) (nI 32) (nI_nlt (by omega) (by omega)) (nI_nlt (by omega) (by omega))) w_716 xHd_code w_7 [] rfl rfl ⟨by decide, by decide⟩ ⟨by decide, by decide⟩ rfl rfl (Nat.le_of_ble_eq_true rfl) d_M_raw_11 rfl rfl ?_
  refine x_if_eq 21 17 hB d_M_raw_14 (by decide) rfl (fun hc => absurd hc (by decide)) (fun _ => ?_)
  refine x_iconst (v := nI 1) 18 hB d_M_raw_17 rfl (by decide) ?_
  refine x_goto 22 hB d_M_raw_18 (by decide) ?_
  refine x_istore 24 hB d_M_raw_22 rfl (by decide) (lv' := [(4, .int (nI 1)), (0, .ref hm), (1, .int (nI 0)), (2, .int (x)), (3, .int (nI (q)))]) rfl ?_
  refine x_aload_n 25 hB d_M_raw_24 rfl rfl ?_
  refine x_iload 27 hB d_M_raw_25 rfl rfl ?_
  refine x_if_ne 34 30 hB d_M_raw_27 (by decide) rfl (fun _ => ?_) (fun hc => absurd hc (by decide))
  refine x_aload_n 35 hB d_M_raw_34 rfl rfl ?_
  refine x_get 38 hB 0 fg_M_25_5 rfl rfl d_M_raw_35 rfl ?_
  refine x_iload_n 39 hB d_M_raw_38 rfl rfl ?_
  refine x_iald 40 hB 1 rfl (by omega) (by decide) d_M_raw_39 rfl ?_
  refine x_top (v' := .int (nI (z0))) rfl ?_
  refine x_iload_n 41 hB d_M_raw_40 rfl rfl ?_
  refine x_iadd 42 hB d_M_raw_41 rfl ?_
  refine x_top (v' := .int (nI (z0 + q))) (congrArg Value.int (nI_add _ _)) ?_
  refine x_sipush (v := nI 2640) 45 hB d_M_raw_42 rfl (by decide) ?_
  refine x_icmp_le 52 48 hB d_M_raw_45 (by decide) rfl (fun hc => absurd hc (nI_ge hz (by omega))) (fun _ => ?_)
  refine x_iconst (v := nI 2) 49 hB d_M_raw_48 rfl (by decide) ?_
  refine x_goto 53 hB d_M_raw_49 (by decide) ?_
  refine x_callD (k' := 0) (n' := 0) (rest := []) (wr := [(mz, .inl (E.2 1, 2, .inl (pr2 (nI (z0)) (nI (z1)))))]) (ws' := [(mz, .inl (E.2 1, 2, .inl (pr2 (nI (z0)) (nI (z1))))), (hm, .inr (5, [.int (nI 2), .ref ms, .ref mf, .ref mc, .ref my, .ref mb, .ref mz, .ref mp, .ref mo, .ref mm, .ref ml, .ref md, .int (nI (wr)), .int (bI sp), .int (bI rp), .int (bI fi), .int (nI (gd)), .ref me, .ref mg, .int (la), .int (nI 0), .long (lst), .int 0]))]) (st' := [.int (nI 1)]) 56 hB (x_pfV (av := [.int (nI 2)]) (q0 := 0) hB w_709 xHd_code w_706 w_708 s_M_refused rfl rfl nm_M_refused rfl d_M_raw_53) (c_M_refused2 l E hm ms mf mc my mb mz mp mo mm ml md me mg (re) (wr) (sp) (rp) (fi) (gd) (la) (lst)) w_709 xHd_code w_7 [0] [1] rfl rfl rfl rfl (by decide) ⟨by decide, by decide⟩ ⟨by decide, by decide⟩ rfl rfl (Nat.le_of_ble_eq_true rfl) d_M_raw_53 rfl rfl rfl ?_
  refine x_if_eq 61 59 hB d_M_raw_56 (by decide) rfl (fun hc => absurd hc (by decide)) (fun _ => ?_)
  refine x_iconst (v := nI 0) 60 hB d_M_raw_59 rfl (by decide) ?_
  exact x_iret hB (w' := [(hm, .inr (5, [.int (nI 2), .ref ms, .ref mf, .ref mc, .ref my, .ref mb, .ref mz, .ref mp, .ref mo, .ref mm, .ref ml, .ref md, .int (nI (wr)), .int (bI sp), .int (bI rp), .int (bI fi), .int (nI (gd)), .ref me, .ref mg, .int (la), .int (nI 0), .long (lst), .int 0])), (mz, .inl (E.2 1, 2, .inl (pr2 (nI (z0)) (nI (z1)))))]) hA [1, 0] rfl rfl (xRet_i) (by decide) (by decide) d_M_raw_60
abbrev rm_M_bend0 : Room := { frames := 1, cells := 0, slots := 0, locals := 22 }
set_option maxHeartbeats 4000000 in
set_option maxRecDepth 100000 in
theorem c_M_bend0 (l : Launch) (E : xE) (hm ms mf mc my mb mz mp mo mm ml md me mg : Nat) (re : Int32) (wr : Nat) (sp rp fi : Bool) (gd : Nat) (la : Int32) (lst : Int64) (z0 z1 : Nat) (g : Nat → Int32) (j : Nat) (hj : j < z0) (hz : z0 ≤ 2640) (hb : g (0 + j) = 0 ∨ g (0 + j) = 1) : xC l E y_M_bend (.code y_M_bend prog_10_method_28_code 3 (some .boolean)) rm_M_bend0 [.ref hm, .int (nI 0), .int (nI (j))] [(hm, .inr (5, [.int (re), .ref ms, .ref mf, .ref mc, .ref my, .ref mb, .ref mz, .ref mp, .ref mo, .ref mm, .ref ml, .ref md, .int (nI (wr)), .int (bI sp), .int (bI rp), .int (bI fi), .int (nI (gd)), .ref me, .ref mg, .int (la), .int (nI 0), .long (lst), .int 0])), (mb, .inl (E.2 1, 5280, .inl (g))), (mz, .inl (E.2 1, 2, .inl (pr2 (nI (z0)) (nI (z1)))))] (xRet (some (.int (bI (decide (g (0 + j) = 0))))) [(hm, .inr (5, [.int (nI 0), .ref ms, .ref mf, .ref mc, .ref my, .ref mb, .ref mz, .ref mp, .ref mo, .ref mm, .ref ml, .ref md, .int (nI (wr)), .int (bI sp), .int (bI rp), .int (bI fi), .int (nI (gd)), .ref me, .ref mg, .int (la), .int (nI 0), .long (lst), .int 0])), (mb, .inl (E.2 1, 5280, .inl (upd g (0 + j) (1 - g (0 + j))))), (mz, .inl (E.2 1, 2, .inl (pr2 (nI (z0)) (nI (z1)))))]) := by
  refine x_of' (own := "LineCoderModel") (mn := "bend") (lv := [(0, .ref hm), (1, .int (nI 0)), (2, .int (nI (j)))]) (plainFor_of_name (by decide)) rfl rfl (Nat.le_of_ble_eq_true rfl) rfl ?_
  intro p_ e_ s_ m_ ar_ be_ me_ c_ A_ hA hB
  refine x_aload_n 1 hB d_M_bend_0 rfl rfl ?_
  refine x_iload_n 2 hB d_M_bend_1 rfl rfl ?_
  refine x_callP (k' := 0) (n' := 0) (rest := [.ref hm]) (st' := [.int (nI 1), .ref hm]) 5 hB (x_pfS (av := [.int (nI 0)]) hB w_772 xHd_code w_7 w_770 w_771 nm_M_isStream rfl d_M_bend_2) (c_M_isStream_0 l E ) w_772 xHd_code w_7 [] rfl rfl ⟨by decide, by decide⟩ ⟨by decide, by decide⟩ rfl rfl (Nat.le_of_ble_eq_true rfl) d_M_bend_2 rfl rfl ?_
  refine x_if_ne 12 8 hB d_M_bend_5 (by decide) rfl (fun _ => ?_) (fun hc => absurd hc (by decide))
  refine x_iload_n 13 hB d_M_bend_12 rfl rfl ?_
  refine x_iconst (v := nI 0) 14 hB d_M_bend_13 rfl (by decide) ?_
  refine x_aload_n 15 hB d_M_bend_14 rfl rfl ?_
  refine x_get 18 hB 0 fg_M_25_5 rfl rfl d_M_bend_15 rfl ?_
  refine x_iload_n 19 hB d_M_bend_18 rfl rfl ?_
  refine x_iald 20 hB 2 rfl (by omega) (by decide) d_M_bend_19 rfl ?_
  refine x_top (v' := .int (nI (z0))) rfl ?_
  refine x_iconst (v := nI 1) 21 hB d_M_bend_20 rfl (by decide) ?_
  refine x_isub 22 hB d_M_bend_21 rfl ?_
  refine x_top (v' := .int (nI (z0 - 1))) (congrArg Value.int (pk_sub (by omega))) ?_
  refine x_callP (k' := 0) (n' := 0) (rest := [.ref hm]) (st' := [.int (nI 1), .ref hm]) 25 hB (x_pfS (av := [.int (nI (j)), .int (nI 0), .int (nI (z0 - 1))]) hB w_716 xHd_code w_7 w_714 w_715 nm_M_isIn rfl d_M_bend_22) (c_M_isIn_y l E (nI j) (nI 0) (nI (z0 - 1)) (nI_nlt (by omega) (by omega)) (nI_nlt (by omega) (by omega))) w_716 xHd_code w_7 [] rfl rfl ⟨by decide, by decide⟩ ⟨by decide, by decide⟩ rfl rfl (Nat.le_of_ble_eq_true rfl) d_M_bend_22 rfl rfl ?_
  refine x_if_ne 32 28 hB d_M_bend_25 (by decide) rfl (fun _ => ?_) (fun hc => absurd hc (by decide))
  refine x_iconst (v := nI 0) 33 hB d_M_bend_32 rfl (by decide) ?_
  refine x_callD (k' := 0) (n' := 0) (rest := []) (wr := [(mb, .inl (E.2 1, 5280, .inl (g))), (mz, .inl (E.2 1, 2, .inl (pr2 (nI (z0)) (nI (z1)))))]) (ws' := [(mb, .inl (E.2 1, 5280, .inl (g))), (mz, .inl (E.2 1, 2, .inl (pr2 (nI (z0)) (nI (z1))))), (hm, .inr (5, [.int (nI 0), .ref ms, .ref mf, .ref mc, .ref my, .ref mb, .ref mz, .ref mp, .ref mo, .ref mm, .ref ml, .ref md, .int (nI (wr)), .int (bI sp), .int (bI rp), .int (bI fi), .int (nI (gd)), .ref me, .ref mg, .int (la), .int (nI 0), .long (lst), .int 0]))]) (st' := [.int (nI 0)]) 36 hB (x_pfV (av := [.int (nI 0)]) (q0 := 0) hB w_709 xHd_code w_706 w_708 s_M_refused rfl rfl nm_M_refused rfl d_M_bend_33) (c_M_refused0 l E hm ms mf mc my mb mz mp mo mm ml md me mg (re) (wr) (sp) (rp) (fi) (gd) (la) (lst)) w_709 xHd_code w_7 [0] [1, 2] rfl rfl rfl rfl (by decide) ⟨by decide, by decide⟩ ⟨by decide, by decide⟩ rfl rfl (Nat.le_of_ble_eq_true rfl) d_M_bend_33 rfl rfl rfl ?_
  refine x_if_eq 41 39 hB d_M_bend_36 (by decide) rfl (fun _ => ?_) (fun hc => absurd (by decide) hc)
  refine x_aload_n 42 hB d_M_bend_41 rfl rfl ?_
  refine x_get 45 hB 2 fg_M_22_5 rfl rfl d_M_bend_42 rfl ?_
  refine x_sipush (v := nI 2640) 48 hB d_M_bend_45 rfl (by decide) ?_
  refine x_iload_n 49 hB d_M_bend_48 rfl rfl ?_
  refine x_imul 50 hB d_M_bend_49 rfl ?_
  refine x_top (v' := .int (nI 0)) (congrArg Value.int (by decide)) ?_
  refine x_iload_n 51 hB d_M_bend_50 rfl rfl ?_
  refine x_iadd 52 hB d_M_bend_51 rfl ?_
  refine x_top (v' := .int (nI (0 + j))) (congrArg Value.int (nI_add _ _)) ?_
  refine x_iconst (v := nI 1) 53 hB d_M_bend_52 rfl (by decide) ?_
  refine x_aload_n 54 hB d_M_bend_53 rfl rfl ?_
  refine x_get 57 hB 2 fg_M_22_5 rfl rfl d_M_bend_54 rfl ?_
  refine x_sipush (v := nI 2640) 60 hB d_M_bend_57 rfl (by decide) ?_
  refine x_iload_n 61 hB d_M_bend_60 rfl rfl ?_
  refine x_imul 62 hB d_M_bend_61 rfl ?_
  refine x_top (v' := .int (nI 0)) (congrArg Value.int (by decide)) ?_
  refine x_iload_n 63 hB d_M_bend_62 rfl rfl ?_
  refine x_iadd 64 hB d_M_bend_63 rfl ?_
  refine x_top (v' := .int (nI (0 + j))) (congrArg Value.int (nI_add _ _)) ?_
  refine x_iald 65 hB 0 rfl (by omega) (by decide) d_M_bend_64 rfl ?_
  refine x_isub 66 hB d_M_bend_65 rfl ?_
  refine x_top (v' := .int (1 - g (0 + j))) (congrArg Value.int (rfl)) ?_
  refine x_iast 67 hB 0 (ws' := [(mb, .inl (E.2 1, 5280, .inl (upd g (0 + j) (1 - g (0 + j))))), (mz, .inl (E.2 1, 2, .inl (pr2 (nI (z0)) (nI (z1))))), (hm, .inr (5, [.int (nI 0), .ref ms, .ref mf, .ref mc, .ref my, .ref mb, .ref mz, .ref mp, .ref mo, .ref mm, .ref ml, .ref md, .int (nI (wr)), .int (bI sp), .int (bI rp), .int (bI fi), .int (nI (gd)), .ref me, .ref mg, .int (la), .int (nI 0), .long (lst), .int 0]))]) rfl (by omega) (by decide) (x' := 1 - g (0 + j)) (rfl) rfl d_M_bend_66 rfl ?_
  refine x_aload_n 68 hB d_M_bend_67 rfl rfl ?_
  refine x_get 71 hB 2 fg_M_22_5 rfl rfl d_M_bend_68 rfl ?_
  refine x_sipush (v := nI 2640) 74 hB d_M_bend_71 rfl (by decide) ?_
  refine x_iload_n 75 hB d_M_bend_74 rfl rfl ?_
  refine x_imul 76 hB d_M_bend_75 rfl ?_
  refine x_top (v' := .int (nI 0)) (congrArg Value.int (by decide)) ?_
  refine x_iload_n 77 hB d_M_bend_76 rfl rfl ?_
  refine x_iadd 78 hB d_M_bend_77 rfl ?_
  refine x_top (v' := .int (nI (0 + j))) (congrArg Value.int (nI_add _ _)) ?_
  refine x_iald 79 hB 0 rfl (by omega) (by decide) d_M_bend_78 rfl ?_
  refine x_top (v' := .int (1 - g (0 + j))) (congrArg Value.int (pk_us)) ?_
  refine x_iconst (v := nI 1) 80 hB d_M_bend_79 rfl (by decide) ?_
  refine x_icmp_ne 87 83 hB d_M_bend_80 (by decide) rfl (fun h80 => ?_) (fun h80 => ?_)
  · skip
    have k80 : ¬ g (0 + j) = 0 := fun h => h80 ((turn01 hb).mpr h)
    refine x_iconst (v := nI 0) 88 hB d_M_bend_87 rfl (by decide) ?_
    exact x_zret hB (by decide) (w' := [(hm, .inr (5, [.int (nI 0), .ref ms, .ref mf, .ref mc, .ref my, .ref mb, .ref mz, .ref mp, .ref mo, .ref mm, .ref ml, .ref md, .int (nI (wr)), .int (bI sp), .int (bI rp), .int (bI fi), .int (nI (gd)), .ref me, .ref mg, .int (la), .int (nI 0), .long (lst), .int 0])), (mb, .inl (E.2 1, 5280, .inl (upd g (0 + j) (1 - g (0 + j))))), (mz, .inl (E.2 1, 2, .inl (pr2 (nI (z0)) (nI (z1)))))]) hA [2, 0, 1] rfl rfl (⟨by rw [show (nI 0) = bI (decide (g (0 + j) = 0)) from bF0 (decide_eq_false k80)], rfl⟩) (by decide) (by decide) d_M_bend_88
  · skip
    have k80 : g (0 + j) = 0 := (turn01 hb).mp h80
    refine x_iconst (v := nI 1) 84 hB d_M_bend_83 rfl (by decide) ?_
    refine x_goto 88 hB d_M_bend_84 (by decide) ?_
    exact x_zret hB (by decide) (w' := [(hm, .inr (5, [.int (nI 0), .ref ms, .ref mf, .ref mc, .ref my, .ref mb, .ref mz, .ref mp, .ref mo, .ref mm, .ref ml, .ref md, .int (nI (wr)), .int (bI sp), .int (bI rp), .int (bI fi), .int (nI (gd)), .ref me, .ref mg, .int (la), .int (nI 0), .long (lst), .int 0])), (mb, .inl (E.2 1, 5280, .inl (upd g (0 + j) (1 - g (0 + j))))), (mz, .inl (E.2 1, 2, .inl (pr2 (nI (z0)) (nI (z1)))))]) hA [2, 0, 1] rfl rfl (⟨by rw [show (nI 1) = bI (decide (g (0 + j) = 0)) from bT (decide_eq_true k80)], rfl⟩) (by decide) (by decide) d_M_bend_88
abbrev rm_M_bend0_o : Room := { frames := 1, cells := 0, slots := 0, locals := 22 }
set_option maxHeartbeats 4000000 in
set_option maxRecDepth 100000 in
theorem c_M_bend0_o (l : Launch) (E : xE) (hm ms mf mc my mb mz mp mo mm ml md me mg : Nat) (re : Int32) (wr : Nat) (sp rp fi : Bool) (gd : Nat) (la : Int32) (lst : Int64) (z0 z1 : Nat) (k : Int32) (hk : k < 0 ∨ nI z0 - nI 1 < k) : xC l E y_M_bend (.code y_M_bend prog_10_method_28_code 3 (some .boolean)) rm_M_bend0_o [.ref hm, .int (nI 0), .int (k)] [(hm, .inr (5, [.int (re), .ref ms, .ref mf, .ref mc, .ref my, .ref mb, .ref mz, .ref mp, .ref mo, .ref mm, .ref ml, .ref md, .int (nI (wr)), .int (bI sp), .int (bI rp), .int (bI fi), .int (nI (gd)), .ref me, .ref mg, .int (la), .int (nI 0), .long (lst), .int 0])), (mz, .inl (E.2 1, 2, .inl (pr2 (nI (z0)) (nI (z1)))))] (xRet (some (.int (nI 0))) [(hm, .inr (5, [.int (nI 2), .ref ms, .ref mf, .ref mc, .ref my, .ref mb, .ref mz, .ref mp, .ref mo, .ref mm, .ref ml, .ref md, .int (nI (wr)), .int (bI sp), .int (bI rp), .int (bI fi), .int (nI (gd)), .ref me, .ref mg, .int (la), .int (nI 0), .long (lst), .int 0])), (mz, .inl (E.2 1, 2, .inl (pr2 (nI (z0)) (nI (z1)))))]) := by
  refine x_of' (own := "LineCoderModel") (mn := "bend") (lv := [(0, .ref hm), (1, .int (nI 0)), (2, .int (k))]) (plainFor_of_name (by decide)) rfl rfl (Nat.le_of_ble_eq_true rfl) rfl ?_
  intro p_ e_ s_ m_ ar_ be_ me_ c_ A_ hA hB
  refine x_aload_n 1 hB d_M_bend_0 rfl rfl ?_
  refine x_iload_n 2 hB d_M_bend_1 rfl rfl ?_
  refine x_callP (k' := 0) (n' := 0) (rest := [.ref hm]) (st' := [.int (nI 1), .ref hm]) 5 hB (x_pfS (av := [.int (nI 0)]) hB w_772 xHd_code w_7 w_770 w_771 nm_M_isStream rfl d_M_bend_2) (c_M_isStream_0 l E ) w_772 xHd_code w_7 [] rfl rfl ⟨by decide, by decide⟩ ⟨by decide, by decide⟩ rfl rfl (Nat.le_of_ble_eq_true rfl) d_M_bend_2 rfl rfl ?_
  refine x_if_ne 12 8 hB d_M_bend_5 (by decide) rfl (fun _ => ?_) (fun hc => absurd hc (by decide))
  refine x_iload_n 13 hB d_M_bend_12 rfl rfl ?_
  refine x_iconst (v := nI 0) 14 hB d_M_bend_13 rfl (by decide) ?_
  refine x_aload_n 15 hB d_M_bend_14 rfl rfl ?_
  refine x_get 18 hB 0 fg_M_25_5 rfl rfl d_M_bend_15 rfl ?_
  refine x_iload_n 19 hB d_M_bend_18 rfl rfl ?_
  refine x_iald 20 hB 1 rfl (by omega) (by decide) d_M_bend_19 rfl ?_
  refine x_top (v' := .int (nI (z0))) rfl ?_
  refine x_iconst (v := nI 1) 21 hB d_M_bend_20 rfl (by decide) ?_
  refine x_isub 22 hB d_M_bend_21 rfl ?_
  refine x_callP (k' := 0) (n' := 0) (rest := [.ref hm]) (st' := [.int (nI 0), .ref hm]) 25 hB (x_pfS (av := [.int (k), .int (nI 0), .int ((nI (z0)) - (nI 1))]) hB w_716 xHd_code w_7 w_714 w_715 nm_M_isIn rfl d_M_bend_22) (c_M_isIn_n l E k (nI 0) (nI z0 - nI 1) hk) w_716 xHd_code w_7 [] rfl rfl ⟨by decide, by decide⟩ ⟨by decide, by decide⟩ rfl rfl (Nat.le_of_ble_eq_true rfl) d_M_bend_22 rfl rfl ?_
  refine x_if_ne 32 28 hB d_M_bend_25 (by decide) rfl (fun hc => absurd (by decide) hc) (fun _ => ?_)
  refine x_iconst (v := nI 2) 29 hB d_M_bend_28 rfl (by decide) ?_
  refine x_goto 33 hB d_M_bend_29 (by decide) ?_
  refine x_callD (k' := 0) (n' := 0) (rest := []) (wr := [(mz, .inl (E.2 1, 2, .inl (pr2 (nI (z0)) (nI (z1)))))]) (ws' := [(mz, .inl (E.2 1, 2, .inl (pr2 (nI (z0)) (nI (z1))))), (hm, .inr (5, [.int (nI 2), .ref ms, .ref mf, .ref mc, .ref my, .ref mb, .ref mz, .ref mp, .ref mo, .ref mm, .ref ml, .ref md, .int (nI (wr)), .int (bI sp), .int (bI rp), .int (bI fi), .int (nI (gd)), .ref me, .ref mg, .int (la), .int (nI 0), .long (lst), .int 0]))]) (st' := [.int (nI 1)]) 36 hB (x_pfV (av := [.int (nI 2)]) (q0 := 0) hB w_709 xHd_code w_706 w_708 s_M_refused rfl rfl nm_M_refused rfl d_M_bend_33) (c_M_refused2 l E hm ms mf mc my mb mz mp mo mm ml md me mg (re) (wr) (sp) (rp) (fi) (gd) (la) (lst)) w_709 xHd_code w_7 [0] [1] rfl rfl rfl rfl (by decide) ⟨by decide, by decide⟩ ⟨by decide, by decide⟩ rfl rfl (Nat.le_of_ble_eq_true rfl) d_M_bend_33 rfl rfl rfl ?_
  refine x_if_eq 41 39 hB d_M_bend_36 (by decide) rfl (fun hc => absurd hc (by decide)) (fun _ => ?_)
  refine x_iconst (v := nI 0) 40 hB d_M_bend_39 rfl (by decide) ?_
  exact x_zret hB (by decide) (w' := [(hm, .inr (5, [.int (nI 2), .ref ms, .ref mf, .ref mc, .ref my, .ref mb, .ref mz, .ref mp, .ref mo, .ref mm, .ref ml, .ref md, .int (nI (wr)), .int (bI sp), .int (bI rp), .int (bI fi), .int (nI (gd)), .ref me, .ref mg, .int (la), .int (nI 0), .long (lst), .int 0])), (mz, .inl (E.2 1, 2, .inl (pr2 (nI (z0)) (nI (z1)))))]) hA [1, 0] rfl rfl (xRet_i) (by decide) (by decide) d_M_bend_40
abbrev rm_M_lose0_m : Room := { frames := 1, cells := 0, slots := 0, locals := 21 }
set_option maxHeartbeats 4000000 in
set_option maxRecDepth 100000 in
theorem c_M_lose0_m (l : Launch) (E : xE) (hm ms mf mc my mb mz mp mo mm ml md me mg : Nat) (re : Int32) (wr : Nat) (sp rp fi : Bool) (gd : Nat) (la : Int32) (lst : Int64) (k w : Int32) (hw : w < 0) : xC l E y_M_lose (.code y_M_lose prog_10_method_29_code 7 (some .int)) rm_M_lose0_m [.ref hm, .int (nI 0), .int (k), .int (w)] [(hm, .inr (5, [.int (re), .ref ms, .ref mf, .ref mc, .ref my, .ref mb, .ref mz, .ref mp, .ref mo, .ref mm, .ref ml, .ref md, .int (nI (wr)), .int (bI sp), .int (bI rp), .int (bI fi), .int (nI (gd)), .ref me, .ref mg, .int (la), .int (nI 0), .long (lst), .int 0]))] (xRet (some (.int (nI 0))) [(hm, .inr (5, [.int (nI 1), .ref ms, .ref mf, .ref mc, .ref my, .ref mb, .ref mz, .ref mp, .ref mo, .ref mm, .ref ml, .ref md, .int (nI (wr)), .int (bI sp), .int (bI rp), .int (bI fi), .int (nI (gd)), .ref me, .ref mg, .int (la), .int (nI 0), .long (lst), .int 0]))]) := by
  refine x_of' (own := "LineCoderModel") (mn := "lose") (lv := [(0, .ref hm), (1, .int (nI 0)), (2, .int (k)), (3, .int (w))]) (plainFor_of_name (by decide)) rfl rfl (Nat.le_of_ble_eq_true rfl) rfl ?_
  intro p_ e_ s_ m_ ar_ be_ me_ c_ A_ hA hB
  refine x_iload_n 1 hB d_M_lose_0 rfl rfl ?_
  refine x_callP (k' := 0) (n' := 0) (rest := []) (st' := [.int (nI 1)]) 4 hB (x_pfS (av := [.int (nI 0)]) hB w_772 xHd_code w_7 w_770 w_771 nm_M_isStream rfl d_M_lose_1) (c_M_isStream_0 l E ) w_772 xHd_code w_7 [] rfl rfl ⟨by decide, by decide⟩ ⟨by decide, by decide⟩ rfl rfl (Nat.le_of_ble_eq_true rfl) d_M_lose_1 rfl rfl ?_
  refine x_if_eq 19 7 hB d_M_lose_4 (by decide) rfl (fun hc => absurd hc (by decide)) (fun _ => ?_)
  refine x_iload_n 8 hB d_M_lose_7 rfl rfl ?_
  refine x_if_lt 19 11 hB d_M_lose_8 (by decide) rfl (fun _ => ?_) (fun hc => absurd (hw) hc)
  refine x_iconst (v := nI 0) 20 hB d_M_lose_19 rfl (by decide) ?_
  refine x_istore 22 hB d_M_lose_20 rfl (by decide) (lv' := [(4, .int (nI 0)), (0, .ref hm), (1, .int (nI 0)), (2, .int (k)), (3, .int (w))]) rfl ?_
  refine x_aload_n 23 hB d_M_lose_22 rfl rfl ?_
  refine x_iload 25 hB d_M_lose_23 rfl rfl ?_
  refine x_if_eq 42 28 hB d_M_lose_25 (by decide) rfl (fun _ => ?_) (fun hc => absurd (by decide) hc)
  refine x_iconst (v := nI 1) 43 hB d_M_lose_42 rfl (by decide) ?_
  refine x_callD (k' := 0) (n' := 0) (rest := []) (wr := []) (ws' := [(hm, .inr (5, [.int (nI 1), .ref ms, .ref mf, .ref mc, .ref my, .ref mb, .ref mz, .ref mp, .ref mo, .ref mm, .ref ml, .ref md, .int (nI (wr)), .int (bI sp), .int (bI rp), .int (bI fi), .int (nI (gd)), .ref me, .ref mg, .int (la), .int (nI 0), .long (lst), .int 0]))]) (st' := [.int (nI 1)]) 46 hB (x_pfV (av := [.int (nI 1)]) (q0 := 0) hB w_709 xHd_code w_706 w_708 s_M_refused rfl rfl nm_M_refused rfl d_M_lose_43) (c_M_refused1 l E hm ms mf mc my mb mz mp mo mm ml md me mg (re) (wr) (sp) (rp) (fi) (gd) (la) (lst)) w_709 xHd_code w_7 [0] [] rfl rfl rfl rfl (by decide) ⟨by decide, by decide⟩ ⟨by decide, by decide⟩ rfl rfl (Nat.le_of_ble_eq_true rfl) d_M_lose_43 rfl rfl rfl ?_
  refine x_if_eq 51 49 hB d_M_lose_46 (by decide) rfl (fun hc => absurd hc (by decide)) (fun _ => ?_)
  refine x_iconst (v := nI 0) 50 hB d_M_lose_49 rfl (by decide) ?_
  exact x_iret hB (w' := [(hm, .inr (5, [.int (nI 1), .ref ms, .ref mf, .ref mc, .ref my, .ref mb, .ref mz, .ref mp, .ref mo, .ref mm, .ref ml, .ref md, .int (nI (wr)), .int (bI sp), .int (bI rp), .int (bI fi), .int (nI (gd)), .ref me, .ref mg, .int (la), .int (nI 0), .long (lst), .int 0]))]) hA [0] rfl rfl (xRet_i) (by decide) (by decide) d_M_lose_50
abbrev rm_M_lose0_k : Room := { frames := 1, cells := 0, slots := 0, locals := 21 }
set_option maxHeartbeats 4000000 in
set_option maxRecDepth 100000 in
theorem c_M_lose0_k (l : Launch) (E : xE) (hm ms mf mc my mb mz mp mo mm ml md me mg : Nat) (re : Int32) (wr : Nat) (sp rp fi : Bool) (gd : Nat) (la : Int32) (lst : Int64) (k w : Int32) (hw : ¬ w < 0) (hk : k < 0) : xC l E y_M_lose (.code y_M_lose prog_10_method_29_code 7 (some .int)) rm_M_lose0_k [.ref hm, .int (nI 0), .int (k), .int (w)] [(hm, .inr (5, [.int (re), .ref ms, .ref mf, .ref mc, .ref my, .ref mb, .ref mz, .ref mp, .ref mo, .ref mm, .ref ml, .ref md, .int (nI (wr)), .int (bI sp), .int (bI rp), .int (bI fi), .int (nI (gd)), .ref me, .ref mg, .int (la), .int (nI 0), .long (lst), .int 0]))] (xRet (some (.int (nI 0))) [(hm, .inr (5, [.int (nI 1), .ref ms, .ref mf, .ref mc, .ref my, .ref mb, .ref mz, .ref mp, .ref mo, .ref mm, .ref ml, .ref md, .int (nI (wr)), .int (bI sp), .int (bI rp), .int (bI fi), .int (nI (gd)), .ref me, .ref mg, .int (la), .int (nI 0), .long (lst), .int 0]))]) := by
  refine x_of' (own := "LineCoderModel") (mn := "lose") (lv := [(0, .ref hm), (1, .int (nI 0)), (2, .int (k)), (3, .int (w))]) (plainFor_of_name (by decide)) rfl rfl (Nat.le_of_ble_eq_true rfl) rfl ?_
  intro p_ e_ s_ m_ ar_ be_ me_ c_ A_ hA hB
  refine x_iload_n 1 hB d_M_lose_0 rfl rfl ?_
  refine x_callP (k' := 0) (n' := 0) (rest := []) (st' := [.int (nI 1)]) 4 hB (x_pfS (av := [.int (nI 0)]) hB w_772 xHd_code w_7 w_770 w_771 nm_M_isStream rfl d_M_lose_1) (c_M_isStream_0 l E ) w_772 xHd_code w_7 [] rfl rfl ⟨by decide, by decide⟩ ⟨by decide, by decide⟩ rfl rfl (Nat.le_of_ble_eq_true rfl) d_M_lose_1 rfl rfl ?_
  refine x_if_eq 19 7 hB d_M_lose_4 (by decide) rfl (fun hc => absurd hc (by decide)) (fun _ => ?_)
  refine x_iload_n 8 hB d_M_lose_7 rfl rfl ?_
  refine x_if_lt 19 11 hB d_M_lose_8 (by decide) rfl (fun hc => absurd hc (hw)) (fun _ => ?_)
  refine x_iload_n 12 hB d_M_lose_11 rfl rfl ?_
  refine x_if_lt 19 15 hB d_M_lose_12 (by decide) rfl (fun _ => ?_) (fun hc => absurd (hk) hc)
  refine x_iconst (v := nI 0) 20 hB d_M_lose_19 rfl (by decide) ?_
  refine x_istore 22 hB d_M_lose_20 rfl (by decide) (lv' := [(4, .int (nI 0)), (0, .ref hm), (1, .int (nI 0)), (2, .int (k)), (3, .int (w))]) rfl ?_
  refine x_aload_n 23 hB d_M_lose_22 rfl rfl ?_
  refine x_iload 25 hB d_M_lose_23 rfl rfl ?_
  refine x_if_eq 42 28 hB d_M_lose_25 (by decide) rfl (fun _ => ?_) (fun hc => absurd (by decide) hc)
  refine x_iconst (v := nI 1) 43 hB d_M_lose_42 rfl (by decide) ?_
  refine x_callD (k' := 0) (n' := 0) (rest := []) (wr := []) (ws' := [(hm, .inr (5, [.int (nI 1), .ref ms, .ref mf, .ref mc, .ref my, .ref mb, .ref mz, .ref mp, .ref mo, .ref mm, .ref ml, .ref md, .int (nI (wr)), .int (bI sp), .int (bI rp), .int (bI fi), .int (nI (gd)), .ref me, .ref mg, .int (la), .int (nI 0), .long (lst), .int 0]))]) (st' := [.int (nI 1)]) 46 hB (x_pfV (av := [.int (nI 1)]) (q0 := 0) hB w_709 xHd_code w_706 w_708 s_M_refused rfl rfl nm_M_refused rfl d_M_lose_43) (c_M_refused1 l E hm ms mf mc my mb mz mp mo mm ml md me mg (re) (wr) (sp) (rp) (fi) (gd) (la) (lst)) w_709 xHd_code w_7 [0] [] rfl rfl rfl rfl (by decide) ⟨by decide, by decide⟩ ⟨by decide, by decide⟩ rfl rfl (Nat.le_of_ble_eq_true rfl) d_M_lose_43 rfl rfl rfl ?_
  refine x_if_eq 51 49 hB d_M_lose_46 (by decide) rfl (fun hc => absurd hc (by decide)) (fun _ => ?_)
  refine x_iconst (v := nI 0) 50 hB d_M_lose_49 rfl (by decide) ?_
  exact x_iret hB (w' := [(hm, .inr (5, [.int (nI 1), .ref ms, .ref mf, .ref mc, .ref my, .ref mb, .ref mz, .ref mp, .ref mo, .ref mm, .ref ml, .ref md, .int (nI (wr)), .int (bI sp), .int (bI rp), .int (bI fi), .int (nI (gd)), .ref me, .ref mg, .int (la), .int (nI 0), .long (lst), .int 0]))]) hA [0] rfl rfl (xRet_i) (by decide) (by decide) d_M_lose_50
abbrev rm_M_lose0_p : Room := { frames := 1, cells := 0, slots := 0, locals := 21 }
set_option maxHeartbeats 4000000 in
set_option maxRecDepth 100000 in
theorem c_M_lose0_p (l : Launch) (E : xE) (hm ms mf mc my mb mz mp mo mm ml md me mg : Nat) (re : Int32) (wr : Nat) (sp rp fi : Bool) (gd : Nat) (la : Int32) (lst : Int64) (p0 p1 : Nat) (k w : Int32) (hw : ¬ w < 0) (hk0 : ¬ k < 0) (hk : k < nI p0) : xC l E y_M_lose (.code y_M_lose prog_10_method_29_code 7 (some .int)) rm_M_lose0_p [.ref hm, .int (nI 0), .int (k), .int (w)] [(hm, .inr (5, [.int (re), .ref ms, .ref mf, .ref mc, .ref my, .ref mb, .ref mz, .ref mp, .ref mo, .ref mm, .ref ml, .ref md, .int (nI (wr)), .int (bI sp), .int (bI rp), .int (bI fi), .int (nI (gd)), .ref me, .ref mg, .int (la), .int (nI 0), .long (lst), .int 0])), (mp, .inl (E.2 1, 2, .inl (pr2 (nI (p0)) (nI (p1)))))] (xRet (some (.int (nI 0))) [(hm, .inr (5, [.int (nI 1), .ref ms, .ref mf, .ref mc, .ref my, .ref mb, .ref mz, .ref mp, .ref mo, .ref mm, .ref ml, .ref md, .int (nI (wr)), .int (bI sp), .int (bI rp), .int (bI fi), .int (nI (gd)), .ref me, .ref mg, .int (la), .int (nI 0), .long (lst), .int 0])), (mp, .inl (E.2 1, 2, .inl (pr2 (nI (p0)) (nI (p1)))))]) := by
  refine x_of' (own := "LineCoderModel") (mn := "lose") (lv := [(0, .ref hm), (1, .int (nI 0)), (2, .int (k)), (3, .int (w))]) (plainFor_of_name (by decide)) rfl rfl (Nat.le_of_ble_eq_true rfl) rfl ?_
  intro p_ e_ s_ m_ ar_ be_ me_ c_ A_ hA hB
  refine x_iload_n 1 hB d_M_lose_0 rfl rfl ?_
  refine x_callP (k' := 0) (n' := 0) (rest := []) (st' := [.int (nI 1)]) 4 hB (x_pfS (av := [.int (nI 0)]) hB w_772 xHd_code w_7 w_770 w_771 nm_M_isStream rfl d_M_lose_1) (c_M_isStream_0 l E ) w_772 xHd_code w_7 [] rfl rfl ⟨by decide, by decide⟩ ⟨by decide, by decide⟩ rfl rfl (Nat.le_of_ble_eq_true rfl) d_M_lose_1 rfl rfl ?_
  refine x_if_eq 19 7 hB d_M_lose_4 (by decide) rfl (fun hc => absurd hc (by decide)) (fun _ => ?_)
  refine x_iload_n 8 hB d_M_lose_7 rfl rfl ?_
  refine x_if_lt 19 11 hB d_M_lose_8 (by decide) rfl (fun hc => absurd hc (hw)) (fun _ => ?_)
  refine x_iload_n 12 hB d_M_lose_11 rfl rfl ?_
  refine x_if_lt 19 15 hB d_M_lose_12 (by decide) rfl (fun hc => absurd hc (hk0)) (fun _ => ?_)
  refine x_iconst (v := nI 1) 16 hB d_M_lose_15 rfl (by decide) ?_
  refine x_goto 20 hB d_M_lose_16 (by decide) ?_
  refine x_istore 22 hB d_M_lose_20 rfl (by decide) (lv' := [(4, .int (nI 1)), (0, .ref hm), (1, .int (nI 0)), (2, .int (k)), (3, .int (w))]) rfl ?_
  refine x_aload_n 23 hB d_M_lose_22 rfl rfl ?_
  refine x_iload 25 hB d_M_lose_23 rfl rfl ?_
  refine x_if_eq 42 28 hB d_M_lose_25 (by decide) rfl (fun hc => absurd hc (by decide)) (fun _ => ?_)
  refine x_iload_n 29 hB d_M_lose_28 rfl rfl ?_
  refine x_aload_n 30 hB d_M_lose_29 rfl rfl ?_
  refine x_get 33 hB 0 fg_M_28_5 rfl rfl d_M_lose_30 rfl ?_
  refine x_iload_n 34 hB d_M_lose_33 rfl rfl ?_
  refine x_iald 35 hB 1 rfl (by omega) (by decide) d_M_lose_34 rfl ?_
  refine x_top (v' := .int (nI (p0))) rfl ?_
  refine x_icmp_lt 42 38 hB d_M_lose_35 (by decide) rfl (fun _ => ?_) (fun hc => absurd (hk) hc)
  refine x_iconst (v := nI 1) 43 hB d_M_lose_42 rfl (by decide) ?_
  refine x_callD (k' := 0) (n' := 0) (rest := []) (wr := [(mp, .inl (E.2 1, 2, .inl (pr2 (nI (p0)) (nI (p1)))))]) (ws' := [(mp, .inl (E.2 1, 2, .inl (pr2 (nI (p0)) (nI (p1))))), (hm, .inr (5, [.int (nI 1), .ref ms, .ref mf, .ref mc, .ref my, .ref mb, .ref mz, .ref mp, .ref mo, .ref mm, .ref ml, .ref md, .int (nI (wr)), .int (bI sp), .int (bI rp), .int (bI fi), .int (nI (gd)), .ref me, .ref mg, .int (la), .int (nI 0), .long (lst), .int 0]))]) (st' := [.int (nI 1)]) 46 hB (x_pfV (av := [.int (nI 1)]) (q0 := 0) hB w_709 xHd_code w_706 w_708 s_M_refused rfl rfl nm_M_refused rfl d_M_lose_43) (c_M_refused1 l E hm ms mf mc my mb mz mp mo mm ml md me mg (re) (wr) (sp) (rp) (fi) (gd) (la) (lst)) w_709 xHd_code w_7 [0] [1] rfl rfl rfl rfl (by decide) ⟨by decide, by decide⟩ ⟨by decide, by decide⟩ rfl rfl (Nat.le_of_ble_eq_true rfl) d_M_lose_43 rfl rfl rfl ?_
  refine x_if_eq 51 49 hB d_M_lose_46 (by decide) rfl (fun hc => absurd hc (by decide)) (fun _ => ?_)
  refine x_iconst (v := nI 0) 50 hB d_M_lose_49 rfl (by decide) ?_
  exact x_iret hB (w' := [(hm, .inr (5, [.int (nI 1), .ref ms, .ref mf, .ref mc, .ref my, .ref mb, .ref mz, .ref mp, .ref mo, .ref mm, .ref ml, .ref md, .int (nI (wr)), .int (bI sp), .int (bI rp), .int (bI fi), .int (nI (gd)), .ref me, .ref mg, .int (la), .int (nI 0), .long (lst), .int 0])), (mp, .inl (E.2 1, 2, .inl (pr2 (nI (p0)) (nI (p1)))))]) hA [1, 0] rfl rfl (xRet_i) (by decide) (by decide) d_M_lose_50
abbrev rm_M_lose0_o : Room := { frames := 1, cells := 0, slots := 0, locals := 21 }
set_option maxHeartbeats 4000000 in
set_option maxRecDepth 100000 in
theorem c_M_lose0_o (l : Launch) (E : xE) (hm ms mf mc my mb mz mp mo mm ml md me mg : Nat) (re : Int32) (wr : Nat) (sp rp fi : Bool) (gd : Nat) (la : Int32) (lst : Int64) (z0 z1 : Nat) (p0 p1 : Nat) (k w : Int32) (hw : ¬ w < 0) (hk0 : ¬ k < 0) (hkp : ¬ k < nI p0) (hk : ¬ k < nI z0) : xC l E y_M_lose (.code y_M_lose prog_10_method_29_code 7 (some .int)) rm_M_lose0_o [.ref hm, .int (nI 0), .int (k), .int (w)] [(hm, .inr (5, [.int (re), .ref ms, .ref mf, .ref mc, .ref my, .ref mb, .ref mz, .ref mp, .ref mo, .ref mm, .ref ml, .ref md, .int (nI (wr)), .int (bI sp), .int (bI rp), .int (bI fi), .int (nI (gd)), .ref me, .ref mg, .int (la), .int (nI 0), .long (lst), .int 0])), (mz, .inl (E.2 1, 2, .inl (pr2 (nI (z0)) (nI (z1))))), (mp, .inl (E.2 1, 2, .inl (pr2 (nI (p0)) (nI (p1)))))] (xRet (some (.int (nI 0))) [(hm, .inr (5, [.int (nI 0), .ref ms, .ref mf, .ref mc, .ref my, .ref mb, .ref mz, .ref mp, .ref mo, .ref mm, .ref ml, .ref md, .int (nI (wr)), .int (bI sp), .int (bI rp), .int (bI fi), .int (nI (gd)), .ref me, .ref mg, .int (la), .int (nI 0), .long (lst), .int 0])), (mz, .inl (E.2 1, 2, .inl (pr2 (nI (z0)) (nI (z1))))), (mp, .inl (E.2 1, 2, .inl (pr2 (nI (p0)) (nI (p1)))))]) := by
  refine x_of' (own := "LineCoderModel") (mn := "lose") (lv := [(0, .ref hm), (1, .int (nI 0)), (2, .int (k)), (3, .int (w))]) (plainFor_of_name (by decide)) rfl rfl (Nat.le_of_ble_eq_true rfl) rfl ?_
  intro p_ e_ s_ m_ ar_ be_ me_ c_ A_ hA hB
  refine x_iload_n 1 hB d_M_lose_0 rfl rfl ?_
  refine x_callP (k' := 0) (n' := 0) (rest := []) (st' := [.int (nI 1)]) 4 hB (x_pfS (av := [.int (nI 0)]) hB w_772 xHd_code w_7 w_770 w_771 nm_M_isStream rfl d_M_lose_1) (c_M_isStream_0 l E ) w_772 xHd_code w_7 [] rfl rfl ⟨by decide, by decide⟩ ⟨by decide, by decide⟩ rfl rfl (Nat.le_of_ble_eq_true rfl) d_M_lose_1 rfl rfl ?_
  refine x_if_eq 19 7 hB d_M_lose_4 (by decide) rfl (fun hc => absurd hc (by decide)) (fun _ => ?_)
  refine x_iload_n 8 hB d_M_lose_7 rfl rfl ?_
  refine x_if_lt 19 11 hB d_M_lose_8 (by decide) rfl (fun hc => absurd hc (hw)) (fun _ => ?_)
  refine x_iload_n 12 hB d_M_lose_11 rfl rfl ?_
  refine x_if_lt 19 15 hB d_M_lose_12 (by decide) rfl (fun hc => absurd hc (hk0)) (fun _ => ?_)
  refine x_iconst (v := nI 1) 16 hB d_M_lose_15 rfl (by decide) ?_
  refine x_goto 20 hB d_M_lose_16 (by decide) ?_
  refine x_istore 22 hB d_M_lose_20 rfl (by decide) (lv' := [(4, .int (nI 1)), (0, .ref hm), (1, .int (nI 0)), (2, .int (k)), (3, .int (w))]) rfl ?_
  refine x_aload_n 23 hB d_M_lose_22 rfl rfl ?_
  refine x_iload 25 hB d_M_lose_23 rfl rfl ?_
  refine x_if_eq 42 28 hB d_M_lose_25 (by decide) rfl (fun hc => absurd hc (by decide)) (fun _ => ?_)
  refine x_iload_n 29 hB d_M_lose_28 rfl rfl ?_
  refine x_aload_n 30 hB d_M_lose_29 rfl rfl ?_
  refine x_get 33 hB 0 fg_M_28_5 rfl rfl d_M_lose_30 rfl ?_
  refine x_iload_n 34 hB d_M_lose_33 rfl rfl ?_
  refine x_iald 35 hB 2 rfl (by omega) (by decide) d_M_lose_34 rfl ?_
  refine x_top (v' := .int (nI (p0))) rfl ?_
  refine x_icmp_lt 42 38 hB d_M_lose_35 (by decide) rfl (fun hc => absurd hc (hkp)) (fun _ => ?_)
  refine x_iconst (v := nI 0) 39 hB d_M_lose_38 rfl (by decide) ?_
  refine x_goto 43 hB d_M_lose_39 (by decide) ?_
  refine x_callD (k' := 0) (n' := 0) (rest := []) (wr := [(mz, .inl (E.2 1, 2, .inl (pr2 (nI (z0)) (nI (z1))))), (mp, .inl (E.2 1, 2, .inl (pr2 (nI (p0)) (nI (p1)))))]) (ws' := [(mz, .inl (E.2 1, 2, .inl (pr2 (nI (z0)) (nI (z1))))), (mp, .inl (E.2 1, 2, .inl (pr2 (nI (p0)) (nI (p1))))), (hm, .inr (5, [.int (nI 0), .ref ms, .ref mf, .ref mc, .ref my, .ref mb, .ref mz, .ref mp, .ref mo, .ref mm, .ref ml, .ref md, .int (nI (wr)), .int (bI sp), .int (bI rp), .int (bI fi), .int (nI (gd)), .ref me, .ref mg, .int (la), .int (nI 0), .long (lst), .int 0]))]) (st' := [.int (nI 0)]) 46 hB (x_pfV (av := [.int (nI 0)]) (q0 := 0) hB w_709 xHd_code w_706 w_708 s_M_refused rfl rfl nm_M_refused rfl d_M_lose_43) (c_M_refused0 l E hm ms mf mc my mb mz mp mo mm ml md me mg (re) (wr) (sp) (rp) (fi) (gd) (la) (lst)) w_709 xHd_code w_7 [0] [1, 2] rfl rfl rfl rfl (by decide) ⟨by decide, by decide⟩ ⟨by decide, by decide⟩ rfl rfl (Nat.le_of_ble_eq_true rfl) d_M_lose_43 rfl rfl rfl ?_
  refine x_if_eq 51 49 hB d_M_lose_46 (by decide) rfl (fun _ => ?_) (fun hc => absurd (by decide) hc)
  refine x_iload_n 52 hB d_M_lose_51 rfl rfl ?_
  refine x_aload_n 53 hB d_M_lose_52 rfl rfl ?_
  refine x_get 56 hB 2 fg_M_25_5 rfl rfl d_M_lose_53 rfl ?_
  refine x_iload_n 57 hB d_M_lose_56 rfl rfl ?_
  refine x_iald 58 hB 0 rfl (by omega) (by decide) d_M_lose_57 rfl ?_
  refine x_top (v' := .int (nI (z0))) rfl ?_
  refine x_icmp_lt 63 61 hB d_M_lose_58 (by decide) rfl (fun hc => absurd hc (hk)) (fun _ => ?_)
  refine x_iconst (v := nI 0) 62 hB d_M_lose_61 rfl (by decide) ?_
  exact x_iret hB (w' := [(hm, .inr (5, [.int (nI 0), .ref ms, .ref mf, .ref mc, .ref my, .ref mb, .ref mz, .ref mp, .ref mo, .ref mm, .ref ml, .ref md, .int (nI (wr)), .int (bI sp), .int (bI rp), .int (bI fi), .int (nI (gd)), .ref me, .ref mg, .int (la), .int (nI 0), .long (lst), .int 0])), (mz, .inl (E.2 1, 2, .inl (pr2 (nI (z0)) (nI (z1))))), (mp, .inl (E.2 1, 2, .inl (pr2 (nI (p0)) (nI (p1)))))]) hA [2, 0, 1] rfl rfl (xRet_i) (by decide) (by decide) d_M_lose_62
abbrev rm_M_lose0 : Room := { frames := 1, cells := 0, slots := 0, locals := 21 }
set_option maxHeartbeats 4000000 in
set_option maxRecDepth 100000 in
theorem c_M_lose0 (l : Launch) (E : xE) (hm ms mf mc my mb mz mp mo mm ml md me mg : Nat) (re : Int32) (wr : Nat) (sp rp fi : Bool) (gd : Nat) (la : Int32) (lst : Int64) (z0 z1 : Nat) (g : Nat → Int32) (p0 p1 : Nat) (j q : Nat) (hj : j < z0) (hpj : p0 ≤ j) (hz : z0 ≤ 2640) (hq : q < 2147483648) : xC l E y_M_lose (.code y_M_lose prog_10_method_29_code 7 (some .int)) rm_M_lose0 [.ref hm, .int (nI 0), .int (nI (j)), .int (nI (q))] [(hm, .inr (5, [.int (re), .ref ms, .ref mf, .ref mc, .ref my, .ref mb, .ref mz, .ref mp, .ref mo, .ref mm, .ref ml, .ref md, .int (nI (wr)), .int (bI sp), .int (bI rp), .int (bI fi), .int (nI (gd)), .ref me, .ref mg, .int (la), .int (nI 0), .long (lst), .int 0])), (mb, .inl (E.2 1, 5280, .inl (g))), (mz, .inl (E.2 1, 2, .inl (pr2 (nI (z0)) (nI (z1))))), (mp, .inl (E.2 1, 2, .inl (pr2 (nI (p0)) (nI (p1)))))] (xRet (some (.int (nI (min q (z0 - j))))) [(hm, .inr (5, [.int (nI 0), .ref ms, .ref mf, .ref mc, .ref my, .ref mb, .ref mz, .ref mp, .ref mo, .ref mm, .ref ml, .ref md, .int (nI (wr)), .int (bI sp), .int (bI rp), .int (bI fi), .int (nI (gd)), .ref me, .ref mg, .int (la), .int (nI 0), .long (lst), .int 0])), (mb, .inl (E.2 1, 5280, .inl (lsG g (0 + j) (min q (z0 - j)) (z0 - min q (z0 - j) - j)))), (mz, .inl (E.2 1, 2, .inl (pr2 (nI (z0 - min q (z0 - j))) (nI (z1))))), (mp, .inl (E.2 1, 2, .inl (pr2 (nI (p0)) (nI (p1)))))]) := by
  refine x_of' (own := "LineCoderModel") (mn := "lose") (lv := [(0, .ref hm), (1, .int (nI 0)), (2, .int (nI (j))), (3, .int (nI (q)))]) (plainFor_of_name (by decide)) rfl rfl (Nat.le_of_ble_eq_true rfl) rfl ?_
  intro p_ e_ s_ m_ ar_ be_ me_ c_ A_ hA hB
  refine x_iload_n 1 hB d_M_lose_0 rfl rfl ?_
  refine x_callP (k' := 0) (n' := 0) (rest := []) (st' := [.int (nI 1)]) 4 hB (x_pfS (av := [.int (nI 0)]) hB w_772 xHd_code w_7 w_770 w_771 nm_M_isStream rfl d_M_lose_1) (c_M_isStream_0 l E ) w_772 xHd_code w_7 [] rfl rfl ⟨by decide, by decide⟩ ⟨by decide, by decide⟩ rfl rfl (Nat.le_of_ble_eq_true rfl) d_M_lose_1 rfl rfl ?_
  refine x_if_eq 19 7 hB d_M_lose_4 (by decide) rfl (fun hc => absurd hc (by decide)) (fun _ => ?_)
  refine x_iload_n 8 hB d_M_lose_7 rfl rfl ?_
  refine x_if_lt 19 11 hB d_M_lose_8 (by decide) rfl (fun hc => absurd hc (nI_pos hq)) (fun _ => ?_)
  refine x_iload_n 12 hB d_M_lose_11 rfl rfl ?_
  refine x_if_lt 19 15 hB d_M_lose_12 (by decide) rfl (fun hc => absurd hc (nI_pos (by omega))) (fun _ => ?_)
  refine x_iconst (v := nI 1) 16 hB d_M_lose_15 rfl (by decide) ?_
  refine x_goto 20 hB d_M_lose_16 (by decide) ?_
  refine x_istore 22 hB d_M_lose_20 rfl (by decide) (lv' := [(4, .int (nI 1)), (0, .ref hm), (1, .int (nI 0)), (2, .int (nI (j))), (3, .int (nI (q)))]) rfl ?_
  refine x_aload_n 23 hB d_M_lose_22 rfl rfl ?_
  refine x_iload 25 hB d_M_lose_23 rfl rfl ?_
  refine x_if_eq 42 28 hB d_M_lose_25 (by decide) rfl (fun hc => absurd hc (by decide)) (fun _ => ?_)
  refine x_iload_n 29 hB d_M_lose_28 rfl rfl ?_
  refine x_aload_n 30 hB d_M_lose_29 rfl rfl ?_
  refine x_get 33 hB 0 fg_M_28_5 rfl rfl d_M_lose_30 rfl ?_
  refine x_iload_n 34 hB d_M_lose_33 rfl rfl ?_
  refine x_iald 35 hB 3 rfl (by omega) (by decide) d_M_lose_34 rfl ?_
  refine x_top (v' := .int (nI (p0))) rfl ?_
  refine x_icmp_lt 42 38 hB d_M_lose_35 (by decide) rfl (fun hc => absurd hc (nI_nlt hpj (by omega))) (fun _ => ?_)
  refine x_iconst (v := nI 0) 39 hB d_M_lose_38 rfl (by decide) ?_
  refine x_goto 43 hB d_M_lose_39 (by decide) ?_
  refine x_callD (k' := 0) (n' := 0) (rest := []) (wr := [(mb, .inl (E.2 1, 5280, .inl (g))), (mz, .inl (E.2 1, 2, .inl (pr2 (nI (z0)) (nI (z1))))), (mp, .inl (E.2 1, 2, .inl (pr2 (nI (p0)) (nI (p1)))))]) (ws' := [(mb, .inl (E.2 1, 5280, .inl (g))), (mz, .inl (E.2 1, 2, .inl (pr2 (nI (z0)) (nI (z1))))), (mp, .inl (E.2 1, 2, .inl (pr2 (nI (p0)) (nI (p1))))), (hm, .inr (5, [.int (nI 0), .ref ms, .ref mf, .ref mc, .ref my, .ref mb, .ref mz, .ref mp, .ref mo, .ref mm, .ref ml, .ref md, .int (nI (wr)), .int (bI sp), .int (bI rp), .int (bI fi), .int (nI (gd)), .ref me, .ref mg, .int (la), .int (nI 0), .long (lst), .int 0]))]) (st' := [.int (nI 0)]) 46 hB (x_pfV (av := [.int (nI 0)]) (q0 := 0) hB w_709 xHd_code w_706 w_708 s_M_refused rfl rfl nm_M_refused rfl d_M_lose_43) (c_M_refused0 l E hm ms mf mc my mb mz mp mo mm ml md me mg (re) (wr) (sp) (rp) (fi) (gd) (la) (lst)) w_709 xHd_code w_7 [0] [1, 2, 3] rfl rfl rfl rfl (by decide) ⟨by decide, by decide⟩ ⟨by decide, by decide⟩ rfl rfl (Nat.le_of_ble_eq_true rfl) d_M_lose_43 rfl rfl rfl ?_
  refine x_if_eq 51 49 hB d_M_lose_46 (by decide) rfl (fun _ => ?_) (fun hc => absurd (by decide) hc)
  refine x_iload_n 52 hB d_M_lose_51 rfl rfl ?_
  refine x_aload_n 53 hB d_M_lose_52 rfl rfl ?_
  refine x_get 56 hB 3 fg_M_25_5 rfl rfl d_M_lose_53 rfl ?_
  refine x_iload_n 57 hB d_M_lose_56 rfl rfl ?_
  refine x_iald 58 hB 1 rfl (by omega) (by decide) d_M_lose_57 rfl ?_
  refine x_top (v' := .int (nI (z0))) rfl ?_
  refine x_icmp_lt 63 61 hB d_M_lose_58 (by decide) rfl (fun _ => ?_) (fun hc => absurd (nI_lt hj (by omega)) hc)
  refine x_join 87 (fun _u : Unit => True) (fun _u : Unit => [(mb, .inl (E.2 1, 5280, .inl (g))), (mz, .inl (E.2 1, 2, .inl (pr2 (nI (z0)) (nI (z1))))), (mp, .inl (E.2 1, 2, .inl (pr2 (nI (p0)) (nI (p1))))), (hm, .inr (5, [.int (nI 0), .ref ms, .ref mf, .ref mc, .ref my, .ref mb, .ref mz, .ref mp, .ref mo, .ref mm, .ref ml, .ref md, .int (nI (wr)), .int (bI sp), .int (bI rp), .int (bI fi), .int (nI (gd)), .ref me, .ref mg, .int (la), .int (nI 0), .long (lst), .int 0]))]) (fun _u : Unit => [(0, .ref hm), (1, .int (nI 0)), (2, .int (nI (j))), (3, .int (nI (q))), (4, .int (nI 1))]) (fun _u : Unit => [.int (nI (min q (z0 - j)))]) (fun _u hJ87 => ?_) (fun J87 => ?_)
  · skip
    have hg : min q (z0 - j) ≤ z0 - j := Nat.min_le_right _ _
    refine x_istore 89 hB d_M_lose_87 rfl (by decide) (lv' := [(5, .int (nI (min q (z0 - j)))), (0, .ref hm), (1, .int (nI 0)), (2, .int (nI (j))), (3, .int (nI (q))), (4, .int (nI 1))]) rfl ?_
    refine x_aload_n 90 hB d_M_lose_89 rfl rfl ?_
    refine x_get 93 hB 3 fg_M_25_5 rfl rfl d_M_lose_90 rfl ?_
    refine x_iload_n 94 hB d_M_lose_93 rfl rfl ?_
    refine x_aload_n 95 hB d_M_lose_94 rfl rfl ?_
    refine x_get 98 hB 3 fg_M_25_5 rfl rfl d_M_lose_95 rfl ?_
    refine x_iload_n 99 hB d_M_lose_98 rfl rfl ?_
    refine x_iald 100 hB 1 rfl (by omega) (by decide) d_M_lose_99 rfl ?_
    refine x_top (v' := .int (nI (z0))) rfl ?_
    refine x_iload 102 hB d_M_lose_100 rfl rfl ?_
    refine x_isub 103 hB d_M_lose_102 rfl ?_
    refine x_top (v' := .int (nI (z0 - min q (z0 - j)))) (congrArg Value.int (pk_sub (by omega))) ?_
    refine x_iast 104 hB 1 (ws' := [(mb, .inl (E.2 1, 5280, .inl (g))), (mz, .inl (E.2 1, 2, .inl (pr2 (nI (z0 - min q (z0 - j))) (nI (z1))))), (mp, .inl (E.2 1, 2, .inl (pr2 (nI (p0)) (nI (p1))))), (hm, .inr (5, [.int (nI 0), .ref ms, .ref mf, .ref mc, .ref my, .ref mb, .ref mz, .ref mp, .ref mo, .ref mm, .ref ml, .ref md, .int (nI (wr)), .int (bI sp), .int (bI rp), .int (bI fi), .int (nI (gd)), .ref me, .ref mg, .int (la), .int (nI 0), .long (lst), .int 0]))]) rfl (by omega) (by decide) (x' := nI (z0 - min q (z0 - j))) (rfl) (by rw [pr2_0]; rfl) d_M_lose_103 rfl ?_
    refine x_iload_n 105 hB d_M_lose_104 rfl rfl ?_
    refine x_istore 107 hB d_M_lose_105 rfl (by decide) (lv' := [(6, .int (nI (j))), (5, .int (nI (min q (z0 - j)))), (0, .ref hm), (1, .int (nI 0)), (2, .int (nI (j))), (3, .int (nI (q))), (4, .int (nI 1))]) rfl ?_
    refine x_lv (lv' := [(0, .ref hm), (1, .int (nI 0)), (2, .int (nI (j))), (3, .int (nI (q))), (4, .int (nI 1)), (5, .int (nI (min q (z0 - j)))), (6, .int (nI (j)))]) [2, 3, 4, 5, 6, 1, 0] rfl ?_
    refine x_loop (fun t : Nat => t ≤ (z0 - min q (z0 - j) - j)) (fun t : Nat => (z0 - min q (z0 - j) - j) - t) (fun t : Nat => [(mb, .inl (E.2 1, 5280, .inl (lsG g (0 + j) (min q (z0 - j)) t))), (mz, .inl (E.2 1, 2, .inl (pr2 (nI (z0 - min q (z0 - j))) (nI (z1))))), (mp, .inl (E.2 1, 2, .inl (pr2 (nI (p0)) (nI (p1))))), (hm, .inr (5, [.int (nI 0), .ref ms, .ref mf, .ref mc, .ref my, .ref mb, .ref mz, .ref mp, .ref mo, .ref mm, .ref ml, .ref md, .int (nI (wr)), .int (bI sp), .int (bI rp), .int (bI fi), .int (nI (gd)), .ref me, .ref mg, .int (la), .int (nI 0), .long (lst), .int 0]))]) (fun t : Nat => [(0, .ref hm), (1, .int (nI 0)), (2, .int (nI (j))), (3, .int (nI (q))), (4, .int (nI 1)), (5, .int (nI (min q (z0 - j)))), (6, .int (nI (j + t)))]) (fun t : Nat => []) 0 (Nat.zero_le _) (by rw [← lsG_0]) rfl rfl (fun t hI107 IH107 => ?_)
    refine x_iload 109 hB d_M_lose_107 rfl rfl ?_
    refine x_aload_n 110 hB d_M_lose_109 rfl rfl ?_
    refine x_get 113 hB 3 fg_M_25_5 rfl rfl d_M_lose_110 rfl ?_
    refine x_iload_n 114 hB d_M_lose_113 rfl rfl ?_
    refine x_iald 115 hB 1 rfl (by omega) (by decide) d_M_lose_114 rfl ?_
    refine x_top (v' := .int (nI (z0 - min q (z0 - j)))) rfl ?_
    refine x_icmp_ge 153 118 hB d_M_lose_115 (by decide) rfl (fun h115 => ?_) (fun h115 => ?_)
    · skip
      have htt : (z0 - min q (z0 - j) - j) = t := by have := (nI_leI (by omega) (by omega)).mp h115; omega
      subst htt
      refine x_iload 155 hB d_M_lose_153 rfl rfl ?_
      exact x_iret hB (w' := [(hm, .inr (5, [.int (nI 0), .ref ms, .ref mf, .ref mc, .ref my, .ref mb, .ref mz, .ref mp, .ref mo, .ref mm, .ref ml, .ref md, .int (nI (wr)), .int (bI sp), .int (bI rp), .int (bI fi), .int (nI (gd)), .ref me, .ref mg, .int (la), .int (nI 0), .long (lst), .int 0])), (mb, .inl (E.2 1, 5280, .inl (lsG g (0 + j) (min q (z0 - j)) (z0 - min q (z0 - j) - j)))), (mz, .inl (E.2 1, 2, .inl (pr2 (nI (z0 - min q (z0 - j))) (nI (z1))))), (mp, .inl (E.2 1, 2, .inl (pr2 (nI (p0)) (nI (p1)))))]) hA [3, 0, 1, 2] rfl rfl (xRet_i) (by decide) (by decide) d_M_lose_155
    · skip
      have k115 : t < (z0 - min q (z0 - j) - j) := Nat.lt_of_not_le (fun h => h115 (nI_le (by omega) (by omega)))
      refine x_aload_n 119 hB d_M_lose_118 rfl rfl ?_
      refine x_get 122 hB 3 fg_M_22_5 rfl rfl d_M_lose_119 rfl ?_
      refine x_sipush (v := nI 2640) 125 hB d_M_lose_122 rfl (by decide) ?_
      refine x_iload_n 126 hB d_M_lose_125 rfl rfl ?_
      refine x_imul 127 hB d_M_lose_126 rfl ?_
      refine x_top (v' := .int (nI 0)) (congrArg Value.int (by decide)) ?_
      refine x_iload 129 hB d_M_lose_127 rfl rfl ?_
      refine x_iadd 130 hB d_M_lose_129 rfl ?_
      refine x_top (v' := .int (nI (0 + j + t))) (congrArg Value.int ((nI_add _ _).trans (by rw [Nat.add_assoc]))) ?_
      refine x_aload_n 131 hB d_M_lose_130 rfl rfl ?_
      refine x_get 134 hB 3 fg_M_22_5 rfl rfl d_M_lose_131 rfl ?_
      refine x_sipush (v := nI 2640) 137 hB d_M_lose_134 rfl (by decide) ?_
      refine x_iload_n 138 hB d_M_lose_137 rfl rfl ?_
      refine x_imul 139 hB d_M_lose_138 rfl ?_
      refine x_top (v' := .int (nI 0)) (congrArg Value.int (by decide)) ?_
      refine x_iload 141 hB d_M_lose_139 rfl rfl ?_
      refine x_iadd 142 hB d_M_lose_141 rfl ?_
      refine x_top (v' := .int (nI (0 + j + t))) (congrArg Value.int ((nI_add _ _).trans (by rw [Nat.add_assoc]))) ?_
      refine x_iload 144 hB d_M_lose_142 rfl rfl ?_
      refine x_iadd 145 hB d_M_lose_144 rfl ?_
      refine x_top (v' := .int (nI (0 + j + t + min q (z0 - j)))) (congrArg Value.int (nI_add _ _)) ?_
      refine x_iald 146 hB 0 rfl (by omega) (by decide) d_M_lose_145 rfl ?_
      refine x_top (v' := .int (g (0 + j + t + min q (z0 - j)))) (congrArg Value.int (lsG_r)) ?_
      refine x_iast 147 hB 0 (ws' := [(mb, .inl (E.2 1, 5280, .inl (lsG g (0 + j) (min q (z0 - j)) (t + 1)))), (mz, .inl (E.2 1, 2, .inl (pr2 (nI (z0 - min q (z0 - j))) (nI (z1))))), (mp, .inl (E.2 1, 2, .inl (pr2 (nI (p0)) (nI (p1))))), (hm, .inr (5, [.int (nI 0), .ref ms, .ref mf, .ref mc, .ref my, .ref mb, .ref mz, .ref mp, .ref mo, .ref mm, .ref ml, .ref md, .int (nI (wr)), .int (bI sp), .int (bI rp), .int (bI fi), .int (nI (gd)), .ref me, .ref mg, .int (la), .int (nI 0), .long (lst), .int 0]))]) rfl (by omega) (by decide) (x' := g (0 + j + t + min q (z0 - j))) (rfl) (by rw [lsG_s]; rfl) d_M_lose_146 rfl ?_
      refine x_iinc (v := nI (j + (t + 1))) 150 hB d_M_lose_147 rfl 6 rfl ((nI_succ (j + t)).symm) (by decide) (lv' := [(6, .int (nI (j + (t + 1)))), (0, .ref hm), (1, .int (nI 0)), (2, .int (nI (j))), (3, .int (nI (q))), (4, .int (nI 1)), (5, .int (nI (min q (z0 - j))))]) rfl ?_
      refine x_goto 107 hB d_M_lose_150 (by decide) ?_
      refine x_lv (lv' := [(0, .ref hm), (1, .int (nI 0)), (2, .int (nI (j))), (3, .int (nI (q))), (4, .int (nI 1)), (5, .int (nI (min q (z0 - j)))), (6, .int (nI (j + (t + 1))))]) [1, 2, 3, 4, 5, 6, 0] rfl ?_
      exact IH107 (t + 1) k115 (by omega)
  refine x_iload_n 64 hB d_M_lose_63 rfl rfl ?_
  refine x_aload_n 65 hB d_M_lose_64 rfl rfl ?_
  refine x_get 68 hB 3 fg_M_25_5 rfl rfl d_M_lose_65 rfl ?_
  refine x_iload_n 69 hB d_M_lose_68 rfl rfl ?_
  refine x_iald 70 hB 1 rfl (by omega) (by decide) d_M_lose_69 rfl ?_
  refine x_top (v' := .int (nI (z0))) rfl ?_
  refine x_iload_n 71 hB d_M_lose_70 rfl rfl ?_
  refine x_isub 72 hB d_M_lose_71 rfl ?_
  refine x_top (v' := .int (nI (z0 - j))) (congrArg Value.int (pk_sub (by omega))) ?_
  refine x_icmp_ge 79 75 hB d_M_lose_72 (by decide) rfl (fun h72 => ?_) (fun h72 => ?_)
  · skip
    have k72 : (z0 - j) ≤ q := (nI_leI (by omega) (by omega)).mp h72
    refine x_aload_n 80 hB d_M_lose_79 rfl rfl ?_
    refine x_get 83 hB 3 fg_M_25_5 rfl rfl d_M_lose_80 rfl ?_
    refine x_iload_n 84 hB d_M_lose_83 rfl rfl ?_
    refine x_iald 85 hB 1 rfl (by omega) (by decide) d_M_lose_84 rfl ?_
    refine x_top (v' := .int (nI (z0))) rfl ?_
    refine x_iload_n 86 hB d_M_lose_85 rfl rfl ?_
    refine x_isub 87 hB d_M_lose_86 rfl ?_
    refine x_top (v' := .int (nI (min q (z0 - j)))) (congrArg Value.int ((pk_sub (by omega)).trans (by rw [Nat.min_eq_right (by omega)]))) ?_
    refine x_lv (lv' := [(0, .ref hm), (1, .int (nI 0)), (2, .int (nI (j))), (3, .int (nI (q))), (4, .int (nI 1))]) [1, 2, 3, 4, 0] rfl ?_
    exact J87 () trivial
  · skip
    have k72 : ¬ (z0 - j) ≤ q := fun h => h72 ((nI_leI (by omega) (by omega)).mpr h)
    refine x_iload_n 76 hB d_M_lose_75 rfl rfl ?_
    refine x_top (v' := .int (nI (min q (z0 - j)))) (congrArg Value.int (by rw [Nat.min_eq_left (by omega)])) ?_
    refine x_goto 87 hB d_M_lose_76 (by decide) ?_
    refine x_lv (lv' := [(0, .ref hm), (1, .int (nI 0)), (2, .int (nI (j))), (3, .int (nI (q))), (4, .int (nI 1))]) [1, 2, 3, 4, 0] rfl ?_
    exact J87 () trivial
abbrev rm_M_raw1 : Room := { frames := 1, cells := 0, slots := 0, locals := 22 }
set_option maxHeartbeats 4000000 in
set_option maxRecDepth 100000 in
theorem c_M_raw1 (l : Launch) (E : xE) (hm ms mf mc my mb mz mp mo mm ml md me mg : Nat) (re : Int32) (wr : Nat) (sp rp fi : Bool) (gd : Nat) (la : Int32) (lst : Int64) (z0 z1 : Nat) (g : Nat → Int32) (x : Int32) (q : Nat) (hq : q ≤ 32) (hz : z1 + q ≤ 2640) : xC l E y_M_raw (.code y_M_raw prog_10_method_27_code 6 (some .int)) rm_M_raw1 [.ref hm, .int (nI 1), .int (x), .int (nI (q))] [(hm, .inr (5, [.int (re), .ref ms, .ref mf, .ref mc, .ref my, .ref mb, .ref mz, .ref mp, .ref mo, .ref mm, .ref ml, .ref md, .int (nI (wr)), .int (bI sp), .int (bI rp), .int (bI fi), .int (nI (gd)), .ref me, .ref mg, .int (la), .int (nI 0), .long (lst), .int 0])), (mb, .inl (E.2 1, 5280, .inl (g))), (mz, .inl (E.2 1, 2, .inl (pr2 (nI (z0)) (nI (z1)))))] (xRet (some (.int (nI (z1 + q)))) [(hm, .inr (5, [.int (nI 0), .ref ms, .ref mf, .ref mc, .ref my, .ref mb, .ref mz, .ref mp, .ref mo, .ref mm, .ref ml, .ref md, .int (nI (wr)), .int (bI sp), .int (bI rp), .int (bI fi), .int (nI (gd)), .ref me, .ref mg, .int (la), .int (nI 0), .long (lst), .int 0])), (mb, .inl (E.2 1, 5280, .inl (apG g 2640 z1 (x) q q))), (mz, .inl (E.2 1, 2, .inl (pr2 (nI (z0)) (nI (z1 + q)))))]) := by
  refine x_of' (own := "LineCoderModel") (mn := "raw") (lv := [(0, .ref hm), (1, .int (nI 1)), (2, .int (x)), (3, .int (nI (q)))]) (plainFor_of_name (by decide)) rfl rfl (Nat.le_of_ble_eq_true rfl) rfl ?_
  intro p_ e_ s_ m_ ar_ be_ me_ c_ A_ hA hB
  refine x_iload_n 1 hB d_M_raw_0 rfl rfl ?_
  refine x_callP (k' := 0) (n' := 0) (rest := []) (st' := [.int (nI 1)]) 4 hB (x_pfS (av := [.int (nI 1)]) hB w_772 xHd_code w_7 w_770 w_771 nm_M_isStream rfl d_M_raw_1) (c_M_isStream_1 l E ) w_772 xHd_code w_7 [] rfl rfl ⟨by decide, by decide⟩ ⟨by decide, by decide⟩ rfl rfl (Nat.le_of_ble_eq_true rfl) d_M_raw_1 rfl rfl ?_
  refine x_if_eq 21 7 hB d_M_raw_4 (by decide) rfl (fun hc => absurd hc (by decide)) (fun _ => ?_)
  refine x_iload_n 8 hB d_M_raw_7 rfl rfl ?_
  refine x_iconst (v := nI 0) 9 hB d_M_raw_8 rfl (by decide) ?_
  refine x_bipush (v := nI 32) 11 hB d_M_raw_9 rfl (by decide) ?_
  refine x_callP (k' := 0) (n' := 0) (rest := []) (st' := [.int (nI 1)]) 14 hB (x_pfS (av := [.int (nI (q)), .int (nI 0), .int (nI 32)]) hB w_716 xHd_code w_7 w_714 w_715 nm_M_isIn rfl d_M_raw_11) (c_M_isIn_y l E (nI q) (nI 0) (nI 32) (nI_nlt (by omega) (by omega)) (nI_nlt (by omega) (by omega))) w_716 xHd_code w_7 [] rfl rfl ⟨by decide, by decide⟩ ⟨by decide, by decide⟩ rfl rfl (Nat.le_of_ble_eq_true rfl) d_M_raw_11 rfl rfl ?_
  refine x_if_eq 21 17 hB d_M_raw_14 (by decide) rfl (fun hc => absurd hc (by decide)) (fun _ => ?_)
  refine x_iconst (v := nI 1) 18 hB d_M_raw_17 rfl (by decide) ?_
  refine x_goto 22 hB d_M_raw_18 (by decide) ?_
  refine x_istore 24 hB d_M_raw_22 rfl (by decide) (lv' := [(4, .int (nI 1)), (0, .ref hm), (1, .int (nI 1)), (2, .int (x)), (3, .int (nI (q)))]) rfl ?_
  refine x_aload_n 25 hB d_M_raw_24 rfl rfl ?_
  refine x_iload 27 hB d_M_raw_25 rfl rfl ?_
  refine x_if_ne 34 30 hB d_M_raw_27 (by decide) rfl (fun _ => ?_) (fun hc => absurd hc (by decide))
  refine x_aload_n 35 hB d_M_raw_34 rfl rfl ?_
  refine x_get 38 hB 0 fg_M_25_5 rfl rfl d_M_raw_35 rfl ?_
  refine x_iload_n 39 hB d_M_raw_38 rfl rfl ?_
  refine x_iald 40 hB 2 rfl (by omega) (by decide) d_M_raw_39 rfl ?_
  refine x_top (v' := .int (nI (z1))) rfl ?_
  refine x_iload_n 41 hB d_M_raw_40 rfl rfl ?_
  refine x_iadd 42 hB d_M_raw_41 rfl ?_
  refine x_top (v' := .int (nI (z1 + q))) (congrArg Value.int (nI_add _ _)) ?_
  refine x_sipush (v := nI 2640) 45 hB d_M_raw_42 rfl (by decide) ?_
  refine x_icmp_le 52 48 hB d_M_raw_45 (by decide) rfl (fun _ => ?_) (fun hc => absurd (nI_le hz (by decide)) hc)
  refine x_iconst (v := nI 0) 53 hB d_M_raw_52 rfl (by decide) ?_
  refine x_callD (k' := 0) (n' := 0) (rest := []) (wr := [(mb, .inl (E.2 1, 5280, .inl (g))), (mz, .inl (E.2 1, 2, .inl (pr2 (nI (z0)) (nI (z1)))))]) (ws' := [(mb, .inl (E.2 1, 5280, .inl (g))), (mz, .inl (E.2 1, 2, .inl (pr2 (nI (z0)) (nI (z1))))), (hm, .inr (5, [.int (nI 0), .ref ms, .ref mf, .ref mc, .ref my, .ref mb, .ref mz, .ref mp, .ref mo, .ref mm, .ref ml, .ref md, .int (nI (wr)), .int (bI sp), .int (bI rp), .int (bI fi), .int (nI (gd)), .ref me, .ref mg, .int (la), .int (nI 0), .long (lst), .int 0]))]) (st' := [.int (nI 0)]) 56 hB (x_pfV (av := [.int (nI 0)]) (q0 := 0) hB w_709 xHd_code w_706 w_708 s_M_refused rfl rfl nm_M_refused rfl d_M_raw_53) (c_M_refused0 l E hm ms mf mc my mb mz mp mo mm ml md me mg (re) (wr) (sp) (rp) (fi) (gd) (la) (lst)) w_709 xHd_code w_7 [0] [1, 2] rfl rfl rfl rfl (by decide) ⟨by decide, by decide⟩ ⟨by decide, by decide⟩ rfl rfl (Nat.le_of_ble_eq_true rfl) d_M_raw_53 rfl rfl rfl ?_
  refine x_if_eq 61 59 hB d_M_raw_56 (by decide) rfl (fun _ => ?_) (fun hc => absurd (by decide) hc)
  refine x_iload_n 62 hB d_M_raw_61 rfl rfl ?_
  refine x_iconst (v := nI 1) 63 hB d_M_raw_62 rfl (by decide) ?_
  refine x_isub 64 hB d_M_raw_63 rfl ?_
  refine x_istore 66 hB d_M_raw_64 rfl (by decide) (lv' := [(5, .int ((nI (q)) - (nI 1))), (4, .int (nI 1)), (0, .ref hm), (1, .int (nI 1)), (2, .int (x)), (3, .int (nI (q)))]) rfl ?_
  refine x_lv (lv' := [(0, .ref hm), (1, .int (nI 1)), (2, .int (x)), (3, .int (nI (q))), (4, .int (nI 1)), (5, .int ((nI (q)) - (nI 1)))]) [2, 3, 4, 5, 1, 0] rfl ?_
  refine x_loop (fun u : Nat => u ≤ q) (fun u : Nat => q - u) (fun u : Nat => [(mb, .inl (E.2 1, 5280, .inl (apG g 2640 z1 (x) q u))), (mz, .inl (E.2 1, 2, .inl (pr2 (nI (z0)) (nI (z1 + u))))), (hm, .inr (5, [.int (nI 0), .ref ms, .ref mf, .ref mc, .ref my, .ref mb, .ref mz, .ref mp, .ref mo, .ref mm, .ref ml, .ref md, .int (nI (wr)), .int (bI sp), .int (bI rp), .int (bI fi), .int (nI (gd)), .ref me, .ref mg, .int (la), .int (nI 0), .long (lst), .int 0]))]) (fun u : Nat => [(0, .ref hm), (1, .int (nI 1)), (2, .int (x)), (3, .int (nI (q))), (4, .int (nI 1)), (5, .int (nI (q - u) - nI 1))]) (fun u : Nat => []) 0 (Nat.zero_le _) rfl rfl rfl (fun u hI66 IH66 => ?_)
  refine x_iload 68 hB d_M_raw_66 rfl rfl ?_
  refine x_if_lt 88 71 hB d_M_raw_68 (by decide) rfl (fun h68 => ?_) (fun h68 => ?_)
  · skip
    have hu : q = u := by have := xneg h68 (by omega); omega
    subst hu
    refine x_aload_n 89 hB d_M_raw_88 rfl rfl ?_
    refine x_get 92 hB 2 fg_M_25_5 rfl rfl d_M_raw_89 rfl ?_
    refine x_iload_n 93 hB d_M_raw_92 rfl rfl ?_
    refine x_iald 94 hB 1 rfl (by omega) (by decide) d_M_raw_93 rfl ?_
    refine x_top (v' := .int (nI (z1 + q))) rfl ?_
    exact x_iret hB (w' := [(hm, .inr (5, [.int (nI 0), .ref ms, .ref mf, .ref mc, .ref my, .ref mb, .ref mz, .ref mp, .ref mo, .ref mm, .ref ml, .ref md, .int (nI (wr)), .int (bI sp), .int (bI rp), .int (bI fi), .int (nI (gd)), .ref me, .ref mg, .int (la), .int (nI 0), .long (lst), .int 0])), (mb, .inl (E.2 1, 5280, .inl (apG g 2640 z1 (x) q q))), (mz, .inl (E.2 1, 2, .inl (pr2 (nI (z0)) (nI (z1 + q)))))]) hA [2, 0, 1] rfl rfl (xRet_i) (by decide) (by decide) d_M_raw_94
  · skip
    have hu : u < q := Nat.lt_of_not_le (fun h => h68 (by rw [show q - u = 0 by omega]; decide))
    refine x_aload_n 72 hB d_M_raw_71 rfl rfl ?_
    refine x_iload_n 73 hB d_M_raw_72 rfl rfl ?_
    refine x_iload_n 74 hB d_M_raw_73 rfl rfl ?_
    refine x_iload 76 hB d_M_raw_74 rfl rfl ?_
    refine x_top (v' := .int (nI (q - u - 1))) (congrArg Value.int (pk_sub (by omega))) ?_
    refine x_ishr 77 hB d_M_raw_76 rfl ?_
    refine x_iconst (v := nI 1) 78 hB d_M_raw_77 rfl (by decide) ?_
    refine x_iand 79 hB d_M_raw_78 rfl ?_
    refine x_top (v' := .int (sbit (x) (q - u - 1))) (congrArg Value.int (rfl)) ?_
    refine x_callD (k' := 0) (n' := 0) (rest := []) (wr := []) (ws' := [(hm, .inr (5, [.int (nI 0), .ref ms, .ref mf, .ref mc, .ref my, .ref mb, .ref mz, .ref mp, .ref mo, .ref mm, .ref ml, .ref md, .int (nI (wr)), .int (bI sp), .int (bI rp), .int (bI fi), .int (nI (gd)), .ref me, .ref mg, .int (la), .int (nI 0), .long (lst), .int 0])), (mb, .inl (E.2 1, 5280, .inl (apG g 2640 z1 (x) q (u + 1)))), (mz, .inl (E.2 1, 2, .inl (pr2 (nI (z0)) (nI (z1 + (u + 1))))))]) (st' := []) 82 hB (x_pfV (av := [.int (nI 1), .int (sbit (x) (q - u - 1))]) (q0 := 2) hB w_724 xHd_code w_721 w_723 s_M_append rfl rfl nm_M_append rfl d_M_raw_79) (c_M_append1 l E hm ms mf mc my mb mz mp mo mm ml md me mg (nI 0) (wr) (sp) (rp) (fi) (gd) (la) (lst) z0 (z1 + u) (apG g 2640 z1 (x) q u) (sbit (x) (q - u - 1)) (by omega)) w_724 xHd_code w_7 [2, 0, 1] [] rfl rfl rfl rfl (by decide) ⟨by decide, by decide⟩ ⟨by decide, by decide⟩ rfl rfl (Nat.le_of_ble_eq_true rfl) d_M_raw_79 rfl rfl rfl ?_
    refine x_iinc (v := nI (q - (u + 1)) - nI 1) 85 hB d_M_raw_82 rfl 5 rfl ((xdec (by omega)).trans (by rw [Nat.sub_sub])) (by decide) (lv' := [(5, .int (nI (q - (u + 1)) - nI 1)), (0, .ref hm), (1, .int (nI 1)), (2, .int (x)), (3, .int (nI (q))), (4, .int (nI 1))]) rfl ?_
    refine x_goto 66 hB d_M_raw_85 (by decide) ?_
    refine x_lv (lv' := [(0, .ref hm), (1, .int (nI 1)), (2, .int (x)), (3, .int (nI (q))), (4, .int (nI 1)), (5, .int (nI (q - (u + 1)) - nI 1))]) [1, 2, 3, 4, 5, 0] rfl ?_
    refine x_wp (ws' := [(mb, .inl (E.2 1, 5280, .inl (apG g 2640 z1 (x) q (u + 1)))), (mz, .inl (E.2 1, 2, .inl (pr2 (nI (z0)) (nI (z1 + (u + 1)))))), (hm, .inr (5, [.int (nI 0), .ref ms, .ref mf, .ref mc, .ref my, .ref mb, .ref mz, .ref mp, .ref mo, .ref mm, .ref ml, .ref md, .int (nI (wr)), .int (bI sp), .int (bI rp), .int (bI fi), .int (nI (gd)), .ref me, .ref mg, .int (la), .int (nI 0), .long (lst), .int 0]))]) [1, 2, 0] rfl rfl ?_
    exact IH66 (u + 1) hu (by omega)
abbrev rm_M_raw1_m : Room := { frames := 1, cells := 0, slots := 0, locals := 22 }
set_option maxHeartbeats 4000000 in
set_option maxRecDepth 100000 in
theorem c_M_raw1_m (l : Launch) (E : xE) (hm ms mf mc my mb mz mp mo mm ml md me mg : Nat) (re : Int32) (wr : Nat) (sp rp fi : Bool) (gd : Nat) (la : Int32) (lst : Int64) (x w : Int32) (hw : w < 0 ∨ nI 32 < w) : xC l E y_M_raw (.code y_M_raw prog_10_method_27_code 6 (some .int)) rm_M_raw1_m [.ref hm, .int (nI 1), .int (x), .int (w)] [(hm, .inr (5, [.int (re), .ref ms, .ref mf, .ref mc, .ref my, .ref mb, .ref mz, .ref mp, .ref mo, .ref mm, .ref ml, .ref md, .int (nI (wr)), .int (bI sp), .int (bI rp), .int (bI fi), .int (nI (gd)), .ref me, .ref mg, .int (la), .int (nI 0), .long (lst), .int 0]))] (xRet (some (.int (nI 0))) [(hm, .inr (5, [.int (nI 1), .ref ms, .ref mf, .ref mc, .ref my, .ref mb, .ref mz, .ref mp, .ref mo, .ref mm, .ref ml, .ref md, .int (nI (wr)), .int (bI sp), .int (bI rp), .int (bI fi), .int (nI (gd)), .ref me, .ref mg, .int (la), .int (nI 0), .long (lst), .int 0]))]) := by
  refine x_of' (own := "LineCoderModel") (mn := "raw") (lv := [(0, .ref hm), (1, .int (nI 1)), (2, .int (x)), (3, .int (w))]) (plainFor_of_name (by decide)) rfl rfl (Nat.le_of_ble_eq_true rfl) rfl ?_
  intro p_ e_ s_ m_ ar_ be_ me_ c_ A_ hA hB
  refine x_iload_n 1 hB d_M_raw_0 rfl rfl ?_
  refine x_callP (k' := 0) (n' := 0) (rest := []) (st' := [.int (nI 1)]) 4 hB (x_pfS (av := [.int (nI 1)]) hB w_772 xHd_code w_7 w_770 w_771 nm_M_isStream rfl d_M_raw_1) (c_M_isStream_1 l E ) w_772 xHd_code w_7 [] rfl rfl ⟨by decide, by decide⟩ ⟨by decide, by decide⟩ rfl rfl (Nat.le_of_ble_eq_true rfl) d_M_raw_1 rfl rfl ?_
  refine x_if_eq 21 7 hB d_M_raw_4 (by decide) rfl (fun hc => absurd hc (by decide)) (fun _ => ?_)
  refine x_iload_n 8 hB d_M_raw_7 rfl rfl ?_
  refine x_iconst (v := nI 0) 9 hB d_M_raw_8 rfl (by decide) ?_
  refine x_bipush (v := nI 32) 11 hB d_M_raw_9 rfl (by decide) ?_
  refine x_callP (k' := 0) (n' := 0) (rest := []) (st' := [.int (nI 0)]) 14 hB (x_pfS (av := [.int (w), .int (nI 0), .int (nI 32)]) hB w_716 xHd_code w_7 w_714 w_715 nm_M_isIn rfl d_M_raw_11) (c_M_isIn_n l E w (nI 0) (nI 32) hw) w_716 xHd_code w_7 [] rfl rfl ⟨by decide, by decide⟩ ⟨by decide, by decide⟩ rfl rfl (Nat.le_of_ble_eq_true rfl) d_M_raw_11 rfl rfl ?_
  refine x_if_eq 21 17 hB d_M_raw_14 (by decide) rfl (fun _ => ?_) (fun hc => absurd (by decide) hc)
  refine x_iconst (v := nI 0) 22 hB d_M_raw_21 rfl (by decide) ?_
  refine x_istore 24 hB d_M_raw_22 rfl (by decide) (lv' := [(4, .int (nI 0)), (0, .ref hm), (1, .int (nI 1)), (2, .int (x)), (3, .int (w))]) rfl ?_
  refine x_aload_n 25 hB d_M_raw_24 rfl rfl ?_
  refine x_iload 27 hB d_M_raw_25 rfl rfl ?_
  refine x_if_ne 34 30 hB d_M_raw_27 (by decide) rfl (fun hc => absurd (by decide) hc) (fun _ => ?_)
  refine x_iconst (v := nI 1) 31 hB d_M_raw_30 rfl (by decide) ?_
  refine x_goto 53 hB d_M_raw_31 (by decide) ?_
  refine x_callD (k' := 0) (n' := 0) (rest := []) (wr := []) (ws' := [(hm, .inr (5, [.int (nI 1), .ref ms, .ref mf, .ref mc, .ref my, .ref mb, .ref mz, .ref mp, .ref mo, .ref mm, .ref ml, .ref md, .int (nI (wr)), .int (bI sp), .int (bI rp), .int (bI fi), .int (nI (gd)), .ref me, .ref mg, .int (la), .int (nI 0), .long (lst), .int 0]))]) (st' := [.int (nI 1)]) 56 hB (x_pfV (av := [.int (nI 1)]) (q0 := 0) hB w_709 xHd_code w_706 w_708 s_M_refused rfl rfl nm_M_refused rfl d_M_raw_53) (c_M_refused1 l E hm ms mf mc my mb mz mp mo mm ml md me mg (re) (wr) (sp) (rp) (fi) (gd) (la) (lst)) w_709 xHd_code w_7 [0] [] rfl rfl rfl rfl (by decide) ⟨by decide, by decide⟩ ⟨by decide, by decide⟩ rfl rfl (Nat.le_of_ble_eq_true rfl) d_M_raw_53 rfl rfl rfl ?_
  refine x_if_eq 61 59 hB d_M_raw_56 (by decide) rfl (fun hc => absurd hc (by decide)) (fun _ => ?_)
  refine x_iconst (v := nI 0) 60 hB d_M_raw_59 rfl (by decide) ?_
  exact x_iret hB (w' := [(hm, .inr (5, [.int (nI 1), .ref ms, .ref mf, .ref mc, .ref my, .ref mb, .ref mz, .ref mp, .ref mo, .ref mm, .ref ml, .ref md, .int (nI (wr)), .int (bI sp), .int (bI rp), .int (bI fi), .int (nI (gd)), .ref me, .ref mg, .int (la), .int (nI 0), .long (lst), .int 0]))]) hA [0] rfl rfl (xRet_i) (by decide) (by decide) d_M_raw_60
abbrev rm_M_raw1_f : Room := { frames := 1, cells := 0, slots := 0, locals := 22 }
set_option maxHeartbeats 4000000 in
set_option maxRecDepth 100000 in
theorem c_M_raw1_f (l : Launch) (E : xE) (hm ms mf mc my mb mz mp mo mm ml md me mg : Nat) (re : Int32) (wr : Nat) (sp rp fi : Bool) (gd : Nat) (la : Int32) (lst : Int64) (z0 z1 : Nat) (x : Int32) (q : Nat) (hq : q ≤ 32) (hz0 : z1 ≤ 2640) (hz : 2640 < z1 + q) : xC l E y_M_raw (.code y_M_raw prog_10_method_27_code 6 (some .int)) rm_M_raw1_f [.ref hm, .int (nI 1), .int (x), .int (nI (q))] [(hm, .inr (5, [.int (re), .ref ms, .ref mf, .ref mc, .ref my, .ref mb, .ref mz, .ref mp, .ref mo, .ref mm, .ref ml, .ref md, .int (nI (wr)), .int (bI sp), .int (bI rp), .int (bI fi), .int (nI (gd)), .ref me, .ref mg, .int (la), .int (nI 0), .long (lst), .int 0])), (mz, .inl (E.2 1, 2, .inl (pr2 (nI (z0)) (nI (z1)))))] (xRet (some (.int (nI 0))) [(hm, .inr (5, [.int (nI 2), .ref ms, .ref mf, .ref mc, .ref my, .ref mb, .ref mz, .ref mp, .ref mo, .ref mm, .ref ml, .ref md, .int (nI (wr)), .int (bI sp), .int (bI rp), .int (bI fi), .int (nI (gd)), .ref me, .ref mg, .int (la), .int (nI 0), .long (lst), .int 0])), (mz, .inl (E.2 1, 2, .inl (pr2 (nI (z0)) (nI (z1)))))]) := by
  refine x_of' (own := "LineCoderModel") (mn := "raw") (lv := [(0, .ref hm), (1, .int (nI 1)), (2, .int (x)), (3, .int (nI (q)))]) (plainFor_of_name (by decide)) rfl rfl (Nat.le_of_ble_eq_true rfl) rfl ?_
  intro p_ e_ s_ m_ ar_ be_ me_ c_ A_ hA hB
  refine x_iload_n 1 hB d_M_raw_0 rfl rfl ?_
  refine x_callP (k' := 0) (n' := 0) (rest := []) (st' := [.int (nI 1)]) 4 hB (x_pfS (av := [.int (nI 1)]) hB w_772 xHd_code w_7 w_770 w_771 nm_M_isStream rfl d_M_raw_1) (c_M_isStream_1 l E ) w_772 xHd_code w_7 [] rfl rfl ⟨by decide, by decide⟩ ⟨by decide, by decide⟩ rfl rfl (Nat.le_of_ble_eq_true rfl) d_M_raw_1 rfl rfl ?_
  refine x_if_eq 21 7 hB d_M_raw_4 (by decide) rfl (fun hc => absurd hc (by decide)) (fun _ => ?_)
  refine x_iload_n 8 hB d_M_raw_7 rfl rfl ?_
  refine x_iconst (v := nI 0) 9 hB d_M_raw_8 rfl (by decide) ?_
  refine x_bipush (v := nI 32) 11 hB d_M_raw_9 rfl (by decide) ?_
  refine x_callP (k' := 0) (n' := 0) (rest := []) (st' := [.int (nI 1)]) 14 hB (x_pfS (av := [.int (nI (q)), .int (nI 0), .int (nI 32)]) hB w_716 xHd_code w_7 w_714 w_715 nm_M_isIn rfl d_M_raw_11) (c_M_isIn_y l E (nI q) (nI 0) (nI 32) (nI_nlt (by omega) (by omega)) (nI_nlt (by omega) (by omega))) w_716 xHd_code w_7 [] rfl rfl ⟨by decide, by decide⟩ ⟨by decide, by decide⟩ rfl rfl (Nat.le_of_ble_eq_true rfl) d_M_raw_11 rfl rfl ?_
  refine x_if_eq 21 17 hB d_M_raw_14 (by decide) rfl (fun hc => absurd hc (by decide)) (fun _ => ?_)
  refine x_iconst (v := nI 1) 18 hB d_M_raw_17 rfl (by decide) ?_
  refine x_goto 22 hB d_M_raw_18 (by decide) ?_
  refine x_istore 24 hB d_M_raw_22 rfl (by decide) (lv' := [(4, .int (nI 1)), (0, .ref hm), (1, .int (nI 1)), (2, .int (x)), (3, .int (nI (q)))]) rfl ?_
  refine x_aload_n 25 hB d_M_raw_24 rfl rfl ?_
  refine x_iload 27 hB d_M_raw_25 rfl rfl ?_
  refine x_if_ne 34 30 hB d_M_raw_27 (by decide) rfl (fun _ => ?_) (fun hc => absurd hc (by decide))
  refine x_aload_n 35 hB d_M_raw_34 rfl rfl ?_
  refine x_get 38 hB 0 fg_M_25_5 rfl rfl d_M_raw_35 rfl ?_
  refine x_iload_n 39 hB d_M_raw_38 rfl rfl ?_
  refine x_iald 40 hB 1 rfl (by omega) (by decide) d_M_raw_39 rfl ?_
  refine x_top (v' := .int (nI (z1))) rfl ?_
  refine x_iload_n 41 hB d_M_raw_40 rfl rfl ?_
  refine x_iadd 42 hB d_M_raw_41 rfl ?_
  refine x_top (v' := .int (nI (z1 + q))) (congrArg Value.int (nI_add _ _)) ?_
  refine x_sipush (v := nI 2640) 45 hB d_M_raw_42 rfl (by decide) ?_
  refine x_icmp_le 52 48 hB d_M_raw_45 (by decide) rfl (fun hc => absurd hc (nI_ge hz (by omega))) (fun _ => ?_)
  refine x_iconst (v := nI 2) 49 hB d_M_raw_48 rfl (by decide) ?_
  refine x_goto 53 hB d_M_raw_49 (by decide) ?_
  refine x_callD (k' := 0) (n' := 0) (rest := []) (wr := [(mz, .inl (E.2 1, 2, .inl (pr2 (nI (z0)) (nI (z1)))))]) (ws' := [(mz, .inl (E.2 1, 2, .inl (pr2 (nI (z0)) (nI (z1))))), (hm, .inr (5, [.int (nI 2), .ref ms, .ref mf, .ref mc, .ref my, .ref mb, .ref mz, .ref mp, .ref mo, .ref mm, .ref ml, .ref md, .int (nI (wr)), .int (bI sp), .int (bI rp), .int (bI fi), .int (nI (gd)), .ref me, .ref mg, .int (la), .int (nI 0), .long (lst), .int 0]))]) (st' := [.int (nI 1)]) 56 hB (x_pfV (av := [.int (nI 2)]) (q0 := 0) hB w_709 xHd_code w_706 w_708 s_M_refused rfl rfl nm_M_refused rfl d_M_raw_53) (c_M_refused2 l E hm ms mf mc my mb mz mp mo mm ml md me mg (re) (wr) (sp) (rp) (fi) (gd) (la) (lst)) w_709 xHd_code w_7 [0] [1] rfl rfl rfl rfl (by decide) ⟨by decide, by decide⟩ ⟨by decide, by decide⟩ rfl rfl (Nat.le_of_ble_eq_true rfl) d_M_raw_53 rfl rfl rfl ?_
  refine x_if_eq 61 59 hB d_M_raw_56 (by decide) rfl (fun hc => absurd hc (by decide)) (fun _ => ?_)
  refine x_iconst (v := nI 0) 60 hB d_M_raw_59 rfl (by decide) ?_
  exact x_iret hB (w' := [(hm, .inr (5, [.int (nI 2), .ref ms, .ref mf, .ref mc, .ref my, .ref mb, .ref mz, .ref mp, .ref mo, .ref mm, .ref ml, .ref md, .int (nI (wr)), .int (bI sp), .int (bI rp), .int (bI fi), .int (nI (gd)), .ref me, .ref mg, .int (la), .int (nI 0), .long (lst), .int 0])), (mz, .inl (E.2 1, 2, .inl (pr2 (nI (z0)) (nI (z1)))))]) hA [1, 0] rfl rfl (xRet_i) (by decide) (by decide) d_M_raw_60
abbrev rm_M_bend1 : Room := { frames := 1, cells := 0, slots := 0, locals := 22 }
set_option maxHeartbeats 4000000 in
set_option maxRecDepth 100000 in
theorem c_M_bend1 (l : Launch) (E : xE) (hm ms mf mc my mb mz mp mo mm ml md me mg : Nat) (re : Int32) (wr : Nat) (sp rp fi : Bool) (gd : Nat) (la : Int32) (lst : Int64) (z0 z1 : Nat) (g : Nat → Int32) (j : Nat) (hj : j < z1) (hz : z1 ≤ 2640) (hb : g (2640 + j) = 0 ∨ g (2640 + j) = 1) : xC l E y_M_bend (.code y_M_bend prog_10_method_28_code 3 (some .boolean)) rm_M_bend1 [.ref hm, .int (nI 1), .int (nI (j))] [(hm, .inr (5, [.int (re), .ref ms, .ref mf, .ref mc, .ref my, .ref mb, .ref mz, .ref mp, .ref mo, .ref mm, .ref ml, .ref md, .int (nI (wr)), .int (bI sp), .int (bI rp), .int (bI fi), .int (nI (gd)), .ref me, .ref mg, .int (la), .int (nI 0), .long (lst), .int 0])), (mb, .inl (E.2 1, 5280, .inl (g))), (mz, .inl (E.2 1, 2, .inl (pr2 (nI (z0)) (nI (z1)))))] (xRet (some (.int (bI (decide (g (2640 + j) = 0))))) [(hm, .inr (5, [.int (nI 0), .ref ms, .ref mf, .ref mc, .ref my, .ref mb, .ref mz, .ref mp, .ref mo, .ref mm, .ref ml, .ref md, .int (nI (wr)), .int (bI sp), .int (bI rp), .int (bI fi), .int (nI (gd)), .ref me, .ref mg, .int (la), .int (nI 0), .long (lst), .int 0])), (mb, .inl (E.2 1, 5280, .inl (upd g (2640 + j) (1 - g (2640 + j))))), (mz, .inl (E.2 1, 2, .inl (pr2 (nI (z0)) (nI (z1)))))]) := by
  refine x_of' (own := "LineCoderModel") (mn := "bend") (lv := [(0, .ref hm), (1, .int (nI 1)), (2, .int (nI (j)))]) (plainFor_of_name (by decide)) rfl rfl (Nat.le_of_ble_eq_true rfl) rfl ?_
  intro p_ e_ s_ m_ ar_ be_ me_ c_ A_ hA hB
  refine x_aload_n 1 hB d_M_bend_0 rfl rfl ?_
  refine x_iload_n 2 hB d_M_bend_1 rfl rfl ?_
  refine x_callP (k' := 0) (n' := 0) (rest := [.ref hm]) (st' := [.int (nI 1), .ref hm]) 5 hB (x_pfS (av := [.int (nI 1)]) hB w_772 xHd_code w_7 w_770 w_771 nm_M_isStream rfl d_M_bend_2) (c_M_isStream_1 l E ) w_772 xHd_code w_7 [] rfl rfl ⟨by decide, by decide⟩ ⟨by decide, by decide⟩ rfl rfl (Nat.le_of_ble_eq_true rfl) d_M_bend_2 rfl rfl ?_
  refine x_if_ne 12 8 hB d_M_bend_5 (by decide) rfl (fun _ => ?_) (fun hc => absurd hc (by decide))
  refine x_iload_n 13 hB d_M_bend_12 rfl rfl ?_
  refine x_iconst (v := nI 0) 14 hB d_M_bend_13 rfl (by decide) ?_
  refine x_aload_n 15 hB d_M_bend_14 rfl rfl ?_
  refine x_get 18 hB 0 fg_M_25_5 rfl rfl d_M_bend_15 rfl ?_
  refine x_iload_n 19 hB d_M_bend_18 rfl rfl ?_
  refine x_iald 20 hB 2 rfl (by omega) (by decide) d_M_bend_19 rfl ?_
  refine x_top (v' := .int (nI (z1))) rfl ?_
  refine x_iconst (v := nI 1) 21 hB d_M_bend_20 rfl (by decide) ?_
  refine x_isub 22 hB d_M_bend_21 rfl ?_
  refine x_top (v' := .int (nI (z1 - 1))) (congrArg Value.int (pk_sub (by omega))) ?_
  refine x_callP (k' := 0) (n' := 0) (rest := [.ref hm]) (st' := [.int (nI 1), .ref hm]) 25 hB (x_pfS (av := [.int (nI (j)), .int (nI 0), .int (nI (z1 - 1))]) hB w_716 xHd_code w_7 w_714 w_715 nm_M_isIn rfl d_M_bend_22) (c_M_isIn_y l E (nI j) (nI 0) (nI (z1 - 1)) (nI_nlt (by omega) (by omega)) (nI_nlt (by omega) (by omega))) w_716 xHd_code w_7 [] rfl rfl ⟨by decide, by decide⟩ ⟨by decide, by decide⟩ rfl rfl (Nat.le_of_ble_eq_true rfl) d_M_bend_22 rfl rfl ?_
  refine x_if_ne 32 28 hB d_M_bend_25 (by decide) rfl (fun _ => ?_) (fun hc => absurd hc (by decide))
  refine x_iconst (v := nI 0) 33 hB d_M_bend_32 rfl (by decide) ?_
  refine x_callD (k' := 0) (n' := 0) (rest := []) (wr := [(mb, .inl (E.2 1, 5280, .inl (g))), (mz, .inl (E.2 1, 2, .inl (pr2 (nI (z0)) (nI (z1)))))]) (ws' := [(mb, .inl (E.2 1, 5280, .inl (g))), (mz, .inl (E.2 1, 2, .inl (pr2 (nI (z0)) (nI (z1))))), (hm, .inr (5, [.int (nI 0), .ref ms, .ref mf, .ref mc, .ref my, .ref mb, .ref mz, .ref mp, .ref mo, .ref mm, .ref ml, .ref md, .int (nI (wr)), .int (bI sp), .int (bI rp), .int (bI fi), .int (nI (gd)), .ref me, .ref mg, .int (la), .int (nI 0), .long (lst), .int 0]))]) (st' := [.int (nI 0)]) 36 hB (x_pfV (av := [.int (nI 0)]) (q0 := 0) hB w_709 xHd_code w_706 w_708 s_M_refused rfl rfl nm_M_refused rfl d_M_bend_33) (c_M_refused0 l E hm ms mf mc my mb mz mp mo mm ml md me mg (re) (wr) (sp) (rp) (fi) (gd) (la) (lst)) w_709 xHd_code w_7 [0] [1, 2] rfl rfl rfl rfl (by decide) ⟨by decide, by decide⟩ ⟨by decide, by decide⟩ rfl rfl (Nat.le_of_ble_eq_true rfl) d_M_bend_33 rfl rfl rfl ?_
  refine x_if_eq 41 39 hB d_M_bend_36 (by decide) rfl (fun _ => ?_) (fun hc => absurd (by decide) hc)
  refine x_aload_n 42 hB d_M_bend_41 rfl rfl ?_
  refine x_get 45 hB 2 fg_M_22_5 rfl rfl d_M_bend_42 rfl ?_
  refine x_sipush (v := nI 2640) 48 hB d_M_bend_45 rfl (by decide) ?_
  refine x_iload_n 49 hB d_M_bend_48 rfl rfl ?_
  refine x_imul 50 hB d_M_bend_49 rfl ?_
  refine x_top (v' := .int (nI 2640)) (congrArg Value.int (by decide)) ?_
  refine x_iload_n 51 hB d_M_bend_50 rfl rfl ?_
  refine x_iadd 52 hB d_M_bend_51 rfl ?_
  refine x_top (v' := .int (nI (2640 + j))) (congrArg Value.int (nI_add _ _)) ?_
  refine x_iconst (v := nI 1) 53 hB d_M_bend_52 rfl (by decide) ?_
  refine x_aload_n 54 hB d_M_bend_53 rfl rfl ?_
  refine x_get 57 hB 2 fg_M_22_5 rfl rfl d_M_bend_54 rfl ?_
  refine x_sipush (v := nI 2640) 60 hB d_M_bend_57 rfl (by decide) ?_
  refine x_iload_n 61 hB d_M_bend_60 rfl rfl ?_
  refine x_imul 62 hB d_M_bend_61 rfl ?_
  refine x_top (v' := .int (nI 2640)) (congrArg Value.int (by decide)) ?_
  refine x_iload_n 63 hB d_M_bend_62 rfl rfl ?_
  refine x_iadd 64 hB d_M_bend_63 rfl ?_
  refine x_top (v' := .int (nI (2640 + j))) (congrArg Value.int (nI_add _ _)) ?_
  refine x_iald 65 hB 0 rfl (by omega) (by decide) d_M_bend_64 rfl ?_
  refine x_isub 66 hB d_M_bend_65 rfl ?_
  refine x_top (v' := .int (1 - g (2640 + j))) (congrArg Value.int (rfl)) ?_
  refine x_iast 67 hB 0 (ws' := [(mb, .inl (E.2 1, 5280, .inl (upd g (2640 + j) (1 - g (2640 + j))))), (mz, .inl (E.2 1, 2, .inl (pr2 (nI (z0)) (nI (z1))))), (hm, .inr (5, [.int (nI 0), .ref ms, .ref mf, .ref mc, .ref my, .ref mb, .ref mz, .ref mp, .ref mo, .ref mm, .ref ml, .ref md, .int (nI (wr)), .int (bI sp), .int (bI rp), .int (bI fi), .int (nI (gd)), .ref me, .ref mg, .int (la), .int (nI 0), .long (lst), .int 0]))]) rfl (by omega) (by decide) (x' := 1 - g (2640 + j)) (rfl) rfl d_M_bend_66 rfl ?_
  refine x_aload_n 68 hB d_M_bend_67 rfl rfl ?_
  refine x_get 71 hB 2 fg_M_22_5 rfl rfl d_M_bend_68 rfl ?_
  refine x_sipush (v := nI 2640) 74 hB d_M_bend_71 rfl (by decide) ?_
  refine x_iload_n 75 hB d_M_bend_74 rfl rfl ?_
  refine x_imul 76 hB d_M_bend_75 rfl ?_
  refine x_top (v' := .int (nI 2640)) (congrArg Value.int (by decide)) ?_
  refine x_iload_n 77 hB d_M_bend_76 rfl rfl ?_
  refine x_iadd 78 hB d_M_bend_77 rfl ?_
  refine x_top (v' := .int (nI (2640 + j))) (congrArg Value.int (nI_add _ _)) ?_
  refine x_iald 79 hB 0 rfl (by omega) (by decide) d_M_bend_78 rfl ?_
  refine x_top (v' := .int (1 - g (2640 + j))) (congrArg Value.int (pk_us)) ?_
  refine x_iconst (v := nI 1) 80 hB d_M_bend_79 rfl (by decide) ?_
  refine x_icmp_ne 87 83 hB d_M_bend_80 (by decide) rfl (fun h80 => ?_) (fun h80 => ?_)
  · skip
    have k80 : ¬ g (2640 + j) = 0 := fun h => h80 ((turn01 hb).mpr h)
    refine x_iconst (v := nI 0) 88 hB d_M_bend_87 rfl (by decide) ?_
    exact x_zret hB (by decide) (w' := [(hm, .inr (5, [.int (nI 0), .ref ms, .ref mf, .ref mc, .ref my, .ref mb, .ref mz, .ref mp, .ref mo, .ref mm, .ref ml, .ref md, .int (nI (wr)), .int (bI sp), .int (bI rp), .int (bI fi), .int (nI (gd)), .ref me, .ref mg, .int (la), .int (nI 0), .long (lst), .int 0])), (mb, .inl (E.2 1, 5280, .inl (upd g (2640 + j) (1 - g (2640 + j))))), (mz, .inl (E.2 1, 2, .inl (pr2 (nI (z0)) (nI (z1)))))]) hA [2, 0, 1] rfl rfl (⟨by rw [show (nI 0) = bI (decide (g (2640 + j) = 0)) from bF0 (decide_eq_false k80)], rfl⟩) (by decide) (by decide) d_M_bend_88
  · skip
    have k80 : g (2640 + j) = 0 := (turn01 hb).mp h80
    refine x_iconst (v := nI 1) 84 hB d_M_bend_83 rfl (by decide) ?_
    refine x_goto 88 hB d_M_bend_84 (by decide) ?_
    exact x_zret hB (by decide) (w' := [(hm, .inr (5, [.int (nI 0), .ref ms, .ref mf, .ref mc, .ref my, .ref mb, .ref mz, .ref mp, .ref mo, .ref mm, .ref ml, .ref md, .int (nI (wr)), .int (bI sp), .int (bI rp), .int (bI fi), .int (nI (gd)), .ref me, .ref mg, .int (la), .int (nI 0), .long (lst), .int 0])), (mb, .inl (E.2 1, 5280, .inl (upd g (2640 + j) (1 - g (2640 + j))))), (mz, .inl (E.2 1, 2, .inl (pr2 (nI (z0)) (nI (z1)))))]) hA [2, 0, 1] rfl rfl (⟨by rw [show (nI 1) = bI (decide (g (2640 + j) = 0)) from bT (decide_eq_true k80)], rfl⟩) (by decide) (by decide) d_M_bend_88
abbrev rm_M_bend1_o : Room := { frames := 1, cells := 0, slots := 0, locals := 22 }
set_option maxHeartbeats 4000000 in
set_option maxRecDepth 100000 in
theorem c_M_bend1_o (l : Launch) (E : xE) (hm ms mf mc my mb mz mp mo mm ml md me mg : Nat) (re : Int32) (wr : Nat) (sp rp fi : Bool) (gd : Nat) (la : Int32) (lst : Int64) (z0 z1 : Nat) (k : Int32) (hk : k < 0 ∨ nI z1 - nI 1 < k) : xC l E y_M_bend (.code y_M_bend prog_10_method_28_code 3 (some .boolean)) rm_M_bend1_o [.ref hm, .int (nI 1), .int (k)] [(hm, .inr (5, [.int (re), .ref ms, .ref mf, .ref mc, .ref my, .ref mb, .ref mz, .ref mp, .ref mo, .ref mm, .ref ml, .ref md, .int (nI (wr)), .int (bI sp), .int (bI rp), .int (bI fi), .int (nI (gd)), .ref me, .ref mg, .int (la), .int (nI 0), .long (lst), .int 0])), (mz, .inl (E.2 1, 2, .inl (pr2 (nI (z0)) (nI (z1)))))] (xRet (some (.int (nI 0))) [(hm, .inr (5, [.int (nI 2), .ref ms, .ref mf, .ref mc, .ref my, .ref mb, .ref mz, .ref mp, .ref mo, .ref mm, .ref ml, .ref md, .int (nI (wr)), .int (bI sp), .int (bI rp), .int (bI fi), .int (nI (gd)), .ref me, .ref mg, .int (la), .int (nI 0), .long (lst), .int 0])), (mz, .inl (E.2 1, 2, .inl (pr2 (nI (z0)) (nI (z1)))))]) := by
  refine x_of' (own := "LineCoderModel") (mn := "bend") (lv := [(0, .ref hm), (1, .int (nI 1)), (2, .int (k))]) (plainFor_of_name (by decide)) rfl rfl (Nat.le_of_ble_eq_true rfl) rfl ?_
  intro p_ e_ s_ m_ ar_ be_ me_ c_ A_ hA hB
  refine x_aload_n 1 hB d_M_bend_0 rfl rfl ?_
  refine x_iload_n 2 hB d_M_bend_1 rfl rfl ?_
  refine x_callP (k' := 0) (n' := 0) (rest := [.ref hm]) (st' := [.int (nI 1), .ref hm]) 5 hB (x_pfS (av := [.int (nI 1)]) hB w_772 xHd_code w_7 w_770 w_771 nm_M_isStream rfl d_M_bend_2) (c_M_isStream_1 l E ) w_772 xHd_code w_7 [] rfl rfl ⟨by decide, by decide⟩ ⟨by decide, by decide⟩ rfl rfl (Nat.le_of_ble_eq_true rfl) d_M_bend_2 rfl rfl ?_
  refine x_if_ne 12 8 hB d_M_bend_5 (by decide) rfl (fun _ => ?_) (fun hc => absurd hc (by decide))
  refine x_iload_n 13 hB d_M_bend_12 rfl rfl ?_
  refine x_iconst (v := nI 0) 14 hB d_M_bend_13 rfl (by decide) ?_
  refine x_aload_n 15 hB d_M_bend_14 rfl rfl ?_
  refine x_get 18 hB 0 fg_M_25_5 rfl rfl d_M_bend_15 rfl ?_
  refine x_iload_n 19 hB d_M_bend_18 rfl rfl ?_
  refine x_iald 20 hB 1 rfl (by omega) (by decide) d_M_bend_19 rfl ?_
  refine x_top (v' := .int (nI (z1))) rfl ?_
  refine x_iconst (v := nI 1) 21 hB d_M_bend_20 rfl (by decide) ?_
  refine x_isub 22 hB d_M_bend_21 rfl ?_
  refine x_callP (k' := 0) (n' := 0) (rest := [.ref hm]) (st' := [.int (nI 0), .ref hm]) 25 hB (x_pfS (av := [.int (k), .int (nI 0), .int ((nI (z1)) - (nI 1))]) hB w_716 xHd_code w_7 w_714 w_715 nm_M_isIn rfl d_M_bend_22) (c_M_isIn_n l E k (nI 0) (nI z1 - nI 1) hk) w_716 xHd_code w_7 [] rfl rfl ⟨by decide, by decide⟩ ⟨by decide, by decide⟩ rfl rfl (Nat.le_of_ble_eq_true rfl) d_M_bend_22 rfl rfl ?_
  refine x_if_ne 32 28 hB d_M_bend_25 (by decide) rfl (fun hc => absurd (by decide) hc) (fun _ => ?_)
  refine x_iconst (v := nI 2) 29 hB d_M_bend_28 rfl (by decide) ?_
  refine x_goto 33 hB d_M_bend_29 (by decide) ?_
  refine x_callD (k' := 0) (n' := 0) (rest := []) (wr := [(mz, .inl (E.2 1, 2, .inl (pr2 (nI (z0)) (nI (z1)))))]) (ws' := [(mz, .inl (E.2 1, 2, .inl (pr2 (nI (z0)) (nI (z1))))), (hm, .inr (5, [.int (nI 2), .ref ms, .ref mf, .ref mc, .ref my, .ref mb, .ref mz, .ref mp, .ref mo, .ref mm, .ref ml, .ref md, .int (nI (wr)), .int (bI sp), .int (bI rp), .int (bI fi), .int (nI (gd)), .ref me, .ref mg, .int (la), .int (nI 0), .long (lst), .int 0]))]) (st' := [.int (nI 1)]) 36 hB (x_pfV (av := [.int (nI 2)]) (q0 := 0) hB w_709 xHd_code w_706 w_708 s_M_refused rfl rfl nm_M_refused rfl d_M_bend_33) (c_M_refused2 l E hm ms mf mc my mb mz mp mo mm ml md me mg (re) (wr) (sp) (rp) (fi) (gd) (la) (lst)) w_709 xHd_code w_7 [0] [1] rfl rfl rfl rfl (by decide) ⟨by decide, by decide⟩ ⟨by decide, by decide⟩ rfl rfl (Nat.le_of_ble_eq_true rfl) d_M_bend_33 rfl rfl rfl ?_
  refine x_if_eq 41 39 hB d_M_bend_36 (by decide) rfl (fun hc => absurd hc (by decide)) (fun _ => ?_)
  refine x_iconst (v := nI 0) 40 hB d_M_bend_39 rfl (by decide) ?_
  exact x_zret hB (by decide) (w' := [(hm, .inr (5, [.int (nI 2), .ref ms, .ref mf, .ref mc, .ref my, .ref mb, .ref mz, .ref mp, .ref mo, .ref mm, .ref ml, .ref md, .int (nI (wr)), .int (bI sp), .int (bI rp), .int (bI fi), .int (nI (gd)), .ref me, .ref mg, .int (la), .int (nI 0), .long (lst), .int 0])), (mz, .inl (E.2 1, 2, .inl (pr2 (nI (z0)) (nI (z1)))))]) hA [1, 0] rfl rfl (xRet_i) (by decide) (by decide) d_M_bend_40
abbrev rm_M_lose1_m : Room := { frames := 1, cells := 0, slots := 0, locals := 21 }
set_option maxHeartbeats 4000000 in
set_option maxRecDepth 100000 in
theorem c_M_lose1_m (l : Launch) (E : xE) (hm ms mf mc my mb mz mp mo mm ml md me mg : Nat) (re : Int32) (wr : Nat) (sp rp fi : Bool) (gd : Nat) (la : Int32) (lst : Int64) (k w : Int32) (hw : w < 0) : xC l E y_M_lose (.code y_M_lose prog_10_method_29_code 7 (some .int)) rm_M_lose1_m [.ref hm, .int (nI 1), .int (k), .int (w)] [(hm, .inr (5, [.int (re), .ref ms, .ref mf, .ref mc, .ref my, .ref mb, .ref mz, .ref mp, .ref mo, .ref mm, .ref ml, .ref md, .int (nI (wr)), .int (bI sp), .int (bI rp), .int (bI fi), .int (nI (gd)), .ref me, .ref mg, .int (la), .int (nI 0), .long (lst), .int 0]))] (xRet (some (.int (nI 0))) [(hm, .inr (5, [.int (nI 1), .ref ms, .ref mf, .ref mc, .ref my, .ref mb, .ref mz, .ref mp, .ref mo, .ref mm, .ref ml, .ref md, .int (nI (wr)), .int (bI sp), .int (bI rp), .int (bI fi), .int (nI (gd)), .ref me, .ref mg, .int (la), .int (nI 0), .long (lst), .int 0]))]) := by
  refine x_of' (own := "LineCoderModel") (mn := "lose") (lv := [(0, .ref hm), (1, .int (nI 1)), (2, .int (k)), (3, .int (w))]) (plainFor_of_name (by decide)) rfl rfl (Nat.le_of_ble_eq_true rfl) rfl ?_
  intro p_ e_ s_ m_ ar_ be_ me_ c_ A_ hA hB
  refine x_iload_n 1 hB d_M_lose_0 rfl rfl ?_
  refine x_callP (k' := 0) (n' := 0) (rest := []) (st' := [.int (nI 1)]) 4 hB (x_pfS (av := [.int (nI 1)]) hB w_772 xHd_code w_7 w_770 w_771 nm_M_isStream rfl d_M_lose_1) (c_M_isStream_1 l E ) w_772 xHd_code w_7 [] rfl rfl ⟨by decide, by decide⟩ ⟨by decide, by decide⟩ rfl rfl (Nat.le_of_ble_eq_true rfl) d_M_lose_1 rfl rfl ?_
  refine x_if_eq 19 7 hB d_M_lose_4 (by decide) rfl (fun hc => absurd hc (by decide)) (fun _ => ?_)
  refine x_iload_n 8 hB d_M_lose_7 rfl rfl ?_
  refine x_if_lt 19 11 hB d_M_lose_8 (by decide) rfl (fun _ => ?_) (fun hc => absurd (hw) hc)
  refine x_iconst (v := nI 0) 20 hB d_M_lose_19 rfl (by decide) ?_
  refine x_istore 22 hB d_M_lose_20 rfl (by decide) (lv' := [(4, .int (nI 0)), (0, .ref hm), (1, .int (nI 1)), (2, .int (k)), (3, .int (w))]) rfl ?_
  refine x_aload_n 23 hB d_M_lose_22 rfl rfl ?_
  refine x_iload 25 hB d_M_lose_23 rfl rfl ?_
  refine x_if_eq 42 28 hB d_M_lose_25 (by decide) rfl (fun _ => ?_) (fun hc => absurd (by decide) hc)
  refine x_iconst (v := nI 1) 43 hB d_M_lose_42 rfl (by decide) ?_
  refine x_callD (k' := 0) (n' := 0) (rest := []) (wr := []) (ws' := [(hm, .inr (5, [.int (nI 1), .ref ms, .ref mf, .ref mc, .ref my, .ref mb, .ref mz, .ref mp, .ref mo, .ref mm, .ref ml, .ref md, .int (nI (wr)), .int (bI sp), .int (bI rp), .int (bI fi), .int (nI (gd)), .ref me, .ref mg, .int (la), .int (nI 0), .long (lst), .int 0]))]) (st' := [.int (nI 1)]) 46 hB (x_pfV (av := [.int (nI 1)]) (q0 := 0) hB w_709 xHd_code w_706 w_708 s_M_refused rfl rfl nm_M_refused rfl d_M_lose_43) (c_M_refused1 l E hm ms mf mc my mb mz mp mo mm ml md me mg (re) (wr) (sp) (rp) (fi) (gd) (la) (lst)) w_709 xHd_code w_7 [0] [] rfl rfl rfl rfl (by decide) ⟨by decide, by decide⟩ ⟨by decide, by decide⟩ rfl rfl (Nat.le_of_ble_eq_true rfl) d_M_lose_43 rfl rfl rfl ?_
  refine x_if_eq 51 49 hB d_M_lose_46 (by decide) rfl (fun hc => absurd hc (by decide)) (fun _ => ?_)
  refine x_iconst (v := nI 0) 50 hB d_M_lose_49 rfl (by decide) ?_
  exact x_iret hB (w' := [(hm, .inr (5, [.int (nI 1), .ref ms, .ref mf, .ref mc, .ref my, .ref mb, .ref mz, .ref mp, .ref mo, .ref mm, .ref ml, .ref md, .int (nI (wr)), .int (bI sp), .int (bI rp), .int (bI fi), .int (nI (gd)), .ref me, .ref mg, .int (la), .int (nI 0), .long (lst), .int 0]))]) hA [0] rfl rfl (xRet_i) (by decide) (by decide) d_M_lose_50
abbrev rm_M_lose1_k : Room := { frames := 1, cells := 0, slots := 0, locals := 21 }
set_option maxHeartbeats 4000000 in
set_option maxRecDepth 100000 in
theorem c_M_lose1_k (l : Launch) (E : xE) (hm ms mf mc my mb mz mp mo mm ml md me mg : Nat) (re : Int32) (wr : Nat) (sp rp fi : Bool) (gd : Nat) (la : Int32) (lst : Int64) (k w : Int32) (hw : ¬ w < 0) (hk : k < 0) : xC l E y_M_lose (.code y_M_lose prog_10_method_29_code 7 (some .int)) rm_M_lose1_k [.ref hm, .int (nI 1), .int (k), .int (w)] [(hm, .inr (5, [.int (re), .ref ms, .ref mf, .ref mc, .ref my, .ref mb, .ref mz, .ref mp, .ref mo, .ref mm, .ref ml, .ref md, .int (nI (wr)), .int (bI sp), .int (bI rp), .int (bI fi), .int (nI (gd)), .ref me, .ref mg, .int (la), .int (nI 0), .long (lst), .int 0]))] (xRet (some (.int (nI 0))) [(hm, .inr (5, [.int (nI 1), .ref ms, .ref mf, .ref mc, .ref my, .ref mb, .ref mz, .ref mp, .ref mo, .ref mm, .ref ml, .ref md, .int (nI (wr)), .int (bI sp), .int (bI rp), .int (bI fi), .int (nI (gd)), .ref me, .ref mg, .int (la), .int (nI 0), .long (lst), .int 0]))]) := by
  refine x_of' (own := "LineCoderModel") (mn := "lose") (lv := [(0, .ref hm), (1, .int (nI 1)), (2, .int (k)), (3, .int (w))]) (plainFor_of_name (by decide)) rfl rfl (Nat.le_of_ble_eq_true rfl) rfl ?_
  intro p_ e_ s_ m_ ar_ be_ me_ c_ A_ hA hB
  refine x_iload_n 1 hB d_M_lose_0 rfl rfl ?_
  refine x_callP (k' := 0) (n' := 0) (rest := []) (st' := [.int (nI 1)]) 4 hB (x_pfS (av := [.int (nI 1)]) hB w_772 xHd_code w_7 w_770 w_771 nm_M_isStream rfl d_M_lose_1) (c_M_isStream_1 l E ) w_772 xHd_code w_7 [] rfl rfl ⟨by decide, by decide⟩ ⟨by decide, by decide⟩ rfl rfl (Nat.le_of_ble_eq_true rfl) d_M_lose_1 rfl rfl ?_
  refine x_if_eq 19 7 hB d_M_lose_4 (by decide) rfl (fun hc => absurd hc (by decide)) (fun _ => ?_)
  refine x_iload_n 8 hB d_M_lose_7 rfl rfl ?_
  refine x_if_lt 19 11 hB d_M_lose_8 (by decide) rfl (fun hc => absurd hc (hw)) (fun _ => ?_)
  refine x_iload_n 12 hB d_M_lose_11 rfl rfl ?_
  refine x_if_lt 19 15 hB d_M_lose_12 (by decide) rfl (fun _ => ?_) (fun hc => absurd (hk) hc)
  refine x_iconst (v := nI 0) 20 hB d_M_lose_19 rfl (by decide) ?_
  refine x_istore 22 hB d_M_lose_20 rfl (by decide) (lv' := [(4, .int (nI 0)), (0, .ref hm), (1, .int (nI 1)), (2, .int (k)), (3, .int (w))]) rfl ?_
  refine x_aload_n 23 hB d_M_lose_22 rfl rfl ?_
  refine x_iload 25 hB d_M_lose_23 rfl rfl ?_
  refine x_if_eq 42 28 hB d_M_lose_25 (by decide) rfl (fun _ => ?_) (fun hc => absurd (by decide) hc)
  refine x_iconst (v := nI 1) 43 hB d_M_lose_42 rfl (by decide) ?_
  refine x_callD (k' := 0) (n' := 0) (rest := []) (wr := []) (ws' := [(hm, .inr (5, [.int (nI 1), .ref ms, .ref mf, .ref mc, .ref my, .ref mb, .ref mz, .ref mp, .ref mo, .ref mm, .ref ml, .ref md, .int (nI (wr)), .int (bI sp), .int (bI rp), .int (bI fi), .int (nI (gd)), .ref me, .ref mg, .int (la), .int (nI 0), .long (lst), .int 0]))]) (st' := [.int (nI 1)]) 46 hB (x_pfV (av := [.int (nI 1)]) (q0 := 0) hB w_709 xHd_code w_706 w_708 s_M_refused rfl rfl nm_M_refused rfl d_M_lose_43) (c_M_refused1 l E hm ms mf mc my mb mz mp mo mm ml md me mg (re) (wr) (sp) (rp) (fi) (gd) (la) (lst)) w_709 xHd_code w_7 [0] [] rfl rfl rfl rfl (by decide) ⟨by decide, by decide⟩ ⟨by decide, by decide⟩ rfl rfl (Nat.le_of_ble_eq_true rfl) d_M_lose_43 rfl rfl rfl ?_
  refine x_if_eq 51 49 hB d_M_lose_46 (by decide) rfl (fun hc => absurd hc (by decide)) (fun _ => ?_)
  refine x_iconst (v := nI 0) 50 hB d_M_lose_49 rfl (by decide) ?_
  exact x_iret hB (w' := [(hm, .inr (5, [.int (nI 1), .ref ms, .ref mf, .ref mc, .ref my, .ref mb, .ref mz, .ref mp, .ref mo, .ref mm, .ref ml, .ref md, .int (nI (wr)), .int (bI sp), .int (bI rp), .int (bI fi), .int (nI (gd)), .ref me, .ref mg, .int (la), .int (nI 0), .long (lst), .int 0]))]) hA [0] rfl rfl (xRet_i) (by decide) (by decide) d_M_lose_50
abbrev rm_M_lose1_p : Room := { frames := 1, cells := 0, slots := 0, locals := 21 }
set_option maxHeartbeats 4000000 in
set_option maxRecDepth 100000 in
theorem c_M_lose1_p (l : Launch) (E : xE) (hm ms mf mc my mb mz mp mo mm ml md me mg : Nat) (re : Int32) (wr : Nat) (sp rp fi : Bool) (gd : Nat) (la : Int32) (lst : Int64) (p0 p1 : Nat) (k w : Int32) (hw : ¬ w < 0) (hk0 : ¬ k < 0) (hk : k < nI p1) : xC l E y_M_lose (.code y_M_lose prog_10_method_29_code 7 (some .int)) rm_M_lose1_p [.ref hm, .int (nI 1), .int (k), .int (w)] [(hm, .inr (5, [.int (re), .ref ms, .ref mf, .ref mc, .ref my, .ref mb, .ref mz, .ref mp, .ref mo, .ref mm, .ref ml, .ref md, .int (nI (wr)), .int (bI sp), .int (bI rp), .int (bI fi), .int (nI (gd)), .ref me, .ref mg, .int (la), .int (nI 0), .long (lst), .int 0])), (mp, .inl (E.2 1, 2, .inl (pr2 (nI (p0)) (nI (p1)))))] (xRet (some (.int (nI 0))) [(hm, .inr (5, [.int (nI 1), .ref ms, .ref mf, .ref mc, .ref my, .ref mb, .ref mz, .ref mp, .ref mo, .ref mm, .ref ml, .ref md, .int (nI (wr)), .int (bI sp), .int (bI rp), .int (bI fi), .int (nI (gd)), .ref me, .ref mg, .int (la), .int (nI 0), .long (lst), .int 0])), (mp, .inl (E.2 1, 2, .inl (pr2 (nI (p0)) (nI (p1)))))]) := by
  refine x_of' (own := "LineCoderModel") (mn := "lose") (lv := [(0, .ref hm), (1, .int (nI 1)), (2, .int (k)), (3, .int (w))]) (plainFor_of_name (by decide)) rfl rfl (Nat.le_of_ble_eq_true rfl) rfl ?_
  intro p_ e_ s_ m_ ar_ be_ me_ c_ A_ hA hB
  refine x_iload_n 1 hB d_M_lose_0 rfl rfl ?_
  refine x_callP (k' := 0) (n' := 0) (rest := []) (st' := [.int (nI 1)]) 4 hB (x_pfS (av := [.int (nI 1)]) hB w_772 xHd_code w_7 w_770 w_771 nm_M_isStream rfl d_M_lose_1) (c_M_isStream_1 l E ) w_772 xHd_code w_7 [] rfl rfl ⟨by decide, by decide⟩ ⟨by decide, by decide⟩ rfl rfl (Nat.le_of_ble_eq_true rfl) d_M_lose_1 rfl rfl ?_
  refine x_if_eq 19 7 hB d_M_lose_4 (by decide) rfl (fun hc => absurd hc (by decide)) (fun _ => ?_)
  refine x_iload_n 8 hB d_M_lose_7 rfl rfl ?_
  refine x_if_lt 19 11 hB d_M_lose_8 (by decide) rfl (fun hc => absurd hc (hw)) (fun _ => ?_)
  refine x_iload_n 12 hB d_M_lose_11 rfl rfl ?_
  refine x_if_lt 19 15 hB d_M_lose_12 (by decide) rfl (fun hc => absurd hc (hk0)) (fun _ => ?_)
  refine x_iconst (v := nI 1) 16 hB d_M_lose_15 rfl (by decide) ?_
  refine x_goto 20 hB d_M_lose_16 (by decide) ?_
  refine x_istore 22 hB d_M_lose_20 rfl (by decide) (lv' := [(4, .int (nI 1)), (0, .ref hm), (1, .int (nI 1)), (2, .int (k)), (3, .int (w))]) rfl ?_
  refine x_aload_n 23 hB d_M_lose_22 rfl rfl ?_
  refine x_iload 25 hB d_M_lose_23 rfl rfl ?_
  refine x_if_eq 42 28 hB d_M_lose_25 (by decide) rfl (fun hc => absurd hc (by decide)) (fun _ => ?_)
  refine x_iload_n 29 hB d_M_lose_28 rfl rfl ?_
  refine x_aload_n 30 hB d_M_lose_29 rfl rfl ?_
  refine x_get 33 hB 0 fg_M_28_5 rfl rfl d_M_lose_30 rfl ?_
  refine x_iload_n 34 hB d_M_lose_33 rfl rfl ?_
  refine x_iald 35 hB 1 rfl (by omega) (by decide) d_M_lose_34 rfl ?_
  refine x_top (v' := .int (nI (p1))) rfl ?_
  refine x_icmp_lt 42 38 hB d_M_lose_35 (by decide) rfl (fun _ => ?_) (fun hc => absurd (hk) hc)
  refine x_iconst (v := nI 1) 43 hB d_M_lose_42 rfl (by decide) ?_
  refine x_callD (k' := 0) (n' := 0) (rest := []) (wr := [(mp, .inl (E.2 1, 2, .inl (pr2 (nI (p0)) (nI (p1)))))]) (ws' := [(mp, .inl (E.2 1, 2, .inl (pr2 (nI (p0)) (nI (p1))))), (hm, .inr (5, [.int (nI 1), .ref ms, .ref mf, .ref mc, .ref my, .ref mb, .ref mz, .ref mp, .ref mo, .ref mm, .ref ml, .ref md, .int (nI (wr)), .int (bI sp), .int (bI rp), .int (bI fi), .int (nI (gd)), .ref me, .ref mg, .int (la), .int (nI 0), .long (lst), .int 0]))]) (st' := [.int (nI 1)]) 46 hB (x_pfV (av := [.int (nI 1)]) (q0 := 0) hB w_709 xHd_code w_706 w_708 s_M_refused rfl rfl nm_M_refused rfl d_M_lose_43) (c_M_refused1 l E hm ms mf mc my mb mz mp mo mm ml md me mg (re) (wr) (sp) (rp) (fi) (gd) (la) (lst)) w_709 xHd_code w_7 [0] [1] rfl rfl rfl rfl (by decide) ⟨by decide, by decide⟩ ⟨by decide, by decide⟩ rfl rfl (Nat.le_of_ble_eq_true rfl) d_M_lose_43 rfl rfl rfl ?_
  refine x_if_eq 51 49 hB d_M_lose_46 (by decide) rfl (fun hc => absurd hc (by decide)) (fun _ => ?_)
  refine x_iconst (v := nI 0) 50 hB d_M_lose_49 rfl (by decide) ?_
  exact x_iret hB (w' := [(hm, .inr (5, [.int (nI 1), .ref ms, .ref mf, .ref mc, .ref my, .ref mb, .ref mz, .ref mp, .ref mo, .ref mm, .ref ml, .ref md, .int (nI (wr)), .int (bI sp), .int (bI rp), .int (bI fi), .int (nI (gd)), .ref me, .ref mg, .int (la), .int (nI 0), .long (lst), .int 0])), (mp, .inl (E.2 1, 2, .inl (pr2 (nI (p0)) (nI (p1)))))]) hA [1, 0] rfl rfl (xRet_i) (by decide) (by decide) d_M_lose_50
abbrev rm_M_lose1_o : Room := { frames := 1, cells := 0, slots := 0, locals := 21 }
set_option maxHeartbeats 4000000 in
set_option maxRecDepth 100000 in
theorem c_M_lose1_o (l : Launch) (E : xE) (hm ms mf mc my mb mz mp mo mm ml md me mg : Nat) (re : Int32) (wr : Nat) (sp rp fi : Bool) (gd : Nat) (la : Int32) (lst : Int64) (z0 z1 : Nat) (p0 p1 : Nat) (k w : Int32) (hw : ¬ w < 0) (hk0 : ¬ k < 0) (hkp : ¬ k < nI p1) (hk : ¬ k < nI z1) : xC l E y_M_lose (.code y_M_lose prog_10_method_29_code 7 (some .int)) rm_M_lose1_o [.ref hm, .int (nI 1), .int (k), .int (w)] [(hm, .inr (5, [.int (re), .ref ms, .ref mf, .ref mc, .ref my, .ref mb, .ref mz, .ref mp, .ref mo, .ref mm, .ref ml, .ref md, .int (nI (wr)), .int (bI sp), .int (bI rp), .int (bI fi), .int (nI (gd)), .ref me, .ref mg, .int (la), .int (nI 0), .long (lst), .int 0])), (mz, .inl (E.2 1, 2, .inl (pr2 (nI (z0)) (nI (z1))))), (mp, .inl (E.2 1, 2, .inl (pr2 (nI (p0)) (nI (p1)))))] (xRet (some (.int (nI 0))) [(hm, .inr (5, [.int (nI 0), .ref ms, .ref mf, .ref mc, .ref my, .ref mb, .ref mz, .ref mp, .ref mo, .ref mm, .ref ml, .ref md, .int (nI (wr)), .int (bI sp), .int (bI rp), .int (bI fi), .int (nI (gd)), .ref me, .ref mg, .int (la), .int (nI 0), .long (lst), .int 0])), (mz, .inl (E.2 1, 2, .inl (pr2 (nI (z0)) (nI (z1))))), (mp, .inl (E.2 1, 2, .inl (pr2 (nI (p0)) (nI (p1)))))]) := by
  refine x_of' (own := "LineCoderModel") (mn := "lose") (lv := [(0, .ref hm), (1, .int (nI 1)), (2, .int (k)), (3, .int (w))]) (plainFor_of_name (by decide)) rfl rfl (Nat.le_of_ble_eq_true rfl) rfl ?_
  intro p_ e_ s_ m_ ar_ be_ me_ c_ A_ hA hB
  refine x_iload_n 1 hB d_M_lose_0 rfl rfl ?_
  refine x_callP (k' := 0) (n' := 0) (rest := []) (st' := [.int (nI 1)]) 4 hB (x_pfS (av := [.int (nI 1)]) hB w_772 xHd_code w_7 w_770 w_771 nm_M_isStream rfl d_M_lose_1) (c_M_isStream_1 l E ) w_772 xHd_code w_7 [] rfl rfl ⟨by decide, by decide⟩ ⟨by decide, by decide⟩ rfl rfl (Nat.le_of_ble_eq_true rfl) d_M_lose_1 rfl rfl ?_
  refine x_if_eq 19 7 hB d_M_lose_4 (by decide) rfl (fun hc => absurd hc (by decide)) (fun _ => ?_)
  refine x_iload_n 8 hB d_M_lose_7 rfl rfl ?_
  refine x_if_lt 19 11 hB d_M_lose_8 (by decide) rfl (fun hc => absurd hc (hw)) (fun _ => ?_)
  refine x_iload_n 12 hB d_M_lose_11 rfl rfl ?_
  refine x_if_lt 19 15 hB d_M_lose_12 (by decide) rfl (fun hc => absurd hc (hk0)) (fun _ => ?_)
  refine x_iconst (v := nI 1) 16 hB d_M_lose_15 rfl (by decide) ?_
  refine x_goto 20 hB d_M_lose_16 (by decide) ?_
  refine x_istore 22 hB d_M_lose_20 rfl (by decide) (lv' := [(4, .int (nI 1)), (0, .ref hm), (1, .int (nI 1)), (2, .int (k)), (3, .int (w))]) rfl ?_
  refine x_aload_n 23 hB d_M_lose_22 rfl rfl ?_
  refine x_iload 25 hB d_M_lose_23 rfl rfl ?_
  refine x_if_eq 42 28 hB d_M_lose_25 (by decide) rfl (fun hc => absurd hc (by decide)) (fun _ => ?_)
  refine x_iload_n 29 hB d_M_lose_28 rfl rfl ?_
  refine x_aload_n 30 hB d_M_lose_29 rfl rfl ?_
  refine x_get 33 hB 0 fg_M_28_5 rfl rfl d_M_lose_30 rfl ?_
  refine x_iload_n 34 hB d_M_lose_33 rfl rfl ?_
  refine x_iald 35 hB 2 rfl (by omega) (by decide) d_M_lose_34 rfl ?_
  refine x_top (v' := .int (nI (p1))) rfl ?_
  refine x_icmp_lt 42 38 hB d_M_lose_35 (by decide) rfl (fun hc => absurd hc (hkp)) (fun _ => ?_)
  refine x_iconst (v := nI 0) 39 hB d_M_lose_38 rfl (by decide) ?_
  refine x_goto 43 hB d_M_lose_39 (by decide) ?_
  refine x_callD (k' := 0) (n' := 0) (rest := []) (wr := [(mz, .inl (E.2 1, 2, .inl (pr2 (nI (z0)) (nI (z1))))), (mp, .inl (E.2 1, 2, .inl (pr2 (nI (p0)) (nI (p1)))))]) (ws' := [(mz, .inl (E.2 1, 2, .inl (pr2 (nI (z0)) (nI (z1))))), (mp, .inl (E.2 1, 2, .inl (pr2 (nI (p0)) (nI (p1))))), (hm, .inr (5, [.int (nI 0), .ref ms, .ref mf, .ref mc, .ref my, .ref mb, .ref mz, .ref mp, .ref mo, .ref mm, .ref ml, .ref md, .int (nI (wr)), .int (bI sp), .int (bI rp), .int (bI fi), .int (nI (gd)), .ref me, .ref mg, .int (la), .int (nI 0), .long (lst), .int 0]))]) (st' := [.int (nI 0)]) 46 hB (x_pfV (av := [.int (nI 0)]) (q0 := 0) hB w_709 xHd_code w_706 w_708 s_M_refused rfl rfl nm_M_refused rfl d_M_lose_43) (c_M_refused0 l E hm ms mf mc my mb mz mp mo mm ml md me mg (re) (wr) (sp) (rp) (fi) (gd) (la) (lst)) w_709 xHd_code w_7 [0] [1, 2] rfl rfl rfl rfl (by decide) ⟨by decide, by decide⟩ ⟨by decide, by decide⟩ rfl rfl (Nat.le_of_ble_eq_true rfl) d_M_lose_43 rfl rfl rfl ?_
  refine x_if_eq 51 49 hB d_M_lose_46 (by decide) rfl (fun _ => ?_) (fun hc => absurd (by decide) hc)
  refine x_iload_n 52 hB d_M_lose_51 rfl rfl ?_
  refine x_aload_n 53 hB d_M_lose_52 rfl rfl ?_
  refine x_get 56 hB 2 fg_M_25_5 rfl rfl d_M_lose_53 rfl ?_
  refine x_iload_n 57 hB d_M_lose_56 rfl rfl ?_
  refine x_iald 58 hB 0 rfl (by omega) (by decide) d_M_lose_57 rfl ?_
  refine x_top (v' := .int (nI (z1))) rfl ?_
  refine x_icmp_lt 63 61 hB d_M_lose_58 (by decide) rfl (fun hc => absurd hc (hk)) (fun _ => ?_)
  refine x_iconst (v := nI 0) 62 hB d_M_lose_61 rfl (by decide) ?_
  exact x_iret hB (w' := [(hm, .inr (5, [.int (nI 0), .ref ms, .ref mf, .ref mc, .ref my, .ref mb, .ref mz, .ref mp, .ref mo, .ref mm, .ref ml, .ref md, .int (nI (wr)), .int (bI sp), .int (bI rp), .int (bI fi), .int (nI (gd)), .ref me, .ref mg, .int (la), .int (nI 0), .long (lst), .int 0])), (mz, .inl (E.2 1, 2, .inl (pr2 (nI (z0)) (nI (z1))))), (mp, .inl (E.2 1, 2, .inl (pr2 (nI (p0)) (nI (p1)))))]) hA [2, 0, 1] rfl rfl (xRet_i) (by decide) (by decide) d_M_lose_62
abbrev rm_M_lose1 : Room := { frames := 1, cells := 0, slots := 0, locals := 21 }
set_option maxHeartbeats 4000000 in
set_option maxRecDepth 100000 in
theorem c_M_lose1 (l : Launch) (E : xE) (hm ms mf mc my mb mz mp mo mm ml md me mg : Nat) (re : Int32) (wr : Nat) (sp rp fi : Bool) (gd : Nat) (la : Int32) (lst : Int64) (z0 z1 : Nat) (g : Nat → Int32) (p0 p1 : Nat) (j q : Nat) (hj : j < z1) (hpj : p1 ≤ j) (hz : z1 ≤ 2640) (hq : q < 2147483648) : xC l E y_M_lose (.code y_M_lose prog_10_method_29_code 7 (some .int)) rm_M_lose1 [.ref hm, .int (nI 1), .int (nI (j)), .int (nI (q))] [(hm, .inr (5, [.int (re), .ref ms, .ref mf, .ref mc, .ref my, .ref mb, .ref mz, .ref mp, .ref mo, .ref mm, .ref ml, .ref md, .int (nI (wr)), .int (bI sp), .int (bI rp), .int (bI fi), .int (nI (gd)), .ref me, .ref mg, .int (la), .int (nI 0), .long (lst), .int 0])), (mb, .inl (E.2 1, 5280, .inl (g))), (mz, .inl (E.2 1, 2, .inl (pr2 (nI (z0)) (nI (z1))))), (mp, .inl (E.2 1, 2, .inl (pr2 (nI (p0)) (nI (p1)))))] (xRet (some (.int (nI (min q (z1 - j))))) [(hm, .inr (5, [.int (nI 0), .ref ms, .ref mf, .ref mc, .ref my, .ref mb, .ref mz, .ref mp, .ref mo, .ref mm, .ref ml, .ref md, .int (nI (wr)), .int (bI sp), .int (bI rp), .int (bI fi), .int (nI (gd)), .ref me, .ref mg, .int (la), .int (nI 0), .long (lst), .int 0])), (mb, .inl (E.2 1, 5280, .inl (lsG g (2640 + j) (min q (z1 - j)) (z1 - min q (z1 - j) - j)))), (mz, .inl (E.2 1, 2, .inl (pr2 (nI (z0)) (nI (z1 - min q (z1 - j)))))), (mp, .inl (E.2 1, 2, .inl (pr2 (nI (p0)) (nI (p1)))))]) := by
  refine x_of' (own := "LineCoderModel") (mn := "lose") (lv := [(0, .ref hm), (1, .int (nI 1)), (2, .int (nI (j))), (3, .int (nI (q)))]) (plainFor_of_name (by decide)) rfl rfl (Nat.le_of_ble_eq_true rfl) rfl ?_
  intro p_ e_ s_ m_ ar_ be_ me_ c_ A_ hA hB
  refine x_iload_n 1 hB d_M_lose_0 rfl rfl ?_
  refine x_callP (k' := 0) (n' := 0) (rest := []) (st' := [.int (nI 1)]) 4 hB (x_pfS (av := [.int (nI 1)]) hB w_772 xHd_code w_7 w_770 w_771 nm_M_isStream rfl d_M_lose_1) (c_M_isStream_1 l E ) w_772 xHd_code w_7 [] rfl rfl ⟨by decide, by decide⟩ ⟨by decide, by decide⟩ rfl rfl (Nat.le_of_ble_eq_true rfl) d_M_lose_1 rfl rfl ?_
  refine x_if_eq 19 7 hB d_M_lose_4 (by decide) rfl (fun hc => absurd hc (by decide)) (fun _ => ?_)
  refine x_iload_n 8 hB d_M_lose_7 rfl rfl ?_
  refine x_if_lt 19 11 hB d_M_lose_8 (by decide) rfl (fun hc => absurd hc (nI_pos hq)) (fun _ => ?_)
  refine x_iload_n 12 hB d_M_lose_11 rfl rfl ?_
  refine x_if_lt 19 15 hB d_M_lose_12 (by decide) rfl (fun hc => absurd hc (nI_pos (by omega))) (fun _ => ?_)
  refine x_iconst (v := nI 1) 16 hB d_M_lose_15 rfl (by decide) ?_
  refine x_goto 20 hB d_M_lose_16 (by decide) ?_
  refine x_istore 22 hB d_M_lose_20 rfl (by decide) (lv' := [(4, .int (nI 1)), (0, .ref hm), (1, .int (nI 1)), (2, .int (nI (j))), (3, .int (nI (q)))]) rfl ?_
  refine x_aload_n 23 hB d_M_lose_22 rfl rfl ?_
  refine x_iload 25 hB d_M_lose_23 rfl rfl ?_
  refine x_if_eq 42 28 hB d_M_lose_25 (by decide) rfl (fun hc => absurd hc (by decide)) (fun _ => ?_)
  refine x_iload_n 29 hB d_M_lose_28 rfl rfl ?_
  refine x_aload_n 30 hB d_M_lose_29 rfl rfl ?_
  refine x_get 33 hB 0 fg_M_28_5 rfl rfl d_M_lose_30 rfl ?_
  refine x_iload_n 34 hB d_M_lose_33 rfl rfl ?_
  refine x_iald 35 hB 3 rfl (by omega) (by decide) d_M_lose_34 rfl ?_
  refine x_top (v' := .int (nI (p1))) rfl ?_
  refine x_icmp_lt 42 38 hB d_M_lose_35 (by decide) rfl (fun hc => absurd hc (nI_nlt hpj (by omega))) (fun _ => ?_)
  refine x_iconst (v := nI 0) 39 hB d_M_lose_38 rfl (by decide) ?_
  refine x_goto 43 hB d_M_lose_39 (by decide) ?_
  refine x_callD (k' := 0) (n' := 0) (rest := []) (wr := [(mb, .inl (E.2 1, 5280, .inl (g))), (mz, .inl (E.2 1, 2, .inl (pr2 (nI (z0)) (nI (z1))))), (mp, .inl (E.2 1, 2, .inl (pr2 (nI (p0)) (nI (p1)))))]) (ws' := [(mb, .inl (E.2 1, 5280, .inl (g))), (mz, .inl (E.2 1, 2, .inl (pr2 (nI (z0)) (nI (z1))))), (mp, .inl (E.2 1, 2, .inl (pr2 (nI (p0)) (nI (p1))))), (hm, .inr (5, [.int (nI 0), .ref ms, .ref mf, .ref mc, .ref my, .ref mb, .ref mz, .ref mp, .ref mo, .ref mm, .ref ml, .ref md, .int (nI (wr)), .int (bI sp), .int (bI rp), .int (bI fi), .int (nI (gd)), .ref me, .ref mg, .int (la), .int (nI 0), .long (lst), .int 0]))]) (st' := [.int (nI 0)]) 46 hB (x_pfV (av := [.int (nI 0)]) (q0 := 0) hB w_709 xHd_code w_706 w_708 s_M_refused rfl rfl nm_M_refused rfl d_M_lose_43) (c_M_refused0 l E hm ms mf mc my mb mz mp mo mm ml md me mg (re) (wr) (sp) (rp) (fi) (gd) (la) (lst)) w_709 xHd_code w_7 [0] [1, 2, 3] rfl rfl rfl rfl (by decide) ⟨by decide, by decide⟩ ⟨by decide, by decide⟩ rfl rfl (Nat.le_of_ble_eq_true rfl) d_M_lose_43 rfl rfl rfl ?_
  refine x_if_eq 51 49 hB d_M_lose_46 (by decide) rfl (fun _ => ?_) (fun hc => absurd (by decide) hc)
  refine x_iload_n 52 hB d_M_lose_51 rfl rfl ?_
  refine x_aload_n 53 hB d_M_lose_52 rfl rfl ?_
  refine x_get 56 hB 3 fg_M_25_5 rfl rfl d_M_lose_53 rfl ?_
  refine x_iload_n 57 hB d_M_lose_56 rfl rfl ?_
  refine x_iald 58 hB 1 rfl (by omega) (by decide) d_M_lose_57 rfl ?_
  refine x_top (v' := .int (nI (z1))) rfl ?_
  refine x_icmp_lt 63 61 hB d_M_lose_58 (by decide) rfl (fun _ => ?_) (fun hc => absurd (nI_lt hj (by omega)) hc)
  refine x_join 87 (fun _u : Unit => True) (fun _u : Unit => [(mb, .inl (E.2 1, 5280, .inl (g))), (mz, .inl (E.2 1, 2, .inl (pr2 (nI (z0)) (nI (z1))))), (mp, .inl (E.2 1, 2, .inl (pr2 (nI (p0)) (nI (p1))))), (hm, .inr (5, [.int (nI 0), .ref ms, .ref mf, .ref mc, .ref my, .ref mb, .ref mz, .ref mp, .ref mo, .ref mm, .ref ml, .ref md, .int (nI (wr)), .int (bI sp), .int (bI rp), .int (bI fi), .int (nI (gd)), .ref me, .ref mg, .int (la), .int (nI 0), .long (lst), .int 0]))]) (fun _u : Unit => [(0, .ref hm), (1, .int (nI 1)), (2, .int (nI (j))), (3, .int (nI (q))), (4, .int (nI 1))]) (fun _u : Unit => [.int (nI (min q (z1 - j)))]) (fun _u hJ87 => ?_) (fun J87 => ?_)
  · skip
    have hg : min q (z1 - j) ≤ z1 - j := Nat.min_le_right _ _
    refine x_istore 89 hB d_M_lose_87 rfl (by decide) (lv' := [(5, .int (nI (min q (z1 - j)))), (0, .ref hm), (1, .int (nI 1)), (2, .int (nI (j))), (3, .int (nI (q))), (4, .int (nI 1))]) rfl ?_
    refine x_aload_n 90 hB d_M_lose_89 rfl rfl ?_
    refine x_get 93 hB 3 fg_M_25_5 rfl rfl d_M_lose_90 rfl ?_
    refine x_iload_n 94 hB d_M_lose_93 rfl rfl ?_
    refine x_aload_n 95 hB d_M_lose_94 rfl rfl ?_
    refine x_get 98 hB 3 fg_M_25_5 rfl rfl d_M_lose_95 rfl ?_
    refine x_iload_n 99 hB d_M_lose_98 rfl rfl ?_
    refine x_iald 100 hB 1 rfl (by omega) (by decide) d_M_lose_99 rfl ?_
    refine x_top (v' := .int (nI (z1))) rfl ?_
    refine x_iload 102 hB d_M_lose_100 rfl rfl ?_
    refine x_isub 103 hB d_M_lose_102 rfl ?_
    refine x_top (v' := .int (nI (z1 - min q (z1 - j)))) (congrArg Value.int (pk_sub (by omega))) ?_
    refine x_iast 104 hB 1 (ws' := [(mb, .inl (E.2 1, 5280, .inl (g))), (mz, .inl (E.2 1, 2, .inl (pr2 (nI (z0)) (nI (z1 - min q (z1 - j)))))), (mp, .inl (E.2 1, 2, .inl (pr2 (nI (p0)) (nI (p1))))), (hm, .inr (5, [.int (nI 0), .ref ms, .ref mf, .ref mc, .ref my, .ref mb, .ref mz, .ref mp, .ref mo, .ref mm, .ref ml, .ref md, .int (nI (wr)), .int (bI sp), .int (bI rp), .int (bI fi), .int (nI (gd)), .ref me, .ref mg, .int (la), .int (nI 0), .long (lst), .int 0]))]) rfl (by omega) (by decide) (x' := nI (z1 - min q (z1 - j))) (rfl) (by rw [pr2_1]; rfl) d_M_lose_103 rfl ?_
    refine x_iload_n 105 hB d_M_lose_104 rfl rfl ?_
    refine x_istore 107 hB d_M_lose_105 rfl (by decide) (lv' := [(6, .int (nI (j))), (5, .int (nI (min q (z1 - j)))), (0, .ref hm), (1, .int (nI 1)), (2, .int (nI (j))), (3, .int (nI (q))), (4, .int (nI 1))]) rfl ?_
    refine x_lv (lv' := [(0, .ref hm), (1, .int (nI 1)), (2, .int (nI (j))), (3, .int (nI (q))), (4, .int (nI 1)), (5, .int (nI (min q (z1 - j)))), (6, .int (nI (j)))]) [2, 3, 4, 5, 6, 1, 0] rfl ?_
    refine x_loop (fun t : Nat => t ≤ (z1 - min q (z1 - j) - j)) (fun t : Nat => (z1 - min q (z1 - j) - j) - t) (fun t : Nat => [(mb, .inl (E.2 1, 5280, .inl (lsG g (2640 + j) (min q (z1 - j)) t))), (mz, .inl (E.2 1, 2, .inl (pr2 (nI (z0)) (nI (z1 - min q (z1 - j)))))), (mp, .inl (E.2 1, 2, .inl (pr2 (nI (p0)) (nI (p1))))), (hm, .inr (5, [.int (nI 0), .ref ms, .ref mf, .ref mc, .ref my, .ref mb, .ref mz, .ref mp, .ref mo, .ref mm, .ref ml, .ref md, .int (nI (wr)), .int (bI sp), .int (bI rp), .int (bI fi), .int (nI (gd)), .ref me, .ref mg, .int (la), .int (nI 0), .long (lst), .int 0]))]) (fun t : Nat => [(0, .ref hm), (1, .int (nI 1)), (2, .int (nI (j))), (3, .int (nI (q))), (4, .int (nI 1)), (5, .int (nI (min q (z1 - j)))), (6, .int (nI (j + t)))]) (fun t : Nat => []) 0 (Nat.zero_le _) (by rw [← lsG_0]) rfl rfl (fun t hI107 IH107 => ?_)
    refine x_iload 109 hB d_M_lose_107 rfl rfl ?_
    refine x_aload_n 110 hB d_M_lose_109 rfl rfl ?_
    refine x_get 113 hB 3 fg_M_25_5 rfl rfl d_M_lose_110 rfl ?_
    refine x_iload_n 114 hB d_M_lose_113 rfl rfl ?_
    refine x_iald 115 hB 1 rfl (by omega) (by decide) d_M_lose_114 rfl ?_
    refine x_top (v' := .int (nI (z1 - min q (z1 - j)))) rfl ?_
    refine x_icmp_ge 153 118 hB d_M_lose_115 (by decide) rfl (fun h115 => ?_) (fun h115 => ?_)
    · skip
      have htt : (z1 - min q (z1 - j) - j) = t := by have := (nI_leI (by omega) (by omega)).mp h115; omega
      subst htt
      refine x_iload 155 hB d_M_lose_153 rfl rfl ?_
      exact x_iret hB (w' := [(hm, .inr (5, [.int (nI 0), .ref ms, .ref mf, .ref mc, .ref my, .ref mb, .ref mz, .ref mp, .ref mo, .ref mm, .ref ml, .ref md, .int (nI (wr)), .int (bI sp), .int (bI rp), .int (bI fi), .int (nI (gd)), .ref me, .ref mg, .int (la), .int (nI 0), .long (lst), .int 0])), (mb, .inl (E.2 1, 5280, .inl (lsG g (2640 + j) (min q (z1 - j)) (z1 - min q (z1 - j) - j)))), (mz, .inl (E.2 1, 2, .inl (pr2 (nI (z0)) (nI (z1 - min q (z1 - j)))))), (mp, .inl (E.2 1, 2, .inl (pr2 (nI (p0)) (nI (p1)))))]) hA [3, 0, 1, 2] rfl rfl (xRet_i) (by decide) (by decide) d_M_lose_155
    · skip
      have k115 : t < (z1 - min q (z1 - j) - j) := Nat.lt_of_not_le (fun h => h115 (nI_le (by omega) (by omega)))
      refine x_aload_n 119 hB d_M_lose_118 rfl rfl ?_
      refine x_get 122 hB 3 fg_M_22_5 rfl rfl d_M_lose_119 rfl ?_
      refine x_sipush (v := nI 2640) 125 hB d_M_lose_122 rfl (by decide) ?_
      refine x_iload_n 126 hB d_M_lose_125 rfl rfl ?_
      refine x_imul 127 hB d_M_lose_126 rfl ?_
      refine x_top (v' := .int (nI 2640)) (congrArg Value.int (by decide)) ?_
      refine x_iload 129 hB d_M_lose_127 rfl rfl ?_
      refine x_iadd 130 hB d_M_lose_129 rfl ?_
      refine x_top (v' := .int (nI (2640 + j + t))) (congrArg Value.int ((nI_add _ _).trans (by rw [Nat.add_assoc]))) ?_
      refine x_aload_n 131 hB d_M_lose_130 rfl rfl ?_
      refine x_get 134 hB 3 fg_M_22_5 rfl rfl d_M_lose_131 rfl ?_
      refine x_sipush (v := nI 2640) 137 hB d_M_lose_134 rfl (by decide) ?_
      refine x_iload_n 138 hB d_M_lose_137 rfl rfl ?_
      refine x_imul 139 hB d_M_lose_138 rfl ?_
      refine x_top (v' := .int (nI 2640)) (congrArg Value.int (by decide)) ?_
      refine x_iload 141 hB d_M_lose_139 rfl rfl ?_
      refine x_iadd 142 hB d_M_lose_141 rfl ?_
      refine x_top (v' := .int (nI (2640 + j + t))) (congrArg Value.int ((nI_add _ _).trans (by rw [Nat.add_assoc]))) ?_
      refine x_iload 144 hB d_M_lose_142 rfl rfl ?_
      refine x_iadd 145 hB d_M_lose_144 rfl ?_
      refine x_top (v' := .int (nI (2640 + j + t + min q (z1 - j)))) (congrArg Value.int (nI_add _ _)) ?_
      refine x_iald 146 hB 0 rfl (by omega) (by decide) d_M_lose_145 rfl ?_
      refine x_top (v' := .int (g (2640 + j + t + min q (z1 - j)))) (congrArg Value.int (lsG_r)) ?_
      refine x_iast 147 hB 0 (ws' := [(mb, .inl (E.2 1, 5280, .inl (lsG g (2640 + j) (min q (z1 - j)) (t + 1)))), (mz, .inl (E.2 1, 2, .inl (pr2 (nI (z0)) (nI (z1 - min q (z1 - j)))))), (mp, .inl (E.2 1, 2, .inl (pr2 (nI (p0)) (nI (p1))))), (hm, .inr (5, [.int (nI 0), .ref ms, .ref mf, .ref mc, .ref my, .ref mb, .ref mz, .ref mp, .ref mo, .ref mm, .ref ml, .ref md, .int (nI (wr)), .int (bI sp), .int (bI rp), .int (bI fi), .int (nI (gd)), .ref me, .ref mg, .int (la), .int (nI 0), .long (lst), .int 0]))]) rfl (by omega) (by decide) (x' := g (2640 + j + t + min q (z1 - j))) (rfl) (by rw [lsG_s]; rfl) d_M_lose_146 rfl ?_
      refine x_iinc (v := nI (j + (t + 1))) 150 hB d_M_lose_147 rfl 6 rfl ((nI_succ (j + t)).symm) (by decide) (lv' := [(6, .int (nI (j + (t + 1)))), (0, .ref hm), (1, .int (nI 1)), (2, .int (nI (j))), (3, .int (nI (q))), (4, .int (nI 1)), (5, .int (nI (min q (z1 - j))))]) rfl ?_
      refine x_goto 107 hB d_M_lose_150 (by decide) ?_
      refine x_lv (lv' := [(0, .ref hm), (1, .int (nI 1)), (2, .int (nI (j))), (3, .int (nI (q))), (4, .int (nI 1)), (5, .int (nI (min q (z1 - j)))), (6, .int (nI (j + (t + 1))))]) [1, 2, 3, 4, 5, 6, 0] rfl ?_
      exact IH107 (t + 1) k115 (by omega)
  refine x_iload_n 64 hB d_M_lose_63 rfl rfl ?_
  refine x_aload_n 65 hB d_M_lose_64 rfl rfl ?_
  refine x_get 68 hB 3 fg_M_25_5 rfl rfl d_M_lose_65 rfl ?_
  refine x_iload_n 69 hB d_M_lose_68 rfl rfl ?_
  refine x_iald 70 hB 1 rfl (by omega) (by decide) d_M_lose_69 rfl ?_
  refine x_top (v' := .int (nI (z1))) rfl ?_
  refine x_iload_n 71 hB d_M_lose_70 rfl rfl ?_
  refine x_isub 72 hB d_M_lose_71 rfl ?_
  refine x_top (v' := .int (nI (z1 - j))) (congrArg Value.int (pk_sub (by omega))) ?_
  refine x_icmp_ge 79 75 hB d_M_lose_72 (by decide) rfl (fun h72 => ?_) (fun h72 => ?_)
  · skip
    have k72 : (z1 - j) ≤ q := (nI_leI (by omega) (by omega)).mp h72
    refine x_aload_n 80 hB d_M_lose_79 rfl rfl ?_
    refine x_get 83 hB 3 fg_M_25_5 rfl rfl d_M_lose_80 rfl ?_
    refine x_iload_n 84 hB d_M_lose_83 rfl rfl ?_
    refine x_iald 85 hB 1 rfl (by omega) (by decide) d_M_lose_84 rfl ?_
    refine x_top (v' := .int (nI (z1))) rfl ?_
    refine x_iload_n 86 hB d_M_lose_85 rfl rfl ?_
    refine x_isub 87 hB d_M_lose_86 rfl ?_
    refine x_top (v' := .int (nI (min q (z1 - j)))) (congrArg Value.int ((pk_sub (by omega)).trans (by rw [Nat.min_eq_right (by omega)]))) ?_
    refine x_lv (lv' := [(0, .ref hm), (1, .int (nI 1)), (2, .int (nI (j))), (3, .int (nI (q))), (4, .int (nI 1))]) [1, 2, 3, 4, 0] rfl ?_
    exact J87 () trivial
  · skip
    have k72 : ¬ (z1 - j) ≤ q := fun h => h72 ((nI_leI (by omega) (by omega)).mpr h)
    refine x_iload_n 76 hB d_M_lose_75 rfl rfl ?_
    refine x_top (v' := .int (nI (min q (z1 - j)))) (congrArg Value.int (by rw [Nat.min_eq_left (by omega)])) ?_
    refine x_goto 87 hB d_M_lose_76 (by decide) ?_
    refine x_lv (lv' := [(0, .ref hm), (1, .int (nI 1)), (2, .int (nI (j))), (3, .int (nI (q))), (4, .int (nI 1))]) [1, 2, 3, 4, 0] rfl ?_
    exact J87 () trivial
abbrev rm_M_raw_s : Room := { frames := 1, cells := 0, slots := 0, locals := 21 }
set_option maxHeartbeats 4000000 in
set_option maxRecDepth 100000 in
theorem c_M_raw_s (l : Launch) (E : xE) (hm ms mf mc my mb mz mp mo mm ml md me mg : Nat) (re : Int32) (wr : Nat) (sp rp fi : Bool) (gd : Nat) (la : Int32) (lst : Int64) (k x w : Int32) (h0 : ¬ k = 0) (h1 : ¬ k = 1) : xC l E y_M_raw (.code y_M_raw prog_10_method_27_code 6 (some .int)) rm_M_raw_s [.ref hm, .int (k), .int (x), .int (w)] [(hm, .inr (5, [.int (re), .ref ms, .ref mf, .ref mc, .ref my, .ref mb, .ref mz, .ref mp, .ref mo, .ref mm, .ref ml, .ref md, .int (nI (wr)), .int (bI sp), .int (bI rp), .int (bI fi), .int (nI (gd)), .ref me, .ref mg, .int (la), .int (nI 0), .long (lst), .int 0]))] (xRet (some (.int (nI 0))) [(hm, .inr (5, [.int (nI 1), .ref ms, .ref mf, .ref mc, .ref my, .ref mb, .ref mz, .ref mp, .ref mo, .ref mm, .ref ml, .ref md, .int (nI (wr)), .int (bI sp), .int (bI rp), .int (bI fi), .int (nI (gd)), .ref me, .ref mg, .int (la), .int (nI 0), .long (lst), .int 0]))]) := by
  refine x_of' (own := "LineCoderModel") (mn := "raw") (lv := [(0, .ref hm), (1, .int (k)), (2, .int (x)), (3, .int (w))]) (plainFor_of_name (by decide)) rfl rfl (Nat.le_of_ble_eq_true rfl) rfl ?_
  intro p_ e_ s_ m_ ar_ be_ me_ c_ A_ hA hB
  refine x_iload_n 1 hB d_M_raw_0 rfl rfl ?_
  refine x_callP (k' := 0) (n' := 0) (rest := []) (st' := [.int (nI 0)]) 4 hB (x_pfS (av := [.int (k)]) hB w_772 xHd_code w_7 w_770 w_771 nm_M_isStream rfl d_M_raw_1) (c_M_isStream_n l E k h0 h1) w_772 xHd_code w_7 [] rfl rfl ⟨by decide, by decide⟩ ⟨by decide, by decide⟩ rfl rfl (Nat.le_of_ble_eq_true rfl) d_M_raw_1 rfl rfl ?_
  refine x_if_eq 21 7 hB d_M_raw_4 (by decide) rfl (fun _ => ?_) (fun hc => absurd (by decide) hc)
  refine x_iconst (v := nI 0) 22 hB d_M_raw_21 rfl (by decide) ?_
  refine x_istore 24 hB d_M_raw_22 rfl (by decide) (lv' := [(4, .int (nI 0)), (0, .ref hm), (1, .int (k)), (2, .int (x)), (3, .int (w))]) rfl ?_
  refine x_aload_n 25 hB d_M_raw_24 rfl rfl ?_
  refine x_iload 27 hB d_M_raw_25 rfl rfl ?_
  refine x_if_ne 34 30 hB d_M_raw_27 (by decide) rfl (fun hc => absurd (by decide) hc) (fun _ => ?_)
  refine x_iconst (v := nI 1) 31 hB d_M_raw_30 rfl (by decide) ?_
  refine x_goto 53 hB d_M_raw_31 (by decide) ?_
  refine x_callD (k' := 0) (n' := 0) (rest := []) (wr := []) (ws' := [(hm, .inr (5, [.int (nI 1), .ref ms, .ref mf, .ref mc, .ref my, .ref mb, .ref mz, .ref mp, .ref mo, .ref mm, .ref ml, .ref md, .int (nI (wr)), .int (bI sp), .int (bI rp), .int (bI fi), .int (nI (gd)), .ref me, .ref mg, .int (la), .int (nI 0), .long (lst), .int 0]))]) (st' := [.int (nI 1)]) 56 hB (x_pfV (av := [.int (nI 1)]) (q0 := 0) hB w_709 xHd_code w_706 w_708 s_M_refused rfl rfl nm_M_refused rfl d_M_raw_53) (c_M_refused1 l E hm ms mf mc my mb mz mp mo mm ml md me mg (re) (wr) (sp) (rp) (fi) (gd) (la) (lst)) w_709 xHd_code w_7 [0] [] rfl rfl rfl rfl (by decide) ⟨by decide, by decide⟩ ⟨by decide, by decide⟩ rfl rfl (Nat.le_of_ble_eq_true rfl) d_M_raw_53 rfl rfl rfl ?_
  refine x_if_eq 61 59 hB d_M_raw_56 (by decide) rfl (fun hc => absurd hc (by decide)) (fun _ => ?_)
  refine x_iconst (v := nI 0) 60 hB d_M_raw_59 rfl (by decide) ?_
  exact x_iret hB (w' := [(hm, .inr (5, [.int (nI 1), .ref ms, .ref mf, .ref mc, .ref my, .ref mb, .ref mz, .ref mp, .ref mo, .ref mm, .ref ml, .ref md, .int (nI (wr)), .int (bI sp), .int (bI rp), .int (bI fi), .int (nI (gd)), .ref me, .ref mg, .int (la), .int (nI 0), .long (lst), .int 0]))]) hA [0] rfl rfl (xRet_i) (by decide) (by decide) d_M_raw_60
abbrev rm_M_bend_s : Room := { frames := 1, cells := 0, slots := 0, locals := 21 }
set_option maxHeartbeats 4000000 in
set_option maxRecDepth 100000 in
theorem c_M_bend_s (l : Launch) (E : xE) (hm ms mf mc my mb mz mp mo mm ml md me mg : Nat) (re : Int32) (wr : Nat) (sp rp fi : Bool) (gd : Nat) (la : Int32) (lst : Int64) (k x w : Int32) (h0 : ¬ k = 0) (h1 : ¬ k = 1) : xC l E y_M_bend (.code y_M_bend prog_10_method_28_code 3 (some .boolean)) rm_M_bend_s [.ref hm, .int (k), .int (x)] [(hm, .inr (5, [.int (re), .ref ms, .ref mf, .ref mc, .ref my, .ref mb, .ref mz, .ref mp, .ref mo, .ref mm, .ref ml, .ref md, .int (nI (wr)), .int (bI sp), .int (bI rp), .int (bI fi), .int (nI (gd)), .ref me, .ref mg, .int (la), .int (nI 0), .long (lst), .int 0]))] (xRet (some (.int (nI 0))) [(hm, .inr (5, [.int (nI 1), .ref ms, .ref mf, .ref mc, .ref my, .ref mb, .ref mz, .ref mp, .ref mo, .ref mm, .ref ml, .ref md, .int (nI (wr)), .int (bI sp), .int (bI rp), .int (bI fi), .int (nI (gd)), .ref me, .ref mg, .int (la), .int (nI 0), .long (lst), .int 0]))]) := by
  refine x_of' (own := "LineCoderModel") (mn := "bend") (lv := [(0, .ref hm), (1, .int (k)), (2, .int (x))]) (plainFor_of_name (by decide)) rfl rfl (Nat.le_of_ble_eq_true rfl) rfl ?_
  intro p_ e_ s_ m_ ar_ be_ me_ c_ A_ hA hB
  refine x_aload_n 1 hB d_M_bend_0 rfl rfl ?_
  refine x_iload_n 2 hB d_M_bend_1 rfl rfl ?_
  refine x_callP (k' := 0) (n' := 0) (rest := [.ref hm]) (st' := [.int (nI 0), .ref hm]) 5 hB (x_pfS (av := [.int (k)]) hB w_772 xHd_code w_7 w_770 w_771 nm_M_isStream rfl d_M_bend_2) (c_M_isStream_n l E k h0 h1) w_772 xHd_code w_7 [] rfl rfl ⟨by decide, by decide⟩ ⟨by decide, by decide⟩ rfl rfl (Nat.le_of_ble_eq_true rfl) d_M_bend_2 rfl rfl ?_
  refine x_if_ne 12 8 hB d_M_bend_5 (by decide) rfl (fun hc => absurd (by decide) hc) (fun _ => ?_)
  refine x_iconst (v := nI 1) 9 hB d_M_bend_8 rfl (by decide) ?_
  refine x_goto 33 hB d_M_bend_9 (by decide) ?_
  refine x_callD (k' := 0) (n' := 0) (rest := []) (wr := []) (ws' := [(hm, .inr (5, [.int (nI 1), .ref ms, .ref mf, .ref mc, .ref my, .ref mb, .ref mz, .ref mp, .ref mo, .ref mm, .ref ml, .ref md, .int (nI (wr)), .int (bI sp), .int (bI rp), .int (bI fi), .int (nI (gd)), .ref me, .ref mg, .int (la), .int (nI 0), .long (lst), .int 0]))]) (st' := [.int (nI 1)]) 36 hB (x_pfV (av := [.int (nI 1)]) (q0 := 0) hB w_709 xHd_code w_706 w_708 s_M_refused rfl rfl nm_M_refused rfl d_M_bend_33) (c_M_refused1 l E hm ms mf mc my mb mz mp mo mm ml md me mg (re) (wr) (sp) (rp) (fi) (gd) (la) (lst)) w_709 xHd_code w_7 [0] [] rfl rfl rfl rfl (by decide) ⟨by decide, by decide⟩ ⟨by decide, by decide⟩ rfl rfl (Nat.le_of_ble_eq_true rfl) d_M_bend_33 rfl rfl rfl ?_
  refine x_if_eq 41 39 hB d_M_bend_36 (by decide) rfl (fun hc => absurd hc (by decide)) (fun _ => ?_)
  refine x_iconst (v := nI 0) 40 hB d_M_bend_39 rfl (by decide) ?_
  exact x_zret hB (by decide) (w' := [(hm, .inr (5, [.int (nI 1), .ref ms, .ref mf, .ref mc, .ref my, .ref mb, .ref mz, .ref mp, .ref mo, .ref mm, .ref ml, .ref md, .int (nI (wr)), .int (bI sp), .int (bI rp), .int (bI fi), .int (nI (gd)), .ref me, .ref mg, .int (la), .int (nI 0), .long (lst), .int 0]))]) hA [0] rfl rfl (xRet_i) (by decide) (by decide) d_M_bend_40
abbrev rm_M_lose_s : Room := { frames := 1, cells := 0, slots := 0, locals := 21 }
set_option maxHeartbeats 4000000 in
set_option maxRecDepth 100000 in
theorem c_M_lose_s (l : Launch) (E : xE) (hm ms mf mc my mb mz mp mo mm ml md me mg : Nat) (re : Int32) (wr : Nat) (sp rp fi : Bool) (gd : Nat) (la : Int32) (lst : Int64) (k x w : Int32) (h0 : ¬ k = 0) (h1 : ¬ k = 1) : xC l E y_M_lose (.code y_M_lose prog_10_method_29_code 7 (some .int)) rm_M_lose_s [.ref hm, .int (k), .int (x), .int (w)] [(hm, .inr (5, [.int (re), .ref ms, .ref mf, .ref mc, .ref my, .ref mb, .ref mz, .ref mp, .ref mo, .ref mm, .ref ml, .ref md, .int (nI (wr)), .int (bI sp), .int (bI rp), .int (bI fi), .int (nI (gd)), .ref me, .ref mg, .int (la), .int (nI 0), .long (lst), .int 0]))] (xRet (some (.int (nI 0))) [(hm, .inr (5, [.int (nI 1), .ref ms, .ref mf, .ref mc, .ref my, .ref mb, .ref mz, .ref mp, .ref mo, .ref mm, .ref ml, .ref md, .int (nI (wr)), .int (bI sp), .int (bI rp), .int (bI fi), .int (nI (gd)), .ref me, .ref mg, .int (la), .int (nI 0), .long (lst), .int 0]))]) := by
  refine x_of' (own := "LineCoderModel") (mn := "lose") (lv := [(0, .ref hm), (1, .int (k)), (2, .int (x)), (3, .int (w))]) (plainFor_of_name (by decide)) rfl rfl (Nat.le_of_ble_eq_true rfl) rfl ?_
  intro p_ e_ s_ m_ ar_ be_ me_ c_ A_ hA hB
  refine x_iload_n 1 hB d_M_lose_0 rfl rfl ?_
  refine x_callP (k' := 0) (n' := 0) (rest := []) (st' := [.int (nI 0)]) 4 hB (x_pfS (av := [.int (k)]) hB w_772 xHd_code w_7 w_770 w_771 nm_M_isStream rfl d_M_lose_1) (c_M_isStream_n l E k h0 h1) w_772 xHd_code w_7 [] rfl rfl ⟨by decide, by decide⟩ ⟨by decide, by decide⟩ rfl rfl (Nat.le_of_ble_eq_true rfl) d_M_lose_1 rfl rfl ?_
  refine x_if_eq 19 7 hB d_M_lose_4 (by decide) rfl (fun _ => ?_) (fun hc => absurd (by decide) hc)
  refine x_iconst (v := nI 0) 20 hB d_M_lose_19 rfl (by decide) ?_
  refine x_istore 22 hB d_M_lose_20 rfl (by decide) (lv' := [(4, .int (nI 0)), (0, .ref hm), (1, .int (k)), (2, .int (x)), (3, .int (w))]) rfl ?_
  refine x_aload_n 23 hB d_M_lose_22 rfl rfl ?_
  refine x_iload 25 hB d_M_lose_23 rfl rfl ?_
  refine x_if_eq 42 28 hB d_M_lose_25 (by decide) rfl (fun _ => ?_) (fun hc => absurd (by decide) hc)
  refine x_iconst (v := nI 1) 43 hB d_M_lose_42 rfl (by decide) ?_
  refine x_callD (k' := 0) (n' := 0) (rest := []) (wr := []) (ws' := [(hm, .inr (5, [.int (nI 1), .ref ms, .ref mf, .ref mc, .ref my, .ref mb, .ref mz, .ref mp, .ref mo, .ref mm, .ref ml, .ref md, .int (nI (wr)), .int (bI sp), .int (bI rp), .int (bI fi), .int (nI (gd)), .ref me, .ref mg, .int (la), .int (nI 0), .long (lst), .int 0]))]) (st' := [.int (nI 1)]) 46 hB (x_pfV (av := [.int (nI 1)]) (q0 := 0) hB w_709 xHd_code w_706 w_708 s_M_refused rfl rfl nm_M_refused rfl d_M_lose_43) (c_M_refused1 l E hm ms mf mc my mb mz mp mo mm ml md me mg (re) (wr) (sp) (rp) (fi) (gd) (la) (lst)) w_709 xHd_code w_7 [0] [] rfl rfl rfl rfl (by decide) ⟨by decide, by decide⟩ ⟨by decide, by decide⟩ rfl rfl (Nat.le_of_ble_eq_true rfl) d_M_lose_43 rfl rfl rfl ?_
  refine x_if_eq 51 49 hB d_M_lose_46 (by decide) rfl (fun hc => absurd hc (by decide)) (fun _ => ?_)
  refine x_iconst (v := nI 0) 50 hB d_M_lose_49 rfl (by decide) ?_
  exact x_iret hB (w' := [(hm, .inr (5, [.int (nI 1), .ref ms, .ref mf, .ref mc, .ref my, .ref mb, .ref mz, .ref mp, .ref mo, .ref mm, .ref ml, .ref md, .int (nI (wr)), .int (bI sp), .int (bI rp), .int (bI fi), .int (nI (gd)), .ref me, .ref mg, .int (la), .int (nI 0), .long (lst), .int 0]))]) hA [0] rfl rfl (xRet_i) (by decide) (by decide) d_M_lose_50
abbrev rm_M_bit_s : Room := { frames := 1, cells := 0, slots := 0, locals := 21 }
set_option maxHeartbeats 4000000 in
set_option maxRecDepth 100000 in
theorem c_M_bit_s (l : Launch) (E : xE) (hm ms mf mc my mb mz mp mo mm ml md me mg : Nat) (re : Int32) (wr : Nat) (sp rp fi : Bool) (gd : Nat) (la : Int32) (lst : Int64) (k x w : Int32) (h0 : ¬ k = 0) (h1 : ¬ k = 1) : xC l E y_M_bit (.code y_M_bit prog_10_method_30_code 3 (some .int)) rm_M_bit_s [.ref hm, .int (k), .int (x)] [(hm, .inr (5, [.int (re), .ref ms, .ref mf, .ref mc, .ref my, .ref mb, .ref mz, .ref mp, .ref mo, .ref mm, .ref ml, .ref md, .int (nI (wr)), .int (bI sp), .int (bI rp), .int (bI fi), .int (nI (gd)), .ref me, .ref mg, .int (la), .int (nI 0), .long (lst), .int 0]))] (xRet (some (.int (nI 0))) [(hm, .inr (5, [.int (nI 1), .ref ms, .ref mf, .ref mc, .ref my, .ref mb, .ref mz, .ref mp, .ref mo, .ref mm, .ref ml, .ref md, .int (nI (wr)), .int (bI sp), .int (bI rp), .int (bI fi), .int (nI (gd)), .ref me, .ref mg, .int (la), .int (nI 0), .long (lst), .int 0]))]) := by
  refine x_of' (own := "LineCoderModel") (mn := "bit") (lv := [(0, .ref hm), (1, .int (k)), (2, .int (x))]) (plainFor_of_name (by decide)) rfl rfl (Nat.le_of_ble_eq_true rfl) rfl ?_
  intro p_ e_ s_ m_ ar_ be_ me_ c_ A_ hA hB
  refine x_aload_n 1 hB d_M_bit_0 rfl rfl ?_
  refine x_iload_n 2 hB d_M_bit_1 rfl rfl ?_
  refine x_callP (k' := 0) (n' := 0) (rest := [.ref hm]) (st' := [.int (nI 0), .ref hm]) 5 hB (x_pfS (av := [.int (k)]) hB w_772 xHd_code w_7 w_770 w_771 nm_M_isStream rfl d_M_bit_2) (c_M_isStream_n l E k h0 h1) w_772 xHd_code w_7 [] rfl rfl ⟨by decide, by decide⟩ ⟨by decide, by decide⟩ rfl rfl (Nat.le_of_ble_eq_true rfl) d_M_bit_2 rfl rfl ?_
  refine x_if_eq 12 8 hB d_M_bit_5 (by decide) rfl (fun _ => ?_) (fun hc => absurd (by decide) hc)
  refine x_iconst (v := nI 1) 13 hB d_M_bit_12 rfl (by decide) ?_
  refine x_callD (k' := 0) (n' := 0) (rest := []) (wr := []) (ws' := [(hm, .inr (5, [.int (nI 1), .ref ms, .ref mf, .ref mc, .ref my, .ref mb, .ref mz, .ref mp, .ref mo, .ref mm, .ref ml, .ref md, .int (nI (wr)), .int (bI sp), .int (bI rp), .int (bI fi), .int (nI (gd)), .ref me, .ref mg, .int (la), .int (nI 0), .long (lst), .int 0]))]) (st' := [.int (nI 1)]) 16 hB (x_pfV (av := [.int (nI 1)]) (q0 := 0) hB w_709 xHd_code w_706 w_708 s_M_refused rfl rfl nm_M_refused rfl d_M_bit_13) (c_M_refused1 l E hm ms mf mc my mb mz mp mo mm ml md me mg (re) (wr) (sp) (rp) (fi) (gd) (la) (lst)) w_709 xHd_code w_7 [0] [] rfl rfl rfl rfl (by decide) ⟨by decide, by decide⟩ ⟨by decide, by decide⟩ rfl rfl (Nat.le_of_ble_eq_true rfl) d_M_bit_13 rfl rfl rfl ?_
  refine x_if_eq 21 19 hB d_M_bit_16 (by decide) rfl (fun hc => absurd hc (by decide)) (fun _ => ?_)
  refine x_iconst (v := nI 0) 20 hB d_M_bit_19 rfl (by decide) ?_
  exact x_iret hB (w' := [(hm, .inr (5, [.int (nI 1), .ref ms, .ref mf, .ref mc, .ref my, .ref mb, .ref mz, .ref mp, .ref mo, .ref mm, .ref ml, .ref md, .int (nI (wr)), .int (bI sp), .int (bI rp), .int (bI fi), .int (nI (gd)), .ref me, .ref mg, .int (la), .int (nI 0), .long (lst), .int 0]))]) hA [0] rfl rfl (xRet_i) (by decide) (by decide) d_M_bit_20
abbrev rm_M_count_s : Room := { frames := 1, cells := 0, slots := 0, locals := 21 }
set_option maxHeartbeats 4000000 in
set_option maxRecDepth 100000 in
theorem c_M_count_s (l : Launch) (E : xE) (hm ms mf mc my mb mz mp mo mm ml md me mg : Nat) (re : Int32) (wr : Nat) (sp rp fi : Bool) (gd : Nat) (la : Int32) (lst : Int64) (k x w : Int32) (h0 : ¬ k = 0) (h1 : ¬ k = 1) : xC l E y_M_count (.code y_M_count prog_10_method_33_code 3 (some .int)) rm_M_count_s [.ref hm, .int (k), .int (x)] [(hm, .inr (5, [.int (re), .ref ms, .ref mf, .ref mc, .ref my, .ref mb, .ref mz, .ref mp, .ref mo, .ref mm, .ref ml, .ref md, .int (nI (wr)), .int (bI sp), .int (bI rp), .int (bI fi), .int (nI (gd)), .ref me, .ref mg, .int (la), .int (nI 0), .long (lst), .int 0]))] (xRet (some (.int (nI 0))) [(hm, .inr (5, [.int (nI 1), .ref ms, .ref mf, .ref mc, .ref my, .ref mb, .ref mz, .ref mp, .ref mo, .ref mm, .ref ml, .ref md, .int (nI (wr)), .int (bI sp), .int (bI rp), .int (bI fi), .int (nI (gd)), .ref me, .ref mg, .int (la), .int (nI 0), .long (lst), .int 0]))]) := by
  refine x_of' (own := "LineCoderModel") (mn := "count") (lv := [(0, .ref hm), (1, .int (k)), (2, .int (x))]) (plainFor_of_name (by decide)) rfl rfl (Nat.le_of_ble_eq_true rfl) rfl ?_
  intro p_ e_ s_ m_ ar_ be_ me_ c_ A_ hA hB
  refine x_aload_n 1 hB d_M_count_0 rfl rfl ?_
  refine x_iload_n 2 hB d_M_count_1 rfl rfl ?_
  refine x_callP (k' := 0) (n' := 0) (rest := [.ref hm]) (st' := [.int (nI 0), .ref hm]) 5 hB (x_pfS (av := [.int (k)]) hB w_772 xHd_code w_7 w_770 w_771 nm_M_isStream rfl d_M_count_2) (c_M_isStream_n l E k h0 h1) w_772 xHd_code w_7 [] rfl rfl ⟨by decide, by decide⟩ ⟨by decide, by decide⟩ rfl rfl (Nat.le_of_ble_eq_true rfl) d_M_count_2 rfl rfl ?_
  refine x_if_eq 22 8 hB d_M_count_5 (by decide) rfl (fun _ => ?_) (fun hc => absurd (by decide) hc)
  refine x_iconst (v := nI 1) 23 hB d_M_count_22 rfl (by decide) ?_
  refine x_callD (k' := 0) (n' := 0) (rest := []) (wr := []) (ws' := [(hm, .inr (5, [.int (nI 1), .ref ms, .ref mf, .ref mc, .ref my, .ref mb, .ref mz, .ref mp, .ref mo, .ref mm, .ref ml, .ref md, .int (nI (wr)), .int (bI sp), .int (bI rp), .int (bI fi), .int (nI (gd)), .ref me, .ref mg, .int (la), .int (nI 0), .long (lst), .int 0]))]) (st' := [.int (nI 1)]) 26 hB (x_pfV (av := [.int (nI 1)]) (q0 := 0) hB w_709 xHd_code w_706 w_708 s_M_refused rfl rfl nm_M_refused rfl d_M_count_23) (c_M_refused1 l E hm ms mf mc my mb mz mp mo mm ml md me mg (re) (wr) (sp) (rp) (fi) (gd) (la) (lst)) w_709 xHd_code w_7 [0] [] rfl rfl rfl rfl (by decide) ⟨by decide, by decide⟩ ⟨by decide, by decide⟩ rfl rfl (Nat.le_of_ble_eq_true rfl) d_M_count_23 rfl rfl rfl ?_
  refine x_if_eq 31 29 hB d_M_count_26 (by decide) rfl (fun hc => absurd hc (by decide)) (fun _ => ?_)
  refine x_iconst (v := nI 0) 30 hB d_M_count_29 rfl (by decide) ?_
  exact x_iret hB (w' := [(hm, .inr (5, [.int (nI 1), .ref ms, .ref mf, .ref mc, .ref my, .ref mb, .ref mz, .ref mp, .ref mo, .ref mm, .ref ml, .ref md, .int (nI (wr)), .int (bI sp), .int (bI rp), .int (bI fi), .int (nI (gd)), .ref me, .ref mg, .int (la), .int (nI 0), .long (lst), .int 0]))]) hA [0] rfl rfl (xRet_i) (by decide) (by decide) d_M_count_30
