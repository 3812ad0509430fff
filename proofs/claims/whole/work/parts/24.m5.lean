set_option maxHeartbeats 4000000 in
theorem c_M_taken (l : Launch) (E : xE) (hm ms mf mc my mb mz mp mo mm ml md me mg : Nat) (re : Int32) (wr : Nat) (sp rp fi : Bool) (gd : Nat) (la : Int32) (lst : Int64) (cd sy : Nat → Int32) (fo : Bool) (mk bd : Nat) (o1 m1 b1 : Int32) (ten : Nat) (hten : ten < 1024) (hm9 : mk < 4) (hg9 : gd < 4) (hT : tbOK cd sy) : xC l E y_M_taken (.code y_M_taken prog_10_method_19_code 5 (some .int)) rm_M_taken_A [.ref hm, .int (nI (ten))] [(hm, .inr (5, [.int (re), .ref ms, .ref mf, .ref mc, .ref my, .ref mb, .ref mz, .ref mp, .ref mo, .ref mm, .ref ml, .ref md, .int (nI (wr)), .int (bI sp), .int (bI rp), .int (bI fi), .int (nI (gd)), .ref me, .ref mg, .int (la), .int (nI 0), .long (lst), .int 0])), (mc, .inl (E.2 1, 1024, .inl (cd))), (my, .inl (E.2 1, 1024, .inl (sy))), (mo, .inl (E.2 3, 2, .inl (pr2 (bI fo) (o1)))), (mm, .inl (E.2 1, 2, .inl (pr2 (nI (mk)) (m1)))), (md, .inl (E.2 1, 2, .inl (pr2 (nI (bd)) (b1))))] (xRet (some (.int (tkR ten rp fi))) [(hm, .inr (5, [.int (re), .ref ms, .ref mf, .ref mc, .ref my, .ref mb, .ref mz, .ref mp, .ref mo, .ref mm, .ref ml, .ref md, .int (nI (wr + (if (tkK ten rp fi) = 2 then 1 else 0))), .int (bI sp), .int (bI (tkP (ten) rp fi)), .int (nI 0), .int (nI (tkW gd (tkK ten rp fi))), .ref me, .ref mg, .int (la), .int (nI 0), .long (lst), .int 0])), (mc, .inl (E.2 1, 1024, .inl (cd))), (my, .inl (E.2 1, 1024, .inl (sy))), (mo, .inl (E.2 3, 2, .inl (pr2 (bI (tkO fo mk (tkK ten rp fi))) (o1)))), (mm, .inl (E.2 1, 2, .inl (pr2 (nI (tkM mk gd (tkK ten rp fi))) (m1)))), (md, .inl (E.2 1, 2, .inl (pr2 (nI (bd + (if (tkK ten rp fi) = 1 then 1 else 0))) (b1))))]) := by
  obtain ⟨t1, t2, t3⟩ := hT ten hten rp
  cases h1 : decF ten rp with
  | some y =>
    obtain ⟨hs, hc⟩ := t1 y h1
    have h := c_M_taken_A l E hm ms mf mc my mb mz mp mo mm ml md me mg re wr sp rp fi gd la lst cd sy fo mk bd o1 m1 b1 ten hten hm9 hg9 y (decF_lt h1) hs hc
    have e1 : tkK ten rp fi = 0 := by rw [tkK, h1]
    have e2 : tkR ten rp fi = nI y := by rw [tkR, e1, tkY, h1]; rfl
    have e3 : tkP ten rp fi = pbT ten rp := by rw [tkP, h1]
    rw [e2, e3, e1]
    exact h
  | none =>
    cases h2 : decF ten (!rp) with
    | none =>
      have h := c_M_taken_B l E hm ms mf mc my mb mz mp mo mm ml md me mg re wr sp rp fi gd la lst cd sy fo mk bd o1 m1 b1 ten hten hm9 hg9 (t3 h1 h2)
      have e1 : tkK ten rp fi = 1 := by rw [tkK, h1, h2]
      have e2 : tkR ten rp fi = (-2 : Int32) := by rw [tkR, e1]; rfl
      have e3 : tkP ten rp fi = pbT ten rp := by rw [tkP, h1, h2]
      rw [e2, e3, e1]
      exact h
    | some y =>
      obtain ⟨hs, hc⟩ := t2 y h1 h2
      cases fi with
      | true =>
        have h := c_M_taken_C l E hm ms mf mc my mb mz mp mo mm ml md me mg re wr sp rp true gd la lst cd sy fo mk bd o1 m1 b1 ten hten hm9 hg9 y (decF_lt h2) hs hc
        have e1 : tkK ten rp true = 0 := by rw [tkK, h1, h2]; rfl
        have e2 : tkR ten rp true = nI y := by rw [tkR, e1, tkY, h1, h2]; rfl
        have e3 : tkP ten rp true = pbT ten (!rp) := by rw [tkP, h1, h2]; rfl
        rw [e2, e3, e1]
        exact h
      | false =>
        have h := c_M_taken_D l E hm ms mf mc my mb mz mp mo mm ml md me mg re wr sp rp false gd la lst cd sy fo mk bd o1 m1 b1 ten hten hm9 hg9 y (decF_lt h2) hs hc
        have e1 : tkK ten rp false = 2 := by rw [tkK, h1, h2]; rfl
        have e2 : tkR ten rp false = nI (y + 512) := by rw [tkR, e1, tkY, h1, h2]; rfl
        have e3 : tkP ten rp false = pbT ten rp := by rw [tkP, h1, h2]; rfl
        rw [e2, e3, e1]
        exact h
abbrev rm_M_receive_0 : Room := { frames := 4, cells := 0, slots := 0, locals := 89 }
set_option maxHeartbeats 4000000 in
set_option maxRecDepth 100000 in
theorem c_M_receive_0 (l : Launch) (E : xE) (hm ms mf mc my mb mz mp mo mm ml md me mg : Nat) (re : Int32) (wr : Nat) (sp rp fi : Bool) (gd : Nat) (la : Int32) (lst : Int64) (z0 z1 : Nat) (g : Nat → Int32) (cd sy : Nat → Int32) (fo : Bool) (mk bd : Nat) (o1 m1 b1 : Int32) (p0 p1 sl : Nat) (l1 : Int32) (hn : z0 ≤ 2640) (hb : ∀ i, i < z0 → g i = 0 ∨ g i = 1) (hp : p0 ≤ z0) (hc : z0 - p0 < 7) : xC l E y_M_receive (.code y_M_receive prog_10_method_18_code 2 (some .int)) rm_M_receive_0 [.ref hm] [(hm, .inr (5, [.int (re), .ref ms, .ref mf, .ref mc, .ref my, .ref mb, .ref mz, .ref mp, .ref mo, .ref mm, .ref ml, .ref md, .int (nI (wr)), .int (bI sp), .int (bI rp), .int (bI fi), .int (nI (gd)), .ref me, .ref mg, .int (la), .int (nI 0), .long (lst), .int 0])), (mc, .inl (E.2 1, 1024, .inl (cd))), (my, .inl (E.2 1, 1024, .inl (sy))), (mb, .inl (E.2 1, 5280, .inl (g))), (mz, .inl (E.2 1, 2, .inl (pr2 (nI (z0)) (nI (z1))))), (mp, .inl (E.2 1, 2, .inl (pr2 (nI (p0)) (nI (p1))))), (mo, .inl (E.2 3, 2, .inl (pr2 (bI false) (o1)))), (mm, .inl (E.2 1, 2, .inl (pr2 (nI (mk)) (m1)))), (ml, .inl (E.2 1, 2, .inl (pr2 (nI (sl)) (l1)))), (md, .inl (E.2 1, 2, .inl (pr2 (nI (bd)) (b1))))] (xRet (some (.int (-1))) [(hm, .inr (5, [.int (nI 0), .ref ms, .ref mf, .ref mc, .ref my, .ref mb, .ref mz, .ref mp, .ref mo, .ref mm, .ref ml, .ref md, .int (nI (wr)), .int (bI sp), .int (bI rp), .int (bI fi), .int (nI (gd)), .ref me, .ref mg, .int (la), .int (nI 0), .long (lst), .int 0])), (mc, .inl (E.2 1, 1024, .inl (cd))), (my, .inl (E.2 1, 1024, .inl (sy))), (mb, .inl (E.2 1, 5280, .inl (g))), (mz, .inl (E.2 1, 2, .inl (pr2 (nI (z0)) (nI (z1))))), (mp, .inl (E.2 1, 2, .inl (pr2 (nI (p0)) (nI (p1))))), (mo, .inl (E.2 3, 2, .inl (pr2 (bI false) (o1)))), (mm, .inl (E.2 1, 2, .inl (pr2 (nI (mk)) (m1)))), (ml, .inl (E.2 1, 2, .inl (pr2 (nI (sl)) (l1)))), (md, .inl (E.2 1, 2, .inl (pr2 (nI (bd)) (b1))))]) := by
  refine x_of' (own := "LineCoderModel") (mn := "receive") (lv := [(0, .ref hm)]) (plainFor_of_name (by decide)) rfl rfl (Nat.le_of_ble_eq_true rfl) rfl ?_
  intro p_ e_ s_ m_ ar_ be_ me_ c_ A_ hA hB
  refine x_aload_n 1 hB d_M_receive_0 rfl rfl ?_
  refine x_iconst (v := nI 0) 2 hB d_M_receive_1 rfl (by decide) ?_
  refine x_put 5 hB 0 (ws' := [(hm, .inr (5, [.int (nI 0), .ref ms, .ref mf, .ref mc, .ref my, .ref mb, .ref mz, .ref mp, .ref mo, .ref mm, .ref ml, .ref md, .int (nI (wr)), .int (bI sp), .int (bI rp), .int (bI fi), .int (nI (gd)), .ref me, .ref mg, .int (la), .int (nI 0), .long (lst), .int 0])), (mc, .inl (E.2 1, 1024, .inl (cd))), (my, .inl (E.2 1, 1024, .inl (sy))), (mb, .inl (E.2 1, 5280, .inl (g))), (mz, .inl (E.2 1, 2, .inl (pr2 (nI (z0)) (nI (z1))))), (mp, .inl (E.2 1, 2, .inl (pr2 (nI (p0)) (nI (p1))))), (mo, .inl (E.2 3, 2, .inl (pr2 (bI false) (o1)))), (mm, .inl (E.2 1, 2, .inl (pr2 (nI (mk)) (m1)))), (ml, .inl (E.2 1, 2, .inl (pr2 (nI (sl)) (l1)))), (md, .inl (E.2 1, 2, .inl (pr2 (nI (bd)) (b1))))]) fp_M_61_5 rfl (rfl) (rfl) (Nat.le_of_ble_eq_true rfl) rfl d_M_receive_2 rfl ?_
  refine x_aload_n 6 hB d_M_receive_5 rfl rfl ?_
  refine x_get 9 hB 0 fg_M_31_5 rfl rfl d_M_receive_6 rfl ?_
  refine x_iconst (v := nI 0) 10 hB d_M_receive_9 rfl (by decide) ?_
  refine x_zald 11 hB 6 rfl (by omega) (by decide) d_M_receive_10 rfl ?_
  refine x_top (v' := .int (bI false)) rfl ?_
  refine x_if_ne 99 14 hB d_M_receive_11 (by decide) rfl (fun hc => absurd (rfl) hc) (fun _ => ?_)
  refine x_aload_n 15 hB d_M_receive_14 rfl rfl ?_
  refine x_get 18 hB 0 fg_M_25_5 rfl rfl d_M_receive_15 rfl ?_
  refine x_iconst (v := nI 0) 19 hB d_M_receive_18 rfl (by decide) ?_
  refine x_iald 20 hB 4 rfl (by omega) (by decide) d_M_receive_19 rfl ?_
  refine x_top (v' := .int (nI (z0))) rfl ?_
  refine x_aload_n 21 hB d_M_receive_20 rfl rfl ?_
  refine x_get 24 hB 0 fg_M_28_5 rfl rfl d_M_receive_21 rfl ?_
  refine x_iconst (v := nI 0) 25 hB d_M_receive_24 rfl (by decide) ?_
  refine x_iald 26 hB 5 rfl (by omega) (by decide) d_M_receive_25 rfl ?_
  refine x_top (v' := .int (nI (p0))) rfl ?_
  refine x_isub 27 hB d_M_receive_26 rfl ?_
  refine x_top (v' := .int (nI (z0 - p0))) (congrArg Value.int (pk_sub (by omega))) ?_
  refine x_bipush (v := nI 7) 29 hB d_M_receive_27 rfl (by decide) ?_
  refine x_icmp_ge 34 32 hB d_M_receive_29 (by decide) rfl (fun hc => absurd hc (nI_ge (by omega) (by omega))) (fun _ => ?_)
  refine x_iconst (v := (-1 : Int32)) 33 hB d_M_receive_32 rfl (by decide) ?_
  exact x_iret hB (w' := [(hm, .inr (5, [.int (nI 0), .ref ms, .ref mf, .ref mc, .ref my, .ref mb, .ref mz, .ref mp, .ref mo, .ref mm, .ref ml, .ref md, .int (nI (wr)), .int (bI sp), .int (bI rp), .int (bI fi), .int (nI (gd)), .ref me, .ref mg, .int (la), .int (nI 0), .long (lst), .int 0])), (mc, .inl (E.2 1, 1024, .inl (cd))), (my, .inl (E.2 1, 1024, .inl (sy))), (mb, .inl (E.2 1, 5280, .inl (g))), (mz, .inl (E.2 1, 2, .inl (pr2 (nI (z0)) (nI (z1))))), (mp, .inl (E.2 1, 2, .inl (pr2 (nI (p0)) (nI (p1))))), (mo, .inl (E.2 3, 2, .inl (pr2 (bI false) (o1)))), (mm, .inl (E.2 1, 2, .inl (pr2 (nI (mk)) (m1)))), (ml, .inl (E.2 1, 2, .inl (pr2 (nI (sl)) (l1)))), (md, .inl (E.2 1, 2, .inl (pr2 (nI (bd)) (b1))))]) hA [0, 1, 2, 3, 4, 5, 6, 7, 8, 9] rfl rfl (xRet_i) (by decide) (by decide) d_M_receive_33
abbrev rm_M_receive_1 : Room := { frames := 4, cells := 0, slots := 0, locals := 89 }
set_option maxHeartbeats 4000000 in
set_option maxRecDepth 100000 in
theorem c_M_receive_1 (l : Launch) (E : xE) (hm ms mf mc my mb mz mp mo mm ml md me mg : Nat) (re : Int32) (wr : Nat) (sp rp fi : Bool) (gd : Nat) (la : Int32) (lst : Int64) (z0 z1 : Nat) (g : Nat → Int32) (cd sy : Nat → Int32) (fo : Bool) (mk bd : Nat) (o1 m1 b1 : Int32) (p0 p1 sl : Nat) (l1 : Int32) (hn : z0 ≤ 2640) (hb : ∀ i, i < z0 → g i = 0 ∨ g i = 1) (hp : p0 ≤ z0) (hc : ¬ z0 - p0 < 7) (hM : ¬ (ahN g p0 7 = 31 ∨ ahN g p0 7 = 96)) : xC l E y_M_receive (.code y_M_receive prog_10_method_18_code 2 (some .int)) rm_M_receive_1 [.ref hm] [(hm, .inr (5, [.int (re), .ref ms, .ref mf, .ref mc, .ref my, .ref mb, .ref mz, .ref mp, .ref mo, .ref mm, .ref ml, .ref md, .int (nI (wr)), .int (bI sp), .int (bI rp), .int (bI fi), .int (nI (gd)), .ref me, .ref mg, .int (la), .int (nI 0), .long (lst), .int 0])), (mc, .inl (E.2 1, 1024, .inl (cd))), (my, .inl (E.2 1, 1024, .inl (sy))), (mb, .inl (E.2 1, 5280, .inl (g))), (mz, .inl (E.2 1, 2, .inl (pr2 (nI (z0)) (nI (z1))))), (mp, .inl (E.2 1, 2, .inl (pr2 (nI (p0)) (nI (p1))))), (mo, .inl (E.2 3, 2, .inl (pr2 (bI false) (o1)))), (mm, .inl (E.2 1, 2, .inl (pr2 (nI (mk)) (m1)))), (ml, .inl (E.2 1, 2, .inl (pr2 (nI (sl)) (l1)))), (md, .inl (E.2 1, 2, .inl (pr2 (nI (bd)) (b1))))] (xRet (some (.int (-3))) [(hm, .inr (5, [.int (nI 0), .ref ms, .ref mf, .ref mc, .ref my, .ref mb, .ref mz, .ref mp, .ref mo, .ref mm, .ref ml, .ref md, .int (nI (wr)), .int (bI sp), .int (bI rp), .int (bI fi), .int (nI (gd)), .ref me, .ref mg, .int (la), .int (nI 0), .long (lst), .int 0])), (mc, .inl (E.2 1, 1024, .inl (cd))), (my, .inl (E.2 1, 1024, .inl (sy))), (mb, .inl (E.2 1, 5280, .inl (g))), (mz, .inl (E.2 1, 2, .inl (pr2 (nI (z0)) (nI (z1))))), (mp, .inl (E.2 1, 2, .inl (pr2 (nI (p0 + 1)) (nI (p1))))), (mo, .inl (E.2 3, 2, .inl (pr2 (bI false) (o1)))), (mm, .inl (E.2 1, 2, .inl (pr2 (nI (mk)) (m1)))), (ml, .inl (E.2 1, 2, .inl (pr2 (nI (sl + 1)) (l1)))), (md, .inl (E.2 1, 2, .inl (pr2 (nI (bd)) (b1))))]) := by
  refine x_of' (own := "LineCoderModel") (mn := "receive") (lv := [(0, .ref hm)]) (plainFor_of_name (by decide)) rfl rfl (Nat.le_of_ble_eq_true rfl) rfl ?_
  intro p_ e_ s_ m_ ar_ be_ me_ c_ A_ hA hB
  refine x_aload_n 1 hB d_M_receive_0 rfl rfl ?_
  refine x_iconst (v := nI 0) 2 hB d_M_receive_1 rfl (by decide) ?_
  refine x_put 5 hB 0 (ws' := [(hm, .inr (5, [.int (nI 0), .ref ms, .ref mf, .ref mc, .ref my, .ref mb, .ref mz, .ref mp, .ref mo, .ref mm, .ref ml, .ref md, .int (nI (wr)), .int (bI sp), .int (bI rp), .int (bI fi), .int (nI (gd)), .ref me, .ref mg, .int (la), .int (nI 0), .long (lst), .int 0])), (mc, .inl (E.2 1, 1024, .inl (cd))), (my, .inl (E.2 1, 1024, .inl (sy))), (mb, .inl (E.2 1, 5280, .inl (g))), (mz, .inl (E.2 1, 2, .inl (pr2 (nI (z0)) (nI (z1))))), (mp, .inl (E.2 1, 2, .inl (pr2 (nI (p0)) (nI (p1))))), (mo, .inl (E.2 3, 2, .inl (pr2 (bI false) (o1)))), (mm, .inl (E.2 1, 2, .inl (pr2 (nI (mk)) (m1)))), (ml, .inl (E.2 1, 2, .inl (pr2 (nI (sl)) (l1)))), (md, .inl (E.2 1, 2, .inl (pr2 (nI (bd)) (b1))))]) fp_M_61_5 rfl (rfl) (rfl) (Nat.le_of_ble_eq_true rfl) rfl d_M_receive_2 rfl ?_
  refine x_aload_n 6 hB d_M_receive_5 rfl rfl ?_
  refine x_get 9 hB 0 fg_M_31_5 rfl rfl d_M_receive_6 rfl ?_
  refine x_iconst (v := nI 0) 10 hB d_M_receive_9 rfl (by decide) ?_
  refine x_zald 11 hB 6 rfl (by omega) (by decide) d_M_receive_10 rfl ?_
  refine x_top (v' := .int (bI false)) rfl ?_
  refine x_if_ne 99 14 hB d_M_receive_11 (by decide) rfl (fun hc => absurd (rfl) hc) (fun _ => ?_)
  refine x_aload_n 15 hB d_M_receive_14 rfl rfl ?_
  refine x_get 18 hB 0 fg_M_25_5 rfl rfl d_M_receive_15 rfl ?_
  refine x_iconst (v := nI 0) 19 hB d_M_receive_18 rfl (by decide) ?_
  refine x_iald 20 hB 4 rfl (by omega) (by decide) d_M_receive_19 rfl ?_
  refine x_top (v' := .int (nI (z0))) rfl ?_
  refine x_aload_n 21 hB d_M_receive_20 rfl rfl ?_
  refine x_get 24 hB 0 fg_M_28_5 rfl rfl d_M_receive_21 rfl ?_
  refine x_iconst (v := nI 0) 25 hB d_M_receive_24 rfl (by decide) ?_
  refine x_iald 26 hB 5 rfl (by omega) (by decide) d_M_receive_25 rfl ?_
  refine x_top (v' := .int (nI (p0))) rfl ?_
  refine x_isub 27 hB d_M_receive_26 rfl ?_
  refine x_top (v' := .int (nI (z0 - p0))) (congrArg Value.int (pk_sub (by omega))) ?_
  refine x_bipush (v := nI 7) 29 hB d_M_receive_27 rfl (by decide) ?_
  refine x_icmp_ge 34 32 hB d_M_receive_29 (by decide) rfl (fun _ => ?_) (fun hc => absurd (nI_le (by omega) (by omega)) hc)
  refine x_aload_n 35 hB d_M_receive_34 rfl rfl ?_
  refine x_aload_n 36 hB d_M_receive_35 rfl rfl ?_
  refine x_get 39 hB 0 fg_M_28_5 rfl rfl d_M_receive_36 rfl ?_
  refine x_iconst (v := nI 0) 40 hB d_M_receive_39 rfl (by decide) ?_
  refine x_iald 41 hB 5 rfl (by omega) (by decide) d_M_receive_40 rfl ?_
  refine x_top (v' := .int (nI (p0))) rfl ?_
  refine x_bipush (v := nI 7) 43 hB d_M_receive_41 rfl (by decide) ?_
  refine x_callP (k' := 0) (n' := 0) (rest := []) (st' := [.int (nI (ahN g p0 7))]) 46 hB (x_pfV (av := [.int (nI (p0)), .int (nI 7)]) (q0 := 0) hB w_738 xHd_code w_735 w_737 s_M_bitsAt rfl rfl nm_M_bitsAt rfl d_M_receive_43) (c_M_bitsAt l E hm ms mf mc my mb mz mp mo mm ml md me mg (nI 0) (wr) (sp) (rp) (fi) (gd) (la) (lst) g p0 7 (by omega) (by omega) (fun i h => hb (p0 + i) (by omega))) w_738 xHd_code w_7 [0, 3] rfl rfl ⟨by decide, by decide⟩ ⟨by decide, by decide⟩ rfl rfl (Nat.le_of_ble_eq_true rfl) d_M_receive_43 rfl rfl ?_
  have hl7 : ahN g p0 7 < 128 := ahN_lt g p0 7
  refine x_istore_n 47 hB d_M_receive_46 rfl (by decide) (lv' := [(1, .int (nI (ahN g p0 7))), (0, .ref hm)]) rfl ?_
  refine x_iload_n 48 hB d_M_receive_47 rfl rfl ?_
  refine x_bipush (v := nI 31) 50 hB d_M_receive_48 rfl (by decide) ?_
  refine x_icmp_eq 82 53 hB d_M_receive_50 (by decide) rfl (fun hc => absurd hc (fun h => hM (Or.inl ((nI_eq (by omega) (by omega)).mp h)))) (fun _ => ?_)
  refine x_iload_n 54 hB d_M_receive_53 rfl rfl ?_
  refine x_bipush (v := nI 96) 56 hB d_M_receive_54 rfl (by decide) ?_
  refine x_icmp_eq 82 59 hB d_M_receive_56 (by decide) rfl (fun hc => absurd hc (fun h => hM (Or.inr ((nI_eq (by omega) (by omega)).mp h)))) (fun _ => ?_)
  refine x_aload_n 60 hB d_M_receive_59 rfl rfl ?_
  refine x_get 63 hB 0 fg_M_28_5 rfl rfl d_M_receive_60 rfl ?_
  refine x_iconst (v := nI 0) 64 hB d_M_receive_63 rfl (by decide) ?_
  refine x_dup2 65 hB d_M_receive_64 rfl rfl rfl ?_
  refine x_iald 66 hB 5 rfl (by omega) (by decide) d_M_receive_65 rfl ?_
  refine x_top (v' := .int (nI (p0))) rfl ?_
  refine x_iconst (v := nI 1) 67 hB d_M_receive_66 rfl (by decide) ?_
  refine x_iadd 68 hB d_M_receive_67 rfl ?_
  refine x_top (v' := .int (nI (p0 + 1))) (congrArg Value.int (nI_add p0 1)) ?_
  refine x_iast 69 hB 5 (ws' := [(hm, .inr (5, [.int (nI 0), .ref ms, .ref mf, .ref mc, .ref my, .ref mb, .ref mz, .ref mp, .ref mo, .ref mm, .ref ml, .ref md, .int (nI (wr)), .int (bI sp), .int (bI rp), .int (bI fi), .int (nI (gd)), .ref me, .ref mg, .int (la), .int (nI 0), .long (lst), .int 0])), (mc, .inl (E.2 1, 1024, .inl (cd))), (my, .inl (E.2 1, 1024, .inl (sy))), (mb, .inl (E.2 1, 5280, .inl (g))), (mz, .inl (E.2 1, 2, .inl (pr2 (nI (z0)) (nI (z1))))), (mp, .inl (E.2 1, 2, .inl (pr2 (nI (p0 + 1)) (nI (p1))))), (mo, .inl (E.2 3, 2, .inl (pr2 (bI false) (o1)))), (mm, .inl (E.2 1, 2, .inl (pr2 (nI (mk)) (m1)))), (ml, .inl (E.2 1, 2, .inl (pr2 (nI (sl)) (l1)))), (md, .inl (E.2 1, 2, .inl (pr2 (nI (bd)) (b1))))]) rfl (by omega) (by decide) (x' := nI (p0 + 1)) (rfl) (by rw [pr2_0]; rfl) d_M_receive_68 rfl ?_
  refine x_aload_n 70 hB d_M_receive_69 rfl rfl ?_
  refine x_get 73 hB 0 fg_M_38_5 rfl rfl d_M_receive_70 rfl ?_
  refine x_iconst (v := nI 0) 74 hB d_M_receive_73 rfl (by decide) ?_
  refine x_dup2 75 hB d_M_receive_74 rfl rfl rfl ?_
  refine x_iald 76 hB 8 rfl (by omega) (by decide) d_M_receive_75 rfl ?_
  refine x_top (v' := .int (nI (sl))) rfl ?_
  refine x_iconst (v := nI 1) 77 hB d_M_receive_76 rfl (by decide) ?_
  refine x_iadd 78 hB d_M_receive_77 rfl ?_
  refine x_top (v' := .int (nI (sl + 1))) (congrArg Value.int (nI_add sl 1)) ?_
  refine x_iast 79 hB 8 (ws' := [(hm, .inr (5, [.int (nI 0), .ref ms, .ref mf, .ref mc, .ref my, .ref mb, .ref mz, .ref mp, .ref mo, .ref mm, .ref ml, .ref md, .int (nI (wr)), .int (bI sp), .int (bI rp), .int (bI fi), .int (nI (gd)), .ref me, .ref mg, .int (la), .int (nI 0), .long (lst), .int 0])), (mc, .inl (E.2 1, 1024, .inl (cd))), (my, .inl (E.2 1, 1024, .inl (sy))), (mb, .inl (E.2 1, 5280, .inl (g))), (mz, .inl (E.2 1, 2, .inl (pr2 (nI (z0)) (nI (z1))))), (mp, .inl (E.2 1, 2, .inl (pr2 (nI (p0 + 1)) (nI (p1))))), (mo, .inl (E.2 3, 2, .inl (pr2 (bI false) (o1)))), (mm, .inl (E.2 1, 2, .inl (pr2 (nI (mk)) (m1)))), (ml, .inl (E.2 1, 2, .inl (pr2 (nI (sl + 1)) (l1)))), (md, .inl (E.2 1, 2, .inl (pr2 (nI (bd)) (b1))))]) rfl (by omega) (by decide) (x' := nI (sl + 1)) (rfl) (by rw [pr2_0]; rfl) d_M_receive_78 rfl ?_
  refine x_bipush (v := (-3 : Int32)) 81 hB d_M_receive_79 rfl (by decide) ?_
  exact x_iret hB (w' := [(hm, .inr (5, [.int (nI 0), .ref ms, .ref mf, .ref mc, .ref my, .ref mb, .ref mz, .ref mp, .ref mo, .ref mm, .ref ml, .ref md, .int (nI (wr)), .int (bI sp), .int (bI rp), .int (bI fi), .int (nI (gd)), .ref me, .ref mg, .int (la), .int (nI 0), .long (lst), .int 0])), (mc, .inl (E.2 1, 1024, .inl (cd))), (my, .inl (E.2 1, 1024, .inl (sy))), (mb, .inl (E.2 1, 5280, .inl (g))), (mz, .inl (E.2 1, 2, .inl (pr2 (nI (z0)) (nI (z1))))), (mp, .inl (E.2 1, 2, .inl (pr2 (nI (p0 + 1)) (nI (p1))))), (mo, .inl (E.2 3, 2, .inl (pr2 (bI false) (o1)))), (mm, .inl (E.2 1, 2, .inl (pr2 (nI (mk)) (m1)))), (ml, .inl (E.2 1, 2, .inl (pr2 (nI (sl + 1)) (l1)))), (md, .inl (E.2 1, 2, .inl (pr2 (nI (bd)) (b1))))]) hA [0, 1, 2, 3, 4, 5, 6, 7, 8, 9] rfl rfl (xRet_i) (by decide) (by decide) d_M_receive_81
abbrev rm_M_receive_2 : Room := { frames := 4, cells := 0, slots := 0, locals := 89 }
set_option maxHeartbeats 4000000 in
set_option maxRecDepth 100000 in
theorem c_M_receive_2 (l : Launch) (E : xE) (hm ms mf mc my mb mz mp mo mm ml md me mg : Nat) (re : Int32) (wr : Nat) (sp rp fi : Bool) (gd : Nat) (la : Int32) (lst : Int64) (z0 z1 : Nat) (g : Nat → Int32) (cd sy : Nat → Int32) (fo : Bool) (mk bd : Nat) (o1 m1 b1 : Int32) (p0 p1 sl : Nat) (l1 : Int32) (hn : z0 ≤ 2640) (hb : ∀ i, i < z0 → g i = 0 ∨ g i = 1) (hp : p0 ≤ z0) (hc : ¬ z0 - p0 < 7) (hc2 : z0 - p0 < 10) (hM : ahN g p0 7 = 31 ∨ ahN g p0 7 = 96) : xC l E y_M_receive (.code y_M_receive prog_10_method_18_code 2 (some .int)) rm_M_receive_2 [.ref hm] [(hm, .inr (5, [.int (re), .ref ms, .ref mf, .ref mc, .ref my, .ref mb, .ref mz, .ref mp, .ref mo, .ref mm, .ref ml, .ref md, .int (nI (wr)), .int (bI sp), .int (bI rp), .int (bI fi), .int (nI (gd)), .ref me, .ref mg, .int (la), .int (nI 0), .long (lst), .int 0])), (mc, .inl (E.2 1, 1024, .inl (cd))), (my, .inl (E.2 1, 1024, .inl (sy))), (mb, .inl (E.2 1, 5280, .inl (g))), (mz, .inl (E.2 1, 2, .inl (pr2 (nI (z0)) (nI (z1))))), (mp, .inl (E.2 1, 2, .inl (pr2 (nI (p0)) (nI (p1))))), (mo, .inl (E.2 3, 2, .inl (pr2 (bI false) (o1)))), (mm, .inl (E.2 1, 2, .inl (pr2 (nI (mk)) (m1)))), (ml, .inl (E.2 1, 2, .inl (pr2 (nI (sl)) (l1)))), (md, .inl (E.2 1, 2, .inl (pr2 (nI (bd)) (b1))))] (xRet (some (.int (-1))) [(hm, .inr (5, [.int (nI 0), .ref ms, .ref mf, .ref mc, .ref my, .ref mb, .ref mz, .ref mp, .ref mo, .ref mm, .ref ml, .ref md, .int (nI (wr)), .int (bI sp), .int (bI rp), .int (nI 1), .int (nI 0), .ref me, .ref mg, .int (la), .int (nI 0), .long (lst), .int 0])), (mc, .inl (E.2 1, 1024, .inl (cd))), (my, .inl (E.2 1, 1024, .inl (sy))), (mb, .inl (E.2 1, 5280, .inl (g))), (mz, .inl (E.2 1, 2, .inl (pr2 (nI (z0)) (nI (z1))))), (mp, .inl (E.2 1, 2, .inl (pr2 (nI (p0)) (nI (p1))))), (mo, .inl (E.2 3, 2, .inl (pr2 (nI 1) (o1)))), (mm, .inl (E.2 1, 2, .inl (pr2 (nI (mk)) (m1)))), (ml, .inl (E.2 1, 2, .inl (pr2 (nI (sl)) (l1)))), (md, .inl (E.2 1, 2, .inl (pr2 (nI (bd)) (b1))))]) := by
  refine x_of' (own := "LineCoderModel") (mn := "receive") (lv := [(0, .ref hm)]) (plainFor_of_name (by decide)) rfl rfl (Nat.le_of_ble_eq_true rfl) rfl ?_
  intro p_ e_ s_ m_ ar_ be_ me_ c_ A_ hA hB
  refine x_aload_n 1 hB d_M_receive_0 rfl rfl ?_
  refine x_iconst (v := nI 0) 2 hB d_M_receive_1 rfl (by decide) ?_
  refine x_put 5 hB 0 (ws' := [(hm, .inr (5, [.int (nI 0), .ref ms, .ref mf, .ref mc, .ref my, .ref mb, .ref mz, .ref mp, .ref mo, .ref mm, .ref ml, .ref md, .int (nI (wr)), .int (bI sp), .int (bI rp), .int (bI fi), .int (nI (gd)), .ref me, .ref mg, .int (la), .int (nI 0), .long (lst), .int 0])), (mc, .inl (E.2 1, 1024, .inl (cd))), (my, .inl (E.2 1, 1024, .inl (sy))), (mb, .inl (E.2 1, 5280, .inl (g))), (mz, .inl (E.2 1, 2, .inl (pr2 (nI (z0)) (nI (z1))))), (mp, .inl (E.2 1, 2, .inl (pr2 (nI (p0)) (nI (p1))))), (mo, .inl (E.2 3, 2, .inl (pr2 (bI false) (o1)))), (mm, .inl (E.2 1, 2, .inl (pr2 (nI (mk)) (m1)))), (ml, .inl (E.2 1, 2, .inl (pr2 (nI (sl)) (l1)))), (md, .inl (E.2 1, 2, .inl (pr2 (nI (bd)) (b1))))]) fp_M_61_5 rfl (rfl) (rfl) (Nat.le_of_ble_eq_true rfl) rfl d_M_receive_2 rfl ?_
  refine x_aload_n 6 hB d_M_receive_5 rfl rfl ?_
  refine x_get 9 hB 0 fg_M_31_5 rfl rfl d_M_receive_6 rfl ?_
  refine x_iconst (v := nI 0) 10 hB d_M_receive_9 rfl (by decide) ?_
  refine x_zald 11 hB 6 rfl (by omega) (by decide) d_M_receive_10 rfl ?_
  refine x_top (v' := .int (bI false)) rfl ?_
  refine x_if_ne 99 14 hB d_M_receive_11 (by decide) rfl (fun hc => absurd (rfl) hc) (fun _ => ?_)
  refine x_aload_n 15 hB d_M_receive_14 rfl rfl ?_
  refine x_get 18 hB 0 fg_M_25_5 rfl rfl d_M_receive_15 rfl ?_
  refine x_iconst (v := nI 0) 19 hB d_M_receive_18 rfl (by decide) ?_
  refine x_iald 20 hB 4 rfl (by omega) (by decide) d_M_receive_19 rfl ?_
  refine x_top (v' := .int (nI (z0))) rfl ?_
  refine x_aload_n 21 hB d_M_receive_20 rfl rfl ?_
  refine x_get 24 hB 0 fg_M_28_5 rfl rfl d_M_receive_21 rfl ?_
  refine x_iconst (v := nI 0) 25 hB d_M_receive_24 rfl (by decide) ?_
  refine x_iald 26 hB 5 rfl (by omega) (by decide) d_M_receive_25 rfl ?_
  refine x_top (v' := .int (nI (p0))) rfl ?_
  refine x_isub 27 hB d_M_receive_26 rfl ?_
  refine x_top (v' := .int (nI (z0 - p0))) (congrArg Value.int (pk_sub (by omega))) ?_
  refine x_bipush (v := nI 7) 29 hB d_M_receive_27 rfl (by decide) ?_
  refine x_icmp_ge 34 32 hB d_M_receive_29 (by decide) rfl (fun _ => ?_) (fun hc => absurd (nI_le (by omega) (by omega)) hc)
  refine x_aload_n 35 hB d_M_receive_34 rfl rfl ?_
  refine x_aload_n 36 hB d_M_receive_35 rfl rfl ?_
  refine x_get 39 hB 0 fg_M_28_5 rfl rfl d_M_receive_36 rfl ?_
  refine x_iconst (v := nI 0) 40 hB d_M_receive_39 rfl (by decide) ?_
  refine x_iald 41 hB 5 rfl (by omega) (by decide) d_M_receive_40 rfl ?_
  refine x_top (v' := .int (nI (p0))) rfl ?_
  refine x_bipush (v := nI 7) 43 hB d_M_receive_41 rfl (by decide) ?_
  refine x_callP (k' := 0) (n' := 0) (rest := []) (st' := [.int (nI (ahN g p0 7))]) 46 hB (x_pfV (av := [.int (nI (p0)), .int (nI 7)]) (q0 := 0) hB w_738 xHd_code w_735 w_737 s_M_bitsAt rfl rfl nm_M_bitsAt rfl d_M_receive_43) (c_M_bitsAt l E hm ms mf mc my mb mz mp mo mm ml md me mg (nI 0) (wr) (sp) (rp) (fi) (gd) (la) (lst) g p0 7 (by omega) (by omega) (fun i h => hb (p0 + i) (by omega))) w_738 xHd_code w_7 [0, 3] rfl rfl ⟨by decide, by decide⟩ ⟨by decide, by decide⟩ rfl rfl (Nat.le_of_ble_eq_true rfl) d_M_receive_43 rfl rfl ?_
  have hl7 : ahN g p0 7 < 128 := ahN_lt g p0 7
  refine x_istore_n 47 hB d_M_receive_46 rfl (by decide) (lv' := [(1, .int (nI (ahN g p0 7))), (0, .ref hm)]) rfl ?_
  refine x_join 82 (fun _u : Unit => True) (fun _u : Unit => [(hm, .inr (5, [.int (nI 0), .ref ms, .ref mf, .ref mc, .ref my, .ref mb, .ref mz, .ref mp, .ref mo, .ref mm, .ref ml, .ref md, .int (nI (wr)), .int (bI sp), .int (bI rp), .int (bI fi), .int (nI (gd)), .ref me, .ref mg, .int (la), .int (nI 0), .long (lst), .int 0])), (mc, .inl (E.2 1, 1024, .inl (cd))), (my, .inl (E.2 1, 1024, .inl (sy))), (mb, .inl (E.2 1, 5280, .inl (g))), (mz, .inl (E.2 1, 2, .inl (pr2 (nI (z0)) (nI (z1))))), (mp, .inl (E.2 1, 2, .inl (pr2 (nI (p0)) (nI (p1))))), (mo, .inl (E.2 3, 2, .inl (pr2 (bI false) (o1)))), (mm, .inl (E.2 1, 2, .inl (pr2 (nI (mk)) (m1)))), (ml, .inl (E.2 1, 2, .inl (pr2 (nI (sl)) (l1)))), (md, .inl (E.2 1, 2, .inl (pr2 (nI (bd)) (b1))))]) (fun _u : Unit => [(0, .ref hm), (1, .int (nI (ahN g p0 7)))]) (fun _u : Unit => []) (fun _u hJ82 => ?_) (fun J82 => ?_)
  · skip
    refine x_aload_n 83 hB d_M_receive_82 rfl rfl ?_
    refine x_get 86 hB 0 fg_M_31_5 rfl rfl d_M_receive_83 rfl ?_
    refine x_iconst (v := nI 0) 87 hB d_M_receive_86 rfl (by decide) ?_
    refine x_iconst (v := nI 1) 88 hB d_M_receive_87 rfl (by decide) ?_
    refine x_zast 89 hB 6 (ws' := [(hm, .inr (5, [.int (nI 0), .ref ms, .ref mf, .ref mc, .ref my, .ref mb, .ref mz, .ref mp, .ref mo, .ref mm, .ref ml, .ref md, .int (nI (wr)), .int (bI sp), .int (bI rp), .int (bI fi), .int (nI (gd)), .ref me, .ref mg, .int (la), .int (nI 0), .long (lst), .int 0])), (mc, .inl (E.2 1, 1024, .inl (cd))), (my, .inl (E.2 1, 1024, .inl (sy))), (mb, .inl (E.2 1, 5280, .inl (g))), (mz, .inl (E.2 1, 2, .inl (pr2 (nI (z0)) (nI (z1))))), (mp, .inl (E.2 1, 2, .inl (pr2 (nI (p0)) (nI (p1))))), (mo, .inl (E.2 3, 2, .inl (pr2 (nI 1) (o1)))), (mm, .inl (E.2 1, 2, .inl (pr2 (nI (mk)) (m1)))), (ml, .inl (E.2 1, 2, .inl (pr2 (nI (sl)) (l1)))), (md, .inl (E.2 1, 2, .inl (pr2 (nI (bd)) (b1))))]) rfl (by omega) (by decide) (x' := nI 1) (by decide) (by rw [pr2_0]; rfl) d_M_receive_88 rfl ?_
    refine x_aload_n 90 hB d_M_receive_89 rfl rfl ?_
    refine x_iconst (v := nI 1) 91 hB d_M_receive_90 rfl (by decide) ?_
    refine x_put 94 hB 0 (ws' := [(hm, .inr (5, [.int (nI 0), .ref ms, .ref mf, .ref mc, .ref my, .ref mb, .ref mz, .ref mp, .ref mo, .ref mm, .ref ml, .ref md, .int (nI (wr)), .int (bI sp), .int (bI rp), .int (nI 1), .int (nI (gd)), .ref me, .ref mg, .int (la), .int (nI 0), .long (lst), .int 0])), (mc, .inl (E.2 1, 1024, .inl (cd))), (my, .inl (E.2 1, 1024, .inl (sy))), (mb, .inl (E.2 1, 5280, .inl (g))), (mz, .inl (E.2 1, 2, .inl (pr2 (nI (z0)) (nI (z1))))), (mp, .inl (E.2 1, 2, .inl (pr2 (nI (p0)) (nI (p1))))), (mo, .inl (E.2 3, 2, .inl (pr2 (nI 1) (o1)))), (mm, .inl (E.2 1, 2, .inl (pr2 (nI (mk)) (m1)))), (ml, .inl (E.2 1, 2, .inl (pr2 (nI (sl)) (l1)))), (md, .inl (E.2 1, 2, .inl (pr2 (nI (bd)) (b1))))]) fp_M_75_5 rfl (rfl) (rfl) (Nat.le_of_ble_eq_true rfl) rfl d_M_receive_91 rfl ?_
    refine x_aload_n 95 hB d_M_receive_94 rfl rfl ?_
    refine x_iconst (v := nI 0) 96 hB d_M_receive_95 rfl (by decide) ?_
    refine x_put 99 hB 0 (ws' := [(hm, .inr (5, [.int (nI 0), .ref ms, .ref mf, .ref mc, .ref my, .ref mb, .ref mz, .ref mp, .ref mo, .ref mm, .ref ml, .ref md, .int (nI (wr)), .int (bI sp), .int (bI rp), .int (nI 1), .int (nI 0), .ref me, .ref mg, .int (la), .int (nI 0), .long (lst), .int 0])), (mc, .inl (E.2 1, 1024, .inl (cd))), (my, .inl (E.2 1, 1024, .inl (sy))), (mb, .inl (E.2 1, 5280, .inl (g))), (mz, .inl (E.2 1, 2, .inl (pr2 (nI (z0)) (nI (z1))))), (mp, .inl (E.2 1, 2, .inl (pr2 (nI (p0)) (nI (p1))))), (mo, .inl (E.2 3, 2, .inl (pr2 (nI 1) (o1)))), (mm, .inl (E.2 1, 2, .inl (pr2 (nI (mk)) (m1)))), (ml, .inl (E.2 1, 2, .inl (pr2 (nI (sl)) (l1)))), (md, .inl (E.2 1, 2, .inl (pr2 (nI (bd)) (b1))))]) fp_M_78_5 rfl (rfl) (rfl) (Nat.le_of_ble_eq_true rfl) rfl d_M_receive_96 rfl ?_
    refine x_aload_n 100 hB d_M_receive_99 rfl rfl ?_
    refine x_get 103 hB 0 fg_M_25_5 rfl rfl d_M_receive_100 rfl ?_
    refine x_iconst (v := nI 0) 104 hB d_M_receive_103 rfl (by decide) ?_
    refine x_iald 105 hB 4 rfl (by omega) (by decide) d_M_receive_104 rfl ?_
    refine x_top (v' := .int (nI (z0))) rfl ?_
    refine x_aload_n 106 hB d_M_receive_105 rfl rfl ?_
    refine x_get 109 hB 0 fg_M_28_5 rfl rfl d_M_receive_106 rfl ?_
    refine x_iconst (v := nI 0) 110 hB d_M_receive_109 rfl (by decide) ?_
    refine x_iald 111 hB 5 rfl (by omega) (by decide) d_M_receive_110 rfl ?_
    refine x_top (v' := .int (nI (p0))) rfl ?_
    refine x_isub 112 hB d_M_receive_111 rfl ?_
    refine x_top (v' := .int (nI (z0 - p0))) (congrArg Value.int (pk_sub (by omega))) ?_
    refine x_bipush (v := nI 10) 114 hB d_M_receive_112 rfl (by decide) ?_
    refine x_icmp_ge 119 117 hB d_M_receive_114 (by decide) rfl (fun hc => absurd hc (nI_ge (by omega) (by omega))) (fun _ => ?_)
    refine x_iconst (v := (-1 : Int32)) 118 hB d_M_receive_117 rfl (by decide) ?_
    exact x_iret hB (w' := [(hm, .inr (5, [.int (nI 0), .ref ms, .ref mf, .ref mc, .ref my, .ref mb, .ref mz, .ref mp, .ref mo, .ref mm, .ref ml, .ref md, .int (nI (wr)), .int (bI sp), .int (bI rp), .int (nI 1), .int (nI 0), .ref me, .ref mg, .int (la), .int (nI 0), .long (lst), .int 0])), (mc, .inl (E.2 1, 1024, .inl (cd))), (my, .inl (E.2 1, 1024, .inl (sy))), (mb, .inl (E.2 1, 5280, .inl (g))), (mz, .inl (E.2 1, 2, .inl (pr2 (nI (z0)) (nI (z1))))), (mp, .inl (E.2 1, 2, .inl (pr2 (nI (p0)) (nI (p1))))), (mo, .inl (E.2 3, 2, .inl (pr2 (nI 1) (o1)))), (mm, .inl (E.2 1, 2, .inl (pr2 (nI (mk)) (m1)))), (ml, .inl (E.2 1, 2, .inl (pr2 (nI (sl)) (l1)))), (md, .inl (E.2 1, 2, .inl (pr2 (nI (bd)) (b1))))]) hA [0, 1, 2, 3, 4, 5, 6, 7, 8, 9] rfl rfl (xRet_i) (by decide) (by decide) d_M_receive_118
  refine x_iload_n 48 hB d_M_receive_47 rfl rfl ?_
  refine x_bipush (v := nI 31) 50 hB d_M_receive_48 rfl (by decide) ?_
  refine x_icmp_eq 82 53 hB d_M_receive_50 (by decide) rfl (fun h50 => ?_) (fun h50 => ?_)
  · skip
    have k50 : ahN g p0 7 = 31 := (nI_eq (by omega) (by omega)).mp h50
    refine x_lv (lv' := [(0, .ref hm), (1, .int (nI (ahN g p0 7)))]) [1, 0] rfl ?_
    exact J82 () trivial
  · skip
    have k50 : ¬ ahN g p0 7 = 31 := fun h => h50 ((nI_eq (by omega) (by omega)).mpr h)
    refine x_iload_n 54 hB d_M_receive_53 rfl rfl ?_
    refine x_bipush (v := nI 96) 56 hB d_M_receive_54 rfl (by decide) ?_
    refine x_icmp_eq 82 59 hB d_M_receive_56 (by decide) rfl (fun _ => ?_) (fun hc => absurd (congrArg nI (hM.resolve_left k50)) hc)
    refine x_lv (lv' := [(0, .ref hm), (1, .int (nI (ahN g p0 7)))]) [1, 0] rfl ?_
    exact J82 () trivial
abbrev rm_M_receive_3 : Room := { frames := 4, cells := 0, slots := 0, locals := 89 }
set_option maxHeartbeats 4000000 in
set_option maxRecDepth 100000 in
theorem c_M_receive_3 (l : Launch) (E : xE) (hm ms mf mc my mb mz mp mo mm ml md me mg : Nat) (re : Int32) (wr : Nat) (sp rp fi : Bool) (gd : Nat) (la : Int32) (lst : Int64) (z0 z1 : Nat) (g : Nat → Int32) (cd sy : Nat → Int32) (fo : Bool) (mk bd : Nat) (o1 m1 b1 : Int32) (p0 p1 sl : Nat) (l1 : Int32) (hn : z0 ≤ 2640) (hb : ∀ i, i < z0 → g i = 0 ∨ g i = 1) (hp : p0 ≤ z0) (hm9 : mk < 4) (hT : tbOK cd sy) (hc2 : ¬ z0 - p0 < 10) (hM : ahN g p0 7 = 31 ∨ ahN g p0 7 = 96) : xC l E y_M_receive (.code y_M_receive prog_10_method_18_code 2 (some .int)) rm_M_receive_3 [.ref hm] [(hm, .inr (5, [.int (re), .ref ms, .ref mf, .ref mc, .ref my, .ref mb, .ref mz, .ref mp, .ref mo, .ref mm, .ref ml, .ref md, .int (nI (wr)), .int (bI sp), .int (bI rp), .int (bI fi), .int (nI (gd)), .ref me, .ref mg, .int (la), .int (nI 0), .long (lst), .int 0])), (mc, .inl (E.2 1, 1024, .inl (cd))), (my, .inl (E.2 1, 1024, .inl (sy))), (mb, .inl (E.2 1, 5280, .inl (g))), (mz, .inl (E.2 1, 2, .inl (pr2 (nI (z0)) (nI (z1))))), (mp, .inl (E.2 1, 2, .inl (pr2 (nI (p0)) (nI (p1))))), (mo, .inl (E.2 3, 2, .inl (pr2 (bI false) (o1)))), (mm, .inl (E.2 1, 2, .inl (pr2 (nI (mk)) (m1)))), (ml, .inl (E.2 1, 2, .inl (pr2 (nI (sl)) (l1)))), (md, .inl (E.2 1, 2, .inl (pr2 (nI (bd)) (b1))))] (xRet (some (.int (tkR (ahN g p0 10) rp true))) [(hm, .inr (5, [.int (nI 0), .ref ms, .ref mf, .ref mc, .ref my, .ref mb, .ref mz, .ref mp, .ref mo, .ref mm, .ref ml, .ref md, .int (nI (wr + (if (tkK (ahN g p0 10) rp true) = 2 then 1 else 0))), .int (bI sp), .int (bI (tkP (ahN g p0 10) rp true)), .int (nI 0), .int (nI (tkW 0 (tkK (ahN g p0 10) rp true))), .ref me, .ref mg, .int (la), .int (nI 0), .long (lst), .int 0])), (mc, .inl (E.2 1, 1024, .inl (cd))), (my, .inl (E.2 1, 1024, .inl (sy))), (mb, .inl (E.2 1, 5280, .inl (g))), (mz, .inl (E.2 1, 2, .inl (pr2 (nI (z0)) (nI (z1))))), (mp, .inl (E.2 1, 2, .inl (pr2 (nI (p0 + 10)) (nI (p1))))), (mo, .inl (E.2 3, 2, .inl (pr2 (bI (tkO true mk (tkK (ahN g p0 10) rp true))) (o1)))), (mm, .inl (E.2 1, 2, .inl (pr2 (nI (tkM mk 0 (tkK (ahN g p0 10) rp true))) (m1)))), (ml, .inl (E.2 1, 2, .inl (pr2 (nI (sl)) (l1)))), (md, .inl (E.2 1, 2, .inl (pr2 (nI (bd + (if (tkK (ahN g p0 10) rp true) = 1 then 1 else 0))) (b1))))]) := by
  refine x_of' (own := "LineCoderModel") (mn := "receive") (lv := [(0, .ref hm)]) (plainFor_of_name (by decide)) rfl rfl (Nat.le_of_ble_eq_true rfl) rfl ?_
  intro p_ e_ s_ m_ ar_ be_ me_ c_ A_ hA hB
  refine x_aload_n 1 hB d_M_receive_0 rfl rfl ?_
  refine x_iconst (v := nI 0) 2 hB d_M_receive_1 rfl (by decide) ?_
  refine x_put 5 hB 0 (ws' := [(hm, .inr (5, [.int (nI 0), .ref ms, .ref mf, .ref mc, .ref my, .ref mb, .ref mz, .ref mp, .ref mo, .ref mm, .ref ml, .ref md, .int (nI (wr)), .int (bI sp), .int (bI rp), .int (bI fi), .int (nI (gd)), .ref me, .ref mg, .int (la), .int (nI 0), .long (lst), .int 0])), (mc, .inl (E.2 1, 1024, .inl (cd))), (my, .inl (E.2 1, 1024, .inl (sy))), (mb, .inl (E.2 1, 5280, .inl (g))), (mz, .inl (E.2 1, 2, .inl (pr2 (nI (z0)) (nI (z1))))), (mp, .inl (E.2 1, 2, .inl (pr2 (nI (p0)) (nI (p1))))), (mo, .inl (E.2 3, 2, .inl (pr2 (bI false) (o1)))), (mm, .inl (E.2 1, 2, .inl (pr2 (nI (mk)) (m1)))), (ml, .inl (E.2 1, 2, .inl (pr2 (nI (sl)) (l1)))), (md, .inl (E.2 1, 2, .inl (pr2 (nI (bd)) (b1))))]) fp_M_61_5 rfl (rfl) (rfl) (Nat.le_of_ble_eq_true rfl) rfl d_M_receive_2 rfl ?_
  refine x_aload_n 6 hB d_M_receive_5 rfl rfl ?_
  refine x_get 9 hB 0 fg_M_31_5 rfl rfl d_M_receive_6 rfl ?_
  refine x_iconst (v := nI 0) 10 hB d_M_receive_9 rfl (by decide) ?_
  refine x_zald 11 hB 6 rfl (by omega) (by decide) d_M_receive_10 rfl ?_
  refine x_top (v' := .int (bI false)) rfl ?_
  refine x_if_ne 99 14 hB d_M_receive_11 (by decide) rfl (fun hc => absurd (rfl) hc) (fun _ => ?_)
  refine x_aload_n 15 hB d_M_receive_14 rfl rfl ?_
  refine x_get 18 hB 0 fg_M_25_5 rfl rfl d_M_receive_15 rfl ?_
  refine x_iconst (v := nI 0) 19 hB d_M_receive_18 rfl (by decide) ?_
  refine x_iald 20 hB 4 rfl (by omega) (by decide) d_M_receive_19 rfl ?_
  refine x_top (v' := .int (nI (z0))) rfl ?_
  refine x_aload_n 21 hB d_M_receive_20 rfl rfl ?_
  refine x_get 24 hB 0 fg_M_28_5 rfl rfl d_M_receive_21 rfl ?_
  refine x_iconst (v := nI 0) 25 hB d_M_receive_24 rfl (by decide) ?_
  refine x_iald 26 hB 5 rfl (by omega) (by decide) d_M_receive_25 rfl ?_
  refine x_top (v' := .int (nI (p0))) rfl ?_
  refine x_isub 27 hB d_M_receive_26 rfl ?_
  refine x_top (v' := .int (nI (z0 - p0))) (congrArg Value.int (pk_sub (by omega))) ?_
  refine x_bipush (v := nI 7) 29 hB d_M_receive_27 rfl (by decide) ?_
  refine x_icmp_ge 34 32 hB d_M_receive_29 (by decide) rfl (fun _ => ?_) (fun hc => absurd (nI_le (by omega) (by omega)) hc)
  refine x_aload_n 35 hB d_M_receive_34 rfl rfl ?_
  refine x_aload_n 36 hB d_M_receive_35 rfl rfl ?_
  refine x_get 39 hB 0 fg_M_28_5 rfl rfl d_M_receive_36 rfl ?_
  refine x_iconst (v := nI 0) 40 hB d_M_receive_39 rfl (by decide) ?_
  refine x_iald 41 hB 5 rfl (by omega) (by decide) d_M_receive_40 rfl ?_
  refine x_top (v' := .int (nI (p0))) rfl ?_
  refine x_bipush (v := nI 7) 43 hB d_M_receive_41 rfl (by decide) ?_
  refine x_callP (k' := 0) (n' := 0) (rest := []) (st' := [.int (nI (ahN g p0 7))]) 46 hB (x_pfV (av := [.int (nI (p0)), .int (nI 7)]) (q0 := 0) hB w_738 xHd_code w_735 w_737 s_M_bitsAt rfl rfl nm_M_bitsAt rfl d_M_receive_43) (c_M_bitsAt l E hm ms mf mc my mb mz mp mo mm ml md me mg (nI 0) (wr) (sp) (rp) (fi) (gd) (la) (lst) g p0 7 (by omega) (by omega) (fun i h => hb (p0 + i) (by omega))) w_738 xHd_code w_7 [0, 3] rfl rfl ⟨by decide, by decide⟩ ⟨by decide, by decide⟩ rfl rfl (Nat.le_of_ble_eq_true rfl) d_M_receive_43 rfl rfl ?_
  have hl7 : ahN g p0 7 < 128 := ahN_lt g p0 7
  refine x_istore_n 47 hB d_M_receive_46 rfl (by decide) (lv' := [(1, .int (nI (ahN g p0 7))), (0, .ref hm)]) rfl ?_
  refine x_join 82 (fun _u : Unit => True) (fun _u : Unit => [(hm, .inr (5, [.int (nI 0), .ref ms, .ref mf, .ref mc, .ref my, .ref mb, .ref mz, .ref mp, .ref mo, .ref mm, .ref ml, .ref md, .int (nI (wr)), .int (bI sp), .int (bI rp), .int (bI fi), .int (nI (gd)), .ref me, .ref mg, .int (la), .int (nI 0), .long (lst), .int 0])), (mc, .inl (E.2 1, 1024, .inl (cd))), (my, .inl (E.2 1, 1024, .inl (sy))), (mb, .inl (E.2 1, 5280, .inl (g))), (mz, .inl (E.2 1, 2, .inl (pr2 (nI (z0)) (nI (z1))))), (mp, .inl (E.2 1, 2, .inl (pr2 (nI (p0)) (nI (p1))))), (mo, .inl (E.2 3, 2, .inl (pr2 (bI false) (o1)))), (mm, .inl (E.2 1, 2, .inl (pr2 (nI (mk)) (m1)))), (ml, .inl (E.2 1, 2, .inl (pr2 (nI (sl)) (l1)))), (md, .inl (E.2 1, 2, .inl (pr2 (nI (bd)) (b1))))]) (fun _u : Unit => [(0, .ref hm), (1, .int (nI (ahN g p0 7)))]) (fun _u : Unit => []) (fun _u hJ82 => ?_) (fun J82 => ?_)
  · skip
    refine x_aload_n 83 hB d_M_receive_82 rfl rfl ?_
    refine x_get 86 hB 0 fg_M_31_5 rfl rfl d_M_receive_83 rfl ?_
    refine x_iconst (v := nI 0) 87 hB d_M_receive_86 rfl (by decide) ?_
    refine x_iconst (v := nI 1) 88 hB d_M_receive_87 rfl (by decide) ?_
    refine x_zast 89 hB 6 (ws' := [(hm, .inr (5, [.int (nI 0), .ref ms, .ref mf, .ref mc, .ref my, .ref mb, .ref mz, .ref mp, .ref mo, .ref mm, .ref ml, .ref md, .int (nI (wr)), .int (bI sp), .int (bI rp), .int (bI fi), .int (nI (gd)), .ref me, .ref mg, .int (la), .int (nI 0), .long (lst), .int 0])), (mc, .inl (E.2 1, 1024, .inl (cd))), (my, .inl (E.2 1, 1024, .inl (sy))), (mb, .inl (E.2 1, 5280, .inl (g))), (mz, .inl (E.2 1, 2, .inl (pr2 (nI (z0)) (nI (z1))))), (mp, .inl (E.2 1, 2, .inl (pr2 (nI (p0)) (nI (p1))))), (mo, .inl (E.2 3, 2, .inl (pr2 (nI 1) (o1)))), (mm, .inl (E.2 1, 2, .inl (pr2 (nI (mk)) (m1)))), (ml, .inl (E.2 1, 2, .inl (pr2 (nI (sl)) (l1)))), (md, .inl (E.2 1, 2, .inl (pr2 (nI (bd)) (b1))))]) rfl (by omega) (by decide) (x' := nI 1) (by decide) (by rw [pr2_0]; rfl) d_M_receive_88 rfl ?_
    refine x_aload_n 90 hB d_M_receive_89 rfl rfl ?_
    refine x_iconst (v := nI 1) 91 hB d_M_receive_90 rfl (by decide) ?_
    refine x_put 94 hB 0 (ws' := [(hm, .inr (5, [.int (nI 0), .ref ms, .ref mf, .ref mc, .ref my, .ref mb, .ref mz, .ref mp, .ref mo, .ref mm, .ref ml, .ref md, .int (nI (wr)), .int (bI sp), .int (bI rp), .int (nI 1), .int (nI (gd)), .ref me, .ref mg, .int (la), .int (nI 0), .long (lst), .int 0])), (mc, .inl (E.2 1, 1024, .inl (cd))), (my, .inl (E.2 1, 1024, .inl (sy))), (mb, .inl (E.2 1, 5280, .inl (g))), (mz, .inl (E.2 1, 2, .inl (pr2 (nI (z0)) (nI (z1))))), (mp, .inl (E.2 1, 2, .inl (pr2 (nI (p0)) (nI (p1))))), (mo, .inl (E.2 3, 2, .inl (pr2 (nI 1) (o1)))), (mm, .inl (E.2 1, 2, .inl (pr2 (nI (mk)) (m1)))), (ml, .inl (E.2 1, 2, .inl (pr2 (nI (sl)) (l1)))), (md, .inl (E.2 1, 2, .inl (pr2 (nI (bd)) (b1))))]) fp_M_75_5 rfl (rfl) (rfl) (Nat.le_of_ble_eq_true rfl) rfl d_M_receive_91 rfl ?_
    refine x_aload_n 95 hB d_M_receive_94 rfl rfl ?_
    refine x_iconst (v := nI 0) 96 hB d_M_receive_95 rfl (by decide) ?_
    refine x_put 99 hB 0 (ws' := [(hm, .inr (5, [.int (nI 0), .ref ms, .ref mf, .ref mc, .ref my, .ref mb, .ref mz, .ref mp, .ref mo, .ref mm, .ref ml, .ref md, .int (nI (wr)), .int (bI sp), .int (bI rp), .int (nI 1), .int (nI 0), .ref me, .ref mg, .int (la), .int (nI 0), .long (lst), .int 0])), (mc, .inl (E.2 1, 1024, .inl (cd))), (my, .inl (E.2 1, 1024, .inl (sy))), (mb, .inl (E.2 1, 5280, .inl (g))), (mz, .inl (E.2 1, 2, .inl (pr2 (nI (z0)) (nI (z1))))), (mp, .inl (E.2 1, 2, .inl (pr2 (nI (p0)) (nI (p1))))), (mo, .inl (E.2 3, 2, .inl (pr2 (nI 1) (o1)))), (mm, .inl (E.2 1, 2, .inl (pr2 (nI (mk)) (m1)))), (ml, .inl (E.2 1, 2, .inl (pr2 (nI (sl)) (l1)))), (md, .inl (E.2 1, 2, .inl (pr2 (nI (bd)) (b1))))]) fp_M_78_5 rfl (rfl) (rfl) (Nat.le_of_ble_eq_true rfl) rfl d_M_receive_96 rfl ?_
    refine x_aload_n 100 hB d_M_receive_99 rfl rfl ?_
    refine x_get 103 hB 0 fg_M_25_5 rfl rfl d_M_receive_100 rfl ?_
    refine x_iconst (v := nI 0) 104 hB d_M_receive_103 rfl (by decide) ?_
    refine x_iald 105 hB 4 rfl (by omega) (by decide) d_M_receive_104 rfl ?_
    refine x_top (v' := .int (nI (z0))) rfl ?_
    refine x_aload_n 106 hB d_M_receive_105 rfl rfl ?_
    refine x_get 109 hB 0 fg_M_28_5 rfl rfl d_M_receive_106 rfl ?_
    refine x_iconst (v := nI 0) 110 hB d_M_receive_109 rfl (by decide) ?_
    refine x_iald 111 hB 5 rfl (by omega) (by decide) d_M_receive_110 rfl ?_
    refine x_top (v' := .int (nI (p0))) rfl ?_
    refine x_isub 112 hB d_M_receive_111 rfl ?_
    refine x_top (v' := .int (nI (z0 - p0))) (congrArg Value.int (pk_sub (by omega))) ?_
    refine x_bipush (v := nI 10) 114 hB d_M_receive_112 rfl (by decide) ?_
    refine x_icmp_ge 119 117 hB d_M_receive_114 (by decide) rfl (fun _ => ?_) (fun hc => absurd (nI_le (by omega) (by omega)) hc)
    refine x_aload_n 120 hB d_M_receive_119 rfl rfl ?_
    refine x_aload_n 121 hB d_M_receive_120 rfl rfl ?_
    refine x_get 124 hB 0 fg_M_28_5 rfl rfl d_M_receive_121 rfl ?_
    refine x_iconst (v := nI 0) 125 hB d_M_receive_124 rfl (by decide) ?_
    refine x_iald 126 hB 5 rfl (by omega) (by decide) d_M_receive_125 rfl ?_
    refine x_top (v' := .int (nI (p0))) rfl ?_
    refine x_bipush (v := nI 10) 128 hB d_M_receive_126 rfl (by decide) ?_
    refine x_callP (k' := 0) (n' := 0) (rest := []) (st' := [.int (nI (ahN g p0 10))]) 131 hB (x_pfV (av := [.int (nI (p0)), .int (nI 10)]) (q0 := 0) hB w_738 xHd_code w_735 w_737 s_M_bitsAt rfl rfl nm_M_bitsAt rfl d_M_receive_128) (c_M_bitsAt l E hm ms mf mc my mb mz mp mo mm ml md me mg (nI 0) (wr) (sp) (rp) (true) (0) (la) (lst) g p0 10 (by omega) (by omega) (fun i h => hb (p0 + i) (by omega))) w_738 xHd_code w_7 [0, 3] rfl rfl ⟨by decide, by decide⟩ ⟨by decide, by decide⟩ rfl rfl (Nat.le_of_ble_eq_true rfl) d_M_receive_128 rfl rfl ?_
    refine x_istore_n 132 hB d_M_receive_131 rfl (by decide) (lv' := [(1, .int (nI (ahN g p0 10))), (0, .ref hm)]) rfl ?_
    refine x_aload_n 133 hB d_M_receive_132 rfl rfl ?_
    refine x_get 136 hB 0 fg_M_28_5 rfl rfl d_M_receive_133 rfl ?_
    refine x_iconst (v := nI 0) 137 hB d_M_receive_136 rfl (by decide) ?_
    refine x_aload_n 138 hB d_M_receive_137 rfl rfl ?_
    refine x_get 141 hB 0 fg_M_28_5 rfl rfl d_M_receive_138 rfl ?_
    refine x_iconst (v := nI 0) 142 hB d_M_receive_141 rfl (by decide) ?_
    refine x_iald 143 hB 5 rfl (by omega) (by decide) d_M_receive_142 rfl ?_
    refine x_top (v' := .int (nI (p0))) rfl ?_
    refine x_bipush (v := nI 10) 145 hB d_M_receive_143 rfl (by decide) ?_
    refine x_iadd 146 hB d_M_receive_145 rfl ?_
    refine x_top (v' := .int (nI (p0 + 10))) (congrArg Value.int (nI_add p0 10)) ?_
    refine x_iast 147 hB 5 (ws' := [(hm, .inr (5, [.int (nI 0), .ref ms, .ref mf, .ref mc, .ref my, .ref mb, .ref mz, .ref mp, .ref mo, .ref mm, .ref ml, .ref md, .int (nI (wr)), .int (bI sp), .int (bI rp), .int (nI 1), .int (nI 0), .ref me, .ref mg, .int (la), .int (nI 0), .long (lst), .int 0])), (mc, .inl (E.2 1, 1024, .inl (cd))), (my, .inl (E.2 1, 1024, .inl (sy))), (mb, .inl (E.2 1, 5280, .inl (g))), (mz, .inl (E.2 1, 2, .inl (pr2 (nI (z0)) (nI (z1))))), (mp, .inl (E.2 1, 2, .inl (pr2 (nI (p0 + 10)) (nI (p1))))), (mo, .inl (E.2 3, 2, .inl (pr2 (nI 1) (o1)))), (mm, .inl (E.2 1, 2, .inl (pr2 (nI (mk)) (m1)))), (ml, .inl (E.2 1, 2, .inl (pr2 (nI (sl)) (l1)))), (md, .inl (E.2 1, 2, .inl (pr2 (nI (bd)) (b1))))]) rfl (by omega) (by decide) (x' := nI (p0 + 10)) (rfl) (by rw [pr2_0]; rfl) d_M_receive_146 rfl ?_
    refine x_aload_n 148 hB d_M_receive_147 rfl rfl ?_
    refine x_iload_n 149 hB d_M_receive_148 rfl rfl ?_
    refine x_callD (k' := 0) (n' := 0) (rest := []) (wr := [(mb, .inl (E.2 1, 5280, .inl (g))), (mz, .inl (E.2 1, 2, .inl (pr2 (nI (z0)) (nI (z1))))), (mp, .inl (E.2 1, 2, .inl (pr2 (nI (p0 + 10)) (nI (p1))))), (ml, .inl (E.2 1, 2, .inl (pr2 (nI (sl)) (l1))))]) (ws' := [(mb, .inl (E.2 1, 5280, .inl (g))), (mz, .inl (E.2 1, 2, .inl (pr2 (nI (z0)) (nI (z1))))), (mp, .inl (E.2 1, 2, .inl (pr2 (nI (p0 + 10)) (nI (p1))))), (ml, .inl (E.2 1, 2, .inl (pr2 (nI (sl)) (l1)))), (hm, .inr (5, [.int (nI 0), .ref ms, .ref mf, .ref mc, .ref my, .ref mb, .ref mz, .ref mp, .ref mo, .ref mm, .ref ml, .ref md, .int (nI (wr + (if (tkK (ahN g p0 10) rp true) = 2 then 1 else 0))), .int (bI sp), .int (bI (tkP (ahN g p0 10) rp true)), .int (nI 0), .int (nI (tkW 0 (tkK (ahN g p0 10) rp true))), .ref me, .ref mg, .int (la), .int (nI 0), .long (lst), .int 0])), (mc, .inl (E.2 1, 1024, .inl (cd))), (my, .inl (E.2 1, 1024, .inl (sy))), (mo, .inl (E.2 3, 2, .inl (pr2 (bI (tkO true mk (tkK (ahN g p0 10) rp true))) (o1)))), (mm, .inl (E.2 1, 2, .inl (pr2 (nI (tkM mk 0 (tkK (ahN g p0 10) rp true))) (m1)))), (md, .inl (E.2 1, 2, .inl (pr2 (nI (bd + (if (tkK (ahN g p0 10) rp true) = 1 then 1 else 0))) (b1))))]) (st' := [.int (tkR (ahN g p0 10) rp true)]) 152 hB (x_pfV (av := [.int (nI (ahN g p0 10))]) (q0 := 0) hB w_742 xHd_code w_739 w_741 s_M_taken rfl rfl nm_M_taken rfl d_M_receive_149) (c_M_taken l E hm ms mf mc my mb mz mp mo mm ml md me mg (nI 0) (wr) (sp) (rp) (true) (0) (la) (lst) cd sy true mk bd o1 m1 b1 (ahN g p0 10) (ahN_lt g p0 10) hm9 (by decide) hT) w_742 xHd_code w_7 [0, 1, 2, 6, 7, 9] [3, 4, 5, 8] rfl rfl rfl rfl (by decide) ⟨by decide, by decide⟩ ⟨by decide, by decide⟩ rfl rfl (Nat.le_of_ble_eq_true rfl) d_M_receive_149 rfl rfl rfl ?_
    exact x_iret hB (w' := [(hm, .inr (5, [.int (nI 0), .ref ms, .ref mf, .ref mc, .ref my, .ref mb, .ref mz, .ref mp, .ref mo, .ref mm, .ref ml, .ref md, .int (nI (wr + (if (tkK (ahN g p0 10) rp true) = 2 then 1 else 0))), .int (bI sp), .int (bI (tkP (ahN g p0 10) rp true)), .int (nI 0), .int (nI (tkW 0 (tkK (ahN g p0 10) rp true))), .ref me, .ref mg, .int (la), .int (nI 0), .long (lst), .int 0])), (mc, .inl (E.2 1, 1024, .inl (cd))), (my, .inl (E.2 1, 1024, .inl (sy))), (mb, .inl (E.2 1, 5280, .inl (g))), (mz, .inl (E.2 1, 2, .inl (pr2 (nI (z0)) (nI (z1))))), (mp, .inl (E.2 1, 2, .inl (pr2 (nI (p0 + 10)) (nI (p1))))), (mo, .inl (E.2 3, 2, .inl (pr2 (bI (tkO true mk (tkK (ahN g p0 10) rp true))) (o1)))), (mm, .inl (E.2 1, 2, .inl (pr2 (nI (tkM mk 0 (tkK (ahN g p0 10) rp true))) (m1)))), (ml, .inl (E.2 1, 2, .inl (pr2 (nI (sl)) (l1)))), (md, .inl (E.2 1, 2, .inl (pr2 (nI (bd + (if (tkK (ahN g p0 10) rp true) = 1 then 1 else 0))) (b1))))]) hA [4, 5, 6, 0, 1, 2, 7, 8, 3, 9] rfl rfl (xRet_i) (by decide) (by decide) d_M_receive_152
  refine x_iload_n 48 hB d_M_receive_47 rfl rfl ?_
  refine x_bipush (v := nI 31) 50 hB d_M_receive_48 rfl (by decide) ?_
  refine x_icmp_eq 82 53 hB d_M_receive_50 (by decide) rfl (fun h50 => ?_) (fun h50 => ?_)
  · skip
    have k50 : ahN g p0 7 = 31 := (nI_eq (by omega) (by omega)).mp h50
    refine x_lv (lv' := [(0, .ref hm), (1, .int (nI (ahN g p0 7)))]) [1, 0] rfl ?_
    exact J82 () trivial
  · skip
    have k50 : ¬ ahN g p0 7 = 31 := fun h => h50 ((nI_eq (by omega) (by omega)).mpr h)
    refine x_iload_n 54 hB d_M_receive_53 rfl rfl ?_
    refine x_bipush (v := nI 96) 56 hB d_M_receive_54 rfl (by decide) ?_
    refine x_icmp_eq 82 59 hB d_M_receive_56 (by decide) rfl (fun _ => ?_) (fun hc => absurd (congrArg nI (hM.resolve_left k50)) hc)
    refine x_lv (lv' := [(0, .ref hm), (1, .int (nI (ahN g p0 7)))]) [1, 0] rfl ?_
    exact J82 () trivial
abbrev rm_M_receive_4 : Room := { frames := 4, cells := 0, slots := 0, locals := 89 }
set_option maxHeartbeats 4000000 in
set_option maxRecDepth 100000 in
theorem c_M_receive_4 (l : Launch) (E : xE) (hm ms mf mc my mb mz mp mo mm ml md me mg : Nat) (re : Int32) (wr : Nat) (sp rp fi : Bool) (gd : Nat) (la : Int32) (lst : Int64) (z0 z1 : Nat) (g : Nat → Int32) (cd sy : Nat → Int32) (fo : Bool) (mk bd : Nat) (o1 m1 b1 : Int32) (p0 p1 sl : Nat) (l1 : Int32) (hn : z0 ≤ 2640) (hb : ∀ i, i < z0 → g i = 0 ∨ g i = 1) (hp : p0 ≤ z0) (hc2 : z0 - p0 < 10) : xC l E y_M_receive (.code y_M_receive prog_10_method_18_code 2 (some .int)) rm_M_receive_4 [.ref hm] [(hm, .inr (5, [.int (re), .ref ms, .ref mf, .ref mc, .ref my, .ref mb, .ref mz, .ref mp, .ref mo, .ref mm, .ref ml, .ref md, .int (nI (wr)), .int (bI sp), .int (bI rp), .int (bI fi), .int (nI (gd)), .ref me, .ref mg, .int (la), .int (nI 0), .long (lst), .int 0])), (mc, .inl (E.2 1, 1024, .inl (cd))), (my, .inl (E.2 1, 1024, .inl (sy))), (mb, .inl (E.2 1, 5280, .inl (g))), (mz, .inl (E.2 1, 2, .inl (pr2 (nI (z0)) (nI (z1))))), (mp, .inl (E.2 1, 2, .inl (pr2 (nI (p0)) (nI (p1))))), (mo, .inl (E.2 3, 2, .inl (pr2 (bI true) (o1)))), (mm, .inl (E.2 1, 2, .inl (pr2 (nI (mk)) (m1)))), (ml, .inl (E.2 1, 2, .inl (pr2 (nI (sl)) (l1)))), (md, .inl (E.2 1, 2, .inl (pr2 (nI (bd)) (b1))))] (xRet (some (.int (-1))) [(hm, .inr (5, [.int (nI 0), .ref ms, .ref mf, .ref mc, .ref my, .ref mb, .ref mz, .ref mp, .ref mo, .ref mm, .ref ml, .ref md, .int (nI (wr)), .int (bI sp), .int (bI rp), .int (bI fi), .int (nI (gd)), .ref me, .ref mg, .int (la), .int (nI 0), .long (lst), .int 0])), (mc, .inl (E.2 1, 1024, .inl (cd))), (my, .inl (E.2 1, 1024, .inl (sy))), (mb, .inl (E.2 1, 5280, .inl (g))), (mz, .inl (E.2 1, 2, .inl (pr2 (nI (z0)) (nI (z1))))), (mp, .inl (E.2 1, 2, .inl (pr2 (nI (p0)) (nI (p1))))), (mo, .inl (E.2 3, 2, .inl (pr2 (bI true) (o1)))), (mm, .inl (E.2 1, 2, .inl (pr2 (nI (mk)) (m1)))), (ml, .inl (E.2 1, 2, .inl (pr2 (nI (sl)) (l1)))), (md, .inl (E.2 1, 2, .inl (pr2 (nI (bd)) (b1))))]) := by
  refine x_of' (own := "LineCoderModel") (mn := "receive") (lv := [(0, .ref hm)]) (plainFor_of_name (by decide)) rfl rfl (Nat.le_of_ble_eq_true rfl) rfl ?_
  intro p_ e_ s_ m_ ar_ be_ me_ c_ A_ hA hB
  refine x_aload_n 1 hB d_M_receive_0 rfl rfl ?_
  refine x_iconst (v := nI 0) 2 hB d_M_receive_1 rfl (by decide) ?_
  refine x_put 5 hB 0 (ws' := [(hm, .inr (5, [.int (nI 0), .ref ms, .ref mf, .ref mc, .ref my, .ref mb, .ref mz, .ref mp, .ref mo, .ref mm, .ref ml, .ref md, .int (nI (wr)), .int (bI sp), .int (bI rp), .int (bI fi), .int (nI (gd)), .ref me, .ref mg, .int (la), .int (nI 0), .long (lst), .int 0])), (mc, .inl (E.2 1, 1024, .inl (cd))), (my, .inl (E.2 1, 1024, .inl (sy))), (mb, .inl (E.2 1, 5280, .inl (g))), (mz, .inl (E.2 1, 2, .inl (pr2 (nI (z0)) (nI (z1))))), (mp, .inl (E.2 1, 2, .inl (pr2 (nI (p0)) (nI (p1))))), (mo, .inl (E.2 3, 2, .inl (pr2 (bI true) (o1)))), (mm, .inl (E.2 1, 2, .inl (pr2 (nI (mk)) (m1)))), (ml, .inl (E.2 1, 2, .inl (pr2 (nI (sl)) (l1)))), (md, .inl (E.2 1, 2, .inl (pr2 (nI (bd)) (b1))))]) fp_M_61_5 rfl (rfl) (rfl) (Nat.le_of_ble_eq_true rfl) rfl d_M_receive_2 rfl ?_
  refine x_aload_n 6 hB d_M_receive_5 rfl rfl ?_
  refine x_get 9 hB 0 fg_M_31_5 rfl rfl d_M_receive_6 rfl ?_
  refine x_iconst (v := nI 0) 10 hB d_M_receive_9 rfl (by decide) ?_
  refine x_zald 11 hB 6 rfl (by omega) (by decide) d_M_receive_10 rfl ?_
  refine x_top (v' := .int (bI true)) rfl ?_
  refine x_if_ne 99 14 hB d_M_receive_11 (by decide) rfl (fun _ => ?_) (fun hc => absurd hc (by decide))
  refine x_aload_n 100 hB d_M_receive_99 rfl rfl ?_
  refine x_get 103 hB 0 fg_M_25_5 rfl rfl d_M_receive_100 rfl ?_
  refine x_iconst (v := nI 0) 104 hB d_M_receive_103 rfl (by decide) ?_
  refine x_iald 105 hB 4 rfl (by omega) (by decide) d_M_receive_104 rfl ?_
  refine x_top (v' := .int (nI (z0))) rfl ?_
  refine x_aload_n 106 hB d_M_receive_105 rfl rfl ?_
  refine x_get 109 hB 0 fg_M_28_5 rfl rfl d_M_receive_106 rfl ?_
  refine x_iconst (v := nI 0) 110 hB d_M_receive_109 rfl (by decide) ?_
  refine x_iald 111 hB 5 rfl (by omega) (by decide) d_M_receive_110 rfl ?_
  refine x_top (v' := .int (nI (p0))) rfl ?_
  refine x_isub 112 hB d_M_receive_111 rfl ?_
  refine x_top (v' := .int (nI (z0 - p0))) (congrArg Value.int (pk_sub (by omega))) ?_
  refine x_bipush (v := nI 10) 114 hB d_M_receive_112 rfl (by decide) ?_
  refine x_icmp_ge 119 117 hB d_M_receive_114 (by decide) rfl (fun hc => absurd hc (nI_ge (by omega) (by omega))) (fun _ => ?_)
  refine x_iconst (v := (-1 : Int32)) 118 hB d_M_receive_117 rfl (by decide) ?_
  exact x_iret hB (w' := [(hm, .inr (5, [.int (nI 0), .ref ms, .ref mf, .ref mc, .ref my, .ref mb, .ref mz, .ref mp, .ref mo, .ref mm, .ref ml, .ref md, .int (nI (wr)), .int (bI sp), .int (bI rp), .int (bI fi), .int (nI (gd)), .ref me, .ref mg, .int (la), .int (nI 0), .long (lst), .int 0])), (mc, .inl (E.2 1, 1024, .inl (cd))), (my, .inl (E.2 1, 1024, .inl (sy))), (mb, .inl (E.2 1, 5280, .inl (g))), (mz, .inl (E.2 1, 2, .inl (pr2 (nI (z0)) (nI (z1))))), (mp, .inl (E.2 1, 2, .inl (pr2 (nI (p0)) (nI (p1))))), (mo, .inl (E.2 3, 2, .inl (pr2 (bI true) (o1)))), (mm, .inl (E.2 1, 2, .inl (pr2 (nI (mk)) (m1)))), (ml, .inl (E.2 1, 2, .inl (pr2 (nI (sl)) (l1)))), (md, .inl (E.2 1, 2, .inl (pr2 (nI (bd)) (b1))))]) hA [0, 1, 2, 3, 4, 5, 6, 7, 8, 9] rfl rfl (xRet_i) (by decide) (by decide) d_M_receive_118
abbrev rm_M_receive_5 : Room := { frames := 4, cells := 0, slots := 0, locals := 89 }
set_option maxHeartbeats 4000000 in
set_option maxRecDepth 100000 in
theorem c_M_receive_5 (l : Launch) (E : xE) (hm ms mf mc my mb mz mp mo mm ml md me mg : Nat) (re : Int32) (wr : Nat) (sp rp fi : Bool) (gd : Nat) (la : Int32) (lst : Int64) (z0 z1 : Nat) (g : Nat → Int32) (cd sy : Nat → Int32) (fo : Bool) (mk bd : Nat) (o1 m1 b1 : Int32) (p0 p1 sl : Nat) (l1 : Int32) (hn : z0 ≤ 2640) (hb : ∀ i, i < z0 → g i = 0 ∨ g i = 1) (hp : p0 ≤ z0) (hm9 : mk < 4) (hT : tbOK cd sy) (hg9 : gd < 4) (hc2 : ¬ z0 - p0 < 10) : xC l E y_M_receive (.code y_M_receive prog_10_method_18_code 2 (some .int)) rm_M_receive_5 [.ref hm] [(hm, .inr (5, [.int (re), .ref ms, .ref mf, .ref mc, .ref my, .ref mb, .ref mz, .ref mp, .ref mo, .ref mm, .ref ml, .ref md, .int (nI (wr)), .int (bI sp), .int (bI rp), .int (bI fi), .int (nI (gd)), .ref me, .ref mg, .int (la), .int (nI 0), .long (lst), .int 0])), (mc, .inl (E.2 1, 1024, .inl (cd))), (my, .inl (E.2 1, 1024, .inl (sy))), (mb, .inl (E.2 1, 5280, .inl (g))), (mz, .inl (E.2 1, 2, .inl (pr2 (nI (z0)) (nI (z1))))), (mp, .inl (E.2 1, 2, .inl (pr2 (nI (p0)) (nI (p1))))), (mo, .inl (E.2 3, 2, .inl (pr2 (bI true) (o1)))), (mm, .inl (E.2 1, 2, .inl (pr2 (nI (mk)) (m1)))), (ml, .inl (E.2 1, 2, .inl (pr2 (nI (sl)) (l1)))), (md, .inl (E.2 1, 2, .inl (pr2 (nI (bd)) (b1))))] (xRet (some (.int (tkR (ahN g p0 10) rp fi))) [(hm, .inr (5, [.int (nI 0), .ref ms, .ref mf, .ref mc, .ref my, .ref mb, .ref mz, .ref mp, .ref mo, .ref mm, .ref ml, .ref md, .int (nI (wr + (if (tkK (ahN g p0 10) rp fi) = 2 then 1 else 0))), .int (bI sp), .int (bI (tkP (ahN g p0 10) rp fi)), .int (nI 0), .int (nI (tkW gd (tkK (ahN g p0 10) rp fi))), .ref me, .ref mg, .int (la), .int (nI 0), .long (lst), .int 0])), (mc, .inl (E.2 1, 1024, .inl (cd))), (my, .inl (E.2 1, 1024, .inl (sy))), (mb, .inl (E.2 1, 5280, .inl (g))), (mz, .inl (E.2 1, 2, .inl (pr2 (nI (z0)) (nI (z1))))), (mp, .inl (E.2 1, 2, .inl (pr2 (nI (p0 + 10)) (nI (p1))))), (mo, .inl (E.2 3, 2, .inl (pr2 (bI (tkO true mk (tkK (ahN g p0 10) rp fi))) (o1)))), (mm, .inl (E.2 1, 2, .inl (pr2 (nI (tkM mk gd (tkK (ahN g p0 10) rp fi))) (m1)))), (ml, .inl (E.2 1, 2, .inl (pr2 (nI (sl)) (l1)))), (md, .inl (E.2 1, 2, .inl (pr2 (nI (bd + (if (tkK (ahN g p0 10) rp fi) = 1 then 1 else 0))) (b1))))]) := by
  refine x_of' (own := "LineCoderModel") (mn := "receive") (lv := [(0, .ref hm)]) (plainFor_of_name (by decide)) rfl rfl (Nat.le_of_ble_eq_true rfl) rfl ?_
  intro p_ e_ s_ m_ ar_ be_ me_ c_ A_ hA hB
  refine x_aload_n 1 hB d_M_receive_0 rfl rfl ?_
  refine x_iconst (v := nI 0) 2 hB d_M_receive_1 rfl (by decide) ?_
  refine x_put 5 hB 0 (ws' := [(hm, .inr (5, [.int (nI 0), .ref ms, .ref mf, .ref mc, .ref my, .ref mb, .ref mz, .ref mp, .ref mo, .ref mm, .ref ml, .ref md, .int (nI (wr)), .int (bI sp), .int (bI rp), .int (bI fi), .int (nI (gd)), .ref me, .ref mg, .int (la), .int (nI 0), .long (lst), .int 0])), (mc, .inl (E.2 1, 1024, .inl (cd))), (my, .inl (E.2 1, 1024, .inl (sy))), (mb, .inl (E.2 1, 5280, .inl (g))), (mz, .inl (E.2 1, 2, .inl (pr2 (nI (z0)) (nI (z1))))), (mp, .inl (E.2 1, 2, .inl (pr2 (nI (p0)) (nI (p1))))), (mo, .inl (E.2 3, 2, .inl (pr2 (bI true) (o1)))), (mm, .inl (E.2 1, 2, .inl (pr2 (nI (mk)) (m1)))), (ml, .inl (E.2 1, 2, .inl (pr2 (nI (sl)) (l1)))), (md, .inl (E.2 1, 2, .inl (pr2 (nI (bd)) (b1))))]) fp_M_61_5 rfl (rfl) (rfl) (Nat.le_of_ble_eq_true rfl) rfl d_M_receive_2 rfl ?_
  refine x_aload_n 6 hB d_M_receive_5 rfl rfl ?_
  refine x_get 9 hB 0 fg_M_31_5 rfl rfl d_M_receive_6 rfl ?_
  refine x_iconst (v := nI 0) 10 hB d_M_receive_9 rfl (by decide) ?_
  refine x_zald 11 hB 6 rfl (by omega) (by decide) d_M_receive_10 rfl ?_
  refine x_top (v' := .int (bI true)) rfl ?_
  refine x_if_ne 99 14 hB d_M_receive_11 (by decide) rfl (fun _ => ?_) (fun hc => absurd hc (by decide))
  refine x_aload_n 100 hB d_M_receive_99 rfl rfl ?_
  refine x_get 103 hB 0 fg_M_25_5 rfl rfl d_M_receive_100 rfl ?_
  refine x_iconst (v := nI 0) 104 hB d_M_receive_103 rfl (by decide) ?_
  refine x_iald 105 hB 4 rfl (by omega) (by decide) d_M_receive_104 rfl ?_
  refine x_top (v' := .int (nI (z0))) rfl ?_
  refine x_aload_n 106 hB d_M_receive_105 rfl rfl ?_
  refine x_get 109 hB 0 fg_M_28_5 rfl rfl d_M_receive_106 rfl ?_
  refine x_iconst (v := nI 0) 110 hB d_M_receive_109 rfl (by decide) ?_
  refine x_iald 111 hB 5 rfl (by omega) (by decide) d_M_receive_110 rfl ?_
  refine x_top (v' := .int (nI (p0))) rfl ?_
  refine x_isub 112 hB d_M_receive_111 rfl ?_
  refine x_top (v' := .int (nI (z0 - p0))) (congrArg Value.int (pk_sub (by omega))) ?_
  refine x_bipush (v := nI 10) 114 hB d_M_receive_112 rfl (by decide) ?_
  refine x_icmp_ge 119 117 hB d_M_receive_114 (by decide) rfl (fun _ => ?_) (fun hc => absurd (nI_le (by omega) (by omega)) hc)
  refine x_aload_n 120 hB d_M_receive_119 rfl rfl ?_
  refine x_aload_n 121 hB d_M_receive_120 rfl rfl ?_
  refine x_get 124 hB 0 fg_M_28_5 rfl rfl d_M_receive_121 rfl ?_
  refine x_iconst (v := nI 0) 125 hB d_M_receive_124 rfl (by decide) ?_
  refine x_iald 126 hB 5 rfl (by omega) (by decide) d_M_receive_125 rfl ?_
  refine x_top (v' := .int (nI (p0))) rfl ?_
  refine x_bipush (v := nI 10) 128 hB d_M_receive_126 rfl (by decide) ?_
  refine x_callP (k' := 0) (n' := 0) (rest := []) (st' := [.int (nI (ahN g p0 10))]) 131 hB (x_pfV (av := [.int (nI (p0)), .int (nI 10)]) (q0 := 0) hB w_738 xHd_code w_735 w_737 s_M_bitsAt rfl rfl nm_M_bitsAt rfl d_M_receive_128) (c_M_bitsAt l E hm ms mf mc my mb mz mp mo mm ml md me mg (nI 0) (wr) (sp) (rp) (fi) (gd) (la) (lst) g p0 10 (by omega) (by omega) (fun i h => hb (p0 + i) (by omega))) w_738 xHd_code w_7 [0, 3] rfl rfl ⟨by decide, by decide⟩ ⟨by decide, by decide⟩ rfl rfl (Nat.le_of_ble_eq_true rfl) d_M_receive_128 rfl rfl ?_
  refine x_istore_n 132 hB d_M_receive_131 rfl (by decide) (lv' := [(1, .int (nI (ahN g p0 10))), (0, .ref hm)]) rfl ?_
  refine x_aload_n 133 hB d_M_receive_132 rfl rfl ?_
  refine x_get 136 hB 0 fg_M_28_5 rfl rfl d_M_receive_133 rfl ?_
  refine x_iconst (v := nI 0) 137 hB d_M_receive_136 rfl (by decide) ?_
  refine x_aload_n 138 hB d_M_receive_137 rfl rfl ?_
  refine x_get 141 hB 0 fg_M_28_5 rfl rfl d_M_receive_138 rfl ?_
  refine x_iconst (v := nI 0) 142 hB d_M_receive_141 rfl (by decide) ?_
  refine x_iald 143 hB 5 rfl (by omega) (by decide) d_M_receive_142 rfl ?_
  refine x_top (v' := .int (nI (p0))) rfl ?_
  refine x_bipush (v := nI 10) 145 hB d_M_receive_143 rfl (by decide) ?_
  refine x_iadd 146 hB d_M_receive_145 rfl ?_
  refine x_top (v' := .int (nI (p0 + 10))) (congrArg Value.int (nI_add p0 10)) ?_
  refine x_iast 147 hB 5 (ws' := [(hm, .inr (5, [.int (nI 0), .ref ms, .ref mf, .ref mc, .ref my, .ref mb, .ref mz, .ref mp, .ref mo, .ref mm, .ref ml, .ref md, .int (nI (wr)), .int (bI sp), .int (bI rp), .int (bI fi), .int (nI (gd)), .ref me, .ref mg, .int (la), .int (nI 0), .long (lst), .int 0])), (mc, .inl (E.2 1, 1024, .inl (cd))), (my, .inl (E.2 1, 1024, .inl (sy))), (mb, .inl (E.2 1, 5280, .inl (g))), (mz, .inl (E.2 1, 2, .inl (pr2 (nI (z0)) (nI (z1))))), (mp, .inl (E.2 1, 2, .inl (pr2 (nI (p0 + 10)) (nI (p1))))), (mo, .inl (E.2 3, 2, .inl (pr2 (bI true) (o1)))), (mm, .inl (E.2 1, 2, .inl (pr2 (nI (mk)) (m1)))), (ml, .inl (E.2 1, 2, .inl (pr2 (nI (sl)) (l1)))), (md, .inl (E.2 1, 2, .inl (pr2 (nI (bd)) (b1))))]) rfl (by omega) (by decide) (x' := nI (p0 + 10)) (rfl) (by rw [pr2_0]; rfl) d_M_receive_146 rfl ?_
  refine x_aload_n 148 hB d_M_receive_147 rfl rfl ?_
  refine x_iload_n 149 hB d_M_receive_148 rfl rfl ?_
  refine x_callD (k' := 0) (n' := 0) (rest := []) (wr := [(mb, .inl (E.2 1, 5280, .inl (g))), (mz, .inl (E.2 1, 2, .inl (pr2 (nI (z0)) (nI (z1))))), (mp, .inl (E.2 1, 2, .inl (pr2 (nI (p0 + 10)) (nI (p1))))), (ml, .inl (E.2 1, 2, .inl (pr2 (nI (sl)) (l1))))]) (ws' := [(mb, .inl (E.2 1, 5280, .inl (g))), (mz, .inl (E.2 1, 2, .inl (pr2 (nI (z0)) (nI (z1))))), (mp, .inl (E.2 1, 2, .inl (pr2 (nI (p0 + 10)) (nI (p1))))), (ml, .inl (E.2 1, 2, .inl (pr2 (nI (sl)) (l1)))), (hm, .inr (5, [.int (nI 0), .ref ms, .ref mf, .ref mc, .ref my, .ref mb, .ref mz, .ref mp, .ref mo, .ref mm, .ref ml, .ref md, .int (nI (wr + (if (tkK (ahN g p0 10) rp fi) = 2 then 1 else 0))), .int (bI sp), .int (bI (tkP (ahN g p0 10) rp fi)), .int (nI 0), .int (nI (tkW gd (tkK (ahN g p0 10) rp fi))), .ref me, .ref mg, .int (la), .int (nI 0), .long (lst), .int 0])), (mc, .inl (E.2 1, 1024, .inl (cd))), (my, .inl (E.2 1, 1024, .inl (sy))), (mo, .inl (E.2 3, 2, .inl (pr2 (bI (tkO true mk (tkK (ahN g p0 10) rp fi))) (o1)))), (mm, .inl (E.2 1, 2, .inl (pr2 (nI (tkM mk gd (tkK (ahN g p0 10) rp fi))) (m1)))), (md, .inl (E.2 1, 2, .inl (pr2 (nI (bd + (if (tkK (ahN g p0 10) rp fi) = 1 then 1 else 0))) (b1))))]) (st' := [.int (tkR (ahN g p0 10) rp fi)]) 152 hB (x_pfV (av := [.int (nI (ahN g p0 10))]) (q0 := 0) hB w_742 xHd_code w_739 w_741 s_M_taken rfl rfl nm_M_taken rfl d_M_receive_149) (c_M_taken l E hm ms mf mc my mb mz mp mo mm ml md me mg (nI 0) (wr) (sp) (rp) (fi) (gd) (la) (lst) cd sy true mk bd o1 m1 b1 (ahN g p0 10) (ahN_lt g p0 10) hm9 (hg9) hT) w_742 xHd_code w_7 [0, 1, 2, 6, 7, 9] [3, 4, 5, 8] rfl rfl rfl rfl (by decide) ⟨by decide, by decide⟩ ⟨by decide, by decide⟩ rfl rfl (Nat.le_of_ble_eq_true rfl) d_M_receive_149 rfl rfl rfl ?_
  exact x_iret hB (w' := [(hm, .inr (5, [.int (nI 0), .ref ms, .ref mf, .ref mc, .ref my, .ref mb, .ref mz, .ref mp, .ref mo, .ref mm, .ref ml, .ref md, .int (nI (wr + (if (tkK (ahN g p0 10) rp fi) = 2 then 1 else 0))), .int (bI sp), .int (bI (tkP (ahN g p0 10) rp fi)), .int (nI 0), .int (nI (tkW gd (tkK (ahN g p0 10) rp fi))), .ref me, .ref mg, .int (la), .int (nI 0), .long (lst), .int 0])), (mc, .inl (E.2 1, 1024, .inl (cd))), (my, .inl (E.2 1, 1024, .inl (sy))), (mb, .inl (E.2 1, 5280, .inl (g))), (mz, .inl (E.2 1, 2, .inl (pr2 (nI (z0)) (nI (z1))))), (mp, .inl (E.2 1, 2, .inl (pr2 (nI (p0 + 10)) (nI (p1))))), (mo, .inl (E.2 3, 2, .inl (pr2 (bI (tkO true mk (tkK (ahN g p0 10) rp fi))) (o1)))), (mm, .inl (E.2 1, 2, .inl (pr2 (nI (tkM mk gd (tkK (ahN g p0 10) rp fi))) (m1)))), (ml, .inl (E.2 1, 2, .inl (pr2 (nI (sl)) (l1)))), (md, .inl (E.2 1, 2, .inl (pr2 (nI (bd + (if (tkK (ahN g p0 10) rp fi) = 1 then 1 else 0))) (b1))))]) hA [4, 5, 6, 0, 1, 2, 7, 8, 3, 9] rfl rfl (xRet_i) (by decide) (by decide) d_M_receive_152
set_option maxHeartbeats 4000000 in
theorem c_M_receive (l : Launch) (E : xE) (hm ms mf mc my mb mz mp mo mm ml md me mg : Nat) (re : Int32) (wr : Nat) (sp rp fi : Bool) (gd : Nat) (la : Int32) (lst : Int64) (z0 z1 : Nat) (g : Nat → Int32) (cd sy : Nat → Int32) (fo : Bool) (mk bd : Nat) (o1 m1 b1 : Int32) (p0 p1 sl : Nat) (l1 : Int32) (hn : z0 ≤ 2640) (hb : ∀ i, i < z0 → g i = 0 ∨ g i = 1) (hp : p0 ≤ z0) (hm9 : mk < 4) (hT : tbOK cd sy) (hg9 : gd < 4) (hg0 : fo = false → gd = 0) : xC l E y_M_receive (.code y_M_receive prog_10_method_18_code 2 (some .int)) rm_M_receive_0 [.ref hm] [(hm, .inr (5, [.int (re), .ref ms, .ref mf, .ref mc, .ref my, .ref mb, .ref mz, .ref mp, .ref mo, .ref mm, .ref ml, .ref md, .int (nI (wr)), .int (bI sp), .int (bI rp), .int (bI fi), .int (nI (gd)), .ref me, .ref mg, .int (la), .int (nI 0), .long (lst), .int 0])), (mc, .inl (E.2 1, 1024, .inl (cd))), (my, .inl (E.2 1, 1024, .inl (sy))), (mb, .inl (E.2 1, 5280, .inl (g))), (mz, .inl (E.2 1, 2, .inl (pr2 (nI (z0)) (nI (z1))))), (mp, .inl (E.2 1, 2, .inl (pr2 (nI (p0)) (nI (p1))))), (mo, .inl (E.2 3, 2, .inl (pr2 (bI fo) (o1)))), (mm, .inl (E.2 1, 2, .inl (pr2 (nI (mk)) (m1)))), (ml, .inl (E.2 1, 2, .inl (pr2 (nI (sl)) (l1)))), (md, .inl (E.2 1, 2, .inl (pr2 (nI (bd)) (b1))))] (xRet (some (.int (rcR (rcC g z0 p0 fo) (ahN g p0 10) rp fi))) [(hm, .inr (5, [.int (nI 0), .ref ms, .ref mf, .ref mc, .ref my, .ref mb, .ref mz, .ref mp, .ref mo, .ref mm, .ref ml, .ref md, .int (nI (rcN 2 (rcC g z0 p0 fo) (ahN g p0 10) rp fi wr)), .int (bI sp), .int (bI (rcP (rcC g z0 p0 fo) (ahN g p0 10) rp fi)), .int (bI (rcF (rcC g z0 p0 fo) fi)), .int (nI (rcW (rcC g z0 p0 fo) (ahN g p0 10) rp fi gd)), .ref me, .ref mg, .int (la), .int (nI 0), .long (lst), .int 0])), (mc, .inl (E.2 1, 1024, .inl (cd))), (my, .inl (E.2 1, 1024, .inl (sy))), (mb, .inl (E.2 1, 5280, .inl (g))), (mz, .inl (E.2 1, 2, .inl (pr2 (nI (z0)) (nI (z1))))), (mp, .inl (E.2 1, 2, .inl (pr2 (nI (rcL (rcC g z0 p0 fo) p0)) (nI (p1))))), (mo, .inl (E.2 3, 2, .inl (pr2 (bI (rcO (rcC g z0 p0 fo) (ahN g p0 10) rp fi mk)) (o1)))), (mm, .inl (E.2 1, 2, .inl (pr2 (nI (rcM (rcC g z0 p0 fo) (ahN g p0 10) rp fi mk gd)) (m1)))), (ml, .inl (E.2 1, 2, .inl (pr2 (nI (rcS (rcC g z0 p0 fo) sl)) (l1)))), (md, .inl (E.2 1, 2, .inl (pr2 (nI (rcN 1 (rcC g z0 p0 fo) (ahN g p0 10) rp fi bd)) (b1))))]) := by
  cases fo with
  | false =>
    have hg : gd = 0 := hg0 rfl
    subst hg
    by_cases hc : z0 - p0 < 7
    · have e : rcC g z0 p0 false = 0 := by simp [rcC, hc]
      rw [e]
      exact c_M_receive_0 l E hm ms mf mc my mb mz mp mo mm ml md me mg re wr sp rp fi 0 la lst z0 z1 g cd sy false mk bd o1 m1 b1 p0 p1 sl l1 hn hb hp hc
    · by_cases hM : ahN g p0 7 = 31 ∨ ahN g p0 7 = 96
      · by_cases hc2 : z0 - p0 < 10
        · have e : rcC g z0 p0 false = 2 := by simp [rcC, hc, atM, hM, hc2]
          rw [e]
          exact c_M_receive_2 l E hm ms mf mc my mb mz mp mo mm ml md me mg re wr sp rp fi 0 la lst z0 z1 g cd sy false mk bd o1 m1 b1 p0 p1 sl l1 hn hb hp hc hc2 hM
        · have e : rcC g z0 p0 false = 3 := by simp [rcC, hc, atM, hM, hc2]
          rw [e]
          exact c_M_receive_3 l E hm ms mf mc my mb mz mp mo mm ml md me mg re wr sp rp fi 0 la lst z0 z1 g cd sy false mk bd o1 m1 b1 p0 p1 sl l1 hn hb hp hm9 hT hc2 hM
      · have e : rcC g z0 p0 false = 1 := by simp [rcC, hc, atM, hM]
        rw [e]
        exact c_M_receive_1 l E hm ms mf mc my mb mz mp mo mm ml md me mg re wr sp rp fi 0 la lst z0 z1 g cd sy false mk bd o1 m1 b1 p0 p1 sl l1 hn hb hp hc hM
  | true =>
    by_cases hc2 : z0 - p0 < 10
    · have e : rcC g z0 p0 true = 4 := by simp [rcC, hc2]
      rw [e]
      exact c_M_receive_4 l E hm ms mf mc my mb mz mp mo mm ml md me mg re wr sp rp fi gd la lst z0 z1 g cd sy true mk bd o1 m1 b1 p0 p1 sl l1 hn hb hp hc2
    · have e : rcC g z0 p0 true = 5 := by simp [rcC, hc2]
      rw [e]
      exact c_M_receive_5 l E hm ms mf mc my mb mz mp mo mm ml md me mg re wr sp rp fi gd la lst z0 z1 g cd sy true mk bd o1 m1 b1 p0 p1 sl l1 hn hb hp hm9 hT hg9 hc2
