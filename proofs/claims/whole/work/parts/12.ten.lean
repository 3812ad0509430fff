abbrev rm_JI_bitCount : Room := { frames := 0, cells := 0, slots := 0, locals := 0 }
set_option maxHeartbeats 4000000 in
set_option maxRecDepth 100000 in
theorem c_JI_bitCount (l : Launch) (E : xE) (x : Int32) : xCp l E y_JI_bitCount (.code y_JI_bitCount prog_15_method_49_code 1 (some .int)) rm_JI_bitCount [.int (x)] [] (.inl (some (.int (bcF x)))) := by
  refine x_ofP (own := "java/lang/Integer") (mn := "bitCount") (lv := [(0, .int (x))]) (by decide +kernel) rfl rfl (Nat.le_of_ble_eq_true rfl) rfl ?_
  intro p_ e_ s_ m_ ar_ be_ me_ c_ hB
  refine x_iload_n 1 hB d_JI_bitCount_0 rfl rfl ?_
  refine x_iload_n 2 hB d_JI_bitCount_1 rfl rfl ?_
  refine x_iconst (v := nI 1) 3 hB d_JI_bitCount_2 rfl (by decide) ?_
  refine x_iushr (v := us x 1) 4 hB d_JI_bitCount_3 rfl (rfl) ?_
  refine x_ldcw 7 hB d_JI_bitCount_4 rfl w_211 ?_
  refine x_iand 8 hB d_JI_bitCount_7 rfl ?_
  refine x_isub 9 hB d_JI_bitCount_8 rfl ?_
  refine x_top (v' := .int (bc1 x)) (congrArg Value.int (rfl)) ?_
  refine x_istore_n 10 hB d_JI_bitCount_9 rfl (by decide) (lv' := [(0, .int (bc1 x))]) rfl ?_
  refine x_iload_n 11 hB d_JI_bitCount_10 rfl rfl ?_
  refine x_ldcw 14 hB d_JI_bitCount_11 rfl w_212 ?_
  refine x_iand 15 hB d_JI_bitCount_14 rfl ?_
  refine x_iload_n 16 hB d_JI_bitCount_15 rfl rfl ?_
  refine x_iconst (v := nI 2) 17 hB d_JI_bitCount_16 rfl (by decide) ?_
  refine x_iushr (v := us (bc1 x) 2) 18 hB d_JI_bitCount_17 rfl (rfl) ?_
  refine x_ldcw 21 hB d_JI_bitCount_18 rfl w_212 ?_
  refine x_iand 22 hB d_JI_bitCount_21 rfl ?_
  refine x_iadd 23 hB d_JI_bitCount_22 rfl ?_
  refine x_top (v' := .int (bc2 (bc1 x))) (congrArg Value.int (rfl)) ?_
  refine x_istore_n 24 hB d_JI_bitCount_23 rfl (by decide) (lv' := [(0, .int (bc2 (bc1 x)))]) rfl ?_
  refine x_iload_n 25 hB d_JI_bitCount_24 rfl rfl ?_
  refine x_iload_n 26 hB d_JI_bitCount_25 rfl rfl ?_
  refine x_iconst (v := nI 4) 27 hB d_JI_bitCount_26 rfl (by decide) ?_
  refine x_iushr (v := us (bc2 (bc1 x)) 4) 28 hB d_JI_bitCount_27 rfl (rfl) ?_
  refine x_iadd 29 hB d_JI_bitCount_28 rfl ?_
  refine x_ldcw 32 hB d_JI_bitCount_29 rfl w_213 ?_
  refine x_iand 33 hB d_JI_bitCount_32 rfl ?_
  refine x_top (v' := .int (bc3 (bc2 (bc1 x)))) (congrArg Value.int (rfl)) ?_
  refine x_istore_n 34 hB d_JI_bitCount_33 rfl (by decide) (lv' := [(0, .int (bc3 (bc2 (bc1 x))))]) rfl ?_
  refine x_iload_n 35 hB d_JI_bitCount_34 rfl rfl ?_
  refine x_iload_n 36 hB d_JI_bitCount_35 rfl rfl ?_
  refine x_bipush (v := nI 8) 38 hB d_JI_bitCount_36 rfl (by decide) ?_
  refine x_iushr (v := us (bc3 (bc2 (bc1 x))) 8) 39 hB d_JI_bitCount_38 rfl (rfl) ?_
  refine x_iadd 40 hB d_JI_bitCount_39 rfl ?_
  refine x_top (v' := .int (bc4 (bc3 (bc2 (bc1 x))))) (congrArg Value.int (rfl)) ?_
  refine x_istore_n 41 hB d_JI_bitCount_40 rfl (by decide) (lv' := [(0, .int (bc4 (bc3 (bc2 (bc1 x)))))]) rfl ?_
  refine x_iload_n 42 hB d_JI_bitCount_41 rfl rfl ?_
  refine x_iload_n 43 hB d_JI_bitCount_42 rfl rfl ?_
  refine x_bipush (v := nI 16) 45 hB d_JI_bitCount_43 rfl (by decide) ?_
  refine x_iushr (v := us (bc4 (bc3 (bc2 (bc1 x)))) 16) 46 hB d_JI_bitCount_45 rfl (rfl) ?_
  refine x_iadd 47 hB d_JI_bitCount_46 rfl ?_
  refine x_top (v' := .int (bc5 (bc4 (bc3 (bc2 (bc1 x)))))) (congrArg Value.int (rfl)) ?_
  refine x_istore_n 48 hB d_JI_bitCount_47 rfl (by decide) (lv' := [(0, .int (bc5 (bc4 (bc3 (bc2 (bc1 x))))))]) rfl ?_
  refine x_iload_n 49 hB d_JI_bitCount_48 rfl rfl ?_
  refine x_bipush (v := nI 63) 51 hB d_JI_bitCount_49 rfl (by decide) ?_
  refine x_iand 52 hB d_JI_bitCount_51 rfl ?_
  refine x_top (v' := .int (bcF x)) (congrArg Value.int (rfl)) ?_
  exact x_iretP hB (rfl) (by decide) (by decide) d_JI_bitCount_52
abbrev rm_K_isAmong : Room := { frames := 0, cells := 0, slots := 0, locals := 0 }
set_option maxHeartbeats 4000000 in
set_option maxRecDepth 100000 in
theorem c_K_isAmong (l : Launch) (E : xE) (x : Nat) (z : Int32) : xCp l E y_K_isAmong (.code y_K_isAmong prog_5_method_6_code 2 (some .boolean)) rm_K_isAmong [.int (nI (x)), .int (z)] [] (.inl (some (.int (bI (decide (xbit z x = nI 1)))))) := by
  refine x_ofP (own := "LineCoder$TenCode") (mn := "isAmong") (lv := [(0, .int (nI (x))), (1, .int (z))]) (plainFor_of_name (by decide)) rfl rfl (Nat.le_of_ble_eq_true rfl) rfl ?_
  intro p_ e_ s_ m_ ar_ be_ me_ c_ hB
  refine x_iload_n 1 hB d_K_isAmong_0 rfl rfl ?_
  refine x_iload_n 2 hB d_K_isAmong_1 rfl rfl ?_
  refine x_iushr (v := (z.toUInt32 >>> ((nI x).toUInt32 &&& Int32.toUInt32 31)).toInt32) 3 hB d_K_isAmong_2 rfl (rfl) ?_
  refine x_iconst (v := nI 1) 4 hB d_K_isAmong_3 rfl (by decide) ?_
  refine x_iand 5 hB d_K_isAmong_4 rfl ?_
  refine x_top (v' := .int (xbit z x)) (congrArg Value.int (rfl)) ?_
  refine x_iconst (v := nI 1) 6 hB d_K_isAmong_5 rfl (by decide) ?_
  refine x_icmp_ne 13 9 hB d_K_isAmong_6 (by decide) rfl (fun h6 => ?_) (fun h6 => ?_)
  · skip
    refine x_iconst (v := nI 0) 14 hB d_K_isAmong_13 rfl (by decide) ?_
    exact x_zretP hB (by decide) (sVe (bF0 (decide_eq_false h6))) (by decide) (by decide) d_K_isAmong_14
  · skip
    refine x_iconst (v := nI 1) 10 hB d_K_isAmong_9 rfl (by decide) ?_
    refine x_goto 14 hB d_K_isAmong_10 (by decide) ?_
    exact x_zretP hB (by decide) (sVe (bT (decide_eq_true h6))) (by decide) (by decide) d_K_isAmong_14
abbrev rm_K_isSymbol_out : Room := { frames := 0, cells := 0, slots := 0, locals := 0 }
set_option maxHeartbeats 4000000 in
set_option maxRecDepth 100000 in
theorem c_K_isSymbol_out (l : Launch) (E : xE) (k : Int32) (hk : k < 0 ∨ nI 512 ≤ k) : xCp l E y_K_isSymbol (.code y_K_isSymbol prog_5_method_2_code 3 (some .boolean)) rm_K_isSymbol_out [.int (k)] [] (.inl (some (.int (nI 0)))) := by
  refine x_ofP (own := "LineCoder$TenCode") (mn := "isSymbol") (lv := [(0, .int (k))]) (plainFor_of_name (by decide)) rfl rfl (Nat.le_of_ble_eq_true rfl) rfl ?_
  intro p_ e_ s_ m_ ar_ be_ me_ c_ hB
  refine x_iload_n 1 hB d_K_isSymbol_0 rfl rfl ?_
  refine x_if_lt 11 4 hB d_K_isSymbol_1 (by decide) rfl (fun h1 => ?_) (fun h1 => ?_)
  · skip
    refine x_iconst (v := nI 0) 12 hB d_K_isSymbol_11 rfl (by decide) ?_
    exact x_zretP hB (by decide) (rfl) (by decide) (by decide) d_K_isSymbol_12
  · skip
    refine x_iload_n 5 hB d_K_isSymbol_4 rfl rfl ?_
    refine x_sipush (v := nI 512) 8 hB d_K_isSymbol_5 rfl (by decide) ?_
    refine x_icmp_lt 13 11 hB d_K_isSymbol_8 (by decide) rfl (fun hc => absurd hc (fun h => absurd h (Int32.not_lt.mpr (hk.resolve_left h1)))) (fun _ => ?_)
    refine x_iconst (v := nI 0) 12 hB d_K_isSymbol_11 rfl (by decide) ?_
    exact x_zretP hB (by decide) (rfl) (by decide) (by decide) d_K_isSymbol_12
abbrev rm_K_isSymbol : Room := { frames := 1, cells := 0, slots := 0, locals := 21 }
set_option maxHeartbeats 4000000 in
set_option maxRecDepth 100000 in
theorem c_K_isSymbol (l : Launch) (E : xE) (s : Nat) (hs : s < 512) : xCp l E y_K_isSymbol (.code y_K_isSymbol prog_5_method_2_code 3 (some .boolean)) rm_K_isSymbol [.int (nI (s))] [] (.inl (some (.int (bI (isS s))))) := by
  refine x_ofP (own := "LineCoder$TenCode") (mn := "isSymbol") (lv := [(0, .int (nI (s)))]) (plainFor_of_name (by decide)) rfl rfl (Nat.le_of_ble_eq_true rfl) rfl ?_
  intro p_ e_ s_ m_ ar_ be_ me_ c_ hB
  refine x_iload_n 1 hB d_K_isSymbol_0 rfl rfl ?_
  refine x_if_lt 11 4 hB d_K_isSymbol_1 (by decide) rfl (fun hc => absurd hc (nI_pos (by omega))) (fun _ => ?_)
  refine x_iload_n 5 hB d_K_isSymbol_4 rfl rfl ?_
  refine x_sipush (v := nI 512) 8 hB d_K_isSymbol_5 rfl (by decide) ?_
  refine x_icmp_lt 13 11 hB d_K_isSymbol_8 (by decide) rfl (fun _ => ?_) (fun hc => absurd (nI_lt hs (by decide)) hc)
  refine x_iload_n 14 hB d_K_isSymbol_13 rfl rfl ?_
  refine x_bipush (v := nI 31) 16 hB d_K_isSymbol_14 rfl (by decide) ?_
  refine x_iand 17 hB d_K_isSymbol_16 rfl ?_
  refine x_top (v' := .int (nI (s % 32))) (congrArg Value.int (an31 hs)) ?_
  refine x_istore_n 18 hB d_K_isSymbol_17 rfl (by decide) (lv' := [(1, .int (nI (s % 32))), (0, .int (nI (s)))]) rfl ?_
  refine x_iload_n 19 hB d_K_isSymbol_18 rfl rfl ?_
  refine x_iconst (v := nI 5) 20 hB d_K_isSymbol_19 rfl (by decide) ?_
  refine x_ishr 21 hB d_K_isSymbol_20 rfl ?_
  refine x_top (v' := .int (nI (s / 32))) (congrArg Value.int (sh5 hs)) ?_
  refine x_bipush (v := nI 7) 23 hB d_K_isSymbol_21 rfl (by decide) ?_
  refine x_iand 24 hB d_K_isSymbol_23 rfl ?_
  refine x_top (v' := .int (nI (s / 32 % 8))) (congrArg Value.int (an7 (by omega))) ?_
  refine x_istore_n 25 hB d_K_isSymbol_24 rfl (by decide) (lv' := [(2, .int (nI (s / 32 % 8))), (1, .int (nI (s % 32))), (0, .int (nI (s)))]) rfl ?_
  refine x_iload_n 26 hB d_K_isSymbol_25 rfl rfl ?_
  refine x_sipush (v := nI 256) 29 hB d_K_isSymbol_26 rfl (by decide) ?_
  refine x_icmp_lt 53 32 hB d_K_isSymbol_29 (by decide) rfl (fun h29 => ?_) (fun h29 => ?_)
  · skip
    have k29 : s < 256 := (nI_ltI (by omega) (by omega)).mp h29
    refine x_iconst (v := nI 1) 54 hB d_K_isSymbol_53 rfl (by decide) ?_
    refine x_goto 58 hB d_K_isSymbol_54 (by decide) ?_
    exact x_zretP hB (by decide) (sVe (bT (by simp [isS, k29]))) (by decide) (by decide) d_K_isSymbol_58
  · skip
    have k29 : ¬ s < 256 := fun h => h29 ((nI_ltI (by omega) (by omega)).mpr h)
    refine x_iload_n 33 hB d_K_isSymbol_32 rfl rfl ?_
    refine x_bipush (v := nI 28) 35 hB d_K_isSymbol_33 rfl (by decide) ?_
    refine x_icmp_eq 53 38 hB d_K_isSymbol_35 (by decide) rfl (fun h35 => ?_) (fun h35 => ?_)
    · skip
      have k35 : s % 32 = 28 := (nI_eq (by omega) (by omega)).mp h35
      refine x_iconst (v := nI 1) 54 hB d_K_isSymbol_53 rfl (by decide) ?_
      refine x_goto 58 hB d_K_isSymbol_54 (by decide) ?_
      exact x_zretP hB (by decide) (sVe (bT (by simp [isS, k35]))) (by decide) (by decide) d_K_isSymbol_58
    · skip
      have k35 : ¬ s % 32 = 28 := fun h => h35 ((nI_eq (by omega) (by omega)).mpr h)
      refine x_iload_n 39 hB d_K_isSymbol_38 rfl rfl ?_
      refine x_bipush (v := nI 7) 41 hB d_K_isSymbol_39 rfl (by decide) ?_
      refine x_icmp_ne 57 44 hB d_K_isSymbol_41 (by decide) rfl (fun h41 => ?_) (fun h41 => ?_)
      · skip
        have k41 : ¬ s / 32 % 8 = 7 := fun h => h41 ((nI_eq (by omega) (by omega)).mpr h)
        refine x_iconst (v := nI 0) 58 hB d_K_isSymbol_57 rfl (by decide) ?_
        exact x_zretP hB (by decide) (sVe (bF0 (by simp [isS, k29, k35, k41]))) (by decide) (by decide) d_K_isSymbol_58
      · skip
        have k41 : s / 32 % 8 = 7 := (nI_eq (by omega) (by omega)).mp h41
        refine x_iload_n 45 hB d_K_isSymbol_44 rfl rfl ?_
        refine x_ldc 47 hB d_K_isSymbol_45 rfl w_217 ?_
        refine x_callP (k' := 0) (n' := 0) (rest := []) (st' := [.int (bI (decide (xbit 1753219072 (s % 32) = nI 1)))]) 50 hB (x_pfS (av := [.int (nI (s % 32)), .int (1753219072)]) hB w_220 xHd_code w_8 w_218 w_219 nm_K_isAmong rfl d_K_isSymbol_47) (c_K_isAmong l E (s % 32) 1753219072) w_220 xHd_code w_8 [] rfl rfl ⟨by decide, by decide⟩ ⟨by decide, by decide⟩ rfl rfl (Nat.le_of_ble_eq_true rfl) d_K_isSymbol_47 rfl rfl ?_
        refine x_if_eq 57 53 hB d_K_isSymbol_50 (by decide) rfl (fun h50 => ?_) (fun h50 => ?_)
        · skip
          have k50 := (not_congr (amg7 (s % 32) (by omega))).mp (of_decide_eq_false (bI_0 h50))
          refine x_iconst (v := nI 0) 58 hB d_K_isSymbol_57 rfl (by decide) ?_
          exact x_zretP hB (by decide) (sVe (bF0 (by simp only [isS, decide_eq_false k29, decide_eq_false k35, decide_eq_true k41, decide_eq_false k50]; rfl))) (by decide) (by decide) d_K_isSymbol_58
        · skip
          have k50 := (amg7 (s % 32) (by omega)).mp (of_decide_eq_true (bI_1 h50))
          refine x_iconst (v := nI 1) 54 hB d_K_isSymbol_53 rfl (by decide) ?_
          refine x_goto 58 hB d_K_isSymbol_54 (by decide) ?_
          exact x_zretP hB (by decide) (sVe (bT (by simp only [isS, decide_eq_false k29, decide_eq_false k35, decide_eq_true k41, decide_eq_true k50]; rfl))) (by decide) (by decide) d_K_isSymbol_58
abbrev rm_K_sixOf : Room := { frames := 1, cells := 0, slots := 0, locals := 20 }
set_option maxHeartbeats 4000000 in
set_option maxRecDepth 100000 in
theorem c_K_sixOf (l : Launch) (E : xE) (s : Nat) (hs : s < 512) (plus : Bool) : xCp l E y_K_sixOf (.code y_K_sixOf prog_5_method_8_code 5 (some .int)) rm_K_sixOf [.int (nI (s)), .int (bI plus)] [] (.inl (some (.int (nI (sixF s plus))))) := by
  refine x_ofP (own := "LineCoder$TenCode") (mn := "sixOf") (lv := [(0, .int (nI (s))), (1, .int (bI plus))]) (plainFor_of_name (by decide)) rfl rfl (Nat.le_of_ble_eq_true rfl) rfl ?_
  intro p_ e_ s_ m_ ar_ be_ me_ c_ hB
  refine x_iload_n 1 hB d_K_sixOf_0 rfl rfl ?_
  refine x_bipush (v := nI 31) 3 hB d_K_sixOf_1 rfl (by decide) ?_
  refine x_iand 4 hB d_K_sixOf_3 rfl ?_
  refine x_top (v' := .int (nI (s % 32))) (congrArg Value.int (an31 hs)) ?_
  refine x_istore_n 5 hB d_K_sixOf_4 rfl (by decide) (lv' := [(2, .int (nI (s % 32))), (0, .int (nI (s))), (1, .int (bI plus))]) rfl ?_
  refine x_join 28 (fun _u : Unit => True) (fun _u : Unit => []) (fun _u : Unit => [(0, .int (nI (s))), (1, .int (bI plus)), (2, .int (nI (s % 32)))]) (fun _u : Unit => [.int (nI (six0 s))]) (fun _u hJ28 => ?_) (fun J28 => ?_)
  · skip
    refine x_istore_n 29 hB d_K_sixOf_28 rfl (by decide) (lv' := [(3, .int (nI (six0 s))), (0, .int (nI (s))), (1, .int (bI plus)), (2, .int (nI (s % 32)))]) rfl ?_
    refine x_join 48 (fun _u : Unit => True) (fun _u : Unit => []) (fun _u : Unit => [(0, .int (nI (s))), (1, .int (bI plus)), (2, .int (nI (s % 32))), (3, .int (nI (six0 s)))]) (fun _u : Unit => [.int (bI (hp6 (six0 s)))]) (fun _u hJ48 => ?_) (fun J48 => ?_)
    · skip
      refine x_istore 50 hB d_K_sixOf_48 rfl (by decide) (lv' := [(4, .int (bI (hp6 (six0 s)))), (0, .int (nI (s))), (1, .int (bI plus)), (2, .int (nI (s % 32))), (3, .int (nI (six0 s)))]) rfl ?_
      refine x_iload_n 51 hB d_K_sixOf_50 rfl rfl ?_
      refine x_if_eq 66 54 hB d_K_sixOf_51 (by decide) rfl (fun h51 => ?_) (fun h51 => ?_)
      · skip
        have k51 : plus = false := bI_0 h51
        refine x_iload_n 67 hB d_K_sixOf_66 rfl rfl ?_
        exact x_iretP hB (sVe (by simp [sixF, k51])) (by decide) (by decide) d_K_sixOf_67
      · skip
        have k51 : plus = true := bI_1 h51
        refine x_iload 56 hB d_K_sixOf_54 rfl rfl ?_
        refine x_if_eq 66 59 hB d_K_sixOf_56 (by decide) rfl (fun h56 => ?_) (fun h56 => ?_)
        · skip
          have k56 : hp6 (six0 s) = false := bI_0 h56
          refine x_iload_n 67 hB d_K_sixOf_66 rfl rfl ?_
          exact x_iretP hB (sVe (by simp [sixF, k56])) (by decide) (by decide) d_K_sixOf_67
        · skip
          have k56 : hp6 (six0 s) = true := bI_1 h56
          refine x_iload_n 60 hB d_K_sixOf_59 rfl rfl ?_
          refine x_bipush (v := nI 63) 62 hB d_K_sixOf_60 rfl (by decide) ?_
          refine x_ixor 63 hB d_K_sixOf_62 rfl ?_
          refine x_top (v' := .int (nI (63 - six0 s))) (congrArg Value.int (xr63 _ (six0_lt s))) ?_
          refine x_goto 67 hB d_K_sixOf_63 (by decide) ?_
          exact x_iretP hB (sVe (by simp [sixF, k51, k56])) (by decide) (by decide) d_K_sixOf_67
    refine x_iload_n 30 hB d_K_sixOf_29 rfl rfl ?_
    refine x_callP (k' := 0) (n' := 0) (rest := []) (st' := [.int (bcF (nI (six0 s)))]) 33 hB (x_pfS (av := [.int (nI (six0 s))]) hB w_210 xHd_code w_13 w_208 w_209 nm_JI_bitCount rfl d_K_sixOf_30) (c_JI_bitCount l E (nI (six0 s))) w_210 xHd_code w_13 [] rfl rfl ⟨by decide, by decide⟩ ⟨by decide, by decide⟩ rfl rfl (Nat.le_of_ble_eq_true rfl) d_K_sixOf_30 rfl rfl ?_
    refine x_top (v' := .int (nI (pc6 (six0 s)))) (congrArg Value.int (bc_small _ (six0_lt s))) ?_
    refine x_iconst (v := nI 3) 34 hB d_K_sixOf_33 rfl (by decide) ?_
    refine x_icmp_ne 43 37 hB d_K_sixOf_34 (by decide) rfl (fun h34 => ?_) (fun h34 => ?_)
    · skip
      have k34 : ¬ pc6 (six0 s) = 3 := fun h => h34 (by rw [h])
      refine x_iconst (v := nI 1) 44 hB d_K_sixOf_43 rfl (by decide) ?_
      refine x_top (v' := .int (bI (hp6 (six0 s)))) (congrArg Value.int (bT (by simp [hp6, k34]))) ?_
      refine x_goto 48 hB d_K_sixOf_44 (by decide) ?_
      refine x_lv (lv' := [(0, .int (nI (s))), (1, .int (bI plus)), (2, .int (nI (s % 32))), (3, .int (nI (six0 s)))]) [1, 2, 3, 0] rfl ?_
      exact J48 () trivial
    · skip
      have k34 : pc6 (six0 s) = 3 := (nI_eq (by have := pc6_le (six0 s); omega) (by omega)).mp h34
      refine x_iload_n 38 hB d_K_sixOf_37 rfl rfl ?_
      refine x_bipush (v := nI 56) 40 hB d_K_sixOf_38 rfl (by decide) ?_
      refine x_icmp_ne 47 43 hB d_K_sixOf_40 (by decide) rfl (fun h40 => ?_) (fun h40 => ?_)
      · skip
        have k40 : ¬ six0 s = 56 := fun h => h40 (by rw [h])
        refine x_iconst (v := nI 0) 48 hB d_K_sixOf_47 rfl (by decide) ?_
        refine x_top (v' := .int (bI (hp6 (six0 s)))) (congrArg Value.int (bF0 (by simp [hp6, k34, k40]))) ?_
        refine x_lv (lv' := [(0, .int (nI (s))), (1, .int (bI plus)), (2, .int (nI (s % 32))), (3, .int (nI (six0 s)))]) [1, 2, 3, 0] rfl ?_
        exact J48 () trivial
      · skip
        have k40 : six0 s = 56 := (nI_eq (by have := six0_lt s; omega) (by omega)).mp h40
        refine x_iconst (v := nI 1) 44 hB d_K_sixOf_43 rfl (by decide) ?_
        refine x_top (v' := .int (bI (hp6 (six0 s)))) (congrArg Value.int (bT (by simp [hp6, k40]))) ?_
        refine x_goto 48 hB d_K_sixOf_44 (by decide) ?_
        refine x_lv (lv' := [(0, .int (nI (s))), (1, .int (bI plus)), (2, .int (nI (s % 32))), (3, .int (nI (six0 s)))]) [1, 2, 3, 0] rfl ?_
        exact J48 () trivial
  refine x_iload_n 6 hB d_K_sixOf_5 rfl rfl ?_
  refine x_sipush (v := nI 256) 9 hB d_K_sixOf_6 rfl (by decide) ?_
  refine x_icmp_lt 23 12 hB d_K_sixOf_9 (by decide) rfl (fun h9 => ?_) (fun h9 => ?_)
  · skip
    have k9 : s < 256 := (nI_ltI (by omega) (by omega)).mp h9
    refine x_gets 26 hB hB.qz.2.2.1 w_206 d_K_sixOf_23 rfl ?_
    refine x_iload_n 27 hB d_K_sixOf_26 rfl rfl ?_
    refine x_ti 28 hB hB.qz.2.2.2.1 (by omega) (by decide) d_K_sixOf_27 rfl ?_
    refine x_top (v' := .int (nI (six0 s))) (congrArg Value.int ((sixT_N _ (by omega)).trans (by rw [six0, if_neg (by omega)]))) ?_
    refine x_lv (lv' := [(0, .int (nI (s))), (1, .int (bI plus)), (2, .int (nI (s % 32)))]) [1, 2, 0] rfl ?_
    exact J28 () trivial
  · skip
    have k9 : ¬ s < 256 := fun h => h9 ((nI_ltI (by omega) (by omega)).mpr h)
    refine x_iload_n 13 hB d_K_sixOf_12 rfl rfl ?_
    refine x_bipush (v := nI 28) 15 hB d_K_sixOf_13 rfl (by decide) ?_
    refine x_icmp_ne 23 18 hB d_K_sixOf_15 (by decide) rfl (fun h15 => ?_) (fun h15 => ?_)
    · skip
      have k15 : ¬ s % 32 = 28 := fun h => h15 ((nI_eq (by omega) (by omega)).mpr h)
      refine x_gets 26 hB hB.qz.2.2.1 w_206 d_K_sixOf_23 rfl ?_
      refine x_iload_n 27 hB d_K_sixOf_26 rfl rfl ?_
      refine x_ti 28 hB hB.qz.2.2.2.1 (by omega) (by decide) d_K_sixOf_27 rfl ?_
      refine x_top (v' := .int (nI (six0 s))) (congrArg Value.int ((sixT_N _ (by omega)).trans (by rw [six0, if_neg (fun h => k15 h.2)]))) ?_
      refine x_lv (lv' := [(0, .int (nI (s))), (1, .int (bI plus)), (2, .int (nI (s % 32)))]) [1, 2, 0] rfl ?_
      exact J28 () trivial
    · skip
      have k15 : s % 32 = 28 := (nI_eq (by omega) (by omega)).mp h15
      refine x_bipush (v := nI 15) 20 hB d_K_sixOf_18 rfl (by decide) ?_
      refine x_top (v' := .int (nI (six0 s))) (congrArg Value.int (by rw [six0, if_pos ⟨by omega, k15⟩])) ?_
      refine x_goto 28 hB d_K_sixOf_20 (by decide) ?_
      refine x_lv (lv' := [(0, .int (nI (s))), (1, .int (bI plus)), (2, .int (nI (s % 32)))]) [1, 2, 0] rfl ?_
      exact J28 () trivial
abbrev rm_K_fourOf : Room := { frames := 1, cells := 0, slots := 0, locals := 21 }
set_option maxHeartbeats 4000000 in
set_option maxRecDepth 100000 in
theorem c_K_fourOf (l : Launch) (E : xE) (s : Nat) (hs : s < 512) (plus : Bool) : xCp l E y_K_fourOf (.code y_K_fourOf prog_5_method_9_code 8 (some .int)) rm_K_fourOf [.int (nI (s)), .int (bI plus)] [] (.inl (some (.int (nI (fourF s plus))))) := by
  refine x_ofP (own := "LineCoder$TenCode") (mn := "fourOf") (lv := [(0, .int (nI (s))), (1, .int (bI plus))]) (plainFor_of_name (by decide)) rfl rfl (Nat.le_of_ble_eq_true rfl) rfl ?_
  intro p_ e_ s_ m_ ar_ be_ me_ c_ hB
  refine x_iload_n 1 hB d_K_fourOf_0 rfl rfl ?_
  refine x_iconst (v := nI 5) 2 hB d_K_fourOf_1 rfl (by decide) ?_
  refine x_ishr 3 hB d_K_fourOf_2 rfl ?_
  refine x_top (v' := .int (nI (s / 32))) (congrArg Value.int (sh5 hs)) ?_
  refine x_bipush (v := nI 7) 5 hB d_K_fourOf_3 rfl (by decide) ?_
  refine x_iand 6 hB d_K_fourOf_5 rfl ?_
  refine x_top (v' := .int (nI (s / 32 % 8))) (congrArg Value.int (an7 (by omega))) ?_
  refine x_istore_n 7 hB d_K_fourOf_6 rfl (by decide) (lv' := [(2, .int (nI (s / 32 % 8))), (0, .int (nI (s))), (1, .int (bI plus))]) rfl ?_
  refine x_join 19 (fun _u : Unit => True) (fun _u : Unit => []) (fun _u : Unit => [(0, .int (nI (s))), (1, .int (bI plus)), (2, .int (nI (s / 32 % 8)))]) (fun _u : Unit => [.int (bI (decide (256 ≤ s)))]) (fun _u hJ19 => ?_) (fun J19 => ?_)
  · skip
    refine x_istore_n 20 hB d_K_fourOf_19 rfl (by decide) (lv' := [(3, .int (bI (decide (256 ≤ s)))), (0, .int (nI (s))), (1, .int (bI plus)), (2, .int (nI (s / 32 % 8)))]) rfl ?_
    refine x_join 32 (fun _u : Unit => True) (fun _u : Unit => []) (fun _u : Unit => [(0, .int (nI (s))), (1, .int (bI plus)), (2, .int (nI (s / 32 % 8))), (3, .int (bI (decide (256 ≤ s))))]) (fun _u : Unit => [.int (othS plus)]) (fun _u hJ32 => ?_) (fun J32 => ?_)
    · skip
      refine x_istore 34 hB d_K_fourOf_32 rfl (by decide) (lv' := [(4, .int (othS plus)), (0, .int (nI (s))), (1, .int (bI plus)), (2, .int (nI (s / 32 % 8))), (3, .int (bI (decide (256 ≤ s))))]) rfl ?_
      refine x_gets 37 hB hB.qz.2.2.2.2.1 w_231 d_K_fourOf_34 rfl ?_
      refine x_iload_n 38 hB d_K_fourOf_37 rfl rfl ?_
      refine x_ti 39 hB hB.qz.2.2.2.2.2 (by omega) (by decide) d_K_fourOf_38 rfl ?_
      refine x_top (v' := .int (nI (fourN (s / 32 % 8)))) (congrArg Value.int (fourT_N _ (by omega))) ?_
      refine x_istore 41 hB d_K_fourOf_39 rfl (by decide) (lv' := [(5, .int (nI (fourN (s / 32 % 8)))), (4, .int (othS plus)), (0, .int (nI (s))), (1, .int (bI plus)), (2, .int (nI (s / 32 % 8))), (3, .int (bI (decide (256 ≤ s))))]) rfl ?_
      refine x_join 67 (fun _u : Unit => True) (fun _u : Unit => []) (fun _u : Unit => [(0, .int (nI (s))), (1, .int (bI plus)), (2, .int (nI (s / 32 % 8))), (3, .int (bI (decide (256 ≤ s)))), (4, .int (othS plus)), (5, .int (nI (four0 s plus)))]) (fun _u : Unit => []) (fun _u hJ67 => ?_) (fun J67 => ?_)
      · skip
        refine x_join 88 (fun _u : Unit => True) (fun _u : Unit => []) (fun _u : Unit => [(0, .int (nI (s))), (1, .int (bI plus)), (2, .int (nI (s / 32 % 8))), (3, .int (bI (decide (256 ≤ s)))), (4, .int (othS plus)), (5, .int (nI (four0 s plus)))]) (fun _u : Unit => [.int (bI (hp4 (four0 s plus)))]) (fun _u hJ88 => ?_) (fun J88 => ?_)
        · skip
          refine x_istore 90 hB d_K_fourOf_88 rfl (by decide) (lv' := [(6, .int (bI (hp4 (four0 s plus)))), (0, .int (nI (s))), (1, .int (bI plus)), (2, .int (nI (s / 32 % 8))), (3, .int (bI (decide (256 ≤ s)))), (4, .int (othS plus)), (5, .int (nI (four0 s plus)))]) rfl ?_
          refine x_join 112 (fun _u : Unit => True) (fun _u : Unit => []) (fun _u : Unit => [(0, .int (nI (s))), (1, .int (bI plus)), (2, .int (nI (s / 32 % 8))), (3, .int (bI (decide (256 ≤ s)))), (4, .int (othS plus)), (5, .int (nI (four0 s plus))), (6, .int (bI (hp4 (four0 s plus))))]) (fun _u : Unit => [.int (bI (trn s plus))]) (fun _u hJ112 => ?_) (fun J112 => ?_)
          · skip
            refine x_istore 114 hB d_K_fourOf_112 rfl (by decide) (lv' := [(7, .int (bI (trn s plus))), (0, .int (nI (s))), (1, .int (bI plus)), (2, .int (nI (s / 32 % 8))), (3, .int (bI (decide (256 ≤ s)))), (4, .int (othS plus)), (5, .int (nI (four0 s plus))), (6, .int (bI (hp4 (four0 s plus))))]) rfl ?_
            refine x_iload 116 hB d_K_fourOf_114 rfl rfl ?_
            refine x_if_eq 127 119 hB d_K_fourOf_116 (by decide) rfl (fun h116 => ?_) (fun h116 => ?_)
            · skip
              have k116 : trn s plus = false := bI_0 h116
              refine x_iload 129 hB d_K_fourOf_127 rfl rfl ?_
              exact x_iretP hB (sVe (by simp [fourF, k116])) (by decide) (by decide) d_K_fourOf_129
            · skip
              have k116 : trn s plus = true := bI_1 h116
              refine x_iload 121 hB d_K_fourOf_119 rfl rfl ?_
              refine x_bipush (v := nI 15) 123 hB d_K_fourOf_121 rfl (by decide) ?_
              refine x_ixor 124 hB d_K_fourOf_123 rfl ?_
              refine x_top (v' := .int (nI (15 - four0 s plus))) (congrArg Value.int (xr15 _ (four0_lt s plus))) ?_
              refine x_goto 129 hB d_K_fourOf_124 (by decide) ?_
              exact x_iretP hB (sVe (by simp [fourF, k116])) (by decide) (by decide) d_K_fourOf_129
          refine x_iload 92 hB d_K_fourOf_90 rfl rfl ?_
          refine x_if_eq 99 95 hB d_K_fourOf_92 (by decide) rfl (fun h92 => ?_) (fun h92 => ?_)
          · skip
            have k92 : hp4 (four0 s plus) = false := bI_0 h92
            refine x_iload_n 100 hB d_K_fourOf_99 rfl rfl ?_
            refine x_if_eq 111 103 hB d_K_fourOf_100 (by decide) rfl (fun h100 => ?_) (fun h100 => ?_)
            · skip
              have k100 : ¬ 256 ≤ s := of_decide_eq_false (bI_0 h100)
              refine x_iconst (v := nI 0) 112 hB d_K_fourOf_111 rfl (by decide) ?_
              refine x_top (v' := .int (bI (trn s plus))) (congrArg Value.int (bF0 (by rw [trn, if_neg (by rw [k92]; decide), decide_eq_false k100]; rfl))) ?_
              refine x_lv (lv' := [(0, .int (nI (s))), (1, .int (bI plus)), (2, .int (nI (s / 32 % 8))), (3, .int (bI (decide (256 ≤ s)))), (4, .int (othS plus)), (5, .int (nI (four0 s plus))), (6, .int (bI (hp4 (four0 s plus))))]) [1, 2, 3, 4, 5, 6, 0] rfl ?_
              exact J112 () trivial
            · skip
              have k100 : 256 ≤ s := of_decide_eq_true (bI_1 h100)
              refine x_iload_n 104 hB d_K_fourOf_103 rfl rfl ?_
              refine x_if_ne 111 107 hB d_K_fourOf_104 (by decide) rfl (fun h104 => ?_) (fun h104 => ?_)
              · skip
                have k104 : plus = true := bI_1 h104
                refine x_iconst (v := nI 0) 112 hB d_K_fourOf_111 rfl (by decide) ?_
                refine x_top (v' := .int (bI (trn s plus))) (congrArg Value.int (bF0 (by rw [trn, if_neg (by rw [k92]; decide), k104]; simp))) ?_
                refine x_lv (lv' := [(0, .int (nI (s))), (1, .int (bI plus)), (2, .int (nI (s / 32 % 8))), (3, .int (bI (decide (256 ≤ s)))), (4, .int (othS plus)), (5, .int (nI (four0 s plus))), (6, .int (bI (hp4 (four0 s plus))))]) [1, 2, 3, 4, 5, 6, 0] rfl ?_
                exact J112 () trivial
              · skip
                have k104 : plus = false := bI_0 h104
                refine x_iconst (v := nI 1) 108 hB d_K_fourOf_107 rfl (by decide) ?_
                refine x_top (v' := .int (bI (trn s plus))) (congrArg Value.int (bT (by rw [trn, if_neg (by rw [k92]; decide), decide_eq_true k100, k104]; rfl))) ?_
                refine x_goto 112 hB d_K_fourOf_108 (by decide) ?_
                refine x_lv (lv' := [(0, .int (nI (s))), (1, .int (bI plus)), (2, .int (nI (s / 32 % 8))), (3, .int (bI (decide (256 ≤ s)))), (4, .int (othS plus)), (5, .int (nI (four0 s plus))), (6, .int (bI (hp4 (four0 s plus))))]) [1, 2, 3, 4, 5, 6, 0] rfl ?_
                exact J112 () trivial
          · skip
            have k92 : hp4 (four0 s plus) = true := bI_1 h92
            refine x_iload_n 96 hB d_K_fourOf_95 rfl rfl ?_
            refine x_top (v' := .int (bI (trn s plus))) (congrArg Value.int (by rw [trn, if_pos k92])) ?_
            refine x_goto 112 hB d_K_fourOf_96 (by decide) ?_
            refine x_lv (lv' := [(0, .int (nI (s))), (1, .int (bI plus)), (2, .int (nI (s / 32 % 8))), (3, .int (bI (decide (256 ≤ s)))), (4, .int (othS plus)), (5, .int (nI (four0 s plus))), (6, .int (bI (hp4 (four0 s plus))))]) [1, 2, 3, 4, 5, 6, 0] rfl ?_
            exact J112 () trivial
        refine x_iload 69 hB d_K_fourOf_67 rfl rfl ?_
        refine x_callP (k' := 0) (n' := 0) (rest := []) (st' := [.int (bcF (nI (four0 s plus)))]) 72 hB (x_pfS (av := [.int (nI (four0 s plus))]) hB w_210 xHd_code w_13 w_208 w_209 nm_JI_bitCount rfl d_K_fourOf_69) (c_JI_bitCount l E (nI (four0 s plus))) w_210 xHd_code w_13 [] rfl rfl ⟨by decide, by decide⟩ ⟨by decide, by decide⟩ rfl rfl (Nat.le_of_ble_eq_true rfl) d_K_fourOf_69 rfl rfl ?_
        refine x_top (v' := .int (nI (pc6 (four0 s plus)))) (congrArg Value.int (bc_small _ (by have := four0_lt s plus; omega))) ?_
        refine x_iconst (v := nI 2) 73 hB d_K_fourOf_72 rfl (by decide) ?_
        refine x_icmp_ne 83 76 hB d_K_fourOf_73 (by decide) rfl (fun h73 => ?_) (fun h73 => ?_)
        · skip
          have k73 : ¬ pc6 (four0 s plus) = 2 := fun h => h73 (by rw [h])
          refine x_iconst (v := nI 1) 84 hB d_K_fourOf_83 rfl (by decide) ?_
          refine x_top (v' := .int (bI (hp4 (four0 s plus)))) (congrArg Value.int (bT (by simp [hp4, k73]))) ?_
          refine x_goto 88 hB d_K_fourOf_84 (by decide) ?_
          exact J88 () trivial
        · skip
          have k73 : pc6 (four0 s plus) = 2 := (nI_eq (by have := pc6_le (four0 s plus); omega) (by omega)).mp h73
          refine x_iload 78 hB d_K_fourOf_76 rfl rfl ?_
          refine x_bipush (v := nI 12) 80 hB d_K_fourOf_78 rfl (by decide) ?_
          refine x_icmp_ne 87 83 hB d_K_fourOf_80 (by decide) rfl (fun h80 => ?_) (fun h80 => ?_)
          · skip
            have k80 : ¬ four0 s plus = 12 := fun h => h80 (by rw [h])
            refine x_iconst (v := nI 0) 88 hB d_K_fourOf_87 rfl (by decide) ?_
            refine x_top (v' := .int (bI (hp4 (four0 s plus)))) (congrArg Value.int (bF0 (by simp [hp4, k73, k80]))) ?_
            exact J88 () trivial
          · skip
            have k80 : four0 s plus = 12 := (nI_eq (by have := four0_lt s plus; omega) (by omega)).mp h80
            refine x_iconst (v := nI 1) 84 hB d_K_fourOf_83 rfl (by decide) ?_
            refine x_top (v' := .int (bI (hp4 (four0 s plus)))) (congrArg Value.int (bT (by simp [hp4, k80]))) ?_
            refine x_goto 88 hB d_K_fourOf_84 (by decide) ?_
            exact J88 () trivial
      refine x_iload_n 42 hB d_K_fourOf_41 rfl rfl ?_
      refine x_bipush (v := nI 7) 44 hB d_K_fourOf_42 rfl (by decide) ?_
      refine x_icmp_ne 67 47 hB d_K_fourOf_44 (by decide) rfl (fun h44 => ?_) (fun h44 => ?_)
      · skip
        have k44 : ¬ s / 32 % 8 = 7 := fun h => h44 (by rw [h])
        have e67 : fourN (s / 32 % 8) = four0 s plus := by rw [four0, if_neg (fun h => k44 h.1)]
        refine x_lve (lv' := [(5, .int (nI (four0 s plus))), (4, .int (othS plus)), (0, .int (nI (s))), (1, .int (bI plus)), (2, .int (nI (s / 32 % 8))), (3, .int (bI (decide (256 ≤ s))))]) (by rw [e67]) ?_
        refine x_lv (lv' := [(0, .int (nI (s))), (1, .int (bI plus)), (2, .int (nI (s / 32 % 8))), (3, .int (bI (decide (256 ≤ s)))), (4, .int (othS plus)), (5, .int (nI (four0 s plus)))]) [2, 3, 4, 5, 1, 0] rfl ?_
        exact J67 () trivial
      · skip
        have k44 : s / 32 % 8 = 7 := (nI_eq (by omega) (by omega)).mp h44
        refine x_iload_n 48 hB d_K_fourOf_47 rfl rfl ?_
        refine x_if_ne 63 51 hB d_K_fourOf_48 (by decide) rfl (fun h48 => ?_) (fun h48 => ?_)
        · skip
          have k48 : 256 ≤ s := of_decide_eq_true (bI_1 h48)
          have e63 : 7 = four0 s plus := by rw [four0, if_pos ⟨k44, Or.inl k48⟩]
          refine x_bipush (v := nI 7) 65 hB d_K_fourOf_63 rfl (by decide) ?_
          refine x_top (v' := .int (nI (four0 s plus))) (congrArg Value.int (congrArg nI e63)) ?_
          refine x_istore 67 hB d_K_fourOf_65 rfl (by decide) (lv' := [(5, .int (nI (four0 s plus))), (4, .int (othS plus)), (0, .int (nI (s))), (1, .int (bI plus)), (2, .int (nI (s / 32 % 8))), (3, .int (bI (decide (256 ≤ s))))]) rfl ?_
          refine x_lv (lv' := [(0, .int (nI (s))), (1, .int (bI plus)), (2, .int (nI (s / 32 % 8))), (3, .int (bI (decide (256 ≤ s)))), (4, .int (othS plus)), (5, .int (nI (four0 s plus)))]) [2, 3, 4, 5, 1, 0] rfl ?_
          exact J67 () trivial
        · skip
          have k48 : ¬ 256 ≤ s := of_decide_eq_false (bI_0 h48)
          refine x_iload_n 52 hB d_K_fourOf_51 rfl rfl ?_
          refine x_bipush (v := nI 31) 54 hB d_K_fourOf_52 rfl (by decide) ?_
          refine x_iand 55 hB d_K_fourOf_54 rfl ?_
          refine x_top (v' := .int (nI (s % 32))) (congrArg Value.int (an31 hs)) ?_
          refine x_iload 57 hB d_K_fourOf_55 rfl rfl ?_
          refine x_callP (k' := 0) (n' := 0) (rest := []) (st' := [.int (bI (decide (xbit (othS plus) (s % 32) = nI 1)))]) 60 hB (x_pfS (av := [.int (nI (s % 32)), .int (othS plus)]) hB w_220 xHd_code w_8 w_218 w_219 nm_K_isAmong rfl d_K_fourOf_57) (c_K_isAmong l E (s % 32) (othS plus)) w_220 xHd_code w_8 [] rfl rfl ⟨by decide, by decide⟩ ⟨by decide, by decide⟩ rfl rfl (Nat.le_of_ble_eq_true rfl) d_K_fourOf_57 rfl rfl ?_
          refine x_top (v' := .int (bI (oth s plus))) (congrArg Value.int (oth_e s plus)) ?_
          refine x_if_eq 67 63 hB d_K_fourOf_60 (by decide) rfl (fun h60 => ?_) (fun h60 => ?_)
          · skip
            have k60 : oth s plus = false := bI_0 h60
            have e67 : fourN (s / 32 % 8) = four0 s plus := by rw [four0, if_neg (fun h => h.2.elim k48 (fun h => by rw [k60] at h; cases h))]
            refine x_lve (lv' := [(5, .int (nI (four0 s plus))), (4, .int (othS plus)), (0, .int (nI (s))), (1, .int (bI plus)), (2, .int (nI (s / 32 % 8))), (3, .int (bI (decide (256 ≤ s))))]) (by rw [e67]) ?_
            refine x_lv (lv' := [(0, .int (nI (s))), (1, .int (bI plus)), (2, .int (nI (s / 32 % 8))), (3, .int (bI (decide (256 ≤ s)))), (4, .int (othS plus)), (5, .int (nI (four0 s plus)))]) [2, 3, 4, 5, 1, 0] rfl ?_
            exact J67 () trivial
          · skip
            have k60 : oth s plus = true := bI_1 h60
            have e63 : 7 = four0 s plus := by rw [four0, if_pos ⟨k44, Or.inr k60⟩]
            refine x_bipush (v := nI 7) 65 hB d_K_fourOf_63 rfl (by decide) ?_
            refine x_top (v' := .int (nI (four0 s plus))) (congrArg Value.int (congrArg nI e63)) ?_
            refine x_istore 67 hB d_K_fourOf_65 rfl (by decide) (lv' := [(5, .int (nI (four0 s plus))), (4, .int (othS plus)), (0, .int (nI (s))), (1, .int (bI plus)), (2, .int (nI (s / 32 % 8))), (3, .int (bI (decide (256 ≤ s))))]) rfl ?_
            refine x_lv (lv' := [(0, .int (nI (s))), (1, .int (bI plus)), (2, .int (nI (s / 32 % 8))), (3, .int (bI (decide (256 ≤ s)))), (4, .int (othS plus)), (5, .int (nI (four0 s plus)))]) [2, 3, 4, 5, 1, 0] rfl ?_
            exact J67 () trivial
    refine x_iload_n 21 hB d_K_fourOf_20 rfl rfl ?_
    refine x_if_eq 30 24 hB d_K_fourOf_21 (by decide) rfl (fun h21 => ?_) (fun h21 => ?_)
    · skip
      have k21 : plus = false := bI_0 h21
      refine x_ldc 32 hB d_K_fourOf_30 rfl w_230 ?_
      refine x_top (v' := .int (othS plus)) (congrArg Value.int (by rw [k21]; rfl)) ?_
      refine x_lv (lv' := [(0, .int (nI (s))), (1, .int (bI plus)), (2, .int (nI (s / 32 % 8))), (3, .int (bI (decide (256 ≤ s))))]) [1, 2, 3, 0] rfl ?_
      exact J32 () trivial
    · skip
      have k21 : plus = true := bI_1 h21
      refine x_sipush (v := nI 26624) 27 hB d_K_fourOf_24 rfl (by decide) ?_
      refine x_top (v' := .int (othS plus)) (congrArg Value.int (by rw [k21]; rfl)) ?_
      refine x_goto 32 hB d_K_fourOf_27 (by decide) ?_
      refine x_lv (lv' := [(0, .int (nI (s))), (1, .int (bI plus)), (2, .int (nI (s / 32 % 8))), (3, .int (bI (decide (256 ≤ s))))]) [1, 2, 3, 0] rfl ?_
      exact J32 () trivial
  refine x_iload_n 8 hB d_K_fourOf_7 rfl rfl ?_
  refine x_sipush (v := nI 256) 11 hB d_K_fourOf_8 rfl (by decide) ?_
  refine x_icmp_lt 18 14 hB d_K_fourOf_11 (by decide) rfl (fun h11 => ?_) (fun h11 => ?_)
  · skip
    have k11 : s < 256 := (nI_ltI (by omega) (by omega)).mp h11
    refine x_iconst (v := nI 0) 19 hB d_K_fourOf_18 rfl (by decide) ?_
    refine x_top (v' := .int (bI (decide (256 ≤ s)))) (congrArg Value.int (bF0 (decide_eq_false (by omega)))) ?_
    refine x_lv (lv' := [(0, .int (nI (s))), (1, .int (bI plus)), (2, .int (nI (s / 32 % 8)))]) [1, 2, 0] rfl ?_
    exact J19 () trivial
  · skip
    have k11 : ¬ s < 256 := fun h => h11 ((nI_ltI (by omega) (by omega)).mpr h)
    refine x_iconst (v := nI 1) 15 hB d_K_fourOf_14 rfl (by decide) ?_
    refine x_top (v' := .int (bI (decide (256 ≤ s)))) (congrArg Value.int (bT (decide_eq_true (by omega)))) ?_
    refine x_goto 19 hB d_K_fourOf_15 (by decide) ?_
    refine x_lv (lv' := [(0, .int (nI (s))), (1, .int (bI plus)), (2, .int (nI (s / 32 % 8)))]) [1, 2, 0] rfl ?_
    exact J19 () trivial
abbrev rm_K_plusBehindSix : Room := { frames := 1, cells := 0, slots := 0, locals := 20 }
set_option maxHeartbeats 4000000 in
set_option maxRecDepth 100000 in
theorem c_K_plusBehindSix (l : Launch) (E : xE) (v : Nat) (hv : v < 64) (plus : Bool) : xCp l E y_K_plusBehindSix (.code y_K_plusBehindSix prog_5_method_10_code 3 (some .boolean)) rm_K_plusBehindSix [.int (nI (v)), .int (bI plus)] [] (.inl (some (.int (bI (pb6 v plus))))) := by
  refine x_ofP (own := "LineCoder$TenCode") (mn := "plusBehindSix") (lv := [(0, .int (nI (v))), (1, .int (bI plus))]) (plainFor_of_name (by decide)) rfl rfl (Nat.le_of_ble_eq_true rfl) rfl ?_
  intro p_ e_ s_ m_ ar_ be_ me_ c_ hB
  refine x_iload_n 1 hB d_K_plusBehindSix_0 rfl rfl ?_
  refine x_callP (k' := 0) (n' := 0) (rest := []) (st' := [.int (bcF (nI v))]) 4 hB (x_pfS (av := [.int (nI (v))]) hB w_210 xHd_code w_13 w_208 w_209 nm_JI_bitCount rfl d_K_plusBehindSix_1) (c_JI_bitCount l E (nI v)) w_210 xHd_code w_13 [] rfl rfl ⟨by decide, by decide⟩ ⟨by decide, by decide⟩ rfl rfl (Nat.le_of_ble_eq_true rfl) d_K_plusBehindSix_1 rfl rfl ?_
  refine x_top (v' := .int (nI (pc6 v))) (congrArg Value.int (bc_small _ hv)) ?_
  have hle := pc6_le v
  refine x_istore_n 5 hB d_K_plusBehindSix_4 rfl (by decide) (lv' := [(2, .int (nI (pc6 v))), (0, .int (nI (v))), (1, .int (bI plus))]) rfl ?_
  refine x_iload_n 6 hB d_K_plusBehindSix_5 rfl rfl ?_
  refine x_iconst (v := nI 3) 7 hB d_K_plusBehindSix_6 rfl (by decide) ?_
  refine x_icmp_eq 21 10 hB d_K_plusBehindSix_7 (by decide) rfl (fun h7 => ?_) (fun h7 => ?_)
  · skip
    have k7 : pc6 v = 3 := (nI_eq (by omega) (by omega)).mp h7
    refine x_iload_n 22 hB d_K_plusBehindSix_21 rfl rfl ?_
    refine x_bipush (v := nI 7) 24 hB d_K_plusBehindSix_22 rfl (by decide) ?_
    refine x_icmp_eq 37 27 hB d_K_plusBehindSix_24 (by decide) rfl (fun h24 => ?_) (fun h24 => ?_)
    · skip
      have k24 : v = 7 := (nI_eq (by omega) (by omega)).mp h24
      refine x_iconst (v := nI 1) 38 hB d_K_plusBehindSix_37 rfl (by decide) ?_
      refine x_goto 42 hB d_K_plusBehindSix_38 (by decide) ?_
      exact x_zretP hB (by decide) (sVe (bT (by rw [pb6, if_neg (fun h => h k7), decide_eq_true k24]; rfl))) (by decide) (by decide) d_K_plusBehindSix_42
    · skip
      have k24 : ¬ v = 7 := fun h => h24 ((nI_eq (by omega) (by omega)).mpr h)
      refine x_iload_n 28 hB d_K_plusBehindSix_27 rfl rfl ?_
      refine x_bipush (v := nI 56) 30 hB d_K_plusBehindSix_28 rfl (by decide) ?_
      refine x_icmp_eq 41 33 hB d_K_plusBehindSix_30 (by decide) rfl (fun h30 => ?_) (fun h30 => ?_)
      · skip
        have k30 : v = 56 := (nI_eq (by omega) (by omega)).mp h30
        refine x_iconst (v := nI 0) 42 hB d_K_plusBehindSix_41 rfl (by decide) ?_
        exact x_zretP hB (by decide) (sVe (bF0 (by rw [pb6, if_neg (fun h => h k7), decide_eq_false k24, decide_eq_false (fun h => h k30)]; rfl))) (by decide) (by decide) d_K_plusBehindSix_42
      · skip
        have k30 : ¬ v = 56 := fun h => h30 ((nI_eq (by omega) (by omega)).mpr h)
        refine x_iload_n 34 hB d_K_plusBehindSix_33 rfl rfl ?_
        refine x_if_eq 41 37 hB d_K_plusBehindSix_34 (by decide) rfl (fun h34 => ?_) (fun h34 => ?_)
        · skip
          have k34 : plus = false := bI_0 h34
          refine x_iconst (v := nI 0) 42 hB d_K_plusBehindSix_41 rfl (by decide) ?_
          exact x_zretP hB (by decide) (sVe (bF0 (by rw [pb6, if_neg (fun h => h k7), decide_eq_false k24, decide_eq_true k30, k34]; rfl))) (by decide) (by decide) d_K_plusBehindSix_42
        · skip
          have k34 : plus = true := bI_1 h34
          refine x_iconst (v := nI 1) 38 hB d_K_plusBehindSix_37 rfl (by decide) ?_
          refine x_goto 42 hB d_K_plusBehindSix_38 (by decide) ?_
          exact x_zretP hB (by decide) (sVe (bT (by rw [pb6, if_neg (fun h => h k7), decide_eq_false k24, decide_eq_true k30, k34]; rfl))) (by decide) (by decide) d_K_plusBehindSix_42
  · skip
    have k7 : ¬ pc6 v = 3 := fun h => h7 ((nI_eq (by omega) (by omega)).mpr h)
    refine x_iload_n 11 hB d_K_plusBehindSix_10 rfl rfl ?_
    refine x_iconst (v := nI 3) 12 hB d_K_plusBehindSix_11 rfl (by decide) ?_
    refine x_icmp_le 19 15 hB d_K_plusBehindSix_12 (by decide) rfl (fun h12 => ?_) (fun h12 => ?_)
    · skip
      have k12 : pc6 v ≤ 3 := (nI_leI (by omega) (by omega)).mp h12
      refine x_iconst (v := nI 0) 20 hB d_K_plusBehindSix_19 rfl (by decide) ?_
      exact x_zretP hB (by decide) (sVe (bF0 (by simp [pb6, k7]; omega))) (by decide) (by decide) d_K_plusBehindSix_20
    · skip
      have k12 : ¬ pc6 v ≤ 3 := fun h => h12 ((nI_leI (by omega) (by omega)).mpr h)
      refine x_iconst (v := nI 1) 16 hB d_K_plusBehindSix_15 rfl (by decide) ?_
      refine x_goto 20 hB d_K_plusBehindSix_16 (by decide) ?_
      exact x_zretP hB (by decide) (sVe (bT (by simp [pb6, k7]; omega))) (by decide) (by decide) d_K_plusBehindSix_20
abbrev rm_K_plusBehindFour : Room := { frames := 1, cells := 0, slots := 0, locals := 20 }
set_option maxHeartbeats 4000000 in
set_option maxRecDepth 100000 in
theorem c_K_plusBehindFour (l : Launch) (E : xE) (v : Nat) (hv : v < 64) (plus : Bool) : xCp l E y_K_plusBehindFour (.code y_K_plusBehindFour prog_5_method_11_code 3 (some .boolean)) rm_K_plusBehindFour [.int (nI (v)), .int (bI plus)] [] (.inl (some (.int (bI (pb4 v plus))))) := by
  refine x_ofP (own := "LineCoder$TenCode") (mn := "plusBehindFour") (lv := [(0, .int (nI (v))), (1, .int (bI plus))]) (plainFor_of_name (by decide)) rfl rfl (Nat.le_of_ble_eq_true rfl) rfl ?_
  intro p_ e_ s_ m_ ar_ be_ me_ c_ hB
  refine x_iload_n 1 hB d_K_plusBehindFour_0 rfl rfl ?_
  refine x_callP (k' := 0) (n' := 0) (rest := []) (st' := [.int (bcF (nI v))]) 4 hB (x_pfS (av := [.int (nI (v))]) hB w_210 xHd_code w_13 w_208 w_209 nm_JI_bitCount rfl d_K_plusBehindFour_1) (c_JI_bitCount l E (nI v)) w_210 xHd_code w_13 [] rfl rfl ⟨by decide, by decide⟩ ⟨by decide, by decide⟩ rfl rfl (Nat.le_of_ble_eq_true rfl) d_K_plusBehindFour_1 rfl rfl ?_
  refine x_top (v' := .int (nI (pc6 v))) (congrArg Value.int (bc_small _ hv)) ?_
  have hle := pc6_le v
  refine x_istore_n 5 hB d_K_plusBehindFour_4 rfl (by decide) (lv' := [(2, .int (nI (pc6 v))), (0, .int (nI (v))), (1, .int (bI plus))]) rfl ?_
  refine x_iload_n 6 hB d_K_plusBehindFour_5 rfl rfl ?_
  refine x_iconst (v := nI 2) 7 hB d_K_plusBehindFour_6 rfl (by decide) ?_
  refine x_icmp_eq 21 10 hB d_K_plusBehindFour_7 (by decide) rfl (fun h7 => ?_) (fun h7 => ?_)
  · skip
    have k7 : pc6 v = 2 := (nI_eq (by omega) (by omega)).mp h7
    refine x_iload_n 22 hB d_K_plusBehindFour_21 rfl rfl ?_
    refine x_iconst (v := nI 3) 23 hB d_K_plusBehindFour_22 rfl (by decide) ?_
    refine x_icmp_eq 36 26 hB d_K_plusBehindFour_23 (by decide) rfl (fun h23 => ?_) (fun h23 => ?_)
    · skip
      have k23 : v = 3 := (nI_eq (by omega) (by omega)).mp h23
      refine x_iconst (v := nI 1) 37 hB d_K_plusBehindFour_36 rfl (by decide) ?_
      refine x_goto 41 hB d_K_plusBehindFour_37 (by decide) ?_
      exact x_zretP hB (by decide) (sVe (bT (by rw [pb4, if_neg (fun h => h k7), decide_eq_true k23]; rfl))) (by decide) (by decide) d_K_plusBehindFour_41
    · skip
      have k23 : ¬ v = 3 := fun h => h23 ((nI_eq (by omega) (by omega)).mpr h)
      refine x_iload_n 27 hB d_K_plusBehindFour_26 rfl rfl ?_
      refine x_bipush (v := nI 12) 29 hB d_K_plusBehindFour_27 rfl (by decide) ?_
      refine x_icmp_eq 40 32 hB d_K_plusBehindFour_29 (by decide) rfl (fun h29 => ?_) (fun h29 => ?_)
      · skip
        have k29 : v = 12 := (nI_eq (by omega) (by omega)).mp h29
        refine x_iconst (v := nI 0) 41 hB d_K_plusBehindFour_40 rfl (by decide) ?_
        exact x_zretP hB (by decide) (sVe (bF0 (by rw [pb4, if_neg (fun h => h k7), decide_eq_false k23, decide_eq_false (fun h => h k29)]; rfl))) (by decide) (by decide) d_K_plusBehindFour_41
      · skip
        have k29 : ¬ v = 12 := fun h => h29 ((nI_eq (by omega) (by omega)).mpr h)
        refine x_iload_n 33 hB d_K_plusBehindFour_32 rfl rfl ?_
        refine x_if_eq 40 36 hB d_K_plusBehindFour_33 (by decide) rfl (fun h33 => ?_) (fun h33 => ?_)
        · skip
          have k33 : plus = false := bI_0 h33
          refine x_iconst (v := nI 0) 41 hB d_K_plusBehindFour_40 rfl (by decide) ?_
          exact x_zretP hB (by decide) (sVe (bF0 (by rw [pb4, if_neg (fun h => h k7), decide_eq_false k23, decide_eq_true k29, k33]; rfl))) (by decide) (by decide) d_K_plusBehindFour_41
        · skip
          have k33 : plus = true := bI_1 h33
          refine x_iconst (v := nI 1) 37 hB d_K_plusBehindFour_36 rfl (by decide) ?_
          refine x_goto 41 hB d_K_plusBehindFour_37 (by decide) ?_
          exact x_zretP hB (by decide) (sVe (bT (by rw [pb4, if_neg (fun h => h k7), decide_eq_false k23, decide_eq_true k29, k33]; rfl))) (by decide) (by decide) d_K_plusBehindFour_41
  · skip
    have k7 : ¬ pc6 v = 2 := fun h => h7 ((nI_eq (by omega) (by omega)).mpr h)
    refine x_iload_n 11 hB d_K_plusBehindFour_10 rfl rfl ?_
    refine x_iconst (v := nI 2) 12 hB d_K_plusBehindFour_11 rfl (by decide) ?_
    refine x_icmp_le 19 15 hB d_K_plusBehindFour_12 (by decide) rfl (fun h12 => ?_) (fun h12 => ?_)
    · skip
      have k12 : pc6 v ≤ 2 := (nI_leI (by omega) (by omega)).mp h12
      refine x_iconst (v := nI 0) 20 hB d_K_plusBehindFour_19 rfl (by decide) ?_
      exact x_zretP hB (by decide) (sVe (bF0 (by simp [pb4, k7]; omega))) (by decide) (by decide) d_K_plusBehindFour_20
    · skip
      have k12 : ¬ pc6 v ≤ 2 := fun h => h12 ((nI_leI (by omega) (by omega)).mpr h)
      refine x_iconst (v := nI 1) 16 hB d_K_plusBehindFour_15 rfl (by decide) ?_
      refine x_goto 20 hB d_K_plusBehindFour_16 (by decide) ?_
      exact x_zretP hB (by decide) (sVe (bT (by simp [pb4, k7]; omega))) (by decide) (by decide) d_K_plusBehindFour_20
abbrev rm_K_encode : Room := { frames := 2, cells := 0, slots := 0, locals := 48 }
set_option maxHeartbeats 4000000 in
set_option maxRecDepth 100000 in
theorem c_K_encode (l : Launch) (E : xE) (s : Nat) (hs : s < 512) (plus : Bool) : xCp l E y_K_encode (.code y_K_encode prog_5_method_3_code 4 (some .int)) rm_K_encode [.int (nI (s)), .int (bI plus)] [] (.inl (some (.int (nI (encF s plus))))) := by
  refine x_ofP (own := "LineCoder$TenCode") (mn := "encode") (lv := [(0, .int (nI (s))), (1, .int (bI plus))]) (plainFor_of_name (by decide)) rfl rfl (Nat.le_of_ble_eq_true rfl) rfl ?_
  intro p_ e_ s_ m_ ar_ be_ me_ c_ hB
  refine x_iload_n 1 hB d_K_encode_0 rfl rfl ?_
  refine x_iload_n 2 hB d_K_encode_1 rfl rfl ?_
  refine x_callP (k' := 0) (n' := 0) (rest := []) (st' := [.int (nI (sixF s plus))]) 5 hB (x_pfS (av := [.int (nI (s)), .int (bI plus)]) hB w_205 xHd_code w_8 w_203 w_204 nm_K_sixOf rfl d_K_encode_2) (c_K_sixOf l E s hs plus) w_205 xHd_code w_8 [] rfl rfl ⟨by decide, by decide⟩ ⟨by decide, by decide⟩ rfl rfl (Nat.le_of_ble_eq_true rfl) d_K_encode_2 rfl rfl ?_
  refine x_istore_n 6 hB d_K_encode_5 rfl (by decide) (lv' := [(2, .int (nI (sixF s plus))), (0, .int (nI (s))), (1, .int (bI plus))]) rfl ?_
  refine x_iload_n 7 hB d_K_encode_6 rfl rfl ?_
  refine x_iload_n 8 hB d_K_encode_7 rfl rfl ?_
  refine x_iload_n 9 hB d_K_encode_8 rfl rfl ?_
  refine x_callP (k' := 0) (n' := 0) (rest := [.int (nI (s))]) (st' := [.int (bI (pb6 (sixF s plus) plus)), .int (nI (s))]) 12 hB (x_pfS (av := [.int (nI (sixF s plus)), .int (bI plus)]) hB w_226 xHd_code w_8 w_224 w_225 nm_K_plusBehindSix rfl d_K_encode_9) (c_K_plusBehindSix l E (sixF s plus) (sixF_lt s plus) plus) w_226 xHd_code w_8 [] rfl rfl ⟨by decide, by decide⟩ ⟨by decide, by decide⟩ rfl rfl (Nat.le_of_ble_eq_true rfl) d_K_encode_9 rfl rfl ?_
  refine x_callP (k' := 0) (n' := 0) (rest := []) (st' := [.int (nI (fourF s (pb6 (sixF s plus) plus)))]) 15 hB (x_pfS (av := [.int (nI (s)), .int (bI (pb6 (sixF s plus) plus))]) hB w_229 xHd_code w_8 w_227 w_228 nm_K_fourOf rfl d_K_encode_12) (c_K_fourOf l E s hs (pb6 (sixF s plus) plus)) w_229 xHd_code w_8 [] rfl rfl ⟨by decide, by decide⟩ ⟨by decide, by decide⟩ rfl rfl (Nat.le_of_ble_eq_true rfl) d_K_encode_12 rfl rfl ?_
  refine x_istore_n 16 hB d_K_encode_15 rfl (by decide) (lv' := [(3, .int (nI (fourF s (pb6 (sixF s plus) plus)))), (2, .int (nI (sixF s plus))), (0, .int (nI (s))), (1, .int (bI plus))]) rfl ?_
  refine x_iload_n 17 hB d_K_encode_16 rfl rfl ?_
  refine x_iconst (v := nI 4) 18 hB d_K_encode_17 rfl (by decide) ?_
  refine x_ishl 19 hB d_K_encode_18 rfl ?_
  refine x_top (v' := .int (nI (sixF s plus * 16))) (congrArg Value.int (sl4 (sixF_lt s plus))) ?_
  refine x_iload_n 20 hB d_K_encode_19 rfl rfl ?_
  refine x_ior 21 hB d_K_encode_20 rfl ?_
  refine x_top (v' := .int (nI (encF s plus))) (congrArg Value.int (or16 _ (sixF_lt s plus) _ (fourF_lt s _))) ?_
  exact x_iretP hB (rfl) (by decide) (by decide) d_K_encode_21
abbrev rm_K_plusBehind : Room := { frames := 2, cells := 0, slots := 0, locals := 42 }
set_option maxHeartbeats 4000000 in
set_option maxRecDepth 100000 in
theorem c_K_plusBehind (l : Launch) (E : xE) (ten : Nat) (hten : ten < 1024) (plus : Bool) : xCp l E y_K_plusBehind (.code y_K_plusBehind prog_5_method_5_code 3 (some .boolean)) rm_K_plusBehind [.int (nI (ten)), .int (bI plus)] [] (.inl (some (.int (bI (pbT ten plus))))) := by
  refine x_ofP (own := "LineCoder$TenCode") (mn := "plusBehind") (lv := [(0, .int (nI (ten))), (1, .int (bI plus))]) (plainFor_of_name (by decide)) rfl rfl (Nat.le_of_ble_eq_true rfl) rfl ?_
  intro p_ e_ s_ m_ ar_ be_ me_ c_ hB
  refine x_iload_n 1 hB d_K_plusBehind_0 rfl rfl ?_
  refine x_iconst (v := nI 4) 2 hB d_K_plusBehind_1 rfl (by decide) ?_
  refine x_ishr 3 hB d_K_plusBehind_2 rfl ?_
  refine x_top (v' := .int (nI (ten / 16))) (congrArg Value.int (sh4 hten)) ?_
  refine x_iload_n 4 hB d_K_plusBehind_3 rfl rfl ?_
  refine x_callP (k' := 0) (n' := 0) (rest := []) (st' := [.int (bI (pb6 (ten / 16) plus))]) 7 hB (x_pfS (av := [.int (nI (ten / 16)), .int (bI plus)]) hB w_226 xHd_code w_8 w_224 w_225 nm_K_plusBehindSix rfl d_K_plusBehind_4) (c_K_plusBehindSix l E (ten / 16) (by omega) plus) w_226 xHd_code w_8 [] rfl rfl ⟨by decide, by decide⟩ ⟨by decide, by decide⟩ rfl rfl (Nat.le_of_ble_eq_true rfl) d_K_plusBehind_4 rfl rfl ?_
  refine x_istore_n 8 hB d_K_plusBehind_7 rfl (by decide) (lv' := [(2, .int (bI (pb6 (ten / 16) plus))), (0, .int (nI (ten))), (1, .int (bI plus))]) rfl ?_
  refine x_iload_n 9 hB d_K_plusBehind_8 rfl rfl ?_
  refine x_bipush (v := nI 15) 11 hB d_K_plusBehind_9 rfl (by decide) ?_
  refine x_iand 12 hB d_K_plusBehind_11 rfl ?_
  refine x_top (v' := .int (nI (ten % 16))) (congrArg Value.int (an15 hten)) ?_
  refine x_iload_n 13 hB d_K_plusBehind_12 rfl rfl ?_
  refine x_callP (k' := 0) (n' := 0) (rest := []) (st' := [.int (bI (pb4 (ten % 16) (pb6 (ten / 16) plus)))]) 16 hB (x_pfS (av := [.int (nI (ten % 16)), .int (bI (pb6 (ten / 16) plus))]) hB w_238 xHd_code w_8 w_236 w_237 nm_K_plusBehindFour rfl d_K_plusBehind_13) (c_K_plusBehindFour l E (ten % 16) (by omega) (pb6 (ten / 16) plus)) w_238 xHd_code w_8 [] rfl rfl ⟨by decide, by decide⟩ ⟨by decide, by decide⟩ rfl rfl (Nat.le_of_ble_eq_true rfl) d_K_plusBehind_13 rfl rfl ?_
  exact x_zretP hB (nrb _) (rfl) (by decide) (by decide) d_K_plusBehind_16
abbrev rm_K_xOf : Room := { frames := 2, cells := 0, slots := 0, locals := 44 }
set_option maxHeartbeats 4000000 in
set_option maxRecDepth 100000 in
theorem c_K_xOf (l : Launch) (E : xE) (v : Nat) (hv : v < 64) (plus : Bool) : xCp l E y_K_xOf (.code y_K_xOf prog_5_method_7_code 3 (some .int)) rm_K_xOf [.int (nI (v)), .int (bI plus)] [] (.inl (some (.int (oI (xoF v plus))))) := by
  refine x_ofP (own := "LineCoder$TenCode") (mn := "xOf") (lv := [(0, .int (nI (v))), (1, .int (bI plus))]) (plainFor_of_name (by decide)) rfl rfl (Nat.le_of_ble_eq_true rfl) rfl ?_
  intro p_ e_ s_ m_ ar_ be_ me_ c_ hB
  refine x_iconst (v := nI 0) 1 hB d_K_xOf_0 rfl (by decide) ?_
  refine x_istore_n 2 hB d_K_xOf_1 rfl (by decide) (lv' := [(2, .int (nI 0)), (0, .int (nI (v))), (1, .int (bI plus))]) rfl ?_
  refine x_lv (lv' := [(0, .int (nI (v))), (1, .int (bI plus)), (2, .int (nI 0))]) [1, 2, 0] rfl ?_
  refine x_loop (fun x : Nat => x ≤ 32 ∧ scanF (xP v plus) (32 - x) x = xoF v plus) (fun x : Nat => 32 - x) (fun x : Nat => []) (fun x : Nat => [(0, .int (nI (v))), (1, .int (bI plus)), (2, .int (nI (x)))]) (fun x : Nat => []) 0 ⟨Nat.zero_le _, rfl⟩ rfl rfl rfl (fun x hI2 IH2 => ?_)
  have hx32 := hI2.1
  refine x_iload_n 3 hB d_K_xOf_2 rfl rfl ?_
  refine x_bipush (v := nI 32) 5 hB d_K_xOf_3 rfl (by decide) ?_
  refine x_icmp_ge 38 8 hB d_K_xOf_5 (by decide) rfl (fun h5 => ?_) (fun h5 => ?_)
  · skip
    have k5 : 32 ≤ x := (nI_leI (by omega) (by omega)).mp h5
    refine x_iconst (v := (-1 : Int32)) 39 hB d_K_xOf_38 rfl (by decide) ?_
    exact x_iretP hB (sVe (by rw [← hI2.2, show 32 - x = 0 by omega]; rfl)) (by decide) (by decide) d_K_xOf_39
  · skip
    have k5 : ¬ 32 ≤ x := fun h => h5 ((nI_leI (by omega) (by omega)).mpr h)
    refine x_iload_n 9 hB d_K_xOf_8 rfl rfl ?_
    refine x_iload_n 10 hB d_K_xOf_9 rfl rfl ?_
    refine x_callP (k' := 0) (n' := 0) (rest := []) (st' := [.int (nI (sixF x plus))]) 13 hB (x_pfS (av := [.int (nI (x)), .int (bI plus)]) hB w_205 xHd_code w_8 w_203 w_204 nm_K_sixOf rfl d_K_xOf_10) (c_K_sixOf l E x (by omega) plus) w_205 xHd_code w_8 [] rfl rfl ⟨by decide, by decide⟩ ⟨by decide, by decide⟩ rfl rfl (Nat.le_of_ble_eq_true rfl) d_K_xOf_10 rfl rfl ?_
    have hs1 := sixF_lt x plus
    refine x_iload_n 14 hB d_K_xOf_13 rfl rfl ?_
    refine x_icmp_eq 30 17 hB d_K_xOf_14 (by decide) rfl (fun h14 => ?_) (fun h14 => ?_)
    · skip
      have k14 : sixF x plus = v := (nI_eq (by omega) (by omega)).mp h14
      refine x_iload_n 31 hB d_K_xOf_30 rfl rfl ?_
      exact x_iretP hB (sVe (by rw [← hI2.2, scanF_t (by omega) (by simp [xP, k14])]; rfl)) (by decide) (by decide) d_K_xOf_31
    · skip
      have k14 : ¬ sixF x plus = v := fun h => h14 ((nI_eq (by omega) (by omega)).mpr h)
      refine x_sipush (v := nI 256) 20 hB d_K_xOf_17 rfl (by decide) ?_
      refine x_iload_n 21 hB d_K_xOf_20 rfl rfl ?_
      refine x_iadd 22 hB d_K_xOf_21 rfl ?_
      refine x_top (v' := .int (nI (256 + x))) (congrArg Value.int (nI_add _ _)) ?_
      refine x_iload_n 23 hB d_K_xOf_22 rfl rfl ?_
      refine x_callP (k' := 0) (n' := 0) (rest := []) (st' := [.int (nI (sixF (256 + x) plus))]) 26 hB (x_pfS (av := [.int (nI (256 + x)), .int (bI plus)]) hB w_205 xHd_code w_8 w_203 w_204 nm_K_sixOf rfl d_K_xOf_23) (c_K_sixOf l E (256 + x) (by omega) plus) w_205 xHd_code w_8 [] rfl rfl ⟨by decide, by decide⟩ ⟨by decide, by decide⟩ rfl rfl (Nat.le_of_ble_eq_true rfl) d_K_xOf_23 rfl rfl ?_
      have hs2 := sixF_lt (256 + x) plus
      refine x_iload_n 27 hB d_K_xOf_26 rfl rfl ?_
      refine x_icmp_ne 32 30 hB d_K_xOf_27 (by decide) rfl (fun h27 => ?_) (fun h27 => ?_)
      · skip
        have k27 : ¬ sixF (256 + x) plus = v := fun h => h27 ((nI_eq (by omega) (by omega)).mpr h)
        refine x_iinc (v := nI (x + 1)) 35 hB d_K_xOf_32 rfl 2 rfl ((nI_succ x).symm) (by decide) (lv' := [(2, .int (nI (x + 1))), (0, .int (nI (v))), (1, .int (bI plus))]) rfl ?_
        refine x_goto 2 hB d_K_xOf_35 (by decide) ?_
        refine x_lv (lv' := [(0, .int (nI (v))), (1, .int (bI plus)), (2, .int (nI (x + 1)))]) [1, 2, 0] rfl ?_
        exact IH2 (x + 1) ⟨by omega, (scanF_n (by omega) (by simp [xP, k14, k27])).trans hI2.2⟩ (by omega)
      · skip
        have k27 : sixF (256 + x) plus = v := (nI_eq (by omega) (by omega)).mp h27
        refine x_iload_n 31 hB d_K_xOf_30 rfl rfl ?_
        exact x_iretP hB (sVe (by rw [← hI2.2, scanF_t (by omega) (by simp [xP, k27])]; rfl)) (by decide) (by decide) d_K_xOf_31
abbrev rm_K_decode_n : Room := { frames := 3, cells := 0, slots := 0, locals := 66 }
set_option maxHeartbeats 4000000 in
set_option maxRecDepth 100000 in
theorem c_K_decode_n (l : Launch) (E : xE) (ten : Nat) (hten : ten < 1024) (plus : Bool) (hx : xoF (ten / 16) plus = none) : xCp l E y_K_decode (.code y_K_decode prog_5_method_4_code 4 (some .int)) rm_K_decode_n [.int (nI (ten)), .int (bI plus)] [] (.inl (some (.int (-1)))) := by
  refine x_ofP (own := "LineCoder$TenCode") (mn := "decode") (lv := [(0, .int (nI (ten))), (1, .int (bI plus))]) (plainFor_of_name (by decide)) rfl rfl (Nat.le_of_ble_eq_true rfl) rfl ?_
  intro p_ e_ s_ m_ ar_ be_ me_ c_ hB
  refine x_iload_n 1 hB d_K_decode_0 rfl rfl ?_
  refine x_iconst (v := nI 4) 2 hB d_K_decode_1 rfl (by decide) ?_
  refine x_ishr 3 hB d_K_decode_2 rfl ?_
  refine x_top (v' := .int (nI (ten / 16))) (congrArg Value.int (sh4 hten)) ?_
  refine x_iload_n 4 hB d_K_decode_3 rfl rfl ?_
  refine x_callP (k' := 0) (n' := 0) (rest := []) (st' := [.int (oI (xoF (ten / 16) plus))]) 7 hB (x_pfS (av := [.int (nI (ten / 16)), .int (bI plus)]) hB w_202 xHd_code w_8 w_200 w_201 nm_K_xOf rfl d_K_decode_4) (c_K_xOf l E (ten / 16) (by omega) plus) w_202 xHd_code w_8 [] rfl rfl ⟨by decide, by decide⟩ ⟨by decide, by decide⟩ rfl rfl (Nat.le_of_ble_eq_true rfl) d_K_decode_4 rfl rfl ?_
  refine x_top (v' := .int ((-1 : Int32))) (congrArg Value.int (by rw [hx]; rfl)) ?_
  refine x_istore_n 8 hB d_K_decode_7 rfl (by decide) (lv' := [(2, .int ((-1 : Int32))), (0, .int (nI (ten))), (1, .int (bI plus))]) rfl ?_
  refine x_iload_n 9 hB d_K_decode_8 rfl rfl ?_
  refine x_iconst (v := (-1 : Int32)) 10 hB d_K_decode_9 rfl (by decide) ?_
  refine x_icmp_ne 15 13 hB d_K_decode_10 (by decide) rfl (fun hc => absurd (by decide) hc) (fun _ => ?_)
  refine x_iconst (v := (-1 : Int32)) 14 hB d_K_decode_13 rfl (by decide) ?_
  exact x_iretP hB (rfl) (by decide) (by decide) d_K_decode_14
abbrev rm_K_decode_s : Room := { frames := 3, cells := 0, slots := 0, locals := 71 }
set_option maxHeartbeats 4000000 in
set_option maxRecDepth 100000 in
theorem c_K_decode_s (l : Launch) (E : xE) (ten : Nat) (hten : ten < 1024) (plus : Bool) (x : Nat) (hx : xoF (ten / 16) plus = some x) (hxl : x < 32) : xCp l E y_K_decode (.code y_K_decode prog_5_method_4_code 4 (some .int)) rm_K_decode_s [.int (nI (ten)), .int (bI plus)] [] (.inl (some (.int (oI (decF ten plus))))) := by
  refine x_ofP (own := "LineCoder$TenCode") (mn := "decode") (lv := [(0, .int (nI (ten))), (1, .int (bI plus))]) (plainFor_of_name (by decide)) rfl rfl (Nat.le_of_ble_eq_true rfl) rfl ?_
  intro p_ e_ s_ m_ ar_ be_ me_ c_ hB
  refine x_iload_n 1 hB d_K_decode_0 rfl rfl ?_
  refine x_iconst (v := nI 4) 2 hB d_K_decode_1 rfl (by decide) ?_
  refine x_ishr 3 hB d_K_decode_2 rfl ?_
  refine x_top (v' := .int (nI (ten / 16))) (congrArg Value.int (sh4 hten)) ?_
  refine x_iload_n 4 hB d_K_decode_3 rfl rfl ?_
  refine x_callP (k' := 0) (n' := 0) (rest := []) (st' := [.int (oI (xoF (ten / 16) plus))]) 7 hB (x_pfS (av := [.int (nI (ten / 16)), .int (bI plus)]) hB w_202 xHd_code w_8 w_200 w_201 nm_K_xOf rfl d_K_decode_4) (c_K_xOf l E (ten / 16) (by omega) plus) w_202 xHd_code w_8 [] rfl rfl ⟨by decide, by decide⟩ ⟨by decide, by decide⟩ rfl rfl (Nat.le_of_ble_eq_true rfl) d_K_decode_4 rfl rfl ?_
  refine x_top (v' := .int (nI (x))) (congrArg Value.int (by rw [hx]; rfl)) ?_
  refine x_istore_n 8 hB d_K_decode_7 rfl (by decide) (lv' := [(2, .int (nI (x))), (0, .int (nI (ten))), (1, .int (bI plus))]) rfl ?_
  refine x_iload_n 9 hB d_K_decode_8 rfl rfl ?_
  refine x_iconst (v := (-1 : Int32)) 10 hB d_K_decode_9 rfl (by decide) ?_
  refine x_icmp_ne 15 13 hB d_K_decode_10 (by decide) rfl (fun _ => ?_) (fun hc => absurd hc (nI_m1 (by omega)))
  refine x_iload_n 16 hB d_K_decode_15 rfl rfl ?_
  refine x_istore_n 17 hB d_K_decode_16 rfl (by decide) (lv' := [(3, .int (nI (x))), (2, .int (nI (x))), (0, .int (nI (ten))), (1, .int (bI plus))]) rfl ?_
  refine x_lv (lv' := [(0, .int (nI (ten))), (1, .int (bI plus)), (2, .int (nI (x))), (3, .int (nI (x)))]) [2, 3, 1, 0] rfl ?_
  refine x_loop (fun i : Nat => i ≤ 16 ∧ scanF (dP ten plus x) (16 - i) i = scanF (dP ten plus x) 16 0) (fun i : Nat => 16 - i) (fun i : Nat => []) (fun i : Nat => [(0, .int (nI (ten))), (1, .int (bI plus)), (2, .int (nI (x))), (3, .int (nI (x + 32 * i)))]) (fun i : Nat => []) 0 ⟨Nat.zero_le _, rfl⟩ rfl rfl rfl (fun i hI17 IH17 => ?_)
  have hi16 := hI17.1
  refine x_iload_n 18 hB d_K_decode_17 rfl rfl ?_
  refine x_sipush (v := nI 512) 21 hB d_K_decode_18 rfl (by decide) ?_
  refine x_icmp_ge 48 24 hB d_K_decode_21 (by decide) rfl (fun h21 => ?_) (fun h21 => ?_)
  · skip
    have k21 : 512 ≤ (x + 32 * i) := (nI_leI (by omega) (by omega)).mp h21
    refine x_iconst (v := (-1 : Int32)) 49 hB d_K_decode_48 rfl (by decide) ?_
    exact x_iretP hB (sVe (by rw [decF, hx]; show _ = oI (match scanF (dP ten plus x) 16 0 with | none => none | some i => some (x + 32 * i)); rw [← hI17.2, show 16 - i = 0 by omega]; rfl)) (by decide) (by decide) d_K_decode_49
  · skip
    have k21 : ¬ 512 ≤ (x + 32 * i) := fun h => h21 ((nI_leI (by omega) (by omega)).mpr h)
    refine x_iload_n 25 hB d_K_decode_24 rfl rfl ?_
    refine x_callP (k' := 0) (n' := 0) (rest := []) (st' := [.int (bI (isS (x + 32 * i)))]) 28 hB (x_pfS (av := [.int (nI (x + 32 * i))]) hB w_216 xHd_code w_8 w_214 w_215 nm_K_isSymbol rfl d_K_decode_25) (c_K_isSymbol l E (x + 32 * i) (by omega)) w_216 xHd_code w_8 [] rfl rfl ⟨by decide, by decide⟩ ⟨by decide, by decide⟩ rfl rfl (Nat.le_of_ble_eq_true rfl) d_K_decode_25 rfl rfl ?_
    refine x_if_eq 42 31 hB d_K_decode_28 (by decide) rfl (fun h28 => ?_) (fun h28 => ?_)
    · skip
      have kf : dP ten plus x i = false := by rw [dP, bI_0 h28]; rfl
      refine x_iinc (v := nI (x + 32 * (i + 1))) 45 hB d_K_decode_42 rfl 3 rfl ((nI_add (x + 32 * i) 32)) (by decide) (lv' := [(3, .int (nI (x + 32 * (i + 1)))), (0, .int (nI (ten))), (1, .int (bI plus)), (2, .int (nI (x)))]) rfl ?_
      refine x_goto 17 hB d_K_decode_45 (by decide) ?_
      refine x_lv (lv' := [(0, .int (nI (ten))), (1, .int (bI plus)), (2, .int (nI (x))), (3, .int (nI (x + 32 * (i + 1))))]) [1, 2, 3, 0] rfl ?_
      exact IH17 (i + 1) ⟨by omega, (scanF_n (by omega) kf).trans hI17.2⟩ (by omega)
    · skip
      have k28 : isS (x + 32 * i) = true := bI_1 h28
      refine x_iload_n 32 hB d_K_decode_31 rfl rfl ?_
      refine x_iload_n 33 hB d_K_decode_32 rfl rfl ?_
      refine x_callP (k' := 0) (n' := 0) (rest := []) (st' := [.int (nI (encF (x + 32 * i) plus))]) 36 hB (x_pfS (av := [.int (nI (x + 32 * i)), .int (bI plus)]) hB w_223 xHd_code w_8 w_221 w_222 nm_K_encode rfl d_K_decode_33) (c_K_encode l E (x + 32 * i) (by omega) plus) w_223 xHd_code w_8 [] rfl rfl ⟨by decide, by decide⟩ ⟨by decide, by decide⟩ rfl rfl (Nat.le_of_ble_eq_true rfl) d_K_decode_33 rfl rfl ?_
      have he1 := encF_lt (x + 32 * i) plus
      refine x_iload_n 37 hB d_K_decode_36 rfl rfl ?_
      refine x_icmp_ne 42 40 hB d_K_decode_37 (by decide) rfl (fun h37 => ?_) (fun h37 => ?_)
      · skip
        have k37 : ¬ encF (x + 32 * i) plus = ten := fun h => h37 (by rw [h])
        have kf : dP ten plus x i = false := by rw [dP, decide_eq_false k37, Bool.and_false]
        refine x_iinc (v := nI (x + 32 * (i + 1))) 45 hB d_K_decode_42 rfl 3 rfl ((nI_add (x + 32 * i) 32)) (by decide) (lv' := [(3, .int (nI (x + 32 * (i + 1)))), (0, .int (nI (ten))), (1, .int (bI plus)), (2, .int (nI (x)))]) rfl ?_
        refine x_goto 17 hB d_K_decode_45 (by decide) ?_
        refine x_lv (lv' := [(0, .int (nI (ten))), (1, .int (bI plus)), (2, .int (nI (x))), (3, .int (nI (x + 32 * (i + 1))))]) [1, 2, 3, 0] rfl ?_
        exact IH17 (i + 1) ⟨by omega, (scanF_n (by omega) kf).trans hI17.2⟩ (by omega)
      · skip
        have k37 : encF (x + 32 * i) plus = ten := (nI_eq (by omega) (by omega)).mp h37
        refine x_iload_n 41 hB d_K_decode_40 rfl rfl ?_
        exact x_iretP hB (sVe (by rw [decF, hx]; show _ = oI (match scanF (dP ten plus x) 16 0 with | none => none | some i => some (x + 32 * i)); rw [← hI17.2, scanF_t (by omega) (by rw [dP, k28, decide_eq_true k37]; rfl)]; rfl)) (by decide) (by decide) d_K_decode_41
