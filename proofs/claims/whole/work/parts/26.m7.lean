abbrev rm_M_init : Room := { frames := 3, cells := 13, slots := 7496, locals := 74 }
set_option maxHeartbeats 4000000 in
set_option maxRecDepth 100000 in
theorem c_M_init (l : Launch) (E : xE) (hm : Nat) : xC l E y_M_init (.code y_M_init prog_10_method_1_code 3 none) rm_M_init [.ref hm] [(hm, .inr (5, [.int 0, .null, .null, .null, .null, .null, .null, .null, .null, .null, .null, .null, .int 0, .int 0, .int 0, .int 0, .int 0, .null, .null, .int 0, .int 0, .long 0, .int 0]))] (xEx (fun z : Nat × Nat × Nat × Nat × Nat × Nat × Nat × Nat × Nat × Nat × Nat × Nat × Nat => [(hm, .inr (5, [.int (nI 0), .ref z.1, .ref z.2.1, .ref z.2.2.1, .ref z.2.2.2.1, .ref z.2.2.2.2.1, .ref z.2.2.2.2.2.1, .ref z.2.2.2.2.2.2.1, .ref z.2.2.2.2.2.2.2.1, .ref z.2.2.2.2.2.2.2.2.1, .ref z.2.2.2.2.2.2.2.2.2.1, .ref z.2.2.2.2.2.2.2.2.2.2.1, .int (nI 0), .int (nI 0), .int (nI 0), .int (nI 0), .int (nI 0), .ref z.2.2.2.2.2.2.2.2.2.2.2.1, .ref z.2.2.2.2.2.2.2.2.2.2.2.2, .int (nI 0), .int (nI 0), .long (0), .int 0])), (z.1, .inl (E.2 1, 32, .inl (sxF 32))), (z.2.1, .inl (E.2 1, 8, .inl (fxF 8))), (z.2.2.1, .inl (E.2 1, 1024, .inl (cdL 1024))), (z.2.2.2.1, .inl (E.2 1, 1024, .inl (syL 1024))), (z.2.2.2.2.1, .inl (E.2 1, 5280, .inl (fun _ => 0))), (z.2.2.2.2.2.1, .inl (E.2 1, 2, .inl (pr2 (nI 0) (nI 0)))), (z.2.2.2.2.2.2.1, .inl (E.2 1, 2, .inl (pr2 (nI 0) (nI 0)))), (z.2.2.2.2.2.2.2.1, .inl (E.2 3, 2, .inl (pr2 (nI 0) (nI 0)))), (z.2.2.2.2.2.2.2.2.1, .inl (E.2 1, 2, .inl (pr2 (nI 0) (nI 0)))), (z.2.2.2.2.2.2.2.2.2.1, .inl (E.2 1, 2, .inl (pr2 (nI 0) (nI 0)))), (z.2.2.2.2.2.2.2.2.2.2.1, .inl (E.2 1, 2, .inl (pr2 (nI 0) (nI 0)))), (z.2.2.2.2.2.2.2.2.2.2.2.1, .inl (E.2 1, 58, .inl (emF (fun _ => 0) 58))), (z.2.2.2.2.2.2.2.2.2.2.2.2, .inl (E.2 1, 58, .inl (emF (fun _ => 0) 58)))])) := by
  refine x_of' (own := "LineCoderModel") (mn := "<init>") (lv := [(0, .ref hm)]) (plainFor_of_name (by decide)) rfl rfl (Nat.le_of_ble_eq_true rfl) rfl ?_
  intro p_ e_ s_ m_ ar_ be_ me_ c_ A_ hA hB
  refine x_aload_n 1 hB d_M_init_0 rfl rfl ?_
  refine x_objInit 4 hB w_605 w_24 w_25 d_M_init_1 rfl (by decide) (Nat.le_of_ble_eq_true rfl) ?_
  refine x_aload_n 5 hB d_M_init_4 rfl rfl ?_
  refine x_bipush (v := nI 32) 7 hB d_M_init_5 rfl (by decide) ?_
  refine x_newI (k' := 1) (n' := 32) 9 hB w_692 (by decide) (by decide) (by decide) rfl rfl d_M_init_7 rfl (fun q7 => ?_)
  refine x_ws (ws' := [(hm, .inr (5, [.int 0, .null, .null, .null, .null, .null, .null, .null, .null, .null, .null, .null, .int 0, .int 0, .int 0, .int 0, .int 0, .null, .null, .int 0, .int 0, .long 0, .int 0])), (q7, .inl (E.2 1, 32, .inl (fun _ => 0)))]) rfl ?_
  refine x_dup 10 hB d_M_init_9 rfl rfl ?_
  refine x_iconst (v := nI 0) 11 hB d_M_init_10 rfl (by decide) ?_
  refine x_bipush (v := nI 39) 13 hB d_M_init_11 rfl (by decide) ?_
  refine x_top (v' := .int (nI (sixN 0))) (congrArg Value.int (by decide)) ?_
  refine x_iast 14 hB 1 (ws' := [(hm, .inr (5, [.int 0, .null, .null, .null, .null, .null, .null, .null, .null, .null, .null, .null, .int 0, .int 0, .int 0, .int 0, .int 0, .null, .null, .int 0, .int 0, .long 0, .int 0])), (q7, .inl (E.2 1, 32, .inl (sxF (1))))]) rfl (by decide) (by decide) (x' := nI (sixN 0)) (rfl) (by rw [sxF_0, sxF_s 0]; rfl) d_M_init_13 rfl ?_
  refine x_dup 15 hB d_M_init_14 rfl rfl ?_
  refine x_iconst (v := nI 1) 16 hB d_M_init_15 rfl (by decide) ?_
  refine x_bipush (v := nI 29) 18 hB d_M_init_16 rfl (by decide) ?_
  refine x_top (v' := .int (nI (sixN 1))) (congrArg Value.int (by decide)) ?_
  refine x_iast 19 hB 1 (ws' := [(hm, .inr (5, [.int 0, .null, .null, .null, .null, .null, .null, .null, .null, .null, .null, .null, .int 0, .int 0, .int 0, .int 0, .int 0, .null, .null, .int 0, .int 0, .long 0, .int 0])), (q7, .inl (E.2 1, 32, .inl (sxF (2))))]) rfl (by decide) (by decide) (x' := nI (sixN 1)) (rfl) (by rw [sxF_s 1]; rfl) d_M_init_18 rfl ?_
  refine x_dup 20 hB d_M_init_19 rfl rfl ?_
  refine x_iconst (v := nI 2) 21 hB d_M_init_20 rfl (by decide) ?_
  refine x_bipush (v := nI 45) 23 hB d_M_init_21 rfl (by decide) ?_
  refine x_top (v' := .int (nI (sixN 2))) (congrArg Value.int (by decide)) ?_
  refine x_iast 24 hB 1 (ws' := [(hm, .inr (5, [.int 0, .null, .null, .null, .null, .null, .null, .null, .null, .null, .null, .null, .int 0, .int 0, .int 0, .int 0, .int 0, .null, .null, .int 0, .int 0, .long 0, .int 0])), (q7, .inl (E.2 1, 32, .inl (sxF (3))))]) rfl (by decide) (by decide) (x' := nI (sixN 2)) (rfl) (by rw [sxF_s 2]; rfl) d_M_init_23 rfl ?_
  refine x_dup 25 hB d_M_init_24 rfl rfl ?_
  refine x_iconst (v := nI 3) 26 hB d_M_init_25 rfl (by decide) ?_
  refine x_bipush (v := nI 49) 28 hB d_M_init_26 rfl (by decide) ?_
  refine x_top (v' := .int (nI (sixN 3))) (congrArg Value.int (by decide)) ?_
  refine x_iast 29 hB 1 (ws' := [(hm, .inr (5, [.int 0, .null, .null, .null, .null, .null, .null, .null, .null, .null, .null, .null, .int 0, .int 0, .int 0, .int 0, .int 0, .null, .null, .int 0, .int 0, .long 0, .int 0])), (q7, .inl (E.2 1, 32, .inl (sxF (4))))]) rfl (by decide) (by decide) (x' := nI (sixN 3)) (rfl) (by rw [sxF_s 3]; rfl) d_M_init_28 rfl ?_
  refine x_dup 30 hB d_M_init_29 rfl rfl ?_
  refine x_iconst (v := nI 4) 31 hB d_M_init_30 rfl (by decide) ?_
  refine x_bipush (v := nI 53) 33 hB d_M_init_31 rfl (by decide) ?_
  refine x_top (v' := .int (nI (sixN 4))) (congrArg Value.int (by decide)) ?_
  refine x_iast 34 hB 1 (ws' := [(hm, .inr (5, [.int 0, .null, .null, .null, .null, .null, .null, .null, .null, .null, .null, .null, .int 0, .int 0, .int 0, .int 0, .int 0, .null, .null, .int 0, .int 0, .long 0, .int 0])), (q7, .inl (E.2 1, 32, .inl (sxF (5))))]) rfl (by decide) (by decide) (x' := nI (sixN 4)) (rfl) (by rw [sxF_s 4]; rfl) d_M_init_33 rfl ?_
  refine x_dup 35 hB d_M_init_34 rfl rfl ?_
  refine x_iconst (v := nI 5) 36 hB d_M_init_35 rfl (by decide) ?_
  refine x_bipush (v := nI 41) 38 hB d_M_init_36 rfl (by decide) ?_
  refine x_top (v' := .int (nI (sixN 5))) (congrArg Value.int (by decide)) ?_
  refine x_iast 39 hB 1 (ws' := [(hm, .inr (5, [.int 0, .null, .null, .null, .null, .null, .null, .null, .null, .null, .null, .null, .int 0, .int 0, .int 0, .int 0, .int 0, .null, .null, .int 0, .int 0, .long 0, .int 0])), (q7, .inl (E.2 1, 32, .inl (sxF (6))))]) rfl (by decide) (by decide) (x' := nI (sixN 5)) (rfl) (by rw [sxF_s 5]; rfl) d_M_init_38 rfl ?_
  refine x_dup 40 hB d_M_init_39 rfl rfl ?_
  refine x_bipush (v := nI 6) 42 hB d_M_init_40 rfl (by decide) ?_
  refine x_bipush (v := nI 25) 44 hB d_M_init_42 rfl (by decide) ?_
  refine x_top (v' := .int (nI (sixN 6))) (congrArg Value.int (by decide)) ?_
  refine x_iast 45 hB 1 (ws' := [(hm, .inr (5, [.int 0, .null, .null, .null, .null, .null, .null, .null, .null, .null, .null, .null, .int 0, .int 0, .int 0, .int 0, .int 0, .null, .null, .int 0, .int 0, .long 0, .int 0])), (q7, .inl (E.2 1, 32, .inl (sxF (7))))]) rfl (by decide) (by decide) (x' := nI (sixN 6)) (rfl) (by rw [sxF_s 6]; rfl) d_M_init_44 rfl ?_
  refine x_dup 46 hB d_M_init_45 rfl rfl ?_
  refine x_bipush (v := nI 7) 48 hB d_M_init_46 rfl (by decide) ?_
  refine x_bipush (v := nI 56) 50 hB d_M_init_48 rfl (by decide) ?_
  refine x_top (v' := .int (nI (sixN 7))) (congrArg Value.int (by decide)) ?_
  refine x_iast 51 hB 1 (ws' := [(hm, .inr (5, [.int 0, .null, .null, .null, .null, .null, .null, .null, .null, .null, .null, .null, .int 0, .int 0, .int 0, .int 0, .int 0, .null, .null, .int 0, .int 0, .long 0, .int 0])), (q7, .inl (E.2 1, 32, .inl (sxF (8))))]) rfl (by decide) (by decide) (x' := nI (sixN 7)) (rfl) (by rw [sxF_s 7]; rfl) d_M_init_50 rfl ?_
  refine x_dup 52 hB d_M_init_51 rfl rfl ?_
  refine x_bipush (v := nI 8) 54 hB d_M_init_52 rfl (by decide) ?_
  refine x_bipush (v := nI 57) 56 hB d_M_init_54 rfl (by decide) ?_
  refine x_top (v' := .int (nI (sixN 8))) (congrArg Value.int (by decide)) ?_
  refine x_iast 57 hB 1 (ws' := [(hm, .inr (5, [.int 0, .null, .null, .null, .null, .null, .null, .null, .null, .null, .null, .null, .int 0, .int 0, .int 0, .int 0, .int 0, .null, .null, .int 0, .int 0, .long 0, .int 0])), (q7, .inl (E.2 1, 32, .inl (sxF (9))))]) rfl (by decide) (by decide) (x' := nI (sixN 8)) (rfl) (by rw [sxF_s 8]; rfl) d_M_init_56 rfl ?_
  refine x_dup 58 hB d_M_init_57 rfl rfl ?_
  refine x_bipush (v := nI 9) 60 hB d_M_init_58 rfl (by decide) ?_
  refine x_bipush (v := nI 37) 62 hB d_M_init_60 rfl (by decide) ?_
  refine x_top (v' := .int (nI (sixN 9))) (congrArg Value.int (by decide)) ?_
  refine x_iast 63 hB 1 (ws' := [(hm, .inr (5, [.int 0, .null, .null, .null, .null, .null, .null, .null, .null, .null, .null, .null, .int 0, .int 0, .int 0, .int 0, .int 0, .null, .null, .int 0, .int 0, .long 0, .int 0])), (q7, .inl (E.2 1, 32, .inl (sxF (10))))]) rfl (by decide) (by decide) (x' := nI (sixN 9)) (rfl) (by rw [sxF_s 9]; rfl) d_M_init_62 rfl ?_
  refine x_dup 64 hB d_M_init_63 rfl rfl ?_
  refine x_bipush (v := nI 10) 66 hB d_M_init_64 rfl (by decide) ?_
  refine x_bipush (v := nI 21) 68 hB d_M_init_66 rfl (by decide) ?_
  refine x_top (v' := .int (nI (sixN 10))) (congrArg Value.int (by decide)) ?_
  refine x_iast 69 hB 1 (ws' := [(hm, .inr (5, [.int 0, .null, .null, .null, .null, .null, .null, .null, .null, .null, .null, .null, .int 0, .int 0, .int 0, .int 0, .int 0, .null, .null, .int 0, .int 0, .long 0, .int 0])), (q7, .inl (E.2 1, 32, .inl (sxF (11))))]) rfl (by decide) (by decide) (x' := nI (sixN 10)) (rfl) (by rw [sxF_s 10]; rfl) d_M_init_68 rfl ?_
  refine x_dup 70 hB d_M_init_69 rfl rfl ?_
  refine x_bipush (v := nI 11) 72 hB d_M_init_70 rfl (by decide) ?_
  refine x_bipush (v := nI 52) 74 hB d_M_init_72 rfl (by decide) ?_
  refine x_top (v' := .int (nI (sixN 11))) (congrArg Value.int (by decide)) ?_
  refine x_iast 75 hB 1 (ws' := [(hm, .inr (5, [.int 0, .null, .null, .null, .null, .null, .null, .null, .null, .null, .null, .null, .int 0, .int 0, .int 0, .int 0, .int 0, .null, .null, .int 0, .int 0, .long 0, .int 0])), (q7, .inl (E.2 1, 32, .inl (sxF (12))))]) rfl (by decide) (by decide) (x' := nI (sixN 11)) (rfl) (by rw [sxF_s 11]; rfl) d_M_init_74 rfl ?_
  refine x_dup 76 hB d_M_init_75 rfl rfl ?_
  refine x_bipush (v := nI 12) 78 hB d_M_init_76 rfl (by decide) ?_
  refine x_bipush (v := nI 13) 80 hB d_M_init_78 rfl (by decide) ?_
  refine x_top (v' := .int (nI (sixN 12))) (congrArg Value.int (by decide)) ?_
  refine x_iast 81 hB 1 (ws' := [(hm, .inr (5, [.int 0, .null, .null, .null, .null, .null, .null, .null, .null, .null, .null, .null, .int 0, .int 0, .int 0, .int 0, .int 0, .null, .null, .int 0, .int 0, .long 0, .int 0])), (q7, .inl (E.2 1, 32, .inl (sxF (13))))]) rfl (by decide) (by decide) (x' := nI (sixN 12)) (rfl) (by rw [sxF_s 12]; rfl) d_M_init_80 rfl ?_
  refine x_dup 82 hB d_M_init_81 rfl rfl ?_
  refine x_bipush (v := nI 13) 84 hB d_M_init_82 rfl (by decide) ?_
  refine x_bipush (v := nI 44) 86 hB d_M_init_84 rfl (by decide) ?_
  refine x_top (v' := .int (nI (sixN 13))) (congrArg Value.int (by decide)) ?_
  refine x_iast 87 hB 1 (ws' := [(hm, .inr (5, [.int 0, .null, .null, .null, .null, .null, .null, .null, .null, .null, .null, .null, .int 0, .int 0, .int 0, .int 0, .int 0, .null, .null, .int 0, .int 0, .long 0, .int 0])), (q7, .inl (E.2 1, 32, .inl (sxF (14))))]) rfl (by decide) (by decide) (x' := nI (sixN 13)) (rfl) (by rw [sxF_s 13]; rfl) d_M_init_86 rfl ?_
  refine x_dup 88 hB d_M_init_87 rfl rfl ?_
  refine x_bipush (v := nI 14) 90 hB d_M_init_88 rfl (by decide) ?_
  refine x_bipush (v := nI 28) 92 hB d_M_init_90 rfl (by decide) ?_
  refine x_top (v' := .int (nI (sixN 14))) (congrArg Value.int (by decide)) ?_
  refine x_iast 93 hB 1 (ws' := [(hm, .inr (5, [.int 0, .null, .null, .null, .null, .null, .null, .null, .null, .null, .null, .null, .int 0, .int 0, .int 0, .int 0, .int 0, .null, .null, .int 0, .int 0, .long 0, .int 0])), (q7, .inl (E.2 1, 32, .inl (sxF (15))))]) rfl (by decide) (by decide) (x' := nI (sixN 14)) (rfl) (by rw [sxF_s 14]; rfl) d_M_init_92 rfl ?_
  refine x_dup 94 hB d_M_init_93 rfl rfl ?_
  refine x_bipush (v := nI 15) 96 hB d_M_init_94 rfl (by decide) ?_
  refine x_bipush (v := nI 23) 98 hB d_M_init_96 rfl (by decide) ?_
  refine x_top (v' := .int (nI (sixN 15))) (congrArg Value.int (by decide)) ?_
  refine x_iast 99 hB 1 (ws' := [(hm, .inr (5, [.int 0, .null, .null, .null, .null, .null, .null, .null, .null, .null, .null, .null, .int 0, .int 0, .int 0, .int 0, .int 0, .null, .null, .int 0, .int 0, .long 0, .int 0])), (q7, .inl (E.2 1, 32, .inl (sxF (16))))]) rfl (by decide) (by decide) (x' := nI (sixN 15)) (rfl) (by rw [sxF_s 15]; rfl) d_M_init_98 rfl ?_
  refine x_dup 100 hB d_M_init_99 rfl rfl ?_
  refine x_bipush (v := nI 16) 102 hB d_M_init_100 rfl (by decide) ?_
  refine x_bipush (v := nI 27) 104 hB d_M_init_102 rfl (by decide) ?_
  refine x_top (v' := .int (nI (sixN 16))) (congrArg Value.int (by decide)) ?_
  refine x_iast 105 hB 1 (ws' := [(hm, .inr (5, [.int 0, .null, .null, .null, .null, .null, .null, .null, .null, .null, .null, .null, .int 0, .int 0, .int 0, .int 0, .int 0, .null, .null, .int 0, .int 0, .long 0, .int 0])), (q7, .inl (E.2 1, 32, .inl (sxF (17))))]) rfl (by decide) (by decide) (x' := nI (sixN 16)) (rfl) (by rw [sxF_s 16]; rfl) d_M_init_104 rfl ?_
  refine x_dup 106 hB d_M_init_105 rfl rfl ?_
  refine x_bipush (v := nI 17) 108 hB d_M_init_106 rfl (by decide) ?_
  refine x_bipush (v := nI 35) 110 hB d_M_init_108 rfl (by decide) ?_
  refine x_top (v' := .int (nI (sixN 17))) (congrArg Value.int (by decide)) ?_
  refine x_iast 111 hB 1 (ws' := [(hm, .inr (5, [.int 0, .null, .null, .null, .null, .null, .null, .null, .null, .null, .null, .null, .int 0, .int 0, .int 0, .int 0, .int 0, .null, .null, .int 0, .int 0, .long 0, .int 0])), (q7, .inl (E.2 1, 32, .inl (sxF (18))))]) rfl (by decide) (by decide) (x' := nI (sixN 17)) (rfl) (by rw [sxF_s 17]; rfl) d_M_init_110 rfl ?_
  refine x_dup 112 hB d_M_init_111 rfl rfl ?_
  refine x_bipush (v := nI 18) 114 hB d_M_init_112 rfl (by decide) ?_
  refine x_bipush (v := nI 19) 116 hB d_M_init_114 rfl (by decide) ?_
  refine x_top (v' := .int (nI (sixN 18))) (congrArg Value.int (by decide)) ?_
  refine x_iast 117 hB 1 (ws' := [(hm, .inr (5, [.int 0, .null, .null, .null, .null, .null, .null, .null, .null, .null, .null, .null, .int 0, .int 0, .int 0, .int 0, .int 0, .null, .null, .int 0, .int 0, .long 0, .int 0])), (q7, .inl (E.2 1, 32, .inl (sxF (19))))]) rfl (by decide) (by decide) (x' := nI (sixN 18)) (rfl) (by rw [sxF_s 18]; rfl) d_M_init_116 rfl ?_
  refine x_dup 118 hB d_M_init_117 rfl rfl ?_
  refine x_bipush (v := nI 19) 120 hB d_M_init_118 rfl (by decide) ?_
  refine x_bipush (v := nI 50) 122 hB d_M_init_120 rfl (by decide) ?_
  refine x_top (v' := .int (nI (sixN 19))) (congrArg Value.int (by decide)) ?_
  refine x_iast 123 hB 1 (ws' := [(hm, .inr (5, [.int 0, .null, .null, .null, .null, .null, .null, .null, .null, .null, .null, .null, .int 0, .int 0, .int 0, .int 0, .int 0, .null, .null, .int 0, .int 0, .long 0, .int 0])), (q7, .inl (E.2 1, 32, .inl (sxF (20))))]) rfl (by decide) (by decide) (x' := nI (sixN 19)) (rfl) (by rw [sxF_s 19]; rfl) d_M_init_122 rfl ?_
  refine x_dup 124 hB d_M_init_123 rfl rfl ?_
  refine x_bipush (v := nI 20) 126 hB d_M_init_124 rfl (by decide) ?_
  refine x_bipush (v := nI 11) 128 hB d_M_init_126 rfl (by decide) ?_
  refine x_top (v' := .int (nI (sixN 20))) (congrArg Value.int (by decide)) ?_
  refine x_iast 129 hB 1 (ws' := [(hm, .inr (5, [.int 0, .null, .null, .null, .null, .null, .null, .null, .null, .null, .null, .null, .int 0, .int 0, .int 0, .int 0, .int 0, .null, .null, .int 0, .int 0, .long 0, .int 0])), (q7, .inl (E.2 1, 32, .inl (sxF (21))))]) rfl (by decide) (by decide) (x' := nI (sixN 20)) (rfl) (by rw [sxF_s 20]; rfl) d_M_init_128 rfl ?_
  refine x_dup 130 hB d_M_init_129 rfl rfl ?_
  refine x_bipush (v := nI 21) 132 hB d_M_init_130 rfl (by decide) ?_
  refine x_bipush (v := nI 42) 134 hB d_M_init_132 rfl (by decide) ?_
  refine x_top (v' := .int (nI (sixN 21))) (congrArg Value.int (by decide)) ?_
  refine x_iast 135 hB 1 (ws' := [(hm, .inr (5, [.int 0, .null, .null, .null, .null, .null, .null, .null, .null, .null, .null, .null, .int 0, .int 0, .int 0, .int 0, .int 0, .null, .null, .int 0, .int 0, .long 0, .int 0])), (q7, .inl (E.2 1, 32, .inl (sxF (22))))]) rfl (by decide) (by decide) (x' := nI (sixN 21)) (rfl) (by rw [sxF_s 21]; rfl) d_M_init_134 rfl ?_
  refine x_dup 136 hB d_M_init_135 rfl rfl ?_
  refine x_bipush (v := nI 22) 138 hB d_M_init_136 rfl (by decide) ?_
  refine x_bipush (v := nI 26) 140 hB d_M_init_138 rfl (by decide) ?_
  refine x_top (v' := .int (nI (sixN 22))) (congrArg Value.int (by decide)) ?_
  refine x_iast 141 hB 1 (ws' := [(hm, .inr (5, [.int 0, .null, .null, .null, .null, .null, .null, .null, .null, .null, .null, .null, .int 0, .int 0, .int 0, .int 0, .int 0, .null, .null, .int 0, .int 0, .long 0, .int 0])), (q7, .inl (E.2 1, 32, .inl (sxF (23))))]) rfl (by decide) (by decide) (x' := nI (sixN 22)) (rfl) (by rw [sxF_s 22]; rfl) d_M_init_140 rfl ?_
  refine x_dup 142 hB d_M_init_141 rfl rfl ?_
  refine x_bipush (v := nI 23) 144 hB d_M_init_142 rfl (by decide) ?_
  refine x_bipush (v := nI 58) 146 hB d_M_init_144 rfl (by decide) ?_
  refine x_top (v' := .int (nI (sixN 23))) (congrArg Value.int (by decide)) ?_
  refine x_iast 147 hB 1 (ws' := [(hm, .inr (5, [.int 0, .null, .null, .null, .null, .null, .null, .null, .null, .null, .null, .null, .int 0, .int 0, .int 0, .int 0, .int 0, .null, .null, .int 0, .int 0, .long 0, .int 0])), (q7, .inl (E.2 1, 32, .inl (sxF (24))))]) rfl (by decide) (by decide) (x' := nI (sixN 23)) (rfl) (by rw [sxF_s 23]; rfl) d_M_init_146 rfl ?_
  refine x_dup 148 hB d_M_init_147 rfl rfl ?_
  refine x_bipush (v := nI 24) 150 hB d_M_init_148 rfl (by decide) ?_
  refine x_bipush (v := nI 51) 152 hB d_M_init_150 rfl (by decide) ?_
  refine x_top (v' := .int (nI (sixN 24))) (congrArg Value.int (by decide)) ?_
  refine x_iast 153 hB 1 (ws' := [(hm, .inr (5, [.int 0, .null, .null, .null, .null, .null, .null, .null, .null, .null, .null, .null, .int 0, .int 0, .int 0, .int 0, .int 0, .null, .null, .int 0, .int 0, .long 0, .int 0])), (q7, .inl (E.2 1, 32, .inl (sxF (25))))]) rfl (by decide) (by decide) (x' := nI (sixN 24)) (rfl) (by rw [sxF_s 24]; rfl) d_M_init_152 rfl ?_
  refine x_dup 154 hB d_M_init_153 rfl rfl ?_
  refine x_bipush (v := nI 25) 156 hB d_M_init_154 rfl (by decide) ?_
  refine x_bipush (v := nI 38) 158 hB d_M_init_156 rfl (by decide) ?_
  refine x_top (v' := .int (nI (sixN 25))) (congrArg Value.int (by decide)) ?_
  refine x_iast 159 hB 1 (ws' := [(hm, .inr (5, [.int 0, .null, .null, .null, .null, .null, .null, .null, .null, .null, .null, .null, .int 0, .int 0, .int 0, .int 0, .int 0, .null, .null, .int 0, .int 0, .long 0, .int 0])), (q7, .inl (E.2 1, 32, .inl (sxF (26))))]) rfl (by decide) (by decide) (x' := nI (sixN 25)) (rfl) (by rw [sxF_s 25]; rfl) d_M_init_158 rfl ?_
  refine x_dup 160 hB d_M_init_159 rfl rfl ?_
  refine x_bipush (v := nI 26) 162 hB d_M_init_160 rfl (by decide) ?_
  refine x_bipush (v := nI 22) 164 hB d_M_init_162 rfl (by decide) ?_
  refine x_top (v' := .int (nI (sixN 26))) (congrArg Value.int (by decide)) ?_
  refine x_iast 165 hB 1 (ws' := [(hm, .inr (5, [.int 0, .null, .null, .null, .null, .null, .null, .null, .null, .null, .null, .null, .int 0, .int 0, .int 0, .int 0, .int 0, .null, .null, .int 0, .int 0, .long 0, .int 0])), (q7, .inl (E.2 1, 32, .inl (sxF (27))))]) rfl (by decide) (by decide) (x' := nI (sixN 26)) (rfl) (by rw [sxF_s 26]; rfl) d_M_init_164 rfl ?_
  refine x_dup 166 hB d_M_init_165 rfl rfl ?_
  refine x_bipush (v := nI 27) 168 hB d_M_init_166 rfl (by decide) ?_
  refine x_bipush (v := nI 54) 170 hB d_M_init_168 rfl (by decide) ?_
  refine x_top (v' := .int (nI (sixN 27))) (congrArg Value.int (by decide)) ?_
  refine x_iast 171 hB 1 (ws' := [(hm, .inr (5, [.int 0, .null, .null, .null, .null, .null, .null, .null, .null, .null, .null, .null, .int 0, .int 0, .int 0, .int 0, .int 0, .null, .null, .int 0, .int 0, .long 0, .int 0])), (q7, .inl (E.2 1, 32, .inl (sxF (28))))]) rfl (by decide) (by decide) (x' := nI (sixN 27)) (rfl) (by rw [sxF_s 27]; rfl) d_M_init_170 rfl ?_
  refine x_dup 172 hB d_M_init_171 rfl rfl ?_
  refine x_bipush (v := nI 28) 174 hB d_M_init_172 rfl (by decide) ?_
  refine x_bipush (v := nI 14) 176 hB d_M_init_174 rfl (by decide) ?_
  refine x_top (v' := .int (nI (sixN 28))) (congrArg Value.int (by decide)) ?_
  refine x_iast 177 hB 1 (ws' := [(hm, .inr (5, [.int 0, .null, .null, .null, .null, .null, .null, .null, .null, .null, .null, .null, .int 0, .int 0, .int 0, .int 0, .int 0, .null, .null, .int 0, .int 0, .long 0, .int 0])), (q7, .inl (E.2 1, 32, .inl (sxF (29))))]) rfl (by decide) (by decide) (x' := nI (sixN 28)) (rfl) (by rw [sxF_s 28]; rfl) d_M_init_176 rfl ?_
  refine x_dup 178 hB d_M_init_177 rfl rfl ?_
  refine x_bipush (v := nI 29) 180 hB d_M_init_178 rfl (by decide) ?_
  refine x_bipush (v := nI 46) 182 hB d_M_init_180 rfl (by decide) ?_
  refine x_top (v' := .int (nI (sixN 29))) (congrArg Value.int (by decide)) ?_
  refine x_iast 183 hB 1 (ws' := [(hm, .inr (5, [.int 0, .null, .null, .null, .null, .null, .null, .null, .null, .null, .null, .null, .int 0, .int 0, .int 0, .int 0, .int 0, .null, .null, .int 0, .int 0, .long 0, .int 0])), (q7, .inl (E.2 1, 32, .inl (sxF (30))))]) rfl (by decide) (by decide) (x' := nI (sixN 29)) (rfl) (by rw [sxF_s 29]; rfl) d_M_init_182 rfl ?_
  refine x_dup 184 hB d_M_init_183 rfl rfl ?_
  refine x_bipush (v := nI 30) 186 hB d_M_init_184 rfl (by decide) ?_
  refine x_bipush (v := nI 30) 188 hB d_M_init_186 rfl (by decide) ?_
  refine x_top (v' := .int (nI (sixN 30))) (congrArg Value.int (by decide)) ?_
  refine x_iast 189 hB 1 (ws' := [(hm, .inr (5, [.int 0, .null, .null, .null, .null, .null, .null, .null, .null, .null, .null, .null, .int 0, .int 0, .int 0, .int 0, .int 0, .null, .null, .int 0, .int 0, .long 0, .int 0])), (q7, .inl (E.2 1, 32, .inl (sxF (31))))]) rfl (by decide) (by decide) (x' := nI (sixN 30)) (rfl) (by rw [sxF_s 30]; rfl) d_M_init_188 rfl ?_
  refine x_dup 190 hB d_M_init_189 rfl rfl ?_
  refine x_bipush (v := nI 31) 192 hB d_M_init_190 rfl (by decide) ?_
  refine x_bipush (v := nI 43) 194 hB d_M_init_192 rfl (by decide) ?_
  refine x_top (v' := .int (nI (sixN 31))) (congrArg Value.int (by decide)) ?_
  refine x_iast 195 hB 1 (ws' := [(hm, .inr (5, [.int 0, .null, .null, .null, .null, .null, .null, .null, .null, .null, .null, .null, .int 0, .int 0, .int 0, .int 0, .int 0, .null, .null, .int 0, .int 0, .long 0, .int 0])), (q7, .inl (E.2 1, 32, .inl (sxF (32))))]) rfl (by decide) (by decide) (x' := nI (sixN 31)) (rfl) (by rw [sxF_s 31]; rfl) d_M_init_194 rfl ?_
  refine x_putF 198 hB 0 (ws' := [(hm, .inr (5, [.int 0, .ref q7, .null, .null, .null, .null, .null, .null, .null, .null, .null, .null, .int 0, .int 0, .int 0, .int 0, .int 0, .null, .null, .int 0, .int 0, .long 0, .int 0])), (q7, .inl (E.2 1, 32, .inl (sxF (32))))]) fp_M_7_5 rfl (rfl) (rfl) (Nat.le_of_ble_eq_true rfl) rfl d_M_init_195 rfl ?_
  refine x_aload_n 199 hB d_M_init_198 rfl rfl ?_
  refine x_bipush (v := nI 8) 201 hB d_M_init_199 rfl (by decide) ?_
  refine x_newI (k' := 2) (n' := 40) 203 hB w_692 (by decide) (by decide) (by decide) rfl rfl d_M_init_201 rfl (fun q201 => ?_)
  refine x_ws (ws' := [(hm, .inr (5, [.int 0, .ref q7, .null, .null, .null, .null, .null, .null, .null, .null, .null, .null, .int 0, .int 0, .int 0, .int 0, .int 0, .null, .null, .int 0, .int 0, .long 0, .int 0])), (q7, .inl (E.2 1, 32, .inl (sxF (32)))), (q201, .inl (E.2 1, 8, .inl (fun _ => 0)))]) rfl ?_
  refine x_dup 204 hB d_M_init_203 rfl rfl ?_
  refine x_iconst (v := nI 0) 205 hB d_M_init_204 rfl (by decide) ?_
  refine x_bipush (v := nI 11) 207 hB d_M_init_205 rfl (by decide) ?_
  refine x_top (v' := .int (nI (fourN 0))) (congrArg Value.int (by decide)) ?_
  refine x_iast 208 hB 2 (ws' := [(hm, .inr (5, [.int 0, .ref q7, .null, .null, .null, .null, .null, .null, .null, .null, .null, .null, .int 0, .int 0, .int 0, .int 0, .int 0, .null, .null, .int 0, .int 0, .long 0, .int 0])), (q7, .inl (E.2 1, 32, .inl (sxF (32)))), (q201, .inl (E.2 1, 8, .inl (fxF (1))))]) rfl (by decide) (by decide) (x' := nI (fourN 0)) (rfl) (by rw [fxF_0, fxF_s 0]; rfl) d_M_init_207 rfl ?_
  refine x_dup 209 hB d_M_init_208 rfl rfl ?_
  refine x_iconst (v := nI 1) 210 hB d_M_init_209 rfl (by decide) ?_
  refine x_bipush (v := nI 9) 212 hB d_M_init_210 rfl (by decide) ?_
  refine x_top (v' := .int (nI (fourN 1))) (congrArg Value.int (by decide)) ?_
  refine x_iast 213 hB 2 (ws' := [(hm, .inr (5, [.int 0, .ref q7, .null, .null, .null, .null, .null, .null, .null, .null, .null, .null, .int 0, .int 0, .int 0, .int 0, .int 0, .null, .null, .int 0, .int 0, .long 0, .int 0])), (q7, .inl (E.2 1, 32, .inl (sxF (32)))), (q201, .inl (E.2 1, 8, .inl (fxF (2))))]) rfl (by decide) (by decide) (x' := nI (fourN 1)) (rfl) (by rw [fxF_s 1]; rfl) d_M_init_212 rfl ?_
  refine x_dup 214 hB d_M_init_213 rfl rfl ?_
  refine x_iconst (v := nI 2) 215 hB d_M_init_214 rfl (by decide) ?_
  refine x_iconst (v := nI 5) 216 hB d_M_init_215 rfl (by decide) ?_
  refine x_top (v' := .int (nI (fourN 2))) (congrArg Value.int (by decide)) ?_
  refine x_iast 217 hB 2 (ws' := [(hm, .inr (5, [.int 0, .ref q7, .null, .null, .null, .null, .null, .null, .null, .null, .null, .null, .int 0, .int 0, .int 0, .int 0, .int 0, .null, .null, .int 0, .int 0, .long 0, .int 0])), (q7, .inl (E.2 1, 32, .inl (sxF (32)))), (q201, .inl (E.2 1, 8, .inl (fxF (3))))]) rfl (by decide) (by decide) (x' := nI (fourN 2)) (rfl) (by rw [fxF_s 2]; rfl) d_M_init_216 rfl ?_
  refine x_dup 218 hB d_M_init_217 rfl rfl ?_
  refine x_iconst (v := nI 3) 219 hB d_M_init_218 rfl (by decide) ?_
  refine x_bipush (v := nI 12) 221 hB d_M_init_219 rfl (by decide) ?_
  refine x_top (v' := .int (nI (fourN 3))) (congrArg Value.int (by decide)) ?_
  refine x_iast 222 hB 2 (ws' := [(hm, .inr (5, [.int 0, .ref q7, .null, .null, .null, .null, .null, .null, .null, .null, .null, .null, .int 0, .int 0, .int 0, .int 0, .int 0, .null, .null, .int 0, .int 0, .long 0, .int 0])), (q7, .inl (E.2 1, 32, .inl (sxF (32)))), (q201, .inl (E.2 1, 8, .inl (fxF (4))))]) rfl (by decide) (by decide) (x' := nI (fourN 3)) (rfl) (by rw [fxF_s 3]; rfl) d_M_init_221 rfl ?_
  refine x_dup 223 hB d_M_init_222 rfl rfl ?_
  refine x_iconst (v := nI 4) 224 hB d_M_init_223 rfl (by decide) ?_
  refine x_bipush (v := nI 13) 226 hB d_M_init_224 rfl (by decide) ?_
  refine x_top (v' := .int (nI (fourN 4))) (congrArg Value.int (by decide)) ?_
  refine x_iast 227 hB 2 (ws' := [(hm, .inr (5, [.int 0, .ref q7, .null, .null, .null, .null, .null, .null, .null, .null, .null, .null, .int 0, .int 0, .int 0, .int 0, .int 0, .null, .null, .int 0, .int 0, .long 0, .int 0])), (q7, .inl (E.2 1, 32, .inl (sxF (32)))), (q201, .inl (E.2 1, 8, .inl (fxF (5))))]) rfl (by decide) (by decide) (x' := nI (fourN 4)) (rfl) (by rw [fxF_s 4]; rfl) d_M_init_226 rfl ?_
  refine x_dup 228 hB d_M_init_227 rfl rfl ?_
  refine x_iconst (v := nI 5) 229 hB d_M_init_228 rfl (by decide) ?_
  refine x_bipush (v := nI 10) 231 hB d_M_init_229 rfl (by decide) ?_
  refine x_top (v' := .int (nI (fourN 5))) (congrArg Value.int (by decide)) ?_
  refine x_iast 232 hB 2 (ws' := [(hm, .inr (5, [.int 0, .ref q7, .null, .null, .null, .null, .null, .null, .null, .null, .null, .null, .int 0, .int 0, .int 0, .int 0, .int 0, .null, .null, .int 0, .int 0, .long 0, .int 0])), (q7, .inl (E.2 1, 32, .inl (sxF (32)))), (q201, .inl (E.2 1, 8, .inl (fxF (6))))]) rfl (by decide) (by decide) (x' := nI (fourN 5)) (rfl) (by rw [fxF_s 5]; rfl) d_M_init_231 rfl ?_
  refine x_dup 233 hB d_M_init_232 rfl rfl ?_
  refine x_bipush (v := nI 6) 235 hB d_M_init_233 rfl (by decide) ?_
  refine x_bipush (v := nI 6) 237 hB d_M_init_235 rfl (by decide) ?_
  refine x_top (v' := .int (nI (fourN 6))) (congrArg Value.int (by decide)) ?_
  refine x_iast 238 hB 2 (ws' := [(hm, .inr (5, [.int 0, .ref q7, .null, .null, .null, .null, .null, .null, .null, .null, .null, .null, .int 0, .int 0, .int 0, .int 0, .int 0, .null, .null, .int 0, .int 0, .long 0, .int 0])), (q7, .inl (E.2 1, 32, .inl (sxF (32)))), (q201, .inl (E.2 1, 8, .inl (fxF (7))))]) rfl (by decide) (by decide) (x' := nI (fourN 6)) (rfl) (by rw [fxF_s 6]; rfl) d_M_init_237 rfl ?_
  refine x_dup 239 hB d_M_init_238 rfl rfl ?_
  refine x_bipush (v := nI 7) 241 hB d_M_init_239 rfl (by decide) ?_
  refine x_bipush (v := nI 14) 243 hB d_M_init_241 rfl (by decide) ?_
  refine x_top (v' := .int (nI (fourN 7))) (congrArg Value.int (by decide)) ?_
  refine x_iast 244 hB 2 (ws' := [(hm, .inr (5, [.int 0, .ref q7, .null, .null, .null, .null, .null, .null, .null, .null, .null, .null, .int 0, .int 0, .int 0, .int 0, .int 0, .null, .null, .int 0, .int 0, .long 0, .int 0])), (q7, .inl (E.2 1, 32, .inl (sxF (32)))), (q201, .inl (E.2 1, 8, .inl (fxF (8))))]) rfl (by decide) (by decide) (x' := nI (fourN 7)) (rfl) (by rw [fxF_s 7]; rfl) d_M_init_243 rfl ?_
  refine x_putF 247 hB 0 (ws' := [(hm, .inr (5, [.int 0, .ref q7, .ref q201, .null, .null, .null, .null, .null, .null, .null, .null, .null, .int 0, .int 0, .int 0, .int 0, .int 0, .null, .null, .int 0, .int 0, .long 0, .int 0])), (q7, .inl (E.2 1, 32, .inl (sxF (32)))), (q201, .inl (E.2 1, 8, .inl (fxF (8))))]) fp_M_13_5 rfl (rfl) (rfl) (Nat.le_of_ble_eq_true rfl) rfl d_M_init_244 rfl ?_
  refine x_aload_n 248 hB d_M_init_247 rfl rfl ?_
  refine x_sipush (v := nI 1024) 251 hB d_M_init_248 rfl (by decide) ?_
  refine x_newI (k' := 3) (n' := 1064) 253 hB w_692 (by decide) (by decide) (by decide) rfl rfl d_M_init_251 rfl (fun q251 => ?_)
  refine x_ws (ws' := [(hm, .inr (5, [.int 0, .ref q7, .ref q201, .null, .null, .null, .null, .null, .null, .null, .null, .null, .int 0, .int 0, .int 0, .int 0, .int 0, .null, .null, .int 0, .int 0, .long 0, .int 0])), (q7, .inl (E.2 1, 32, .inl (sxF (32)))), (q201, .inl (E.2 1, 8, .inl (fxF (8)))), (q251, .inl (E.2 1, 1024, .inl (fun _ => 0)))]) rfl ?_
  refine x_putF 256 hB 0 (ws' := [(hm, .inr (5, [.int 0, .ref q7, .ref q201, .ref q251, .null, .null, .null, .null, .null, .null, .null, .null, .int 0, .int 0, .int 0, .int 0, .int 0, .null, .null, .int 0, .int 0, .long 0, .int 0])), (q7, .inl (E.2 1, 32, .inl (sxF (32)))), (q201, .inl (E.2 1, 8, .inl (fxF (8)))), (q251, .inl (E.2 1, 1024, .inl (fun _ => 0)))]) fp_M_16_5 rfl (rfl) (rfl) (Nat.le_of_ble_eq_true rfl) rfl d_M_init_253 rfl ?_
  refine x_aload_n 257 hB d_M_init_256 rfl rfl ?_
  refine x_sipush (v := nI 1024) 260 hB d_M_init_257 rfl (by decide) ?_
  refine x_newI (k' := 4) (n' := 2088) 262 hB w_692 (by decide) (by decide) (by decide) rfl rfl d_M_init_260 rfl (fun q260 => ?_)
  refine x_ws (ws' := [(hm, .inr (5, [.int 0, .ref q7, .ref q201, .ref q251, .null, .null, .null, .null, .null, .null, .null, .null, .int 0, .int 0, .int 0, .int 0, .int 0, .null, .null, .int 0, .int 0, .long 0, .int 0])), (q7, .inl (E.2 1, 32, .inl (sxF (32)))), (q201, .inl (E.2 1, 8, .inl (fxF (8)))), (q251, .inl (E.2 1, 1024, .inl (fun _ => 0))), (q260, .inl (E.2 1, 1024, .inl (fun _ => 0)))]) rfl ?_
  refine x_putF 265 hB 0 (ws' := [(hm, .inr (5, [.int 0, .ref q7, .ref q201, .ref q251, .ref q260, .null, .null, .null, .null, .null, .null, .null, .int 0, .int 0, .int 0, .int 0, .int 0, .null, .null, .int 0, .int 0, .long 0, .int 0])), (q7, .inl (E.2 1, 32, .inl (sxF (32)))), (q201, .inl (E.2 1, 8, .inl (fxF (8)))), (q251, .inl (E.2 1, 1024, .inl (fun _ => 0))), (q260, .inl (E.2 1, 1024, .inl (fun _ => 0)))]) fp_M_19_5 rfl (rfl) (rfl) (Nat.le_of_ble_eq_true rfl) rfl d_M_init_262 rfl ?_
  refine x_aload_n 266 hB d_M_init_265 rfl rfl ?_
  refine x_sipush (v := nI 5280) 269 hB d_M_init_266 rfl (by decide) ?_
  refine x_newI (k' := 5) (n' := 7368) 271 hB w_692 (by decide) (by decide) (by decide) rfl rfl d_M_init_269 rfl (fun q269 => ?_)
  refine x_ws (ws' := [(hm, .inr (5, [.int 0, .ref q7, .ref q201, .ref q251, .ref q260, .null, .null, .null, .null, .null, .null, .null, .int 0, .int 0, .int 0, .int 0, .int 0, .null, .null, .int 0, .int 0, .long 0, .int 0])), (q7, .inl (E.2 1, 32, .inl (sxF (32)))), (q201, .inl (E.2 1, 8, .inl (fxF (8)))), (q251, .inl (E.2 1, 1024, .inl (fun _ => 0))), (q260, .inl (E.2 1, 1024, .inl (fun _ => 0))), (q269, .inl (E.2 1, 5280, .inl (fun _ => 0)))]) rfl ?_
  refine x_putF 274 hB 0 (ws' := [(hm, .inr (5, [.int 0, .ref q7, .ref q201, .ref q251, .ref q260, .ref q269, .null, .null, .null, .null, .null, .null, .int 0, .int 0, .int 0, .int 0, .int 0, .null, .null, .int 0, .int 0, .long 0, .int 0])), (q7, .inl (E.2 1, 32, .inl (sxF (32)))), (q201, .inl (E.2 1, 8, .inl (fxF (8)))), (q251, .inl (E.2 1, 1024, .inl (fun _ => 0))), (q260, .inl (E.2 1, 1024, .inl (fun _ => 0))), (q269, .inl (E.2 1, 5280, .inl (fun _ => 0)))]) fp_M_22_5 rfl (rfl) (rfl) (Nat.le_of_ble_eq_true rfl) rfl d_M_init_271 rfl ?_
  refine x_aload_n 275 hB d_M_init_274 rfl rfl ?_
  refine x_iconst (v := nI 2) 276 hB d_M_init_275 rfl (by decide) ?_
  refine x_newI (k' := 6) (n' := 7370) 278 hB w_692 (by decide) (by decide) (by decide) rfl rfl d_M_init_276 rfl (fun q276 => ?_)
  refine x_ws (ws' := [(hm, .inr (5, [.int 0, .ref q7, .ref q201, .ref q251, .ref q260, .ref q269, .null, .null, .null, .null, .null, .null, .int 0, .int 0, .int 0, .int 0, .int 0, .null, .null, .int 0, .int 0, .long 0, .int 0])), (q7, .inl (E.2 1, 32, .inl (sxF (32)))), (q201, .inl (E.2 1, 8, .inl (fxF (8)))), (q251, .inl (E.2 1, 1024, .inl (fun _ => 0))), (q260, .inl (E.2 1, 1024, .inl (fun _ => 0))), (q269, .inl (E.2 1, 5280, .inl (fun _ => 0))), (q276, .inl (E.2 1, 2, .inl (fun _ => 0)))]) rfl ?_
  refine x_putF 281 hB 0 (ws' := [(hm, .inr (5, [.int 0, .ref q7, .ref q201, .ref q251, .ref q260, .ref q269, .ref q276, .null, .null, .null, .null, .null, .int 0, .int 0, .int 0, .int 0, .int 0, .null, .null, .int 0, .int 0, .long 0, .int 0])), (q7, .inl (E.2 1, 32, .inl (sxF (32)))), (q201, .inl (E.2 1, 8, .inl (fxF (8)))), (q251, .inl (E.2 1, 1024, .inl (fun _ => 0))), (q260, .inl (E.2 1, 1024, .inl (fun _ => 0))), (q269, .inl (E.2 1, 5280, .inl (fun _ => 0))), (q276, .inl (E.2 1, 2, .inl (fun _ => 0)))]) fp_M_25_5 rfl (rfl) (rfl) (Nat.le_of_ble_eq_true rfl) rfl d_M_init_278 rfl ?_
  refine x_aload_n 282 hB d_M_init_281 rfl rfl ?_
  refine x_iconst (v := nI 2) 283 hB d_M_init_282 rfl (by decide) ?_
  refine x_newI (k' := 7) (n' := 7372) 285 hB w_692 (by decide) (by decide) (by decide) rfl rfl d_M_init_283 rfl (fun q283 => ?_)
  refine x_ws (ws' := [(hm, .inr (5, [.int 0, .ref q7, .ref q201, .ref q251, .ref q260, .ref q269, .ref q276, .null, .null, .null, .null, .null, .int 0, .int 0, .int 0, .int 0, .int 0, .null, .null, .int 0, .int 0, .long 0, .int 0])), (q7, .inl (E.2 1, 32, .inl (sxF (32)))), (q201, .inl (E.2 1, 8, .inl (fxF (8)))), (q251, .inl (E.2 1, 1024, .inl (fun _ => 0))), (q260, .inl (E.2 1, 1024, .inl (fun _ => 0))), (q269, .inl (E.2 1, 5280, .inl (fun _ => 0))), (q276, .inl (E.2 1, 2, .inl (fun _ => 0))), (q283, .inl (E.2 1, 2, .inl (fun _ => 0)))]) rfl ?_
  refine x_putF 288 hB 0 (ws' := [(hm, .inr (5, [.int 0, .ref q7, .ref q201, .ref q251, .ref q260, .ref q269, .ref q276, .ref q283, .null, .null, .null, .null, .int 0, .int 0, .int 0, .int 0, .int 0, .null, .null, .int 0, .int 0, .long 0, .int 0])), (q7, .inl (E.2 1, 32, .inl (sxF (32)))), (q201, .inl (E.2 1, 8, .inl (fxF (8)))), (q251, .inl (E.2 1, 1024, .inl (fun _ => 0))), (q260, .inl (E.2 1, 1024, .inl (fun _ => 0))), (q269, .inl (E.2 1, 5280, .inl (fun _ => 0))), (q276, .inl (E.2 1, 2, .inl (fun _ => 0))), (q283, .inl (E.2 1, 2, .inl (fun _ => 0)))]) fp_M_28_5 rfl (rfl) (rfl) (Nat.le_of_ble_eq_true rfl) rfl d_M_init_285 rfl ?_
  refine x_aload_n 289 hB d_M_init_288 rfl rfl ?_
  refine x_iconst (v := nI 2) 290 hB d_M_init_289 rfl (by decide) ?_
  refine x_newZ (k' := 8) (n' := 7374) 292 hB w_693 (by decide) (by decide) (by decide) rfl rfl d_M_init_290 rfl (fun q290 => ?_)
  refine x_ws (ws' := [(hm, .inr (5, [.int 0, .ref q7, .ref q201, .ref q251, .ref q260, .ref q269, .ref q276, .ref q283, .null, .null, .null, .null, .int 0, .int 0, .int 0, .int 0, .int 0, .null, .null, .int 0, .int 0, .long 0, .int 0])), (q7, .inl (E.2 1, 32, .inl (sxF (32)))), (q201, .inl (E.2 1, 8, .inl (fxF (8)))), (q251, .inl (E.2 1, 1024, .inl (fun _ => 0))), (q260, .inl (E.2 1, 1024, .inl (fun _ => 0))), (q269, .inl (E.2 1, 5280, .inl (fun _ => 0))), (q276, .inl (E.2 1, 2, .inl (fun _ => 0))), (q283, .inl (E.2 1, 2, .inl (fun _ => 0))), (q290, .inl (E.2 3, 2, .inl (fun _ => 0)))]) rfl ?_
  refine x_putF 295 hB 0 (ws' := [(hm, .inr (5, [.int 0, .ref q7, .ref q201, .ref q251, .ref q260, .ref q269, .ref q276, .ref q283, .ref q290, .null, .null, .null, .int 0, .int 0, .int 0, .int 0, .int 0, .null, .null, .int 0, .int 0, .long 0, .int 0])), (q7, .inl (E.2 1, 32, .inl (sxF (32)))), (q201, .inl (E.2 1, 8, .inl (fxF (8)))), (q251, .inl (E.2 1, 1024, .inl (fun _ => 0))), (q260, .inl (E.2 1, 1024, .inl (fun _ => 0))), (q269, .inl (E.2 1, 5280, .inl (fun _ => 0))), (q276, .inl (E.2 1, 2, .inl (fun _ => 0))), (q283, .inl (E.2 1, 2, .inl (fun _ => 0))), (q290, .inl (E.2 3, 2, .inl (fun _ => 0)))]) fp_M_31_5 rfl (rfl) (rfl) (Nat.le_of_ble_eq_true rfl) rfl d_M_init_292 rfl ?_
  refine x_aload_n 296 hB d_M_init_295 rfl rfl ?_
  refine x_iconst (v := nI 2) 297 hB d_M_init_296 rfl (by decide) ?_
  refine x_newI (k' := 9) (n' := 7376) 299 hB w_692 (by decide) (by decide) (by decide) rfl rfl d_M_init_297 rfl (fun q297 => ?_)
  refine x_ws (ws' := [(hm, .inr (5, [.int 0, .ref q7, .ref q201, .ref q251, .ref q260, .ref q269, .ref q276, .ref q283, .ref q290, .null, .null, .null, .int 0, .int 0, .int 0, .int 0, .int 0, .null, .null, .int 0, .int 0, .long 0, .int 0])), (q7, .inl (E.2 1, 32, .inl (sxF (32)))), (q201, .inl (E.2 1, 8, .inl (fxF (8)))), (q251, .inl (E.2 1, 1024, .inl (fun _ => 0))), (q260, .inl (E.2 1, 1024, .inl (fun _ => 0))), (q269, .inl (E.2 1, 5280, .inl (fun _ => 0))), (q276, .inl (E.2 1, 2, .inl (fun _ => 0))), (q283, .inl (E.2 1, 2, .inl (fun _ => 0))), (q290, .inl (E.2 3, 2, .inl (fun _ => 0))), (q297, .inl (E.2 1, 2, .inl (fun _ => 0)))]) rfl ?_
  refine x_putF 302 hB 0 (ws' := [(hm, .inr (5, [.int 0, .ref q7, .ref q201, .ref q251, .ref q260, .ref q269, .ref q276, .ref q283, .ref q290, .ref q297, .null, .null, .int 0, .int 0, .int 0, .int 0, .int 0, .null, .null, .int 0, .int 0, .long 0, .int 0])), (q7, .inl (E.2 1, 32, .inl (sxF (32)))), (q201, .inl (E.2 1, 8, .inl (fxF (8)))), (q251, .inl (E.2 1, 1024, .inl (fun _ => 0))), (q260, .inl (E.2 1, 1024, .inl (fun _ => 0))), (q269, .inl (E.2 1, 5280, .inl (fun _ => 0))), (q276, .inl (E.2 1, 2, .inl (fun _ => 0))), (q283, .inl (E.2 1, 2, .inl (fun _ => 0))), (q290, .inl (E.2 3, 2, .inl (fun _ => 0))), (q297, .inl (E.2 1, 2, .inl (fun _ => 0)))]) fp_M_35_5 rfl (rfl) (rfl) (Nat.le_of_ble_eq_true rfl) rfl d_M_init_299 rfl ?_
  refine x_aload_n 303 hB d_M_init_302 rfl rfl ?_
  refine x_iconst (v := nI 2) 304 hB d_M_init_303 rfl (by decide) ?_
  refine x_newI (k' := 10) (n' := 7378) 306 hB w_692 (by decide) (by decide) (by decide) rfl rfl d_M_init_304 rfl (fun q304 => ?_)
  refine x_ws (ws' := [(hm, .inr (5, [.int 0, .ref q7, .ref q201, .ref q251, .ref q260, .ref q269, .ref q276, .ref q283, .ref q290, .ref q297, .null, .null, .int 0, .int 0, .int 0, .int 0, .int 0, .null, .null, .int 0, .int 0, .long 0, .int 0])), (q7, .inl (E.2 1, 32, .inl (sxF (32)))), (q201, .inl (E.2 1, 8, .inl (fxF (8)))), (q251, .inl (E.2 1, 1024, .inl (fun _ => 0))), (q260, .inl (E.2 1, 1024, .inl (fun _ => 0))), (q269, .inl (E.2 1, 5280, .inl (fun _ => 0))), (q276, .inl (E.2 1, 2, .inl (fun _ => 0))), (q283, .inl (E.2 1, 2, .inl (fun _ => 0))), (q290, .inl (E.2 3, 2, .inl (fun _ => 0))), (q297, .inl (E.2 1, 2, .inl (fun _ => 0))), (q304, .inl (E.2 1, 2, .inl (fun _ => 0)))]) rfl ?_
  refine x_putF 309 hB 0 (ws' := [(hm, .inr (5, [.int 0, .ref q7, .ref q201, .ref q251, .ref q260, .ref q269, .ref q276, .ref q283, .ref q290, .ref q297, .ref q304, .null, .int 0, .int 0, .int 0, .int 0, .int 0, .null, .null, .int 0, .int 0, .long 0, .int 0])), (q7, .inl (E.2 1, 32, .inl (sxF (32)))), (q201, .inl (E.2 1, 8, .inl (fxF (8)))), (q251, .inl (E.2 1, 1024, .inl (fun _ => 0))), (q260, .inl (E.2 1, 1024, .inl (fun _ => 0))), (q269, .inl (E.2 1, 5280, .inl (fun _ => 0))), (q276, .inl (E.2 1, 2, .inl (fun _ => 0))), (q283, .inl (E.2 1, 2, .inl (fun _ => 0))), (q290, .inl (E.2 3, 2, .inl (fun _ => 0))), (q297, .inl (E.2 1, 2, .inl (fun _ => 0))), (q304, .inl (E.2 1, 2, .inl (fun _ => 0)))]) fp_M_38_5 rfl (rfl) (rfl) (Nat.le_of_ble_eq_true rfl) rfl d_M_init_306 rfl ?_
  refine x_aload_n 310 hB d_M_init_309 rfl rfl ?_
  refine x_iconst (v := nI 2) 311 hB d_M_init_310 rfl (by decide) ?_
  refine x_newI (k' := 11) (n' := 7380) 313 hB w_692 (by decide) (by decide) (by decide) rfl rfl d_M_init_311 rfl (fun q311 => ?_)
  refine x_ws (ws' := [(hm, .inr (5, [.int 0, .ref q7, .ref q201, .ref q251, .ref q260, .ref q269, .ref q276, .ref q283, .ref q290, .ref q297, .ref q304, .null, .int 0, .int 0, .int 0, .int 0, .int 0, .null, .null, .int 0, .int 0, .long 0, .int 0])), (q7, .inl (E.2 1, 32, .inl (sxF (32)))), (q201, .inl (E.2 1, 8, .inl (fxF (8)))), (q251, .inl (E.2 1, 1024, .inl (fun _ => 0))), (q260, .inl (E.2 1, 1024, .inl (fun _ => 0))), (q269, .inl (E.2 1, 5280, .inl (fun _ => 0))), (q276, .inl (E.2 1, 2, .inl (fun _ => 0))), (q283, .inl (E.2 1, 2, .inl (fun _ => 0))), (q290, .inl (E.2 3, 2, .inl (fun _ => 0))), (q297, .inl (E.2 1, 2, .inl (fun _ => 0))), (q304, .inl (E.2 1, 2, .inl (fun _ => 0))), (q311, .inl (E.2 1, 2, .inl (fun _ => 0)))]) rfl ?_
  refine x_putF 316 hB 0 (ws' := [(hm, .inr (5, [.int 0, .ref q7, .ref q201, .ref q251, .ref q260, .ref q269, .ref q276, .ref q283, .ref q290, .ref q297, .ref q304, .ref q311, .int 0, .int 0, .int 0, .int 0, .int 0, .null, .null, .int 0, .int 0, .long 0, .int 0])), (q7, .inl (E.2 1, 32, .inl (sxF (32)))), (q201, .inl (E.2 1, 8, .inl (fxF (8)))), (q251, .inl (E.2 1, 1024, .inl (fun _ => 0))), (q260, .inl (E.2 1, 1024, .inl (fun _ => 0))), (q269, .inl (E.2 1, 5280, .inl (fun _ => 0))), (q276, .inl (E.2 1, 2, .inl (fun _ => 0))), (q283, .inl (E.2 1, 2, .inl (fun _ => 0))), (q290, .inl (E.2 3, 2, .inl (fun _ => 0))), (q297, .inl (E.2 1, 2, .inl (fun _ => 0))), (q304, .inl (E.2 1, 2, .inl (fun _ => 0))), (q311, .inl (E.2 1, 2, .inl (fun _ => 0)))]) fp_M_41_5 rfl (rfl) (rfl) (Nat.le_of_ble_eq_true rfl) rfl d_M_init_313 rfl ?_
  refine x_aload_n 317 hB d_M_init_316 rfl rfl ?_
  refine x_bipush (v := nI 58) 319 hB d_M_init_317 rfl (by decide) ?_
  refine x_newI (k' := 12) (n' := 7438) 321 hB w_692 (by decide) (by decide) (by decide) rfl rfl d_M_init_319 rfl (fun q319 => ?_)
  refine x_ws (ws' := [(hm, .inr (5, [.int 0, .ref q7, .ref q201, .ref q251, .ref q260, .ref q269, .ref q276, .ref q283, .ref q290, .ref q297, .ref q304, .ref q311, .int 0, .int 0, .int 0, .int 0, .int 0, .null, .null, .int 0, .int 0, .long 0, .int 0])), (q7, .inl (E.2 1, 32, .inl (sxF (32)))), (q201, .inl (E.2 1, 8, .inl (fxF (8)))), (q251, .inl (E.2 1, 1024, .inl (fun _ => 0))), (q260, .inl (E.2 1, 1024, .inl (fun _ => 0))), (q269, .inl (E.2 1, 5280, .inl (fun _ => 0))), (q276, .inl (E.2 1, 2, .inl (fun _ => 0))), (q283, .inl (E.2 1, 2, .inl (fun _ => 0))), (q290, .inl (E.2 3, 2, .inl (fun _ => 0))), (q297, .inl (E.2 1, 2, .inl (fun _ => 0))), (q304, .inl (E.2 1, 2, .inl (fun _ => 0))), (q311, .inl (E.2 1, 2, .inl (fun _ => 0))), (q319, .inl (E.2 1, 58, .inl (fun _ => 0)))]) rfl ?_
  refine x_putF 324 hB 0 (ws' := [(hm, .inr (5, [.int 0, .ref q7, .ref q201, .ref q251, .ref q260, .ref q269, .ref q276, .ref q283, .ref q290, .ref q297, .ref q304, .ref q311, .int 0, .int 0, .int 0, .int 0, .int 0, .ref q319, .null, .int 0, .int 0, .long 0, .int 0])), (q7, .inl (E.2 1, 32, .inl (sxF (32)))), (q201, .inl (E.2 1, 8, .inl (fxF (8)))), (q251, .inl (E.2 1, 1024, .inl (fun _ => 0))), (q260, .inl (E.2 1, 1024, .inl (fun _ => 0))), (q269, .inl (E.2 1, 5280, .inl (fun _ => 0))), (q276, .inl (E.2 1, 2, .inl (fun _ => 0))), (q283, .inl (E.2 1, 2, .inl (fun _ => 0))), (q290, .inl (E.2 3, 2, .inl (fun _ => 0))), (q297, .inl (E.2 1, 2, .inl (fun _ => 0))), (q304, .inl (E.2 1, 2, .inl (fun _ => 0))), (q311, .inl (E.2 1, 2, .inl (fun _ => 0))), (q319, .inl (E.2 1, 58, .inl (fun _ => 0)))]) fp_M_44_5 rfl (rfl) (rfl) (Nat.le_of_ble_eq_true rfl) rfl d_M_init_321 rfl ?_
  refine x_aload_n 325 hB d_M_init_324 rfl rfl ?_
  refine x_bipush (v := nI 58) 327 hB d_M_init_325 rfl (by decide) ?_
  refine x_newI (k' := 13) (n' := 7496) 329 hB w_692 (by decide) (by decide) (by decide) rfl rfl d_M_init_327 rfl (fun q327 => ?_)
  refine x_ws (ws' := [(hm, .inr (5, [.int 0, .ref q7, .ref q201, .ref q251, .ref q260, .ref q269, .ref q276, .ref q283, .ref q290, .ref q297, .ref q304, .ref q311, .int 0, .int 0, .int 0, .int 0, .int 0, .ref q319, .null, .int 0, .int 0, .long 0, .int 0])), (q7, .inl (E.2 1, 32, .inl (sxF (32)))), (q201, .inl (E.2 1, 8, .inl (fxF (8)))), (q251, .inl (E.2 1, 1024, .inl (fun _ => 0))), (q260, .inl (E.2 1, 1024, .inl (fun _ => 0))), (q269, .inl (E.2 1, 5280, .inl (fun _ => 0))), (q276, .inl (E.2 1, 2, .inl (fun _ => 0))), (q283, .inl (E.2 1, 2, .inl (fun _ => 0))), (q290, .inl (E.2 3, 2, .inl (fun _ => 0))), (q297, .inl (E.2 1, 2, .inl (fun _ => 0))), (q304, .inl (E.2 1, 2, .inl (fun _ => 0))), (q311, .inl (E.2 1, 2, .inl (fun _ => 0))), (q319, .inl (E.2 1, 58, .inl (fun _ => 0))), (q327, .inl (E.2 1, 58, .inl (fun _ => 0)))]) rfl ?_
  refine x_putF 332 hB 0 (ws' := [(hm, .inr (5, [.int 0, .ref q7, .ref q201, .ref q251, .ref q260, .ref q269, .ref q276, .ref q283, .ref q290, .ref q297, .ref q304, .ref q311, .int 0, .int 0, .int 0, .int 0, .int 0, .ref q319, .ref q327, .int 0, .int 0, .long 0, .int 0])), (q7, .inl (E.2 1, 32, .inl (sxF (32)))), (q201, .inl (E.2 1, 8, .inl (fxF (8)))), (q251, .inl (E.2 1, 1024, .inl (fun _ => 0))), (q260, .inl (E.2 1, 1024, .inl (fun _ => 0))), (q269, .inl (E.2 1, 5280, .inl (fun _ => 0))), (q276, .inl (E.2 1, 2, .inl (fun _ => 0))), (q283, .inl (E.2 1, 2, .inl (fun _ => 0))), (q290, .inl (E.2 3, 2, .inl (fun _ => 0))), (q297, .inl (E.2 1, 2, .inl (fun _ => 0))), (q304, .inl (E.2 1, 2, .inl (fun _ => 0))), (q311, .inl (E.2 1, 2, .inl (fun _ => 0))), (q319, .inl (E.2 1, 58, .inl (fun _ => 0))), (q327, .inl (E.2 1, 58, .inl (fun _ => 0)))]) fp_M_47_5 rfl (rfl) (rfl) (Nat.le_of_ble_eq_true rfl) rfl d_M_init_329 rfl ?_
  refine x_iconst (v := nI 0) 333 hB d_M_init_332 rfl (by decide) ?_
  refine x_istore_n 334 hB d_M_init_333 rfl (by decide) (lv' := [(1, .int (nI 0)), (0, .ref hm)]) rfl ?_
  refine x_lv (lv' := [(0, .ref hm), (1, .int (nI 0))]) [1, 0] rfl ?_
  refine x_loop (fun t : Nat => t ≤ 1024) (fun t : Nat => 1024 - t) (fun t : Nat => [(hm, .inr (5, [.int 0, .ref q7, .ref q201, .ref q251, .ref q260, .ref q269, .ref q276, .ref q283, .ref q290, .ref q297, .ref q304, .ref q311, .int 0, .int 0, .int 0, .int 0, .int 0, .ref q319, .ref q327, .int 0, .int 0, .long 0, .int 0])), (q7, .inl (E.2 1, 32, .inl (sxF (32)))), (q201, .inl (E.2 1, 8, .inl (fxF (8)))), (q251, .inl (E.2 1, 1024, .inl (cdL 0))), (q260, .inl (E.2 1, 1024, .inl (sy0 t))), (q269, .inl (E.2 1, 5280, .inl (fun _ => 0))), (q276, .inl (E.2 1, 2, .inl (pr2 (nI 0) (nI 0)))), (q283, .inl (E.2 1, 2, .inl (pr2 (nI 0) (nI 0)))), (q290, .inl (E.2 3, 2, .inl (pr2 (nI 0) (nI 0)))), (q297, .inl (E.2 1, 2, .inl (pr2 (nI 0) (nI 0)))), (q304, .inl (E.2 1, 2, .inl (pr2 (nI 0) (nI 0)))), (q311, .inl (E.2 1, 2, .inl (pr2 (nI 0) (nI 0)))), (q319, .inl (E.2 1, 58, .inl (fun _ => 0))), (q327, .inl (E.2 1, 58, .inl (fun _ => 0)))]) (fun t : Nat => [(0, .ref hm), (1, .int (nI (t)))]) (fun t : Nat => []) 0 (Nat.zero_le _) (by rw [← pr2_z0, ← sy0_0, ← cdL_0]) rfl rfl (fun t hI334 IH334 => ?_)
  refine x_iload_n 335 hB d_M_init_334 rfl rfl ?_
  refine x_sipush (v := nI 1024) 338 hB d_M_init_335 rfl (by decide) ?_
  refine x_icmp_ge 354 341 hB d_M_init_338 (by decide) rfl (fun h338 => ?_) (fun h338 => ?_)
  · skip
    have ht : 1024 = t := by have := (nI_leI (by omega) (by omega)).mp h338; omega
    subst ht
    refine x_iconst (v := nI 0) 355 hB d_M_init_354 rfl (by decide) ?_
    refine x_istore_n 356 hB d_M_init_355 rfl (by decide) (lv' := [(1, .int (nI 0)), (0, .ref hm)]) rfl ?_
    refine x_lv (lv' := [(0, .ref hm), (1, .int (nI 0))]) [1, 0] rfl ?_
    refine x_loop (fun s : Nat => s ≤ 512) (fun s : Nat => 512 - s) (fun s : Nat => [(hm, .inr (5, [.int 0, .ref q7, .ref q201, .ref q251, .ref q260, .ref q269, .ref q276, .ref q283, .ref q290, .ref q297, .ref q304, .ref q311, .int 0, .int 0, .int 0, .int 0, .int 0, .ref q319, .ref q327, .int 0, .int 0, .long 0, .int 0])), (q7, .inl (E.2 1, 32, .inl (sxF (32)))), (q201, .inl (E.2 1, 8, .inl (fxF (8)))), (q251, .inl (E.2 1, 1024, .inl (cdL (2 * s)))), (q260, .inl (E.2 1, 1024, .inl (syL (2 * s)))), (q269, .inl (E.2 1, 5280, .inl (fun _ => 0))), (q276, .inl (E.2 1, 2, .inl (pr2 (nI 0) (nI 0)))), (q283, .inl (E.2 1, 2, .inl (pr2 (nI 0) (nI 0)))), (q290, .inl (E.2 3, 2, .inl (pr2 (nI 0) (nI 0)))), (q297, .inl (E.2 1, 2, .inl (pr2 (nI 0) (nI 0)))), (q304, .inl (E.2 1, 2, .inl (pr2 (nI 0) (nI 0)))), (q311, .inl (E.2 1, 2, .inl (pr2 (nI 0) (nI 0)))), (q319, .inl (E.2 1, 58, .inl (fun _ => 0))), (q327, .inl (E.2 1, 58, .inl (fun _ => 0)))]) (fun s : Nat => [(0, .ref hm), (1, .int (nI (s)))]) (fun s : Nat => []) 0 (Nat.zero_le _) rfl rfl rfl (fun s hI356 IH356 => ?_)
    refine x_iload_n 357 hB d_M_init_356 rfl rfl ?_
    refine x_sipush (v := nI 512) 360 hB d_M_init_357 rfl (by decide) ?_
    refine x_icmp_ge 441 363 hB d_M_init_360 (by decide) rfl (fun h360 => ?_) (fun h360 => ?_)
    · skip
      have ht : 512 = s := by have := (nI_leI (by omega) (by omega)).mp h360; omega
      subst ht
      refine x_aload_n 442 hB d_M_init_441 rfl rfl ?_
      refine x_callD (k' := 13) (n' := 7496) (rest := []) (wr := [(q7, .inl (E.2 1, 32, .inl (sxF (32)))), (q201, .inl (E.2 1, 8, .inl (fxF (8)))), (q251, .inl (E.2 1, 1024, .inl (cdL (2 * 512)))), (q260, .inl (E.2 1, 1024, .inl (syL (2 * 512)))), (q269, .inl (E.2 1, 5280, .inl (fun _ => 0)))]) (ws' := [(q7, .inl (E.2 1, 32, .inl (sxF (32)))), (q201, .inl (E.2 1, 8, .inl (fxF (8)))), (q251, .inl (E.2 1, 1024, .inl (cdL (2 * 512)))), (q260, .inl (E.2 1, 1024, .inl (syL (2 * 512)))), (q269, .inl (E.2 1, 5280, .inl (fun _ => 0))), (hm, .inr (5, [.int (nI 0), .ref q7, .ref q201, .ref q251, .ref q260, .ref q269, .ref q276, .ref q283, .ref q290, .ref q297, .ref q304, .ref q311, .int (nI 0), .int (nI 0), .int (nI 0), .int (nI 0), .int (nI 0), .ref q319, .ref q327, .int (nI 0), .int (nI 0), .long (0), .int 0])), (q276, .inl (E.2 1, 2, .inl (pr2 (nI 0) (nI 0)))), (q283, .inl (E.2 1, 2, .inl (pr2 (nI 0) (nI 0)))), (q290, .inl (E.2 3, 2, .inl (pr2 (nI 0) (nI 0)))), (q297, .inl (E.2 1, 2, .inl (pr2 (nI 0) (nI 0)))), (q304, .inl (E.2 1, 2, .inl (pr2 (nI 0) (nI 0)))), (q311, .inl (E.2 1, 2, .inl (pr2 (nI 0) (nI 0)))), (q319, .inl (E.2 1, 58, .inl (emF (fun _ => 0) 58))), (q327, .inl (E.2 1, 58, .inl (emF (fun _ => 0) 58)))]) (st' := []) 445 hB (x_pfV (av := []) (q0 := 0) hB w_622 xHd_code w_619 w_621 s_M_empty rfl rfl nm_M_empty rfl d_M_init_442) (c_M_empty l E hm q7 q201 q251 q260 q269 q276 q283 q290 q297 q304 q311 q319 q327 0 0 false false false 0 0 0 (nI 0) (nI 0) (nI 0) (nI 0) (nI 0) (nI 0) (nI 0) (nI 0) (nI 0) (nI 0) (nI 0) (nI 0) (fun _ => 0) (fun _ => 0)) w_622 xHd_code w_7 [0, 6, 7, 8, 9, 10, 11, 12, 13] [1, 2, 3, 4, 5] rfl rfl rfl rfl (by decide) ⟨by decide, by decide⟩ ⟨by decide, by decide⟩ rfl rfl (Nat.le_of_ble_eq_true rfl) d_M_init_442 rfl rfl rfl ?_
      exact x_vret hB (w' := [(hm, .inr (5, [.int (nI 0), .ref q7, .ref q201, .ref q251, .ref q260, .ref q269, .ref q276, .ref q283, .ref q290, .ref q297, .ref q304, .ref q311, .int (nI 0), .int (nI 0), .int (nI 0), .int (nI 0), .int (nI 0), .ref q319, .ref q327, .int (nI 0), .int (nI 0), .long (0), .int 0])), (q7, .inl (E.2 1, 32, .inl (sxF (32)))), (q201, .inl (E.2 1, 8, .inl (fxF (8)))), (q251, .inl (E.2 1, 1024, .inl (cdL (2 * 512)))), (q260, .inl (E.2 1, 1024, .inl (syL (2 * 512)))), (q269, .inl (E.2 1, 5280, .inl (fun _ => 0))), (q276, .inl (E.2 1, 2, .inl (pr2 (nI 0) (nI 0)))), (q283, .inl (E.2 1, 2, .inl (pr2 (nI 0) (nI 0)))), (q290, .inl (E.2 3, 2, .inl (pr2 (nI 0) (nI 0)))), (q297, .inl (E.2 1, 2, .inl (pr2 (nI 0) (nI 0)))), (q304, .inl (E.2 1, 2, .inl (pr2 (nI 0) (nI 0)))), (q311, .inl (E.2 1, 2, .inl (pr2 (nI 0) (nI 0)))), (q319, .inl (E.2 1, 58, .inl (emF (fun _ => 0) 58))), (q327, .inl (E.2 1, 58, .inl (emF (fun _ => 0) 58)))]) hA [5, 0, 1, 2, 3, 4, 6, 7, 8, 9, 10, 11, 12, 13] rfl rfl (⟨rfl, (q7, q201, q251, q260, q269, q276, q283, q290, q297, q304, q311, q319, q327), rfl⟩) (by decide) (by decide) d_M_init_445
    · skip
      have k360 : s < 512 := Nat.lt_of_not_le (fun h => h360 (nI_le h (by omega)))
      refine x_iconst (v := nI 0) 364 hB d_M_init_363 rfl (by decide) ?_
      refine x_istore_n 365 hB d_M_init_364 rfl (by decide) (lv' := [(2, .int (nI 0)), (0, .ref hm), (1, .int (nI (s)))]) rfl ?_
      refine x_lv (lv' := [(0, .ref hm), (1, .int (nI (s))), (2, .int (nI 0))]) [1, 2, 0] rfl ?_
      refine x_loop (fun q : Nat => q ≤ 2) (fun q : Nat => 2 - q) (fun q : Nat => [(hm, .inr (5, [.int 0, .ref q7, .ref q201, .ref q251, .ref q260, .ref q269, .ref q276, .ref q283, .ref q290, .ref q297, .ref q304, .ref q311, .int 0, .int 0, .int 0, .int 0, .int 0, .ref q319, .ref q327, .int 0, .int 0, .long 0, .int 0])), (q7, .inl (E.2 1, 32, .inl (sxF (32)))), (q201, .inl (E.2 1, 8, .inl (fxF (8)))), (q251, .inl (E.2 1, 1024, .inl (cdL (2 * s + q)))), (q260, .inl (E.2 1, 1024, .inl (syL (2 * s + q)))), (q269, .inl (E.2 1, 5280, .inl (fun _ => 0))), (q276, .inl (E.2 1, 2, .inl (pr2 (nI 0) (nI 0)))), (q283, .inl (E.2 1, 2, .inl (pr2 (nI 0) (nI 0)))), (q290, .inl (E.2 3, 2, .inl (pr2 (nI 0) (nI 0)))), (q297, .inl (E.2 1, 2, .inl (pr2 (nI 0) (nI 0)))), (q304, .inl (E.2 1, 2, .inl (pr2 (nI 0) (nI 0)))), (q311, .inl (E.2 1, 2, .inl (pr2 (nI 0) (nI 0)))), (q319, .inl (E.2 1, 58, .inl (fun _ => 0))), (q327, .inl (E.2 1, 58, .inl (fun _ => 0)))]) (fun q : Nat => [(0, .ref hm), (1, .int (nI (s))), (2, .int (nI (q)))]) (fun q : Nat => []) 0 (Nat.zero_le _) rfl rfl rfl (fun q hI365 IH365 => ?_)
      refine x_iload_n 366 hB d_M_init_365 rfl rfl ?_
      refine x_iconst (v := nI 2) 367 hB d_M_init_366 rfl (by decide) ?_
      refine x_icmp_ge 435 370 hB d_M_init_367 (by decide) rfl (fun h367 => ?_) (fun h367 => ?_)
      · skip
        have ht : 2 = q := by have := (nI_leI (by omega) (by omega)).mp h367; omega
        subst ht
        refine x_iinc (v := nI (s + 1)) 438 hB d_M_init_435 rfl 1 rfl ((nI_succ s).symm) (by decide) (lv' := [(1, .int (nI (s + 1))), (0, .ref hm), (2, .int (nI (2)))]) rfl ?_
        refine x_goto 356 hB d_M_init_438 (by decide) ?_
        refine x_lv (lv' := [(0, .ref hm), (1, .int (nI (s + 1)))]) [1, 0] rfl ?_
        rw [show 2 * s + 2 = 2 * (s + 1) by omega]
        exact IH356 (s + 1) k360 (by omega)
      · skip
        have k367 : q < 2 := Nat.lt_of_not_le (fun h => h367 (nI_le h (by omega)))
        refine x_join 405 (fun _u : Unit => True) (fun _u : Unit => [(hm, .inr (5, [.int 0, .ref q7, .ref q201, .ref q251, .ref q260, .ref q269, .ref q276, .ref q283, .ref q290, .ref q297, .ref q304, .ref q311, .int 0, .int 0, .int 0, .int 0, .int 0, .ref q319, .ref q327, .int 0, .int 0, .long 0, .int 0])), (q7, .inl (E.2 1, 32, .inl (sxF (32)))), (q201, .inl (E.2 1, 8, .inl (fxF (8)))), (q251, .inl (E.2 1, 1024, .inl (cdL (2 * s + q)))), (q260, .inl (E.2 1, 1024, .inl (syL (2 * s + q)))), (q269, .inl (E.2 1, 5280, .inl (fun _ => 0))), (q276, .inl (E.2 1, 2, .inl (pr2 (nI 0) (nI 0)))), (q283, .inl (E.2 1, 2, .inl (pr2 (nI 0) (nI 0)))), (q290, .inl (E.2 3, 2, .inl (pr2 (nI 0) (nI 0)))), (q297, .inl (E.2 1, 2, .inl (pr2 (nI 0) (nI 0)))), (q304, .inl (E.2 1, 2, .inl (pr2 (nI 0) (nI 0)))), (q311, .inl (E.2 1, 2, .inl (pr2 (nI 0) (nI 0)))), (q319, .inl (E.2 1, 58, .inl (fun _ => 0))), (q327, .inl (E.2 1, 58, .inl (fun _ => 0)))]) (fun _u : Unit => [(0, .ref hm), (1, .int (nI (s))), (2, .int (nI (q)))]) (fun _u : Unit => [.int (cdW s q), .int (nI (2 * s + q)), .ref q251]) (fun _u hJ405 => ?_) (fun J405 => ?_)
        · skip
          refine x_iast 406 hB 3 (ws' := [(hm, .inr (5, [.int 0, .ref q7, .ref q201, .ref q251, .ref q260, .ref q269, .ref q276, .ref q283, .ref q290, .ref q297, .ref q304, .ref q311, .int 0, .int 0, .int 0, .int 0, .int 0, .ref q319, .ref q327, .int 0, .int 0, .long 0, .int 0])), (q7, .inl (E.2 1, 32, .inl (sxF (32)))), (q201, .inl (E.2 1, 8, .inl (fxF (8)))), (q251, .inl (E.2 1, 1024, .inl (cdL (2 * s + (q + 1))))), (q260, .inl (E.2 1, 1024, .inl (syL (2 * s + q)))), (q269, .inl (E.2 1, 5280, .inl (fun _ => 0))), (q276, .inl (E.2 1, 2, .inl (pr2 (nI 0) (nI 0)))), (q283, .inl (E.2 1, 2, .inl (pr2 (nI 0) (nI 0)))), (q290, .inl (E.2 3, 2, .inl (pr2 (nI 0) (nI 0)))), (q297, .inl (E.2 1, 2, .inl (pr2 (nI 0) (nI 0)))), (q304, .inl (E.2 1, 2, .inl (pr2 (nI 0) (nI 0)))), (q311, .inl (E.2 1, 2, .inl (pr2 (nI 0) (nI 0)))), (q319, .inl (E.2 1, 58, .inl (fun _ => 0))), (q327, .inl (E.2 1, 58, .inl (fun _ => 0)))]) rfl (by omega) (by decide) (x' := cdW s q) (rfl) (by rw [cdL_s k367]; rfl) d_M_init_405 rfl ?_
          refine x_iload_n 407 hB d_M_init_406 rfl rfl ?_
          refine x_callP (k' := 13) (n' := 7496) (rest := []) (st' := [.int (bI (isS s))]) 410 hB (x_pfS (av := [.int (nI (s))]) hB w_608 xHd_code w_7 w_606 w_607 nm_M_isSymbol rfl d_M_init_407) (c_M_isSymbol l E s (by omega)) w_608 xHd_code w_7 [] rfl rfl ⟨by decide, by decide⟩ ⟨by decide, by decide⟩ rfl rfl (Nat.le_of_ble_eq_true rfl) d_M_init_407 rfl rfl ?_
          refine x_if_eq 429 413 hB d_M_init_410 (by decide) rfl (fun h410 => ?_) (fun h410 => ?_)
          · skip
            have k410 : isS s = false := bI_0 h410
            rw [syL_n k367 k410]
            refine x_iinc (v := nI (q + 1)) 432 hB d_M_init_429 rfl 2 rfl ((nI_succ q).symm) (by decide) (lv' := [(2, .int (nI (q + 1))), (0, .ref hm), (1, .int (nI (s)))]) rfl ?_
            refine x_goto 365 hB d_M_init_432 (by decide) ?_
            refine x_lv (lv' := [(0, .ref hm), (1, .int (nI (s))), (2, .int (nI (q + 1)))]) [1, 2, 0] rfl ?_
            exact IH365 (q + 1) k367 (by omega)
          · skip
            have k410 : isS s = true := bI_1 h410
            refine x_aload_n 414 hB d_M_init_413 rfl rfl ?_
            refine x_get 417 hB 0 fg_M_19_5 rfl rfl d_M_init_414 rfl ?_
            refine x_aload_n 418 hB d_M_init_417 rfl rfl ?_
            refine x_get 421 hB 0 fg_M_16_5 rfl rfl d_M_init_418 rfl ?_
            refine x_iconst (v := nI 2) 422 hB d_M_init_421 rfl (by decide) ?_
            refine x_iload_n 423 hB d_M_init_422 rfl rfl ?_
            refine x_imul 424 hB d_M_init_423 rfl ?_
            refine x_top (v' := .int (nI (2 * s))) (congrArg Value.int (pk_mul _ _)) ?_
            refine x_iload_n 425 hB d_M_init_424 rfl rfl ?_
            refine x_iadd 426 hB d_M_init_425 rfl ?_
            refine x_top (v' := .int (nI (2 * s + q))) (congrArg Value.int (nI_add _ _)) ?_
            refine x_iald 427 hB 3 rfl (by omega) (by decide) d_M_init_426 rfl ?_
            refine x_top (v' := .int (nI (encF s (decide (q = 1))))) (congrArg Value.int (cdL_r k367 k410)) ?_
            refine x_iload_n 428 hB d_M_init_427 rfl rfl ?_
            refine x_iast 429 hB 4 (ws' := [(hm, .inr (5, [.int 0, .ref q7, .ref q201, .ref q251, .ref q260, .ref q269, .ref q276, .ref q283, .ref q290, .ref q297, .ref q304, .ref q311, .int 0, .int 0, .int 0, .int 0, .int 0, .ref q319, .ref q327, .int 0, .int 0, .long 0, .int 0])), (q7, .inl (E.2 1, 32, .inl (sxF (32)))), (q201, .inl (E.2 1, 8, .inl (fxF (8)))), (q251, .inl (E.2 1, 1024, .inl (cdL (2 * s + (q + 1))))), (q260, .inl (E.2 1, 1024, .inl (syL (2 * s + (q + 1))))), (q269, .inl (E.2 1, 5280, .inl (fun _ => 0))), (q276, .inl (E.2 1, 2, .inl (pr2 (nI 0) (nI 0)))), (q283, .inl (E.2 1, 2, .inl (pr2 (nI 0) (nI 0)))), (q290, .inl (E.2 3, 2, .inl (pr2 (nI 0) (nI 0)))), (q297, .inl (E.2 1, 2, .inl (pr2 (nI 0) (nI 0)))), (q304, .inl (E.2 1, 2, .inl (pr2 (nI 0) (nI 0)))), (q311, .inl (E.2 1, 2, .inl (pr2 (nI 0) (nI 0)))), (q319, .inl (E.2 1, 58, .inl (fun _ => 0))), (q327, .inl (E.2 1, 58, .inl (fun _ => 0)))]) rfl (encF_lt _ _) (by decide) (x' := nI (s)) (rfl) (by rw [syL_y k367 k410]; rfl) d_M_init_428 rfl ?_
            refine x_iinc (v := nI (q + 1)) 432 hB d_M_init_429 rfl 2 rfl ((nI_succ q).symm) (by decide) (lv' := [(2, .int (nI (q + 1))), (0, .ref hm), (1, .int (nI (s)))]) rfl ?_
            refine x_goto 365 hB d_M_init_432 (by decide) ?_
            refine x_lv (lv' := [(0, .ref hm), (1, .int (nI (s))), (2, .int (nI (q + 1)))]) [1, 2, 0] rfl ?_
            exact IH365 (q + 1) k367 (by omega)
        refine x_aload_n 371 hB d_M_init_370 rfl rfl ?_
        refine x_get 374 hB 0 fg_M_16_5 rfl rfl d_M_init_371 rfl ?_
        refine x_iconst (v := nI 2) 375 hB d_M_init_374 rfl (by decide) ?_
        refine x_iload_n 376 hB d_M_init_375 rfl rfl ?_
        refine x_imul 377 hB d_M_init_376 rfl ?_
        refine x_top (v' := .int (nI (2 * s))) (congrArg Value.int (pk_mul _ _)) ?_
        refine x_iload_n 378 hB d_M_init_377 rfl rfl ?_
        refine x_iadd 379 hB d_M_init_378 rfl ?_
        refine x_top (v' := .int (nI (2 * s + q))) (congrArg Value.int (nI_add _ _)) ?_
        refine x_iload_n 380 hB d_M_init_379 rfl rfl ?_
        refine x_callP (k' := 13) (n' := 7496) (rest := [.int (nI (2 * s + q)), .ref q251]) (st' := [.int (bI (isS s)), .int (nI (2 * s + q)), .ref q251]) 383 hB (x_pfS (av := [.int (nI (s))]) hB w_608 xHd_code w_7 w_606 w_607 nm_M_isSymbol rfl d_M_init_380) (c_M_isSymbol l E s (by omega)) w_608 xHd_code w_7 [] rfl rfl ⟨by decide, by decide⟩ ⟨by decide, by decide⟩ rfl rfl (Nat.le_of_ble_eq_true rfl) d_M_init_380 rfl rfl ?_
        refine x_if_eq 404 386 hB d_M_init_383 (by decide) rfl (fun h383 => ?_) (fun h383 => ?_)
        · skip
          have k383 : isS s = false := bI_0 h383
          refine x_iconst (v := (-1 : Int32)) 405 hB d_M_init_404 rfl (by decide) ?_
          refine x_top (v' := .int (cdW s q)) (congrArg Value.int (by rw [cdW, if_neg (by rw [k383]; decide)])) ?_
          exact J405 () trivial
        · skip
          have k383 : isS s = true := bI_1 h383
          refine x_join 398 (fun _u : Unit => True) (fun _u : Unit => [(hm, .inr (5, [.int 0, .ref q7, .ref q201, .ref q251, .ref q260, .ref q269, .ref q276, .ref q283, .ref q290, .ref q297, .ref q304, .ref q311, .int 0, .int 0, .int 0, .int 0, .int 0, .ref q319, .ref q327, .int 0, .int 0, .long 0, .int 0])), (q7, .inl (E.2 1, 32, .inl (sxF (32)))), (q201, .inl (E.2 1, 8, .inl (fxF (8)))), (q251, .inl (E.2 1, 1024, .inl (cdL (2 * s + q)))), (q260, .inl (E.2 1, 1024, .inl (syL (2 * s + q)))), (q269, .inl (E.2 1, 5280, .inl (fun _ => 0))), (q276, .inl (E.2 1, 2, .inl (pr2 (nI 0) (nI 0)))), (q283, .inl (E.2 1, 2, .inl (pr2 (nI 0) (nI 0)))), (q290, .inl (E.2 3, 2, .inl (pr2 (nI 0) (nI 0)))), (q297, .inl (E.2 1, 2, .inl (pr2 (nI 0) (nI 0)))), (q304, .inl (E.2 1, 2, .inl (pr2 (nI 0) (nI 0)))), (q311, .inl (E.2 1, 2, .inl (pr2 (nI 0) (nI 0)))), (q319, .inl (E.2 1, 58, .inl (fun _ => 0))), (q327, .inl (E.2 1, 58, .inl (fun _ => 0)))]) (fun _u : Unit => [(0, .ref hm), (1, .int (nI (s))), (2, .int (nI (q)))]) (fun _u : Unit => [.int (bI (decide (q = 1))), .int (nI (s)), .ref hm, .int (nI (2 * s + q)), .ref q251]) (fun _u hJ398 => ?_) (fun J398 => ?_)
          · skip
            refine x_callP (k' := 13) (n' := 7496) (rest := [.int (nI (2 * s + q)), .ref q251]) (st' := [.int (nI (encF s (decide (q = 1)))), .int (nI (2 * s + q)), .ref q251]) 401 hB (x_pfV (av := [.int (nI (s)), .int (bI (decide (q = 1)))]) (q0 := 0) hB w_612 xHd_code w_609 w_611 s_M_make rfl rfl nm_M_make rfl d_M_init_398) (c_M_make l E hm q7 q201 q251 q260 q269 q276 q283 q290 q297 q304 q311 q319 q327 0 0 false false false 0 0 0 (sxF 32) (fxF 8) (fun j h => if_pos h) (fun j h => if_pos h) s (by omega) (decide (q = 1))) w_612 xHd_code w_7 [0, 1, 2] rfl rfl ⟨by decide, by decide⟩ ⟨by decide, by decide⟩ rfl rfl (Nat.le_of_ble_eq_true rfl) d_M_init_398 rfl rfl ?_
            refine x_top (v' := .int (cdW s q)) (congrArg Value.int (by rw [cdW, if_pos k383])) ?_
            refine x_goto 405 hB d_M_init_401 (by decide) ?_
            exact J405 () trivial
          refine x_aload_n 387 hB d_M_init_386 rfl rfl ?_
          refine x_iload_n 388 hB d_M_init_387 rfl rfl ?_
          refine x_iload_n 389 hB d_M_init_388 rfl rfl ?_
          refine x_iconst (v := nI 1) 390 hB d_M_init_389 rfl (by decide) ?_
          refine x_icmp_ne 397 393 hB d_M_init_390 (by decide) rfl (fun h390 => ?_) (fun h390 => ?_)
          · skip
            have k390 : ¬ q = 1 := fun h => h390 ((nI_eq (by omega) (by omega)).mpr h)
            refine x_iconst (v := nI 0) 398 hB d_M_init_397 rfl (by decide) ?_
            refine x_top (v' := .int (bI (decide (q = 1)))) (congrArg Value.int (bF0 (decide_eq_false k390))) ?_
            exact J398 () trivial
          · skip
            have k390 : q = 1 := (nI_eq (by omega) (by omega)).mp h390
            refine x_iconst (v := nI 1) 394 hB d_M_init_393 rfl (by decide) ?_
            refine x_top (v' := .int (bI (decide (q = 1)))) (congrArg Value.int (bT (decide_eq_true k390))) ?_
            refine x_goto 398 hB d_M_init_394 (by decide) ?_
            exact J398 () trivial
  · skip
    have k338 : t < 1024 := Nat.lt_of_not_le (fun h => h338 (nI_le h (by omega)))
    refine x_aload_n 342 hB d_M_init_341 rfl rfl ?_
    refine x_get 345 hB 0 fg_M_19_5 rfl rfl d_M_init_342 rfl ?_
    refine x_iload_n 346 hB d_M_init_345 rfl rfl ?_
    refine x_iconst (v := (-1 : Int32)) 347 hB d_M_init_346 rfl (by decide) ?_
    refine x_iast 348 hB 4 (ws' := [(hm, .inr (5, [.int 0, .ref q7, .ref q201, .ref q251, .ref q260, .ref q269, .ref q276, .ref q283, .ref q290, .ref q297, .ref q304, .ref q311, .int 0, .int 0, .int 0, .int 0, .int 0, .ref q319, .ref q327, .int 0, .int 0, .long 0, .int 0])), (q7, .inl (E.2 1, 32, .inl (sxF (32)))), (q201, .inl (E.2 1, 8, .inl (fxF (8)))), (q251, .inl (E.2 1, 1024, .inl (cdL 0))), (q260, .inl (E.2 1, 1024, .inl (sy0 (t + 1)))), (q269, .inl (E.2 1, 5280, .inl (fun _ => 0))), (q276, .inl (E.2 1, 2, .inl (pr2 (nI 0) (nI 0)))), (q283, .inl (E.2 1, 2, .inl (pr2 (nI 0) (nI 0)))), (q290, .inl (E.2 3, 2, .inl (pr2 (nI 0) (nI 0)))), (q297, .inl (E.2 1, 2, .inl (pr2 (nI 0) (nI 0)))), (q304, .inl (E.2 1, 2, .inl (pr2 (nI 0) (nI 0)))), (q311, .inl (E.2 1, 2, .inl (pr2 (nI 0) (nI 0)))), (q319, .inl (E.2 1, 58, .inl (fun _ => 0))), (q327, .inl (E.2 1, 58, .inl (fun _ => 0)))]) rfl (by omega) (by decide) (x' := (-1 : Int32)) (rfl) (by rw [sy0_s]; rfl) d_M_init_347 rfl ?_
    refine x_iinc (v := nI (t + 1)) 351 hB d_M_init_348 rfl 1 rfl ((nI_succ t).symm) (by decide) (lv' := [(1, .int (nI (t + 1))), (0, .ref hm)]) rfl ?_
    refine x_goto 334 hB d_M_init_351 (by decide) ?_
    refine x_lv (lv' := [(0, .ref hm), (1, .int (nI (t + 1)))]) [1, 0] rfl ?_
    exact IH334 (t + 1) k338 (by omega)
