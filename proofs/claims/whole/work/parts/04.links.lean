theorem nm_X_init : xNm y_X_init 0 := ⟨⟨by decide +kernel, by decide +kernel⟩, by decide +kernel⟩
theorem nm_L_init : xNm y_L_init 0 := ⟨⟨by decide +kernel, by decide +kernel⟩, by decide +kernel⟩
theorem nm_T_init : xNm y_T_init 1 := ⟨⟨by decide +kernel, by decide +kernel⟩, by decide +kernel⟩
theorem nm_R_init : xNm y_R_init 1 := ⟨⟨by decide +kernel, by decide +kernel⟩, by decide +kernel⟩
theorem nm_W_init : xNm y_W_init 1 := ⟨⟨by decide +kernel, by decide +kernel⟩, by decide +kernel⟩
theorem nm_S_init : xNm y_S_init 0 := ⟨⟨by decide +kernel, by decide +kernel⟩, by decide +kernel⟩
theorem nm_X_receive : xNm y_X_receive 0 := ⟨⟨by decide +kernel, by decide +kernel⟩, by decide +kernel⟩
theorem nm_T_step : xNm y_T_step 0 := ⟨⟨by decide +kernel, by decide +kernel⟩, by decide +kernel⟩
theorem nm_L_left : xNm y_L_left 0 := ⟨⟨by decide +kernel, by decide +kernel⟩, by decide +kernel⟩
theorem nm_T_isAtMark : xNm y_T_isAtMark 0 := ⟨⟨by decide +kernel, by decide +kernel⟩, by decide +kernel⟩
theorem nm_L_ahead : xNm y_L_ahead 1 := ⟨⟨by decide +kernel, by decide +kernel⟩, by decide +kernel⟩
theorem nm_L_at : xNm y_L_at 1 := ⟨⟨by decide +kernel, by decide +kernel⟩, by decide +kernel⟩
theorem nm_L_has : xNm y_L_has 1 := ⟨⟨by decide +kernel, by decide +kernel⟩, by decide +kernel⟩
theorem nm_R_slip : xNm y_R_slip 0 := ⟨⟨by decide +kernel, by decide +kernel⟩, by decide +kernel⟩
theorem nm_L_advance : xNm y_L_advance 1 := ⟨⟨by decide +kernel, by decide +kernel⟩, by decide +kernel⟩
theorem nm_JM_min : xNm y_JM_min 2 := ⟨⟨by decide +kernel, by decide +kernel⟩, by decide +kernel⟩
theorem nm_T_takeTen : xNm y_T_takeTen 0 := ⟨⟨by decide +kernel, by decide +kernel⟩, by decide +kernel⟩
theorem nm_K_decode : xNm y_K_decode 2 := ⟨⟨by decide +kernel, by decide +kernel⟩, by decide +kernel⟩
theorem nm_K_xOf : xNm y_K_xOf 2 := ⟨⟨by decide +kernel, by decide +kernel⟩, by decide +kernel⟩
theorem nm_K_sixOf : xNm y_K_sixOf 2 := ⟨⟨by decide +kernel, by decide +kernel⟩, by decide +kernel⟩
theorem nm_JI_bitCount : xNm y_JI_bitCount 1 := ⟨⟨by decide +kernel, by decide +kernel⟩, by decide +kernel⟩
theorem nm_K_isSymbol : xNm y_K_isSymbol 1 := ⟨⟨by decide +kernel, by decide +kernel⟩, by decide +kernel⟩
theorem nm_K_isAmong : xNm y_K_isAmong 2 := ⟨⟨by decide +kernel, by decide +kernel⟩, by decide +kernel⟩
theorem nm_K_encode : xNm y_K_encode 2 := ⟨⟨by decide +kernel, by decide +kernel⟩, by decide +kernel⟩
theorem nm_K_plusBehindSix : xNm y_K_plusBehindSix 2 := ⟨⟨by decide +kernel, by decide +kernel⟩, by decide +kernel⟩
theorem nm_K_fourOf : xNm y_K_fourOf 2 := ⟨⟨by decide +kernel, by decide +kernel⟩, by decide +kernel⟩
theorem nm_K_plusBehind : xNm y_K_plusBehind 2 := ⟨⟨by decide +kernel, by decide +kernel⟩, by decide +kernel⟩
theorem nm_K_plusBehindFour : xNm y_K_plusBehindFour 2 := ⟨⟨by decide +kernel, by decide +kernel⟩, by decide +kernel⟩
theorem nm_T_judge : xNm y_T_judge 2 := ⟨⟨by decide +kernel, by decide +kernel⟩, by decide +kernel⟩
theorem nm_T_mark : xNm y_T_mark 0 := ⟨⟨by decide +kernel, by decide +kernel⟩, by decide +kernel⟩
theorem nm_T_praise : xNm y_T_praise 0 := ⟨⟨by decide +kernel, by decide +kernel⟩, by decide +kernel⟩
theorem nm_JM_max : xNm y_JM_max 2 := ⟨⟨by decide +kernel, by decide +kernel⟩, by decide +kernel⟩
theorem nm_X_take : xNm y_X_take 0 := ⟨⟨by decide +kernel, by decide +kernel⟩, by decide +kernel⟩
theorem nm_W_step : xNm y_W_step 0 := ⟨⟨by decide +kernel, by decide +kernel⟩, by decide +kernel⟩
theorem nm_W_takeWord : xNm y_W_takeWord 0 := ⟨⟨by decide +kernel, by decide +kernel⟩, by decide +kernel⟩
theorem nm_S_stirBack : xNm y_S_stirBack 1 := ⟨⟨by decide +kernel, by decide +kernel⟩, by decide +kernel⟩
theorem nm_S_turning : xNm y_S_turning 0 := ⟨⟨by decide +kernel, by decide +kernel⟩, by decide +kernel⟩
theorem nm_S_remember : xNm y_S_remember 1 := ⟨⟨by decide +kernel, by decide +kernel⟩, by decide +kernel⟩
theorem nm_W_watch : xNm y_W_watch 1 := ⟨⟨by decide +kernel, by decide +kernel⟩, by decide +kernel⟩
theorem nm_W_gain : xNm y_W_gain 0 := ⟨⟨by decide +kernel, by decide +kernel⟩, by decide +kernel⟩
theorem nm_X_word : xNm y_X_word 0 := ⟨⟨by decide +kernel, by decide +kernel⟩, by decide +kernel⟩
theorem nm_W_lastWord : xNm y_W_lastWord 0 := ⟨⟨by decide +kernel, by decide +kernel⟩, by decide +kernel⟩
theorem nm_X_isPlus : xNm y_X_isPlus 1 := ⟨⟨by decide +kernel, by decide +kernel⟩, by decide +kernel⟩
theorem nm_T_hasPlus : xNm y_T_hasPlus 0 := ⟨⟨by decide +kernel, by decide +kernel⟩, by decide +kernel⟩
theorem nm_X_clear : xNm y_X_clear 0 := ⟨⟨by decide +kernel, by decide +kernel⟩, by decide +kernel⟩
theorem nm_L_empty : xNm y_L_empty 0 := ⟨⟨by decide +kernel, by decide +kernel⟩, by decide +kernel⟩
theorem nm_T_restart : xNm y_T_restart 0 := ⟨⟨by decide +kernel, by decide +kernel⟩, by decide +kernel⟩
theorem nm_R_countAnew : xNm y_R_countAnew 0 := ⟨⟨by decide +kernel, by decide +kernel⟩, by decide +kernel⟩
theorem nm_W_restart : xNm y_W_restart 0 := ⟨⟨by decide +kernel, by decide +kernel⟩, by decide +kernel⟩
theorem nm_S_forget : xNm y_S_forget 0 := ⟨⟨by decide +kernel, by decide +kernel⟩, by decide +kernel⟩
theorem nm_Q_code : xNm y_Q_code 4 := ⟨⟨by decide +kernel, by decide +kernel⟩, by decide +kernel⟩
theorem nm_X_code : xNm y_X_code 2 := ⟨⟨by decide +kernel, by decide +kernel⟩, by decide +kernel⟩
theorem nm_X_refuseNoSymbol : xNm y_X_refuseNoSymbol 1 := ⟨⟨by decide +kernel, by decide +kernel⟩, by decide +kernel⟩
theorem nm_Q_symbol : xNm y_Q_symbol 3 := ⟨⟨by decide +kernel, by decide +kernel⟩, by decide +kernel⟩
theorem nm_X_symbol : xNm y_X_symbol 1 := ⟨⟨by decide +kernel, by decide +kernel⟩, by decide +kernel⟩
theorem nm_Q_send : xNm y_Q_send 3 := ⟨⟨by decide +kernel, by decide +kernel⟩, by decide +kernel⟩
theorem nm_X_send : xNm y_X_send 1 := ⟨⟨by decide +kernel, by decide +kernel⟩, by decide +kernel⟩
theorem nm_X_refuseNoRoom : xNm y_X_refuseNoRoom 2 := ⟨⟨by decide +kernel, by decide +kernel⟩, by decide +kernel⟩
theorem nm_L_hasRoom : xNm y_L_hasRoom 1 := ⟨⟨by decide +kernel, by decide +kernel⟩, by decide +kernel⟩
theorem nm_L_append : xNm y_L_append 2 := ⟨⟨by decide +kernel, by decide +kernel⟩, by decide +kernel⟩
theorem nm_Q_put : xNm y_Q_put 4 := ⟨⟨by decide +kernel, by decide +kernel⟩, by decide +kernel⟩
theorem nm_X_put : xNm y_X_put 2 := ⟨⟨by decide +kernel, by decide +kernel⟩, by decide +kernel⟩
theorem nm_S_stir : xNm y_S_stir 1 := ⟨⟨by decide +kernel, by decide +kernel⟩, by decide +kernel⟩
theorem nm_L_size : xNm y_L_size 0 := ⟨⟨by decide +kernel, by decide +kernel⟩, by decide +kernel⟩
theorem nm_Q_raw : xNm y_Q_raw 5 := ⟨⟨by decide +kernel, by decide +kernel⟩, by decide +kernel⟩
theorem nm_X_raw : xNm y_X_raw 3 := ⟨⟨by decide +kernel, by decide +kernel⟩, by decide +kernel⟩
theorem nm_X_lineOf : xNm y_X_lineOf 1 := ⟨⟨by decide +kernel, by decide +kernel⟩, by decide +kernel⟩
theorem nm_Q_bend : xNm y_Q_bend 4 := ⟨⟨by decide +kernel, by decide +kernel⟩, by decide +kernel⟩
theorem nm_X_bend : xNm y_X_bend 2 := ⟨⟨by decide +kernel, by decide +kernel⟩, by decide +kernel⟩
theorem nm_L_turn : xNm y_L_turn 1 := ⟨⟨by decide +kernel, by decide +kernel⟩, by decide +kernel⟩
theorem nm_Q_lose : xNm y_Q_lose 5 := ⟨⟨by decide +kernel, by decide +kernel⟩, by decide +kernel⟩
theorem nm_X_lose : xNm y_X_lose 3 := ⟨⟨by decide +kernel, by decide +kernel⟩, by decide +kernel⟩
theorem nm_L_place : xNm y_L_place 0 := ⟨⟨by decide +kernel, by decide +kernel⟩, by decide +kernel⟩
theorem nm_L_remove : xNm y_L_remove 2 := ⟨⟨by decide +kernel, by decide +kernel⟩, by decide +kernel⟩
theorem nm_Q_bit : xNm y_Q_bit 4 := ⟨⟨by decide +kernel, by decide +kernel⟩, by decide +kernel⟩
theorem nm_X_bit : xNm y_X_bit 2 := ⟨⟨by decide +kernel, by decide +kernel⟩, by decide +kernel⟩
theorem nm_Q_count : xNm y_Q_count 4 := ⟨⟨by decide +kernel, by decide +kernel⟩, by decide +kernel⟩
theorem nm_X_count : xNm y_X_count 2 := ⟨⟨by decide +kernel, by decide +kernel⟩, by decide +kernel⟩
theorem nm_R_isFollowing : xNm y_R_isFollowing 0 := ⟨⟨by decide +kernel, by decide +kernel⟩, by decide +kernel⟩
theorem nm_T_marks : xNm y_T_marks 0 := ⟨⟨by decide +kernel, by decide +kernel⟩, by decide +kernel⟩
theorem nm_W_marks : xNm y_W_marks 0 := ⟨⟨by decide +kernel, by decide +kernel⟩, by decide +kernel⟩
theorem nm_R_slips : xNm y_R_slips 0 := ⟨⟨by decide +kernel, by decide +kernel⟩, by decide +kernel⟩
theorem nm_R_bads : xNm y_R_bads 0 := ⟨⟨by decide +kernel, by decide +kernel⟩, by decide +kernel⟩
theorem nm_R_wrongs : xNm y_R_wrongs 0 := ⟨⟨by decide +kernel, by decide +kernel⟩, by decide +kernel⟩
theorem nm_L_onesLessZeros : xNm y_L_onesLessZeros 0 := ⟨⟨by decide +kernel, by decide +kernel⟩, by decide +kernel⟩
theorem nm_L_longestRun : xNm y_L_longestRun 0 := ⟨⟨by decide +kernel, by decide +kernel⟩, by decide +kernel⟩
theorem nm_M_init : xNm y_M_init 0 := ⟨⟨by decide +kernel, by decide +kernel⟩, by decide +kernel⟩
theorem nm_M_isSymbol : xNm y_M_isSymbol 1 := ⟨⟨by decide +kernel, by decide +kernel⟩, by decide +kernel⟩
theorem nm_M_make : xNm y_M_make 2 := ⟨⟨by decide +kernel, by decide +kernel⟩, by decide +kernel⟩
theorem nm_M_ones : xNm y_M_ones 1 := ⟨⟨by decide +kernel, by decide +kernel⟩, by decide +kernel⟩
theorem nm_M_behindSix : xNm y_M_behindSix 2 := ⟨⟨by decide +kernel, by decide +kernel⟩, by decide +kernel⟩
theorem nm_M_empty : xNm y_M_empty 0 := ⟨⟨by decide +kernel, by decide +kernel⟩, by decide +kernel⟩
theorem nm_M_thrown : xNm y_M_thrown 0 := ⟨⟨by decide +kernel, by decide +kernel⟩, by decide +kernel⟩
theorem nm_M_clear : xNm y_M_clear 0 := ⟨⟨by decide +kernel, by decide +kernel⟩, by decide +kernel⟩
theorem nm_M_code : xNm y_M_code 2 := ⟨⟨by decide +kernel, by decide +kernel⟩, by decide +kernel⟩
theorem nm_M_refused : xNm y_M_refused 1 := ⟨⟨by decide +kernel, by decide +kernel⟩, by decide +kernel⟩
theorem nm_M_symbol : xNm y_M_symbol 1 := ⟨⟨by decide +kernel, by decide +kernel⟩, by decide +kernel⟩
theorem nm_M_isIn : xNm y_M_isIn 3 := ⟨⟨by decide +kernel, by decide +kernel⟩, by decide +kernel⟩
theorem nm_M_send : xNm y_M_send 1 := ⟨⟨by decide +kernel, by decide +kernel⟩, by decide +kernel⟩
theorem nm_M_append : xNm y_M_append 2 := ⟨⟨by decide +kernel, by decide +kernel⟩, by decide +kernel⟩
theorem nm_M_behind : xNm y_M_behind 2 := ⟨⟨by decide +kernel, by decide +kernel⟩, by decide +kernel⟩
theorem nm_M_behindFour : xNm y_M_behindFour 2 := ⟨⟨by decide +kernel, by decide +kernel⟩, by decide +kernel⟩
theorem nm_M_receive : xNm y_M_receive 0 := ⟨⟨by decide +kernel, by decide +kernel⟩, by decide +kernel⟩
theorem nm_M_bitsAt : xNm y_M_bitsAt 2 := ⟨⟨by decide +kernel, by decide +kernel⟩, by decide +kernel⟩
theorem nm_M_taken : xNm y_M_taken 1 := ⟨⟨by decide +kernel, by decide +kernel⟩, by decide +kernel⟩
theorem nm_M_put : xNm y_M_put 2 := ⟨⟨by decide +kernel, by decide +kernel⟩, by decide +kernel⟩
theorem nm_M_remember : xNm y_M_remember 2 := ⟨⟨by decide +kernel, by decide +kernel⟩, by decide +kernel⟩
theorem nm_M_take : xNm y_M_take 0 := ⟨⟨by decide +kernel, by decide +kernel⟩, by decide +kernel⟩
theorem nm_M_takeWord : xNm y_M_takeWord 1 := ⟨⟨by decide +kernel, by decide +kernel⟩, by decide +kernel⟩
theorem nm_M_onesOf : xNm y_M_onesOf 1 := ⟨⟨by decide +kernel, by decide +kernel⟩, by decide +kernel⟩
theorem nm_M_word : xNm y_M_word 0 := ⟨⟨by decide +kernel, by decide +kernel⟩, by decide +kernel⟩
theorem nm_M_raw : xNm y_M_raw 3 := ⟨⟨by decide +kernel, by decide +kernel⟩, by decide +kernel⟩
theorem nm_M_isStream : xNm y_M_isStream 1 := ⟨⟨by decide +kernel, by decide +kernel⟩, by decide +kernel⟩
theorem nm_M_bend : xNm y_M_bend 2 := ⟨⟨by decide +kernel, by decide +kernel⟩, by decide +kernel⟩
theorem nm_M_lose : xNm y_M_lose 3 := ⟨⟨by decide +kernel, by decide +kernel⟩, by decide +kernel⟩
theorem nm_M_bit : xNm y_M_bit 2 := ⟨⟨by decide +kernel, by decide +kernel⟩, by decide +kernel⟩
theorem nm_M_count : xNm y_M_count 2 := ⟨⟨by decide +kernel, by decide +kernel⟩, by decide +kernel⟩
theorem nm_M_balance : xNm y_M_balance 1 := ⟨⟨by decide +kernel, by decide +kernel⟩, by decide +kernel⟩
theorem nm_M_longest : xNm y_M_longest 1 := ⟨⟨by decide +kernel, by decide +kernel⟩, by decide +kernel⟩
theorem nm_M_isPlus : xNm y_M_isPlus 1 := ⟨⟨by decide +kernel, by decide +kernel⟩, by decide +kernel⟩
theorem fg_L_11_0 : xFg "LineCoder$Line" 11 0 0 := ⟨"LineCoder$Line", T_L, 3, "LineCoder$Line", rfl, uw_L, by decide, w_32, Or.inl rfl⟩
theorem fp_L_11_0 : xFp "LineCoder$Line" 11 0 0 true (.array .byte) := ⟨"LineCoder$Line", T_L, 3, "LineCoder$Line", ty_L, rfl, uw_L, by decide, w_32, Or.inl rfl, ty_L_ok, nm_L, rfl, by decide +kernel, fun _ => rfl⟩
theorem fg_L_15_0 : xFg "LineCoder$Line" 15 0 1 := ⟨"LineCoder$Line", T_L, 3, "LineCoder$Line", rfl, uw_L, by decide, w_33, Or.inl rfl⟩
theorem fp_L_15_0 : xFp "LineCoder$Line" 15 0 1 false .int := ⟨"LineCoder$Line", T_L, 3, "LineCoder$Line", ty_L, rfl, uw_L, by decide, w_33, Or.inl rfl, ty_L_ok, nm_L, rfl, by decide +kernel, fun h => absurd h (by decide)⟩
theorem fg_L_19_0 : xFg "LineCoder$Line" 19 0 2 := ⟨"LineCoder$Line", T_L, 3, "LineCoder$Line", rfl, uw_L, by decide, w_34, Or.inl rfl⟩
theorem fp_L_19_0 : xFp "LineCoder$Line" 19 0 2 false .int := ⟨"LineCoder$Line", T_L, 3, "LineCoder$Line", ty_L, rfl, uw_L, by decide, w_34, Or.inl rfl, ty_L_ok, nm_L, rfl, by decide +kernel, fun h => absurd h (by decide)⟩
theorem fg_T_9_2 : xFg "LineCoder$TenReceiver" 9 2 5 := ⟨"LineCoder$TenReceiver", T_T, 9, "LineCoder$TenReceiver", rfl, uw_T, by decide, w_52, Or.inl rfl⟩
theorem fp_T_9_2 : xFp "LineCoder$TenReceiver" 9 2 5 false .boolean := ⟨"LineCoder$TenReceiver", T_T, 9, "LineCoder$TenReceiver", ty_T, rfl, uw_T, by decide, w_52, Or.inl rfl, ty_T_ok, nm_T, rfl, by decide +kernel, fun h => absurd h (by decide)⟩
theorem fg_T_15_2 : xFg "LineCoder$TenReceiver" 15 2 6 := ⟨"LineCoder$TenReceiver", T_T, 9, "LineCoder$TenReceiver", rfl, uw_T, by decide, w_53, Or.inl rfl⟩
theorem fp_T_15_2 : xFp "LineCoder$TenReceiver" 15 2 6 false .boolean := ⟨"LineCoder$TenReceiver", T_T, 9, "LineCoder$TenReceiver", ty_T, rfl, uw_T, by decide, w_53, Or.inl rfl, ty_T_ok, nm_T, rfl, by decide +kernel, fun h => absurd h (by decide)⟩
theorem fg_T_18_2 : xFg "LineCoder$TenReceiver" 18 2 7 := ⟨"LineCoder$TenReceiver", T_T, 9, "LineCoder$TenReceiver", rfl, uw_T, by decide, w_54, Or.inl rfl⟩
theorem fp_T_18_2 : xFp "LineCoder$TenReceiver" 18 2 7 false .int := ⟨"LineCoder$TenReceiver", T_T, 9, "LineCoder$TenReceiver", ty_T, rfl, uw_T, by decide, w_54, Or.inl rfl, ty_T_ok, nm_T, rfl, by decide +kernel, fun h => absurd h (by decide)⟩
theorem fg_T_22_2 : xFg "LineCoder$TenReceiver" 22 2 8 := ⟨"LineCoder$TenReceiver", T_T, 9, "LineCoder$TenReceiver", rfl, uw_T, by decide, w_55, Or.inl rfl⟩
theorem fp_T_22_2 : xFp "LineCoder$TenReceiver" 22 2 8 false .int := ⟨"LineCoder$TenReceiver", T_T, 9, "LineCoder$TenReceiver", ty_T, rfl, uw_T, by decide, w_55, Or.inl rfl, ty_T_ok, nm_T, rfl, by decide +kernel, fun h => absurd h (by decide)⟩
theorem fg_R_9_2 : xFg "LineCoder$Receiver" 9 2 0 := ⟨"LineCoder$TenReceiver", T_T, 9, "LineCoder$Receiver", rfl, uw_T, by decide, w_56, Or.inl rfl⟩
theorem fp_R_9_2 : xFp "LineCoder$Receiver" 9 2 0 true (.object "LineCoder$Line") := ⟨"LineCoder$TenReceiver", T_T, 9, "LineCoder$Receiver", ty_T, rfl, uw_T, by decide, w_56, Or.inl rfl, ty_T_ok, nm_T, rfl, by decide +kernel, fun _ => rfl⟩
theorem fg_R_9_3 : xFg "LineCoder$Receiver" 9 3 0 := ⟨"LineCoder$WordReceiver", T_W, 9, "LineCoder$Receiver", rfl, uw_W, by decide, w_56, Or.inl rfl⟩
theorem fp_R_9_3 : xFp "LineCoder$Receiver" 9 3 0 true (.object "LineCoder$Line") := ⟨"LineCoder$WordReceiver", T_W, 9, "LineCoder$Receiver", ty_W, rfl, uw_W, by decide, w_56, Or.inl rfl, ty_W_ok, nm_W, rfl, by decide +kernel, fun _ => rfl⟩
theorem fg_W_47_3 : xFg "LineCoder$WordReceiver" 47 3 0 := ⟨"LineCoder$WordReceiver", T_W, 9, "LineCoder$WordReceiver", rfl, uw_W, by decide, w_57, Or.inr w_58⟩
theorem fg_T_32_2 : xFg "LineCoder$TenReceiver" 32 2 0 := ⟨"LineCoder$TenReceiver", T_T, 9, "LineCoder$TenReceiver", rfl, uw_T, by decide, w_59, Or.inr w_60⟩
theorem fg_R_15_2 : xFg "LineCoder$Receiver" 15 2 1 := ⟨"LineCoder$TenReceiver", T_T, 9, "LineCoder$Receiver", rfl, uw_T, by decide, w_61, Or.inl rfl⟩
theorem fp_R_15_2 : xFp "LineCoder$Receiver" 15 2 1 false .boolean := ⟨"LineCoder$TenReceiver", T_T, 9, "LineCoder$Receiver", ty_T, rfl, uw_T, by decide, w_61, Or.inl rfl, ty_T_ok, nm_T, rfl, by decide +kernel, fun h => absurd h (by decide)⟩
theorem fg_R_15_3 : xFg "LineCoder$Receiver" 15 3 1 := ⟨"LineCoder$WordReceiver", T_W, 9, "LineCoder$Receiver", rfl, uw_W, by decide, w_61, Or.inl rfl⟩
theorem fp_R_15_3 : xFp "LineCoder$Receiver" 15 3 1 false .boolean := ⟨"LineCoder$WordReceiver", T_W, 9, "LineCoder$Receiver", ty_W, rfl, uw_W, by decide, w_61, Or.inl rfl, ty_W_ok, nm_W, rfl, by decide +kernel, fun h => absurd h (by decide)⟩
theorem fg_W_37_3 : xFg "LineCoder$WordReceiver" 37 3 1 := ⟨"LineCoder$WordReceiver", T_W, 9, "LineCoder$WordReceiver", rfl, uw_W, by decide, w_62, Or.inr w_63⟩
theorem fp_W_37_3 : xFp "LineCoder$WordReceiver" 37 3 1 false .boolean := ⟨"LineCoder$WordReceiver", T_W, 9, "LineCoder$WordReceiver", ty_W, rfl, uw_W, by decide, w_62, Or.inr w_63, ty_W_ok, nm_W, rfl, by decide +kernel, fun h => absurd h (by decide)⟩
theorem fg_T_29_2 : xFg "LineCoder$TenReceiver" 29 2 1 := ⟨"LineCoder$TenReceiver", T_T, 9, "LineCoder$TenReceiver", rfl, uw_T, by decide, w_64, Or.inr w_65⟩
theorem fp_T_29_2 : xFp "LineCoder$TenReceiver" 29 2 1 false .boolean := ⟨"LineCoder$TenReceiver", T_T, 9, "LineCoder$TenReceiver", ty_T, rfl, uw_T, by decide, w_64, Or.inr w_65, ty_T_ok, nm_T, rfl, by decide +kernel, fun h => absurd h (by decide)⟩
theorem fg_R_19_2 : xFg "LineCoder$Receiver" 19 2 2 := ⟨"LineCoder$TenReceiver", T_T, 9, "LineCoder$Receiver", rfl, uw_T, by decide, w_66, Or.inl rfl⟩
theorem fp_R_19_2 : xFp "LineCoder$Receiver" 19 2 2 false .int := ⟨"LineCoder$TenReceiver", T_T, 9, "LineCoder$Receiver", ty_T, rfl, uw_T, by decide, w_66, Or.inl rfl, ty_T_ok, nm_T, rfl, by decide +kernel, fun h => absurd h (by decide)⟩
theorem fg_R_19_3 : xFg "LineCoder$Receiver" 19 3 2 := ⟨"LineCoder$WordReceiver", T_W, 9, "LineCoder$Receiver", rfl, uw_W, by decide, w_66, Or.inl rfl⟩
theorem fp_R_19_3 : xFp "LineCoder$Receiver" 19 3 2 false .int := ⟨"LineCoder$WordReceiver", T_W, 9, "LineCoder$Receiver", ty_W, rfl, uw_W, by decide, w_66, Or.inl rfl, ty_W_ok, nm_W, rfl, by decide +kernel, fun h => absurd h (by decide)⟩
theorem fg_R_23_2 : xFg "LineCoder$Receiver" 23 2 3 := ⟨"LineCoder$TenReceiver", T_T, 9, "LineCoder$Receiver", rfl, uw_T, by decide, w_67, Or.inl rfl⟩
theorem fp_R_23_2 : xFp "LineCoder$Receiver" 23 2 3 false .int := ⟨"LineCoder$TenReceiver", T_T, 9, "LineCoder$Receiver", ty_T, rfl, uw_T, by decide, w_67, Or.inl rfl, ty_T_ok, nm_T, rfl, by decide +kernel, fun h => absurd h (by decide)⟩
theorem fg_R_23_3 : xFg "LineCoder$Receiver" 23 3 3 := ⟨"LineCoder$WordReceiver", T_W, 9, "LineCoder$Receiver", rfl, uw_W, by decide, w_67, Or.inl rfl⟩
theorem fp_R_23_3 : xFp "LineCoder$Receiver" 23 3 3 false .int := ⟨"LineCoder$WordReceiver", T_W, 9, "LineCoder$Receiver", ty_W, rfl, uw_W, by decide, w_67, Or.inl rfl, ty_W_ok, nm_W, rfl, by decide +kernel, fun h => absurd h (by decide)⟩
theorem fg_W_75_3 : xFg "LineCoder$WordReceiver" 75 3 3 := ⟨"LineCoder$WordReceiver", T_W, 9, "LineCoder$WordReceiver", rfl, uw_W, by decide, w_68, Or.inr w_69⟩
theorem fp_W_75_3 : xFp "LineCoder$WordReceiver" 75 3 3 false .int := ⟨"LineCoder$WordReceiver", T_W, 9, "LineCoder$WordReceiver", ty_W, rfl, uw_W, by decide, w_68, Or.inr w_69, ty_W_ok, nm_W, rfl, by decide +kernel, fun h => absurd h (by decide)⟩
theorem fg_T_73_2 : xFg "LineCoder$TenReceiver" 73 2 3 := ⟨"LineCoder$TenReceiver", T_T, 9, "LineCoder$TenReceiver", rfl, uw_T, by decide, w_70, Or.inr w_71⟩
theorem fp_T_73_2 : xFp "LineCoder$TenReceiver" 73 2 3 false .int := ⟨"LineCoder$TenReceiver", T_T, 9, "LineCoder$TenReceiver", ty_T, rfl, uw_T, by decide, w_70, Or.inr w_71, ty_T_ok, nm_T, rfl, by decide +kernel, fun h => absurd h (by decide)⟩
theorem fg_R_26_2 : xFg "LineCoder$Receiver" 26 2 4 := ⟨"LineCoder$TenReceiver", T_T, 9, "LineCoder$Receiver", rfl, uw_T, by decide, w_72, Or.inl rfl⟩
theorem fp_R_26_2 : xFp "LineCoder$Receiver" 26 2 4 false .int := ⟨"LineCoder$TenReceiver", T_T, 9, "LineCoder$Receiver", ty_T, rfl, uw_T, by decide, w_72, Or.inl rfl, ty_T_ok, nm_T, rfl, by decide +kernel, fun h => absurd h (by decide)⟩
theorem fg_R_26_3 : xFg "LineCoder$Receiver" 26 3 4 := ⟨"LineCoder$WordReceiver", T_W, 9, "LineCoder$Receiver", rfl, uw_W, by decide, w_72, Or.inl rfl⟩
theorem fp_R_26_3 : xFp "LineCoder$Receiver" 26 3 4 false .int := ⟨"LineCoder$WordReceiver", T_W, 9, "LineCoder$Receiver", ty_W, rfl, uw_W, by decide, w_72, Or.inl rfl, ty_W_ok, nm_W, rfl, by decide +kernel, fun h => absurd h (by decide)⟩
theorem fg_T_79_2 : xFg "LineCoder$TenReceiver" 79 2 4 := ⟨"LineCoder$TenReceiver", T_T, 9, "LineCoder$TenReceiver", rfl, uw_T, by decide, w_73, Or.inr w_74⟩
theorem fp_T_79_2 : xFp "LineCoder$TenReceiver" 79 2 4 false .int := ⟨"LineCoder$TenReceiver", T_T, 9, "LineCoder$TenReceiver", ty_T, rfl, uw_T, by decide, w_73, Or.inr w_74, ty_T_ok, nm_T, rfl, by decide +kernel, fun h => absurd h (by decide)⟩
theorem fg_S_11_1 : xFg "LineCoder$Stirrer" 11 1 0 := ⟨"LineCoder$Stirrer", T_S, 1, "LineCoder$Stirrer", rfl, uw_S, by decide, w_107, Or.inl rfl⟩
theorem fp_S_11_1 : xFp "LineCoder$Stirrer" 11 1 0 false .long := ⟨"LineCoder$Stirrer", T_S, 1, "LineCoder$Stirrer", ty_S, rfl, uw_S, by decide, w_107, Or.inl rfl, ty_S_ok, nm_S, rfl, by decide +kernel, fun h => absurd h (by decide)⟩
theorem fg_W_14_3 : xFg "LineCoder$WordReceiver" 14 3 5 := ⟨"LineCoder$WordReceiver", T_W, 9, "LineCoder$WordReceiver", rfl, uw_W, by decide, w_111, Or.inl rfl⟩
theorem fp_W_14_3 : xFp "LineCoder$WordReceiver" 14 3 5 true (.object "LineCoder$Stirrer") := ⟨"LineCoder$WordReceiver", T_W, 9, "LineCoder$WordReceiver", ty_W, rfl, uw_W, by decide, w_111, Or.inl rfl, ty_W_ok, nm_W, rfl, by decide +kernel, fun _ => rfl⟩
theorem fg_W_20_3 : xFg "LineCoder$WordReceiver" 20 3 6 := ⟨"LineCoder$WordReceiver", T_W, 9, "LineCoder$WordReceiver", rfl, uw_W, by decide, w_112, Or.inl rfl⟩
theorem fp_W_20_3 : xFp "LineCoder$WordReceiver" 20 3 6 false .int := ⟨"LineCoder$WordReceiver", T_W, 9, "LineCoder$WordReceiver", ty_W, rfl, uw_W, by decide, w_112, Or.inl rfl, ty_W_ok, nm_W, rfl, by decide +kernel, fun h => absurd h (by decide)⟩
theorem fg_W_24_3 : xFg "LineCoder$WordReceiver" 24 3 7 := ⟨"LineCoder$WordReceiver", T_W, 9, "LineCoder$WordReceiver", rfl, uw_W, by decide, w_113, Or.inl rfl⟩
theorem fp_W_24_3 : xFp "LineCoder$WordReceiver" 24 3 7 false .int := ⟨"LineCoder$WordReceiver", T_W, 9, "LineCoder$WordReceiver", ty_W, rfl, uw_W, by decide, w_113, Or.inl rfl, ty_W_ok, nm_W, rfl, by decide +kernel, fun h => absurd h (by decide)⟩
theorem fg_W_27_3 : xFg "LineCoder$WordReceiver" 27 3 8 := ⟨"LineCoder$WordReceiver", T_W, 9, "LineCoder$WordReceiver", rfl, uw_W, by decide, w_114, Or.inl rfl⟩
theorem fp_W_27_3 : xFp "LineCoder$WordReceiver" 27 3 8 false .long := ⟨"LineCoder$WordReceiver", T_W, 9, "LineCoder$WordReceiver", ty_W, rfl, uw_W, by decide, w_114, Or.inl rfl, ty_W_ok, nm_W, rfl, by decide +kernel, fun h => absurd h (by decide)⟩
theorem fg_X_10_4 : xFg "LineCoder" 10 4 0 := ⟨"LineCoder", T_X, 6, "LineCoder", rfl, uw_X, by decide, w_131, Or.inl rfl⟩
theorem fp_X_10_4 : xFp "LineCoder" 10 4 0 true (.object "LineCoder$Line") := ⟨"LineCoder", T_X, 6, "LineCoder", ty_X, rfl, uw_X, by decide, w_131, Or.inl rfl, ty_X_ok, nm_X, rfl, by decide +kernel, fun _ => rfl⟩
theorem fg_X_16_4 : xFg "LineCoder" 16 4 1 := ⟨"LineCoder", T_X, 6, "LineCoder", rfl, uw_X, by decide, w_132, Or.inl rfl⟩
theorem fp_X_16_4 : xFp "LineCoder" 16 4 1 true (.object "LineCoder$Line") := ⟨"LineCoder", T_X, 6, "LineCoder", ty_X, rfl, uw_X, by decide, w_132, Or.inl rfl, ty_X_ok, nm_X, rfl, by decide +kernel, fun _ => rfl⟩
theorem fg_X_24_4 : xFg "LineCoder" 24 4 2 := ⟨"LineCoder", T_X, 6, "LineCoder", rfl, uw_X, by decide, w_133, Or.inl rfl⟩
theorem fp_X_24_4 : xFp "LineCoder" 24 4 2 true (.object "LineCoder$TenReceiver") := ⟨"LineCoder", T_X, 6, "LineCoder", ty_X, rfl, uw_X, by decide, w_133, Or.inl rfl, ty_X_ok, nm_X, rfl, by decide +kernel, fun _ => rfl⟩
theorem fg_X_31_4 : xFg "LineCoder" 31 4 3 := ⟨"LineCoder", T_X, 6, "LineCoder", rfl, uw_X, by decide, w_134, Or.inl rfl⟩
theorem fp_X_31_4 : xFp "LineCoder" 31 4 3 true (.object "LineCoder$WordReceiver") := ⟨"LineCoder", T_X, 6, "LineCoder", ty_X, rfl, uw_X, by decide, w_134, Or.inl rfl, ty_X_ok, nm_X, rfl, by decide +kernel, fun _ => rfl⟩
theorem fg_X_38_4 : xFg "LineCoder" 38 4 4 := ⟨"LineCoder", T_X, 6, "LineCoder", rfl, uw_X, by decide, w_135, Or.inl rfl⟩
theorem fp_X_38_4 : xFp "LineCoder" 38 4 4 true (.object "LineCoder$Stirrer") := ⟨"LineCoder", T_X, 6, "LineCoder", ty_X, rfl, uw_X, by decide, w_135, Or.inl rfl, ty_X_ok, nm_X, rfl, by decide +kernel, fun _ => rfl⟩
theorem fg_X_42_4 : xFg "LineCoder" 42 4 5 := ⟨"LineCoder", T_X, 6, "LineCoder", rfl, uw_X, by decide, w_136, Or.inl rfl⟩
theorem fp_X_42_4 : xFp "LineCoder" 42 4 5 false .boolean := ⟨"LineCoder", T_X, 6, "LineCoder", ty_X, rfl, uw_X, by decide, w_136, Or.inl rfl, ty_X_ok, nm_X, rfl, by decide +kernel, fun h => absurd h (by decide)⟩
theorem fg_M_61_5 : xFg "LineCoderModel" 61 5 0 := ⟨"LineCoderModel", T_M, 23, "LineCoderModel", rfl, uw_M, by decide, w_623, Or.inl rfl⟩
theorem fp_M_61_5 : xFp "LineCoderModel" 61 5 0 false .int := ⟨"LineCoderModel", T_M, 23, "LineCoderModel", ty_M, rfl, uw_M, by decide, w_623, Or.inl rfl, ty_M_ok, nm_M, rfl, by decide +kernel, fun h => absurd h (by decide)⟩
theorem fg_M_7_5 : xFg "LineCoderModel" 7 5 1 := ⟨"LineCoderModel", T_M, 23, "LineCoderModel", rfl, uw_M, by decide, w_624, Or.inl rfl⟩
theorem fp_M_7_5 : xFp "LineCoderModel" 7 5 1 true (.array .int) := ⟨"LineCoderModel", T_M, 23, "LineCoderModel", ty_M, rfl, uw_M, by decide, w_624, Or.inl rfl, ty_M_ok, nm_M, rfl, by decide +kernel, fun _ => rfl⟩
theorem fg_M_13_5 : xFg "LineCoderModel" 13 5 2 := ⟨"LineCoderModel", T_M, 23, "LineCoderModel", rfl, uw_M, by decide, w_625, Or.inl rfl⟩
theorem fp_M_13_5 : xFp "LineCoderModel" 13 5 2 true (.array .int) := ⟨"LineCoderModel", T_M, 23, "LineCoderModel", ty_M, rfl, uw_M, by decide, w_625, Or.inl rfl, ty_M_ok, nm_M, rfl, by decide +kernel, fun _ => rfl⟩
theorem fg_M_16_5 : xFg "LineCoderModel" 16 5 3 := ⟨"LineCoderModel", T_M, 23, "LineCoderModel", rfl, uw_M, by decide, w_626, Or.inl rfl⟩
theorem fp_M_16_5 : xFp "LineCoderModel" 16 5 3 true (.array .int) := ⟨"LineCoderModel", T_M, 23, "LineCoderModel", ty_M, rfl, uw_M, by decide, w_626, Or.inl rfl, ty_M_ok, nm_M, rfl, by decide +kernel, fun _ => rfl⟩
theorem fg_M_19_5 : xFg "LineCoderModel" 19 5 4 := ⟨"LineCoderModel", T_M, 23, "LineCoderModel", rfl, uw_M, by decide, w_627, Or.inl rfl⟩
theorem fp_M_19_5 : xFp "LineCoderModel" 19 5 4 true (.array .int) := ⟨"LineCoderModel", T_M, 23, "LineCoderModel", ty_M, rfl, uw_M, by decide, w_627, Or.inl rfl, ty_M_ok, nm_M, rfl, by decide +kernel, fun _ => rfl⟩
theorem fg_M_22_5 : xFg "LineCoderModel" 22 5 5 := ⟨"LineCoderModel", T_M, 23, "LineCoderModel", rfl, uw_M, by decide, w_628, Or.inl rfl⟩
theorem fp_M_22_5 : xFp "LineCoderModel" 22 5 5 true (.array .int) := ⟨"LineCoderModel", T_M, 23, "LineCoderModel", ty_M, rfl, uw_M, by decide, w_628, Or.inl rfl, ty_M_ok, nm_M, rfl, by decide +kernel, fun _ => rfl⟩
theorem fg_M_25_5 : xFg "LineCoderModel" 25 5 6 := ⟨"LineCoderModel", T_M, 23, "LineCoderModel", rfl, uw_M, by decide, w_629, Or.inl rfl⟩
theorem fp_M_25_5 : xFp "LineCoderModel" 25 5 6 true (.array .int) := ⟨"LineCoderModel", T_M, 23, "LineCoderModel", ty_M, rfl, uw_M, by decide, w_629, Or.inl rfl, ty_M_ok, nm_M, rfl, by decide +kernel, fun _ => rfl⟩
theorem fg_M_28_5 : xFg "LineCoderModel" 28 5 7 := ⟨"LineCoderModel", T_M, 23, "LineCoderModel", rfl, uw_M, by decide, w_630, Or.inl rfl⟩
theorem fp_M_28_5 : xFp "LineCoderModel" 28 5 7 true (.array .int) := ⟨"LineCoderModel", T_M, 23, "LineCoderModel", ty_M, rfl, uw_M, by decide, w_630, Or.inl rfl, ty_M_ok, nm_M, rfl, by decide +kernel, fun _ => rfl⟩
theorem fg_M_31_5 : xFg "LineCoderModel" 31 5 8 := ⟨"LineCoderModel", T_M, 23, "LineCoderModel", rfl, uw_M, by decide, w_631, Or.inl rfl⟩
theorem fp_M_31_5 : xFp "LineCoderModel" 31 5 8 true (.array .boolean) := ⟨"LineCoderModel", T_M, 23, "LineCoderModel", ty_M, rfl, uw_M, by decide, w_631, Or.inl rfl, ty_M_ok, nm_M, rfl, by decide +kernel, fun _ => rfl⟩
theorem fg_M_35_5 : xFg "LineCoderModel" 35 5 9 := ⟨"LineCoderModel", T_M, 23, "LineCoderModel", rfl, uw_M, by decide, w_632, Or.inl rfl⟩
theorem fp_M_35_5 : xFp "LineCoderModel" 35 5 9 true (.array .int) := ⟨"LineCoderModel", T_M, 23, "LineCoderModel", ty_M, rfl, uw_M, by decide, w_632, Or.inl rfl, ty_M_ok, nm_M, rfl, by decide +kernel, fun _ => rfl⟩
theorem fg_M_38_5 : xFg "LineCoderModel" 38 5 10 := ⟨"LineCoderModel", T_M, 23, "LineCoderModel", rfl, uw_M, by decide, w_633, Or.inl rfl⟩
theorem fp_M_38_5 : xFp "LineCoderModel" 38 5 10 true (.array .int) := ⟨"LineCoderModel", T_M, 23, "LineCoderModel", ty_M, rfl, uw_M, by decide, w_633, Or.inl rfl, ty_M_ok, nm_M, rfl, by decide +kernel, fun _ => rfl⟩
theorem fg_M_41_5 : xFg "LineCoderModel" 41 5 11 := ⟨"LineCoderModel", T_M, 23, "LineCoderModel", rfl, uw_M, by decide, w_634, Or.inl rfl⟩
theorem fp_M_41_5 : xFp "LineCoderModel" 41 5 11 true (.array .int) := ⟨"LineCoderModel", T_M, 23, "LineCoderModel", ty_M, rfl, uw_M, by decide, w_634, Or.inl rfl, ty_M_ok, nm_M, rfl, by decide +kernel, fun _ => rfl⟩
theorem fg_M_65_5 : xFg "LineCoderModel" 65 5 12 := ⟨"LineCoderModel", T_M, 23, "LineCoderModel", rfl, uw_M, by decide, w_635, Or.inl rfl⟩
theorem fp_M_65_5 : xFp "LineCoderModel" 65 5 12 false .int := ⟨"LineCoderModel", T_M, 23, "LineCoderModel", ty_M, rfl, uw_M, by decide, w_635, Or.inl rfl, ty_M_ok, nm_M, rfl, by decide +kernel, fun h => absurd h (by decide)⟩
theorem fg_M_68_5 : xFg "LineCoderModel" 68 5 13 := ⟨"LineCoderModel", T_M, 23, "LineCoderModel", rfl, uw_M, by decide, w_636, Or.inl rfl⟩
theorem fp_M_68_5 : xFp "LineCoderModel" 68 5 13 false .boolean := ⟨"LineCoderModel", T_M, 23, "LineCoderModel", ty_M, rfl, uw_M, by decide, w_636, Or.inl rfl, ty_M_ok, nm_M, rfl, by decide +kernel, fun h => absurd h (by decide)⟩
theorem fg_M_72_5 : xFg "LineCoderModel" 72 5 14 := ⟨"LineCoderModel", T_M, 23, "LineCoderModel", rfl, uw_M, by decide, w_637, Or.inl rfl⟩
theorem fp_M_72_5 : xFp "LineCoderModel" 72 5 14 false .boolean := ⟨"LineCoderModel", T_M, 23, "LineCoderModel", ty_M, rfl, uw_M, by decide, w_637, Or.inl rfl, ty_M_ok, nm_M, rfl, by decide +kernel, fun h => absurd h (by decide)⟩
theorem fg_M_75_5 : xFg "LineCoderModel" 75 5 15 := ⟨"LineCoderModel", T_M, 23, "LineCoderModel", rfl, uw_M, by decide, w_638, Or.inl rfl⟩
theorem fp_M_75_5 : xFp "LineCoderModel" 75 5 15 false .boolean := ⟨"LineCoderModel", T_M, 23, "LineCoderModel", ty_M, rfl, uw_M, by decide, w_638, Or.inl rfl, ty_M_ok, nm_M, rfl, by decide +kernel, fun h => absurd h (by decide)⟩
theorem fg_M_78_5 : xFg "LineCoderModel" 78 5 16 := ⟨"LineCoderModel", T_M, 23, "LineCoderModel", rfl, uw_M, by decide, w_639, Or.inl rfl⟩
theorem fp_M_78_5 : xFp "LineCoderModel" 78 5 16 false .int := ⟨"LineCoderModel", T_M, 23, "LineCoderModel", ty_M, rfl, uw_M, by decide, w_639, Or.inl rfl, ty_M_ok, nm_M, rfl, by decide +kernel, fun h => absurd h (by decide)⟩
theorem fg_M_44_5 : xFg "LineCoderModel" 44 5 17 := ⟨"LineCoderModel", T_M, 23, "LineCoderModel", rfl, uw_M, by decide, w_640, Or.inl rfl⟩
theorem fp_M_44_5 : xFp "LineCoderModel" 44 5 17 true (.array .int) := ⟨"LineCoderModel", T_M, 23, "LineCoderModel", ty_M, rfl, uw_M, by decide, w_640, Or.inl rfl, ty_M_ok, nm_M, rfl, by decide +kernel, fun _ => rfl⟩
theorem fg_M_47_5 : xFg "LineCoderModel" 47 5 18 := ⟨"LineCoderModel", T_M, 23, "LineCoderModel", rfl, uw_M, by decide, w_641, Or.inl rfl⟩
theorem fp_M_47_5 : xFp "LineCoderModel" 47 5 18 true (.array .int) := ⟨"LineCoderModel", T_M, 23, "LineCoderModel", ty_M, rfl, uw_M, by decide, w_641, Or.inl rfl, ty_M_ok, nm_M, rfl, by decide +kernel, fun _ => rfl⟩
theorem fg_M_81_5 : xFg "LineCoderModel" 81 5 19 := ⟨"LineCoderModel", T_M, 23, "LineCoderModel", rfl, uw_M, by decide, w_642, Or.inl rfl⟩
theorem fp_M_81_5 : xFp "LineCoderModel" 81 5 19 false .int := ⟨"LineCoderModel", T_M, 23, "LineCoderModel", ty_M, rfl, uw_M, by decide, w_642, Or.inl rfl, ty_M_ok, nm_M, rfl, by decide +kernel, fun h => absurd h (by decide)⟩
theorem fg_M_84_5 : xFg "LineCoderModel" 84 5 20 := ⟨"LineCoderModel", T_M, 23, "LineCoderModel", rfl, uw_M, by decide, w_643, Or.inl rfl⟩
theorem fp_M_84_5 : xFp "LineCoderModel" 84 5 20 false .int := ⟨"LineCoderModel", T_M, 23, "LineCoderModel", ty_M, rfl, uw_M, by decide, w_643, Or.inl rfl, ty_M_ok, nm_M, rfl, by decide +kernel, fun h => absurd h (by decide)⟩
theorem fg_M_87_5 : xFg "LineCoderModel" 87 5 21 := ⟨"LineCoderModel", T_M, 23, "LineCoderModel", rfl, uw_M, by decide, w_644, Or.inl rfl⟩
theorem fp_M_87_5 : xFp "LineCoderModel" 87 5 21 false .long := ⟨"LineCoderModel", T_M, 23, "LineCoderModel", ty_M, rfl, uw_M, by decide, w_644, Or.inl rfl, ty_M_ok, nm_M, rfl, by decide +kernel, fun h => absurd h (by decide)⟩
theorem cn_Q_8 : xCn "LineCoderLaw" 8 4 6 [.null, .null, .null, .null, .null, .int 0] := ⟨"LineCoder", T_X, ty_X, rfl, uw_X, ty_X_ok, w_18, w_19, w_1, fun j hj => match j, hj with
  | 0, _ => rfl
  | 1, _ => rfl
  | 2, _ => rfl
  | 3, _ => rfl
  | 4, _ => rfl
  | 5, _ => rfl
  | k + 6, h => absurd h (by omega)⟩
theorem cn_X_7 : xCn "LineCoder" 7 0 3 [.null, .int 0, .int 0] := ⟨"LineCoder$Line", T_L, ty_L, rfl, uw_L, ty_L_ok, w_26, w_27, w_2, fun j hj => match j, hj with
  | 0, _ => rfl
  | 1, _ => rfl
  | 2, _ => rfl
  | k + 3, h => absurd h (by omega)⟩
theorem cn_X_19 : xCn "LineCoder" 19 2 9 [.null, .int 0, .int 0, .int 0, .int 0, .int 0, .int 0, .int 0, .int 0] := ⟨"LineCoder$TenReceiver", T_T, ty_T, rfl, uw_T, ty_T_ok, w_43, w_44, w_4, fun j hj => match j, hj with
  | 0, _ => rfl
  | 1, _ => rfl
  | 2, _ => rfl
  | 3, _ => rfl
  | 4, _ => rfl
  | 5, _ => rfl
  | 6, _ => rfl
  | 7, _ => rfl
  | 8, _ => rfl
  | k + 9, h => absurd h (by omega)⟩
theorem cn_X_28 : xCn "LineCoder" 28 3 9 [.null, .int 0, .int 0, .int 0, .int 0, .null, .int 0, .int 0, .long 0] := ⟨"LineCoder$WordReceiver", T_W, ty_W, rfl, uw_W, ty_W_ok, w_94, w_95, w_5, fun j hj => match j, hj with
  | 0, _ => rfl
  | 1, _ => rfl
  | 2, _ => rfl
  | 3, _ => rfl
  | 4, _ => rfl
  | 5, _ => rfl
  | 6, _ => rfl
  | 7, _ => rfl
  | 8, _ => rfl
  | k + 9, h => absurd h (by omega)⟩
theorem cn_W_9 : xCn "LineCoder$WordReceiver" 9 1 1 [.long 0] := ⟨"LineCoder$Stirrer", T_S, ty_S, rfl, uw_S, ty_S_ok, w_100, w_101, w_6, fun j hj => match j, hj with
  | 0, _ => rfl
  | k + 1, h => absurd h (by omega)⟩
theorem cn_X_35 : xCn "LineCoder" 35 1 1 [.long 0] := ⟨"LineCoder$Stirrer", T_S, ty_S, rfl, uw_S, ty_S_ok, w_129, w_101, w_6, fun j hj => match j, hj with
  | 0, _ => rfl
  | k + 1, h => absurd h (by omega)⟩
theorem cn_Q_49 : xCn "LineCoderLaw" 49 5 23 [.int 0, .null, .null, .null, .null, .null, .null, .null, .null, .null, .null, .null, .int 0, .int 0, .int 0, .int 0, .int 0, .null, .null, .int 0, .int 0, .long 0, .int 0] := ⟨"LineCoderModel", T_M, ty_M, rfl, uw_M, ty_M_ok, w_600, w_601, w_7, fun j hj => match j, hj with
  | 0, _ => rfl
  | 1, _ => rfl
  | 2, _ => rfl
  | 3, _ => rfl
  | 4, _ => rfl
  | 5, _ => rfl
  | 6, _ => rfl
  | 7, _ => rfl
  | 8, _ => rfl
  | 9, _ => rfl
  | 10, _ => rfl
  | 11, _ => rfl
  | 12, _ => rfl
  | 13, _ => rfl
  | 14, _ => rfl
  | 15, _ => rfl
  | 16, _ => rfl
  | 17, _ => rfl
  | 18, _ => rfl
  | 19, _ => rfl
  | 20, _ => rfl
  | 21, _ => rfl
  | 22, _ => rfl
  | k + 23, h => absurd h (by omega)⟩
