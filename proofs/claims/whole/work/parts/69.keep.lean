/-! constructors: words, what is kept while cells are made -/
theorem ini_0 : Cond.initialized RX0 ∈ pm_tb := (pm_tb_t 8 (by decide +kernel) rfl)
theorem im_0 : Cond.instanceMethod yX0_init ∈ pm_tb := (pm_tb_t 229 (by decide +kernel) rfl)
theorem ini_1 : Cond.initialized RX1 ∈ pm_tb := (pm_tb_t 4 (by decide +kernel) rfl)
theorem im_1 : Cond.instanceMethod yX1_init ∈ pm_tb := (pm_tb_t 53 (by decide +kernel) rfl)
theorem ini_2 : Cond.initialized RX2 ∈ pm_tb := (pm_tb_t 7 (by decide +kernel) rfl)
theorem im_2 : Cond.instanceMethod yX2_init ∈ pm_tb := (pm_tb_t 186 (by decide +kernel) rfl)
theorem ini_3 : Cond.initialized RX3 ∈ pm_tb := (pm_tb_t 6 (by decide +kernel) rfl)
theorem im_3 : Cond.instanceMethod yX3_init ∈ pm_tb := (pm_tb_t 164 (by decide +kernel) rfl)
theorem ini_4 : Cond.initialized RX4 ∈ pm_tb := (pm_tb_t 10 (by decide +kernel) rfl)
theorem im_4 : Cond.instanceMethod yX4_init ∈ pm_tb := (pm_tb_t 269 (by decide +kernel) rfl)
theorem ini_5 : Cond.initialized RX5 ∈ pm_tb := (pm_tb_t 2 (by decide +kernel) rfl)
theorem im_5 : Cond.instanceMethod yX5_init ∈ pm_tb := (pm_tb_t 27 (by decide +kernel) rfl)
theorem ini_6 : Cond.initialized RX6 ∈ pm_tb := (pm_tb_t 9 (by decide +kernel) rfl)
theorem im_6 : Cond.instanceMethod yX6_init ∈ pm_tb := (pm_tb_t 246 (by decide +kernel) rfl)
theorem ini_7 : Cond.initialized RX7 ∈ pm_tb := (pm_tb_t 5 (by decide +kernel) rfl)
theorem im_7 : Cond.instanceMethod yX7_init ∈ pm_tb := (pm_tb_t 60 (by decide +kernel) rfl)
theorem ini_8 : Cond.initialized RX8 ∈ pm_tb := (pm_tb_t 3 (by decide +kernel) rfl)
theorem im_8 : Cond.instanceMethod yX8_init ∈ pm_tb := (pm_tb_t 33 (by decide +kernel) rfl)
theorem ini_9 : Cond.initialized RX9 ∈ pm_tb := (pm_tb_t 1 (by decide +kernel) rfl)
theorem im_9 : Cond.instanceMethod yX9_init ∈ pm_tb := (pm_tb_t 17 (by decide +kernel) rfl)
theorem ini_10 : Cond.initialized RX10 ∈ pm_tb := (pm_tb_t 11 (by decide +kernel) rfl)
theorem im_10 : Cond.instanceMethod yX10_init ∈ pm_tb := (pm_tb_t 878 (by decide +kernel) rfl)
theorem cw_L_7 : Cond.classLink RL 7 RX9 ∈ pm_tb := (pm_tb_t 14 (by decide +kernel) rfl)
theorem nk_L_7 : pm_cls RL 7 9 9 := ⟨(RX9, TX9, 9), tyX9, rfl, by decide, rfl, rfl, ⟨cw_L_7, (pm_tb_t 15 (by decide +kernel) rfl), ini_9⟩, fw_9, tyX9_ok, fun k hk => match k, hk with | 0, _ => rfl | 1, _ => rfl | 2, _ => rfl | 3, _ => rfl | 4, _ => rfl | 5, _ => rfl | 6, _ => rfl | 7, _ => rfl | 8, _ => rfl | k + 9, h => absurd h (by omega)⟩
theorem cw_X9_9 : Cond.classLink RX9 9 RX6 ∈ pm_tb := (pm_tb_t 22 (by decide +kernel) rfl)
theorem nk_X9_9 : pm_cls RX9 9 6 4 := ⟨(RX6, TX6, 4), tyX6, rfl, by decide, rfl, rfl, ⟨cw_X9_9, (pm_tb_t 244 (by decide +kernel) rfl), ini_6⟩, fw_6, tyX6_ok, fun k hk => match k, hk with | 0, _ => rfl | 1, _ => rfl | 2, _ => rfl | 3, _ => rfl | k + 4, h => absurd h (by omega)⟩
theorem cw_X9_15 : Cond.classLink RX9 15 RX5 ∈ pm_tb := (pm_tb_t 24 (by decide +kernel) rfl)
theorem nk_X9_15 : pm_cls RX9 15 5 11 := ⟨(RX5, TX5, 11), tyX5, rfl, by decide, rfl, rfl, ⟨cw_X9_15, (pm_tb_t 25 (by decide +kernel) rfl), ini_5⟩, fw_5, tyX5_ok, fun k hk => match k, hk with | 0, _ => rfl | 1, _ => rfl | 2, _ => rfl | 3, _ => rfl | 4, _ => rfl | 5, _ => rfl | 6, _ => rfl | 7, _ => rfl | 8, _ => rfl | 9, _ => rfl | 10, _ => rfl | k + 11, h => absurd h (by omega)⟩
theorem cw_X5_15 : Cond.classLink RX5 15 RX8 ∈ pm_tb := (pm_tb_t 30 (by decide +kernel) rfl)
theorem nk_X5_15 : pm_cls RX5 15 8 3 := ⟨(RX8, TX8, 3), tyX8, rfl, by decide, rfl, rfl, ⟨cw_X5_15, (pm_tb_t 31 (by decide +kernel) rfl), ini_8⟩, fw_8, tyX8_ok, fun k hk => match k, hk with | 0, _ => rfl | 1, _ => rfl | 2, _ => rfl | k + 3, h => absurd h (by omega)⟩
theorem cw_X5_22 : Cond.classLink RX5 22 RX1 ∈ pm_tb := (pm_tb_t 50 (by decide +kernel) rfl)
theorem nk_X5_22 : pm_cls RX5 22 1 6 := ⟨(RX1, TX1, 6), tyX1, rfl, by decide, rfl, rfl, ⟨cw_X5_22, (pm_tb_t 51 (by decide +kernel) rfl), ini_1⟩, fw_1, tyX1_ok, fun k hk => match k, hk with | 0, _ => rfl | 1, _ => rfl | 2, _ => rfl | 3, _ => rfl | 4, _ => rfl | 5, _ => rfl | k + 6, h => absurd h (by omega)⟩
theorem cw_X1_9 : Cond.classLink RX1 9 RX7 ∈ pm_tb := (pm_tb_t 56 (by decide +kernel) rfl)
theorem nk_X1_9 : pm_cls RX1 9 7 5 := ⟨(RX7, TX7, 5), tyX7, rfl, by decide, rfl, rfl, ⟨cw_X1_9, (pm_tb_t 58 (by decide +kernel) rfl), ini_7⟩, fw_7, tyX7_ok, fun k hk => match k, hk with | 0, _ => rfl | 1, _ => rfl | 2, _ => rfl | 3, _ => rfl | 4, _ => rfl | k + 5, h => absurd h (by omega)⟩
theorem cw_X9_22 : Cond.classLink RX9 22 RX8 ∈ pm_tb := (pm_tb_t 157 (by decide +kernel) rfl)
theorem nk_X9_22 : pm_cls RX9 22 8 3 := ⟨(RX8, TX8, 3), tyX8, rfl, by decide, rfl, rfl, ⟨cw_X9_22, (pm_tb_t 31 (by decide +kernel) rfl), ini_8⟩, fw_8, tyX8_ok, fun k hk => match k, hk with | 0, _ => rfl | 1, _ => rfl | 2, _ => rfl | k + 3, h => absurd h (by omega)⟩
theorem cw_X9_29 : Cond.classLink RX9 29 RX1 ∈ pm_tb := (pm_tb_t 159 (by decide +kernel) rfl)
theorem nk_X9_29 : pm_cls RX9 29 1 6 := ⟨(RX1, TX1, 6), tyX1, rfl, by decide, rfl, rfl, ⟨cw_X9_29, (pm_tb_t 51 (by decide +kernel) rfl), ini_1⟩, fw_1, tyX1_ok, fun k hk => match k, hk with | 0, _ => rfl | 1, _ => rfl | 2, _ => rfl | 3, _ => rfl | 4, _ => rfl | 5, _ => rfl | k + 6, h => absurd h (by omega)⟩
theorem cw_X9_36 : Cond.classLink RX9 36 RX3 ∈ pm_tb := (pm_tb_t 161 (by decide +kernel) rfl)
theorem nk_X9_36 : pm_cls RX9 36 3 3 := ⟨(RX3, TX3, 3), tyX3, rfl, by decide, rfl, rfl, ⟨cw_X9_36, (pm_tb_t 162 (by decide +kernel) rfl), ini_3⟩, fw_3, tyX3_ok, fun k hk => match k, hk with | 0, _ => rfl | 1, _ => rfl | 2, _ => rfl | k + 3, h => absurd h (by omega)⟩
theorem cw_X3_11 : Cond.classLink RX3 11 RX1 ∈ pm_tb := (pm_tb_t 167 (by decide +kernel) rfl)
theorem nk_X3_11 : pm_cls RX3 11 1 6 := ⟨(RX1, TX1, 6), tyX1, rfl, by decide, rfl, rfl, ⟨cw_X3_11, (pm_tb_t 51 (by decide +kernel) rfl), ini_1⟩, fw_1, tyX1_ok, fun k hk => match k, hk with | 0, _ => rfl | 1, _ => rfl | 2, _ => rfl | 3, _ => rfl | 4, _ => rfl | 5, _ => rfl | k + 6, h => absurd h (by omega)⟩
theorem cw_X9_43 : Cond.classLink RX9 43 RX4 ∈ pm_tb := (pm_tb_t 181 (by decide +kernel) rfl)
theorem nk_X9_43 : pm_cls RX9 43 4 3 := ⟨(RX4, TX4, 3), tyX4, rfl, by decide, rfl, rfl, ⟨cw_X9_43, (pm_tb_t 267 (by decide +kernel) rfl), ini_4⟩, fw_4, tyX4_ok, fun k hk => match k, hk with | 0, _ => rfl | 1, _ => rfl | 2, _ => rfl | k + 3, h => absurd h (by omega)⟩
theorem cw_X9_49 : Cond.classLink RX9 49 RX2 ∈ pm_tb := (pm_tb_t 183 (by decide +kernel) rfl)
theorem nk_X9_49 : pm_cls RX9 49 2 9 := ⟨(RX2, TX2, 9), tyX2, rfl, by decide, rfl, rfl, ⟨cw_X9_49, (pm_tb_t 184 (by decide +kernel) rfl), ini_2⟩, fw_2, tyX2_ok, fun k hk => match k, hk with | 0, _ => rfl | 1, _ => rfl | 2, _ => rfl | 3, _ => rfl | 4, _ => rfl | 5, _ => rfl | 6, _ => rfl | 7, _ => rfl | 8, _ => rfl | k + 9, h => absurd h (by omega)⟩
theorem cw_X2_18 : Cond.classLink RX2 18 RX1 ∈ pm_tb := (pm_tb_t 189 (by decide +kernel) rfl)
theorem nk_X2_18 : pm_cls RX2 18 1 6 := ⟨(RX1, TX1, 6), tyX1, rfl, by decide, rfl, rfl, ⟨cw_X2_18, (pm_tb_t 51 (by decide +kernel) rfl), ini_1⟩, fw_1, tyX1_ok, fun k hk => match k, hk with | 0, _ => rfl | 1, _ => rfl | 2, _ => rfl | 3, _ => rfl | 4, _ => rfl | 5, _ => rfl | k + 6, h => absurd h (by omega)⟩
theorem cw_X2_28 : Cond.classLink RX2 28 RX7 ∈ pm_tb := (pm_tb_t 191 (by decide +kernel) rfl)
theorem nk_X2_28 : pm_cls RX2 28 7 5 := ⟨(RX7, TX7, 5), tyX7, rfl, by decide, rfl, rfl, ⟨cw_X2_28, (pm_tb_t 58 (by decide +kernel) rfl), ini_7⟩, fw_7, tyX7_ok, fun k hk => match k, hk with | 0, _ => rfl | 1, _ => rfl | 2, _ => rfl | 3, _ => rfl | 4, _ => rfl | k + 5, h => absurd h (by omega)⟩
theorem cw_X2_39 : Cond.classLink RX2 39 RX8 ∈ pm_tb := (pm_tb_t 193 (by decide +kernel) rfl)
theorem nk_X2_39 : pm_cls RX2 39 8 3 := ⟨(RX8, TX8, 3), tyX8, rfl, by decide, rfl, rfl, ⟨cw_X2_39, (pm_tb_t 31 (by decide +kernel) rfl), ini_8⟩, fw_8, tyX8_ok, fun k hk => match k, hk with | 0, _ => rfl | 1, _ => rfl | 2, _ => rfl | k + 3, h => absurd h (by omega)⟩
theorem cw_X9_56 : Cond.classLink RX9 56 RX0 ∈ pm_tb := (pm_tb_t 226 (by decide +kernel) rfl)
theorem nk_X9_56 : pm_cls RX9 56 0 3 := ⟨(RX0, TX0, 3), tyX0, rfl, by decide, rfl, rfl, ⟨cw_X9_56, (pm_tb_t 227 (by decide +kernel) rfl), ini_0⟩, fw_0, tyX0_ok, fun k hk => match k, hk with | 0, _ => rfl | 1, _ => rfl | 2, _ => rfl | k + 3, h => absurd h (by omega)⟩
theorem cw_X4_7 : Cond.classLink RX4 7 RX8 ∈ pm_tb := (pm_tb_t 272 (by decide +kernel) rfl)
theorem nk_X4_7 : pm_cls RX4 7 8 3 := ⟨(RX8, TX8, 3), tyX8, rfl, by decide, rfl, rfl, ⟨cw_X4_7, (pm_tb_t 31 (by decide +kernel) rfl), ini_8⟩, fw_8, tyX8_ok, fun k hk => match k, hk with | 0, _ => rfl | 1, _ => rfl | 2, _ => rfl | k + 3, h => absurd h (by omega)⟩
theorem cw_X4_16 : Cond.classLink RX4 16 RX1 ∈ pm_tb := (pm_tb_t 274 (by decide +kernel) rfl)
theorem nk_X4_16 : pm_cls RX4 16 1 6 := ⟨(RX1, TX1, 6), tyX1, rfl, by decide, rfl, rfl, ⟨cw_X4_16, (pm_tb_t 51 (by decide +kernel) rfl), ini_1⟩, fw_1, tyX1_ok, fun k hk => match k, hk with | 0, _ => rfl | 1, _ => rfl | 2, _ => rfl | 3, _ => rfl | 4, _ => rfl | 5, _ => rfl | k + 6, h => absurd h (by omega)⟩
theorem cw_L_10 : Cond.classLink RL 10 RX10 ∈ pm_tb := (pm_tb_t 875 (by decide +kernel) rfl)
theorem nk_L_10 : pm_cls RL 10 10 25 := ⟨(RX10, TX10, 25), tyX10, rfl, by decide, rfl, rfl, ⟨cw_L_10, (pm_tb_t 876 (by decide +kernel) rfl), ini_10⟩, fw_10, tyX10_ok, fun k hk => match k, hk with | 0, _ => rfl | 1, _ => rfl | 2, _ => rfl | 3, _ => rfl | 4, _ => rfl | 5, _ => rfl | 6, _ => rfl | 7, _ => rfl | 8, _ => rfl | 9, _ => rfl | 10, _ => rfl | 11, _ => rfl | 12, _ => rfl | 13, _ => rfl | 14, _ => rfl | 15, _ => rfl | 16, _ => rfl | 17, _ => rfl | 18, _ => rfl | 19, _ => rfl | 20, _ => rfl | 21, _ => rfl | 22, _ => rfl | 23, _ => rfl | 24, _ => rfl | k + 25, h => absurd h (by omega)⟩
theorem fr_0_0 : pm_ft 0 0 true (tyX0 0) := ⟨(RX0, TX0, 3), tyX0, rfl, tyX0_ok, nmX0, rfl, rfl⟩
theorem fr_1_0 : pm_ft 1 0 true (tyX1 0) := ⟨(RX1, TX1, 6), tyX1, rfl, tyX1_ok, nmX1, rfl, rfl⟩
theorem fr_1_1 : pm_ft 1 1 true (tyX1 1) := ⟨(RX1, TX1, 6), tyX1, rfl, tyX1_ok, nmX1, rfl, rfl⟩
theorem fr_1_2 : pm_ft 1 2 true (tyX1 2) := ⟨(RX1, TX1, 6), tyX1, rfl, tyX1_ok, nmX1, rfl, rfl⟩
theorem fr_2_0 : pm_ft 2 0 true (tyX2 0) := ⟨(RX2, TX2, 9), tyX2, rfl, tyX2_ok, nmX2, rfl, rfl⟩
theorem fr_2_1 : pm_ft 2 1 true (tyX2 1) := ⟨(RX2, TX2, 9), tyX2, rfl, tyX2_ok, nmX2, rfl, rfl⟩
theorem fr_2_2 : pm_ft 2 2 true (tyX2 2) := ⟨(RX2, TX2, 9), tyX2, rfl, tyX2_ok, nmX2, rfl, rfl⟩
theorem fr_2_3 : pm_ft 2 3 true (tyX2 3) := ⟨(RX2, TX2, 9), tyX2, rfl, tyX2_ok, nmX2, rfl, rfl⟩
theorem fr_2_4 : pm_ft 2 4 true (tyX2 4) := ⟨(RX2, TX2, 9), tyX2, rfl, tyX2_ok, nmX2, rfl, rfl⟩
theorem fr_2_5 : pm_ft 2 5 true (tyX2 5) := ⟨(RX2, TX2, 9), tyX2, rfl, tyX2_ok, nmX2, rfl, rfl⟩
theorem fr_2_6 : pm_ft 2 6 true (tyX2 6) := ⟨(RX2, TX2, 9), tyX2, rfl, tyX2_ok, nmX2, rfl, rfl⟩
theorem fr_2_7 : pm_ft 2 7 true (tyX2 7) := ⟨(RX2, TX2, 9), tyX2, rfl, tyX2_ok, nmX2, rfl, rfl⟩
theorem fr_3_0 : pm_ft 3 0 true (tyX3 0) := ⟨(RX3, TX3, 3), tyX3, rfl, tyX3_ok, nmX3, rfl, rfl⟩
theorem fr_4_0 : pm_ft 4 0 true (tyX4 0) := ⟨(RX4, TX4, 3), tyX4, rfl, tyX4_ok, nmX4, rfl, rfl⟩
theorem fr_4_1 : pm_ft 4 1 true (tyX4 1) := ⟨(RX4, TX4, 3), tyX4, rfl, tyX4_ok, nmX4, rfl, rfl⟩
theorem fr_5_0 : pm_ft 5 0 true (tyX5 0) := ⟨(RX5, TX5, 11), tyX5, rfl, tyX5_ok, nmX5, rfl, rfl⟩
theorem fr_5_1 : pm_ft 5 1 true (tyX5 1) := ⟨(RX5, TX5, 11), tyX5, rfl, tyX5_ok, nmX5, rfl, rfl⟩
theorem fr_5_2 : pm_ft 5 2 true (tyX5 2) := ⟨(RX5, TX5, 11), tyX5, rfl, tyX5_ok, nmX5, rfl, rfl⟩
theorem fr_6_0 : pm_ft 6 0 true (tyX6 0) := ⟨(RX6, TX6, 4), tyX6, rfl, tyX6_ok, nmX6, rfl, rfl⟩
theorem fr_7_0 : pm_ft 7 0 true (tyX7 0) := ⟨(RX7, TX7, 5), tyX7, rfl, tyX7_ok, nmX7, rfl, rfl⟩
theorem fr_8_0 : pm_ft 8 0 true (tyX8 0) := ⟨(RX8, TX8, 3), tyX8, rfl, tyX8_ok, nmX8, rfl, rfl⟩
theorem fr_8_1 : pm_ft 8 1 true (tyX8 1) := ⟨(RX8, TX8, 3), tyX8, rfl, tyX8_ok, nmX8, rfl, rfl⟩
theorem fr_9_0 : pm_ft 9 0 true (tyX9 0) := ⟨(RX9, TX9, 9), tyX9, rfl, tyX9_ok, nmX9, rfl, rfl⟩
theorem fr_9_1 : pm_ft 9 1 true (tyX9 1) := ⟨(RX9, TX9, 9), tyX9, rfl, tyX9_ok, nmX9, rfl, rfl⟩
theorem fr_9_2 : pm_ft 9 2 true (tyX9 2) := ⟨(RX9, TX9, 9), tyX9, rfl, tyX9_ok, nmX9, rfl, rfl⟩
theorem fr_9_3 : pm_ft 9 3 true (tyX9 3) := ⟨(RX9, TX9, 9), tyX9, rfl, tyX9_ok, nmX9, rfl, rfl⟩
theorem fr_9_4 : pm_ft 9 4 true (tyX9 4) := ⟨(RX9, TX9, 9), tyX9, rfl, tyX9_ok, nmX9, rfl, rfl⟩
theorem fr_9_5 : pm_ft 9 5 true (tyX9 5) := ⟨(RX9, TX9, 9), tyX9, rfl, tyX9_ok, nmX9, rfl, rfl⟩
theorem fr_9_6 : pm_ft 9 6 true (tyX9 6) := ⟨(RX9, TX9, 9), tyX9, rfl, tyX9_ok, nmX9, rfl, rfl⟩
theorem fr_9_7 : pm_ft 9 7 true (tyX9 7) := ⟨(RX9, TX9, 9), tyX9, rfl, tyX9_ok, nmX9, rfl, rfl⟩
theorem fr_10_0 : pm_ft 10 0 true (tyX10 0) := ⟨(RX10, TX10, 25), tyX10, rfl, tyX10_ok, nmX10, rfl, rfl⟩
theorem fr_10_1 : pm_ft 10 1 true (tyX10 1) := ⟨(RX10, TX10, 25), tyX10, rfl, tyX10_ok, nmX10, rfl, rfl⟩
theorem fr_10_2 : pm_ft 10 2 true (tyX10 2) := ⟨(RX10, TX10, 25), tyX10, rfl, tyX10_ok, nmX10, rfl, rfl⟩
theorem fr_10_3 : pm_ft 10 3 true (tyX10 3) := ⟨(RX10, TX10, 25), tyX10, rfl, tyX10_ok, nmX10, rfl, rfl⟩
theorem fr_10_5 : pm_ft 10 5 true (tyX10 5) := ⟨(RX10, TX10, 25), tyX10, rfl, tyX10_ok, nmX10, rfl, rfl⟩
theorem fr_10_13 : pm_ft 10 13 true (tyX10 13) := ⟨(RX10, TX10, 25), tyX10, rfl, tyX10_ok, nmX10, rfl, rfl⟩
theorem fr_10_14 : pm_ft 10 14 true (tyX10 14) := ⟨(RX10, TX10, 25), tyX10, rfl, tyX10_ok, nmX10, rfl, rfl⟩
theorem fr_10_15 : pm_ft 10 15 true (tyX10 15) := ⟨(RX10, TX10, 25), tyX10, rfl, tyX10_ok, nmX10, rfl, rfl⟩
theorem fr_10_16 : pm_ft 10 16 true (tyX10 16) := ⟨(RX10, TX10, 25), tyX10, rfl, tyX10_ok, nmX10, rfl, rfl⟩
theorem fr_10_18 : pm_ft 10 18 true (tyX10 18) := ⟨(RX10, TX10, 25), tyX10, rfl, tyX10_ok, nmX10, rfl, rfl⟩
theorem fr_10_19 : pm_ft 10 19 true (tyX10 19) := ⟨(RX10, TX10, 25), tyX10, rfl, tyX10_ok, nmX10, rfl, rfl⟩
theorem fr_10_20 : pm_ft 10 20 true (tyX10 20) := ⟨(RX10, TX10, 25), tyX10, rfl, tyX10_ok, nmX10, rfl, rfl⟩
theorem fr_10_21 : pm_ft 10 21 true (tyX10 21) := ⟨(RX10, TX10, 25), tyX10, rfl, tyX10_ok, nmX10, rfl, rfl⟩
theorem fr_10_22 : pm_ft 10 22 true (tyX10 22) := ⟨(RX10, TX10, 25), tyX10, rfl, tyX10_ok, nmX10, rfl, rfl⟩
theorem fr_10_23 : pm_ft 10 23 true (tyX10 23) := ⟨(RX10, TX10, 25), tyX10, rfl, tyX10_ok, nmX10, rfl, rfl⟩
theorem aw_i : Cond.arrayClass .int ∈ pm_tb := (pm_tb_t 49 (by decide +kernel) rfl)
theorem aw_b : Cond.arrayClass .boolean ∈ pm_tb := (pm_tb_t 958 (by decide +kernel) rfl)
theorem oi_m : Cond.instanceMethod objectInit ∈ pm_tb := (pm_tb_t 20 (by decide +kernel) rfl)
theorem oi_c : Cond.code objectInit ⟨#[0xb1]⟩ 1 none ∈ pm_tb := (pm_tb_t 21 (by decide +kernel) rfl)
theorem ao_1 : ∀ s, pm_N s → va_AO RX1 s := fun _ h => h.2.2.1
theorem ao_4 : ∀ s, pm_N s → va_AO RX4 s := fun _ h => h.2.2.2.1
theorem ao_6 : ∀ s, pm_N s → va_AO RX6 s := fun _ h => h.2.2.2.2.1
theorem ao_7 : ∀ s, pm_N s → va_AO RX7 s := fun _ h => h.2.2.2.2.2
/-- the cells from lo to hi are as they were -/
def SO (S S1 : pmS) (I I1 : pmI) (P P1 : pmP) (lo hi : Nat) : Prop := S.1 ≤ S1.1 ∧ ∀ k, lo ≤ k → k < hi → S1.2.1 k = S.2.1 k ∧ S1.2.2 k = S.2.2 k ∧ I1 k = I k ∧ P1 k = P k
section KEEP
variable {S S1 S2 : pmS} {I I1 I2 : pmI} {P P1 P2 : pmP} {lo hi a j n c q t : Nat} {v : Int32}
theorem SO.rf : SO S S I I P P lo hi := ⟨Nat.le_refl _, fun _ _ _ => ⟨rfl, rfl, rfl, rfl⟩⟩
theorem SO.sub (h : SO S S1 I I1 P P1 lo hi) {lo' hi' : Nat} (h1 : lo ≤ lo') (h2 : hi' ≤ hi) : SO S S1 I I1 P P1 lo' hi' := ⟨h.1, fun k a b => h.2 k (by omega) (by omega)⟩
theorem SO.tr (h : SO S S1 I I1 P P1 lo hi) (h2 : SO S1 S2 I1 I2 P1 P2 lo hi) : SO S S2 I I2 P P2 lo hi := ⟨Nat.le_trans h.1 h2.1, fun k a b => by
  obtain ⟨x1, x2, x3, x4⟩ := h.2 k a b
  obtain ⟨y1, y2, y3, y4⟩ := h2.2 k a b
  exact ⟨y1.trans x1, y2.trans x2, y3.trans x3, y4.trans x4⟩⟩
theorem Nw1.so (h : Nw1 S S1 I I1 P P1 c n) : SO S S1 I I1 P P1 0 S.1 := ⟨by have := h.1; omega, fun k _ b => h.2.2.2 k (by omega)⟩
theorem Nw1.ob (h : Nw1 S S1 I I1 P P1 c n) (e : S.1 = a) : OB S1 a c := by subst e; exact ⟨by have := h.1; omega, h.2.1.1⟩
theorem Nw1.ar (h : Nw1 S S1 I I1 P P1 c n) (e : S.1 = a) : AR S1 a c n := by subst e; exact ⟨by have := h.1; omega, h.2.1.1, h.2.1.2⟩
theorem Nw1.it (h : Nw1 S S1 I I1 P P1 c n) (e : S.1 = a) : I1 a = fun _ => 0 := by subst e; exact h.2.2.1
theorem SO.ob (h : SO S S1 I I1 P P1 lo hi) (f : OB S a c) (h1 : lo ≤ a) (h2 : a < hi) : OB S1 a c := ⟨Nat.lt_of_lt_of_le f.1 h.1, (h.2 a h1 h2).1.trans f.2⟩
theorem SO.ar (h : SO S S1 I I1 P P1 lo hi) (f : AR S a c n) (h1 : lo ≤ a) (h2 : a < hi) : AR S1 a c n := ⟨Nat.lt_of_lt_of_le f.1 h.1, (h.2 a h1 h2).1.trans f.2.1, (h.2 a h1 h2).2.1.trans f.2.2⟩
theorem SO.pf (h : SO S S1 I I1 P P1 lo hi) {o : Option Nat} (f : P a j = o) (h1 : lo ≤ a) (h2 : a < hi) : P1 a j = o := by rw [(h.2 a h1 h2).2.2.2]; exact f
theorem SO.it (h : SO S S1 I I1 P P1 lo hi) (f : I a j = v) (h1 : lo ≤ a) (h2 : a < hi) : I1 a j = v := by rw [(h.2 a h1 h2).2.2.1]; exact f
theorem PutR.so (h : PutR P P1 a j q) (ha : a < lo ∨ hi ≤ a) : SO S S I I P P1 lo hi := ⟨Nat.le_refl _, fun k x y => ⟨rfl, rfl, rfl, h.1 k (by omega)⟩⟩
theorem PutI.so (h : PutI I I1 a j v) (ha : a < lo ∨ hi ≤ a) : SO S S I I1 P P lo hi := ⟨Nat.le_refl _, fun k x y => ⟨rfl, rfl, h.1 k (by omega), rfl⟩⟩
theorem PutR.pf (h : PutR P P1 a j q) {x i : Nat} {o : Option Nat} (f : P x i = o) (hx : x ≠ a ∨ i ≠ j) : P1 x i = o := by
  by_cases e : x = a
  · subst e; rw [h.2.1 i (by omega)]; exact f
  · rw [h.1 x e]; exact f
theorem PutI.it (h : PutI I I1 a j v) {x i : Nat} {o : Int32} (f : I x i = o) (hx : x ≠ a ∨ i ≠ j) : I1 x i = o := by
  by_cases e : x = a
  · subst e; rw [h.2.1 i (by omega)]; exact f
  · rw [h.1 x e]; exact f
theorem TabG.so (f : TabG S P t) (h : SO S S1 I I1 P P1 t (t + 2)) : TabG S1 P1 t := ⟨h.ob f.1 (by omega) (by omega), h.pf f.2.1 (by omega) (by omega), h.ar f.2.2 (by omega) (by omega)⟩
theorem WebG.so (f : WebG S P t) (h : SO S S1 I I1 P P1 t (t + 3)) : WebG S1 P1 t := ⟨h.ob f.1 (by omega) (by omega), h.pf f.2.1 (by omega) (by omega), h.pf f.2.2.1 (by omega) (by omega), h.ar f.2.2.2.1 (by omega) (by omega), h.ar f.2.2.2.2 (by omega) (by omega)⟩
theorem DG.so (f : DG S P t) (h : SO S S1 I I1 P P1 t (t + 20)) : DG S1 P1 t := by
  obtain ⟨⟨h1, h2, h3, h4, h5, h6, h7⟩, h8, h9, h10, h11, h12⟩ := f
  have e1 := (h.2 (t + 1) (by omega) (by omega)).2.2.2
  have e2 := (h.2 (t + 2) (by omega) (by omega)).2.2.2
  exact ⟨⟨h.ob h1 (by omega) (by omega), h.pf h2 (by omega) (by omega), h.pf h3 (by omega) (by omega), h.pf h4 (by omega) (by omega), h.ar h5 (by omega) (by omega), h.ar h6 (by omega) (by omega), h.ar h7 (by omega) (by omega)⟩, fun e he => (h8 e he).so (h.sub (by omega) (by omega)), by rw [e1]; exact h9, by rw [e1]; exact h10, by rw [e2]; exact h11, by rw [e2]; exact h12⟩
def WQ (S : pmS) (I : pmI) (P : pmP) (t : Nat) : Prop := WebG S P t ∧ I t 2 = 0
def DQ (S : pmS) (I : pmI) (P : pmP) (t : Nat) : Prop := DG S P t ∧ I t 3 = 0 ∧ I t 4 = 0 ∧ I t 5 = 0 ∧ ∀ p, p < 8 → I (t + 3) p = 0
def RQ (S : pmS) (I : pmI) (P : pmP) (t : Nat) : Prop := OB S t 6 ∧ P t 0 = some (t + 1) ∧ AR S (t + 1) 11 40 ∧ I t 1 = 0 ∧ I t 2 = 0 ∧ I t 3 = 0
def AQ (S : pmS) (I : pmI) (P : pmP) (t : Nat) : Prop := OB S t 0 ∧ P t 0 = some (t + 1) ∧ AR S (t + 1) 11 16 ∧ I t 1 = 0
def IQ (S : pmS) (I : pmI) (P : pmP) (t : Nat) : Prop := OB S t 4 ∧ P t 0 = some (t + 1) ∧ P t 1 = some (t + 4) ∧ WebG S P (t + 1) ∧ DG S P (t + 4) ∧ I t 2 = 0
def RdQ (S : pmS) (I : pmI) (P : pmP) (t : Nat) : Prop := OB S t 5 ∧ P t 0 = some (t + 1) ∧ P t 1 = some (t + 2) ∧ P t 2 = some (t + 5) ∧ AR S (t + 1) 11 80 ∧ WebG S P (t + 2) ∧ DG S P (t + 5) ∧ I t 3 = 0 ∧ I t 4 = 0
def HQ (S : pmS) (I : pmI) (P : pmP) (t : Nat) : Prop := OB S t 3 ∧ P t 0 = some (t + 1) ∧ AR S (t + 1) 13 25 ∧ (∀ i, i < 25 → P (t + 1) i = some (t + 2 + 20 * i) ∧ DG S P (t + 2 + 20 * i)) ∧ I t 1 = 0 ∧ I t 2 = 0
def FQ (S : pmS) (P : pmP) (t : Nat) : Prop := OB S t 2 ∧ (P t 0 = some (t + 1) ∧ P t 1 = some (t + 2) ∧ P t 2 = some (t + 3) ∧ P t 3 = some (t + 23) ∧ P t 4 = some (t + 24) ∧ P t 5 = some (t + 25) ∧ P t 6 = some (t + 27) ∧ P t 7 = some (t + 30)) ∧ AR S (t + 1) 11 4 ∧ AR S (t + 2) 11 8 ∧ DG S P (t + 3) ∧ AR S (t + 23) 11 8 ∧ AR S (t + 24) 16 5 ∧ TabG S P (t + 25) ∧ WebG S P (t + 27) ∧ AR S (t + 30) 11 12 ∧ ∀ i, i < 5 → P (t + 24) i = some (t + 31 + 2 * i) ∧ TabG S P (t + 31 + 2 * i)
theorem WQ.so (f : WQ S I P t) (h : SO S S1 I I1 P P1 t (t + 3)) : WQ S1 I1 P1 t := ⟨f.1.so h, h.it f.2 (by omega) (by omega)⟩
theorem DQ.so (f : DQ S I P t) (h : SO S S1 I I1 P P1 t (t + 20)) : DQ S1 I1 P1 t := ⟨f.1.so h, h.it f.2.1 (by omega) (by omega), h.it f.2.2.1 (by omega) (by omega), h.it f.2.2.2.1 (by omega) (by omega), fun p hp => h.it (f.2.2.2.2 p hp) (by omega) (by omega)⟩
theorem RQ.so (f : RQ S I P t) (h : SO S S1 I I1 P P1 t (t + 2)) : RQ S1 I1 P1 t := ⟨h.ob f.1 (by omega) (by omega), h.pf f.2.1 (by omega) (by omega), h.ar f.2.2.1 (by omega) (by omega), h.it f.2.2.2.1 (by omega) (by omega), h.it f.2.2.2.2.1 (by omega) (by omega), h.it f.2.2.2.2.2 (by omega) (by omega)⟩
theorem AQ.so (f : AQ S I P t) (h : SO S S1 I I1 P P1 t (t + 2)) : AQ S1 I1 P1 t := ⟨h.ob f.1 (by omega) (by omega), h.pf f.2.1 (by omega) (by omega), h.ar f.2.2.1 (by omega) (by omega), h.it f.2.2.2 (by omega) (by omega)⟩
theorem IQ.so (f : IQ S I P t) (h : SO S S1 I I1 P P1 t (t + 24)) : IQ S1 I1 P1 t := ⟨h.ob f.1 (by omega) (by omega), h.pf f.2.1 (by omega) (by omega), h.pf f.2.2.1 (by omega) (by omega), f.2.2.2.1.so (h.sub (by omega) (by omega)), f.2.2.2.2.1.so (h.sub (by omega) (by omega)), h.it f.2.2.2.2.2 (by omega) (by omega)⟩
theorem RdQ.so (f : RdQ S I P t) (h : SO S S1 I I1 P P1 t (t + 25)) : RdQ S1 I1 P1 t := by
  obtain ⟨f1, f2, f3, f4, f5, f6, f7, f8, f9⟩ := f
  exact ⟨h.ob f1 (by omega) (by omega), h.pf f2 (by omega) (by omega), h.pf f3 (by omega) (by omega), h.pf f4 (by omega) (by omega), h.ar f5 (by omega) (by omega), f6.so (h.sub (by omega) (by omega)), f7.so (h.sub (by omega) (by omega)), h.it f8 (by omega) (by omega), h.it f9 (by omega) (by omega)⟩
theorem HQ.so (f : HQ S I P t) (h : SO S S1 I I1 P P1 t (t + 502)) : HQ S1 I1 P1 t := by
  obtain ⟨f1, f2, f3, f4, f5, f6⟩ := f
  exact ⟨h.ob f1 (by omega) (by omega), h.pf f2 (by omega) (by omega), h.ar f3 (by omega) (by omega), fun i hi => ⟨h.pf (f4 i hi).1 (by omega) (by omega), (f4 i hi).2.so (h.sub (by omega) (by omega))⟩, h.it f5 (by omega) (by omega), h.it f6 (by omega) (by omega)⟩
theorem FQ.so (f : FQ S P t) (h : SO S S1 I I1 P P1 t (t + 41)) : FQ S1 P1 t := by
  obtain ⟨f1, ⟨f2, f3, f4, f5, f6, f7, f8, f9⟩, f10, f11, f12, f13, f14, f15, f16, f17, f18⟩ := f
  exact ⟨h.ob f1 (by omega) (by omega), ⟨h.pf f2 (by omega) (by omega), h.pf f3 (by omega) (by omega), h.pf f4 (by omega) (by omega), h.pf f5 (by omega) (by omega), h.pf f6 (by omega) (by omega), h.pf f7 (by omega) (by omega), h.pf f8 (by omega) (by omega), h.pf f9 (by omega) (by omega)⟩, h.ar f10 (by omega) (by omega), h.ar f11 (by omega) (by omega), f12.so (h.sub (by omega) (by omega)), h.ar f13 (by omega) (by omega), h.ar f14 (by omega) (by omega), f15.so (h.sub (by omega) (by omega)), f16.so (h.sub (by omega) (by omega)), h.ar f17 (by omega) (by omega), fun i hi => ⟨h.pf (f18 i hi).1 (by omega) (by omega), (f18 i hi).2.so (h.sub (by omega) (by omega))⟩⟩
end KEEP
theorem z_aastR {E : pmE} {C : pmC} {own : String} {cc : ByteArray} {nL d mc0 ms0 : Nat} {pc : Nat} {lv : List (Option Value)} {st : List Value} {S : pmS} {I : pmI} {P : pmP} {ca sl : Nat} (G : pm_G E C own cc nL d mc0 ms0) {a n c q ci : Nat} {r : vw_C} {i : Int32} (t0 j : Nat) (ht : (pm_tys E)[t0]? = some (E.2.2.2.1 c, .object r.1)) (hr : vwCl[ci]? = some r) (hci : ci < 11) (hc13 : ¬ c < 13) (hdg : decode cc pc = .ok (.aastore, 1)) (ho : AR S a c n) (hi : i.toInt = (j : Int)) (hj : j < n) (hq : OB S q ci) (k : ∀ P1, PutR P P1 a j q → pmZ E C (pc + 1) lv (st) S I P1 ca sl) : pmZ E C pc lv (rr E q :: .int i :: rr E a :: st) S I P ca sl :=
  z_aast G t0 j ht hr hci hc13 hdg ho hi hj hq (k _ ⟨fun k hk => va_ne' hk, fun i hi => by rw [va_at' rfl, va_ne' hi], by rw [va_at' rfl, va_at' rfl]⟩)
