theorem dX5_init_0 : decode cX5_init 0 = .ok (.aload_n 0, 1) := by decide +kernel
theorem dX5_init_1 : decode cX5_init 1 = .ok (.invokespecial 3, 3) := by decide +kernel
theorem dX5_init_4 : decode cX5_init 4 = .ok (.aload_n 0, 1) := by decide +kernel
theorem dX5_init_5 : decode cX5_init 5 = .ok (.bipush 80, 2) := by decide +kernel
theorem dX5_init_7 : decode cX5_init 7 = .ok (.newarray .int, 2) := by decide +kernel
theorem dX5_init_9 : decode cX5_init 9 = .ok (.putfield 9, 3) := by decide +kernel
theorem dX5_init_12 : decode cX5_init 12 = .ok (.aload_n 0, 1) := by decide +kernel
theorem dX5_init_13 : decode cX5_init 13 = .ok (.new 15, 3) := by decide +kernel
theorem dX5_init_16 : decode cX5_init 16 = .ok (.dup, 1) := by decide +kernel
theorem dX5_init_17 : decode cX5_init 17 = .ok (.invokespecial 17, 3) := by decide +kernel
theorem dX5_init_20 : decode cX5_init 20 = .ok (.putfield 18, 3) := by decide +kernel
theorem dX5_init_23 : decode cX5_init 23 = .ok (.aload_n 0, 1) := by decide +kernel
theorem dX5_init_24 : decode cX5_init 24 = .ok (.new 22, 3) := by decide +kernel
theorem dX5_init_27 : decode cX5_init 27 = .ok (.dup, 1) := by decide +kernel
theorem dX5_init_28 : decode cX5_init 28 = .ok (.invokespecial 24, 3) := by decide +kernel
theorem dX5_init_31 : decode cX5_init 31 = .ok (.putfield 25, 3) := by decide +kernel
theorem dX5_init_34 : decode cX5_init 34 = .ok (.aload_n 0, 1) := by decide +kernel
theorem dX5_init_35 : decode cX5_init 35 = .ok (.iconst 0, 1) := by decide +kernel
theorem dX5_init_36 : decode cX5_init 36 = .ok (.putfield 29, 3) := by decide +kernel
theorem dX5_init_39 : decode cX5_init 39 = .ok (.aload_n 0, 1) := by decide +kernel
theorem dX5_init_40 : decode cX5_init 40 = .ok (.iconst 0, 1) := by decide +kernel
theorem dX5_init_41 : decode cX5_init 41 = .ok (.putfield 33, 3) := by decide +kernel
theorem dX5_init_44 : decode cX5_init 44 = .ok (.aload_n 0, 1) := by decide +kernel
theorem dX5_init_45 : decode cX5_init 45 = .ok (.iconst 0, 1) := by decide +kernel
theorem dX5_init_46 : decode cX5_init 46 = .ok (.putfield 36, 3) := by decide +kernel
theorem dX5_init_49 : decode cX5_init 49 = .ok (.aload_n 0, 1) := by decide +kernel
theorem dX5_init_50 : decode cX5_init 50 = .ok (.iconst 0, 1) := by decide +kernel
theorem dX5_init_51 : decode cX5_init 51 = .ok (.putfield 39, 3) := by decide +kernel
theorem dX5_init_54 : decode cX5_init 54 = .ok (.aload_n 0, 1) := by decide +kernel
theorem dX5_init_55 : decode cX5_init 55 = .ok (.iconst (-1), 1) := by decide +kernel
theorem dX5_init_56 : decode cX5_init 56 = .ok (.putfield 42, 3) := by decide +kernel
theorem dX5_init_59 : decode cX5_init 59 = .ok (.aload_n 0, 1) := by decide +kernel
theorem dX5_init_60 : decode cX5_init 60 = .ok (.iconst 0, 1) := by decide +kernel
theorem dX5_init_61 : decode cX5_init 61 = .ok (.putfield 45, 3) := by decide +kernel
theorem dX5_init_64 : decode cX5_init 64 = .ok (.aload_n 0, 1) := by decide +kernel
theorem dX5_init_65 : decode cX5_init 65 = .ok (.iconst 0, 1) := by decide +kernel
theorem dX5_init_66 : decode cX5_init 66 = .ok (.putfield 48, 3) := by decide +kernel
theorem dX5_init_69 : decode cX5_init 69 = .ok (.aload_n 0, 1) := by decide +kernel
theorem dX5_init_70 : decode cX5_init 70 = .ok (.iconst 0, 1) := by decide +kernel
theorem dX5_init_71 : decode cX5_init 71 = .ok (.putfield 51, 3) := by decide +kernel
theorem dX5_init_74 : decode cX5_init 74 = .ok (.return_, 1) := by decide +kernel
theorem dX5_put_0 : decode cX5_put 0 = .ok (.aload_n 0, 1) := by decide +kernel
theorem dX5_put_1 : decode cX5_put 1 = .ok (.getfield 29, 3) := by decide +kernel
theorem dX5_put_4 : decode cX5_put 4 = .ok (.ifCond .lt 12, 3) := by decide +kernel
theorem dX5_put_7 : decode cX5_put 7 = .ok (.aload_n 0, 1) := by decide +kernel
theorem dX5_put_8 : decode cX5_put 8 = .ok (.getfield 29, 3) := by decide +kernel
theorem dX5_put_11 : decode cX5_put 11 = .ok (.bipush 80, 2) := by decide +kernel
theorem dX5_put_13 : decode cX5_put 13 = .ok (.if_icmp .lt 5, 3) := by decide +kernel
theorem dX5_put_16 : decode cX5_put 16 = .ok (.iconst 0, 1) := by decide +kernel
theorem dX5_put_17 : decode cX5_put 17 = .ok (.ireturn, 1) := by decide +kernel
theorem dX5_put_18 : decode cX5_put 18 = .ok (.aload_n 0, 1) := by decide +kernel
theorem dX5_put_19 : decode cX5_put 19 = .ok (.getfield 9, 3) := by decide +kernel
theorem dX5_put_22 : decode cX5_put 22 = .ok (.aload_n 0, 1) := by decide +kernel
theorem dX5_put_23 : decode cX5_put 23 = .ok (.getfield 29, 3) := by decide +kernel
theorem dX5_put_26 : decode cX5_put 26 = .ok (.iload_n 1, 1) := by decide +kernel
theorem dX5_put_27 : decode cX5_put 27 = .ok (.iastore, 1) := by decide +kernel
theorem dX5_put_28 : decode cX5_put 28 = .ok (.aload_n 0, 1) := by decide +kernel
theorem dX5_put_29 : decode cX5_put 29 = .ok (.dup, 1) := by decide +kernel
theorem dX5_put_30 : decode cX5_put 30 = .ok (.getfield 29, 3) := by decide +kernel
theorem dX5_put_33 : decode cX5_put 33 = .ok (.iconst 1, 1) := by decide +kernel
theorem dX5_put_34 : decode cX5_put 34 = .ok (.iadd, 1) := by decide +kernel
theorem dX5_put_35 : decode cX5_put 35 = .ok (.putfield 29, 3) := by decide +kernel
theorem dX5_put_38 : decode cX5_put 38 = .ok (.iconst 1, 1) := by decide +kernel
theorem dX5_put_39 : decode cX5_put 39 = .ok (.ireturn, 1) := by decide +kernel
theorem dX5_readTape_0 : decode cX5_readTape 0 = .ok (.aload_n 0, 1) := by decide +kernel
theorem dX5_readTape_1 : decode cX5_readTape 1 = .ok (.getfield 18, 3) := by decide +kernel
theorem dX5_readTape_4 : decode cX5_readTape 4 = .ok (.iconst 0, 1) := by decide +kernel
theorem dX5_readTape_5 : decode cX5_readTape 5 = .ok (.invokevirtual 54, 3) := by decide +kernel
theorem dX5_readTape_8 : decode cX5_readTape 8 = .ok (.aload_n 0, 1) := by decide +kernel
theorem dX5_readTape_9 : decode cX5_readTape 9 = .ok (.getfield 25, 3) := by decide +kernel
theorem dX5_readTape_12 : decode cX5_readTape 12 = .ok (.invokevirtual 58, 3) := by decide +kernel
theorem dX5_readTape_15 : decode cX5_readTape 15 = .ok (.aload_n 0, 1) := by decide +kernel
theorem dX5_readTape_16 : decode cX5_readTape 16 = .ok (.iconst 0, 1) := by decide +kernel
theorem dX5_readTape_17 : decode cX5_readTape 17 = .ok (.putfield 48, 3) := by decide +kernel
theorem dX5_readTape_20 : decode cX5_readTape 20 = .ok (.aload_n 0, 1) := by decide +kernel
theorem dX5_readTape_21 : decode cX5_readTape 21 = .ok (.invokevirtual 61, 3) := by decide +kernel
theorem dX5_readTape_24 : decode cX5_readTape 24 = .ok (.aload_n 0, 1) := by decide +kernel
theorem dX5_readTape_25 : decode cX5_readTape 25 = .ok (.invokevirtual 64, 3) := by decide +kernel
theorem dX5_readTape_28 : decode cX5_readTape 28 = .ok (.ifCond .eq 21, 3) := by decide +kernel
theorem dX5_readTape_31 : decode cX5_readTape 31 = .ok (.aload_n 0, 1) := by decide +kernel
theorem dX5_readTape_32 : decode cX5_readTape 32 = .ok (.invokevirtual 68, 3) := by decide +kernel
theorem dX5_readTape_35 : decode cX5_readTape 35 = .ok (.ifCond .eq 14, 3) := by decide +kernel
theorem dX5_readTape_38 : decode cX5_readTape 38 = .ok (.aload_n 0, 1) := by decide +kernel
theorem dX5_readTape_39 : decode cX5_readTape 39 = .ok (.invokevirtual 71, 3) := by decide +kernel
theorem dX5_readTape_42 : decode cX5_readTape 42 = .ok (.ifCond .eq 7, 3) := by decide +kernel
theorem dX5_readTape_45 : decode cX5_readTape 45 = .ok (.iconst 1, 1) := by decide +kernel
theorem dX5_readTape_46 : decode cX5_readTape 46 = .ok (.goto 4, 3) := by decide +kernel
theorem dX5_readTape_49 : decode cX5_readTape 49 = .ok (.iconst 0, 1) := by decide +kernel
theorem dX5_readTape_50 : decode cX5_readTape 50 = .ok (.ireturn, 1) := by decide +kernel
theorem dX5_readLaw_0 : decode cX5_readLaw 0 = .ok (.aload_n 0, 1) := by decide +kernel
theorem dX5_readLaw_1 : decode cX5_readLaw 1 = .ok (.bipush 119, 2) := by decide +kernel
theorem dX5_readLaw_3 : decode cX5_readLaw 3 = .ok (.invokevirtual 74, 3) := by decide +kernel
theorem dX5_readLaw_6 : decode cX5_readLaw 6 = .ok (.ifCond .eq 13, 3) := by decide +kernel
theorem dX5_readLaw_9 : decode cX5_readLaw 9 = .ok (.aload_n 0, 1) := by decide +kernel
theorem dX5_readLaw_10 : decode cX5_readLaw 10 = .ok (.iconst 2, 1) := by decide +kernel
theorem dX5_readLaw_11 : decode cX5_readLaw 11 = .ok (.bipush 8, 2) := by decide +kernel
theorem dX5_readLaw_13 : decode cX5_readLaw 13 = .ok (.invokevirtual 78, 3) := by decide +kernel
theorem dX5_readLaw_16 : decode cX5_readLaw 16 = .ok (.ifCond .ne 5, 3) := by decide +kernel
theorem dX5_readLaw_19 : decode cX5_readLaw 19 = .ok (.iconst 0, 1) := by decide +kernel
theorem dX5_readLaw_20 : decode cX5_readLaw 20 = .ok (.ireturn, 1) := by decide +kernel
theorem dX5_readLaw_21 : decode cX5_readLaw 21 = .ok (.aload_n 0, 1) := by decide +kernel
theorem dX5_readLaw_22 : decode cX5_readLaw 22 = .ok (.getfield 18, 3) := by decide +kernel
theorem dX5_readLaw_25 : decode cX5_readLaw 25 = .ok (.aload_n 0, 1) := by decide +kernel
theorem dX5_readLaw_26 : decode cX5_readLaw 26 = .ok (.getfield 51, 3) := by decide +kernel
theorem dX5_readLaw_29 : decode cX5_readLaw 29 = .ok (.invokevirtual 54, 3) := by decide +kernel
theorem dX5_readLaw_32 : decode cX5_readLaw 32 = .ok (.aload_n 0, 1) := by decide +kernel
theorem dX5_readLaw_33 : decode cX5_readLaw 33 = .ok (.bipush 59, 2) := by decide +kernel
theorem dX5_readLaw_35 : decode cX5_readLaw 35 = .ok (.invokevirtual 74, 3) := by decide +kernel
theorem dX5_readLaw_38 : decode cX5_readLaw 38 = .ok (.ireturn, 1) := by decide +kernel
theorem dX5_readPages_0 : decode cX5_readPages 0 = .ok (.iconst 0, 1) := by decide +kernel
theorem dX5_readPages_1 : decode cX5_readPages 1 = .ok (.istore_n 1, 1) := by decide +kernel
theorem dX5_readPages_2 : decode cX5_readPages 2 = .ok (.iload_n 1, 1) := by decide +kernel
theorem dX5_readPages_3 : decode cX5_readPages 3 = .ok (.aload_n 0, 1) := by decide +kernel
theorem dX5_readPages_4 : decode cX5_readPages 4 = .ok (.getfield 18, 3) := by decide +kernel
theorem dX5_readPages_7 : decode cX5_readPages 7 = .ok (.getfield 82, 3) := by decide +kernel
theorem dX5_readPages_10 : decode cX5_readPages 10 = .ok (.if_icmp .ge 37, 3) := by decide +kernel
theorem dX5_readPages_13 : decode cX5_readPages 13 = .ok (.aload_n 0, 1) := by decide +kernel
theorem dX5_readPages_14 : decode cX5_readPages 14 = .ok (.bipush 108, 2) := by decide +kernel
theorem dX5_readPages_16 : decode cX5_readPages 16 = .ok (.invokevirtual 74, 3) := by decide +kernel
theorem dX5_readPages_19 : decode cX5_readPages 19 = .ok (.ifCond .eq 20, 3) := by decide +kernel
theorem dX5_readPages_22 : decode cX5_readPages 22 = .ok (.aload_n 0, 1) := by decide +kernel
theorem dX5_readPages_23 : decode cX5_readPages 23 = .ok (.iload_n 1, 1) := by decide +kernel
theorem dX5_readPages_24 : decode cX5_readPages 24 = .ok (.invokevirtual 85, 3) := by decide +kernel
theorem dX5_readPages_27 : decode cX5_readPages 27 = .ok (.ifCond .eq 12, 3) := by decide +kernel
theorem dX5_readPages_30 : decode cX5_readPages 30 = .ok (.aload_n 0, 1) := by decide +kernel
theorem dX5_readPages_31 : decode cX5_readPages 31 = .ok (.bipush 59, 2) := by decide +kernel
theorem dX5_readPages_33 : decode cX5_readPages 33 = .ok (.invokevirtual 74, 3) := by decide +kernel
theorem dX5_readPages_36 : decode cX5_readPages 36 = .ok (.ifCond .ne 5, 3) := by decide +kernel
theorem dX5_readPages_39 : decode cX5_readPages 39 = .ok (.iconst 0, 1) := by decide +kernel
theorem dX5_readPages_40 : decode cX5_readPages 40 = .ok (.ireturn, 1) := by decide +kernel
theorem dX5_readPages_41 : decode cX5_readPages 41 = .ok (.iinc 1 1, 3) := by decide +kernel
theorem dX5_readPages_44 : decode cX5_readPages 44 = .ok (.goto (-42), 3) := by decide +kernel
theorem dX5_readPages_47 : decode cX5_readPages 47 = .ok (.iconst 1, 1) := by decide +kernel
theorem dX5_readPages_48 : decode cX5_readPages 48 = .ok (.ireturn, 1) := by decide +kernel
theorem dX5_readLinks_0 : decode cX5_readLinks 0 = .ok (.iconst 0, 1) := by decide +kernel
theorem dX5_readLinks_1 : decode cX5_readLinks 1 = .ok (.istore_n 2, 1) := by decide +kernel
theorem dX5_readLinks_2 : decode cX5_readLinks 2 = .ok (.iload_n 2, 1) := by decide +kernel
theorem dX5_readLinks_3 : decode cX5_readLinks 3 = .ok (.iconst 3, 1) := by decide +kernel
theorem dX5_readLinks_4 : decode cX5_readLinks 4 = .ok (.if_icmp .ge 68, 3) := by decide +kernel
theorem dX5_readLinks_7 : decode cX5_readLinks 7 = .ok (.iload_n 2, 1) := by decide +kernel
theorem dX5_readLinks_8 : decode cX5_readLinks 8 = .ok (.ifCond .le 14, 3) := by decide +kernel
theorem dX5_readLinks_11 : decode cX5_readLinks 11 = .ok (.aload_n 0, 1) := by decide +kernel
theorem dX5_readLinks_12 : decode cX5_readLinks 12 = .ok (.getfield 42, 3) := by decide +kernel
theorem dX5_readLinks_15 : decode cX5_readLinks 15 = .ok (.bipush 44, 2) := by decide +kernel
theorem dX5_readLinks_17 : decode cX5_readLinks 17 = .ok (.if_icmp .eq 5, 3) := by decide +kernel
theorem dX5_readLinks_20 : decode cX5_readLinks 20 = .ok (.iconst 1, 1) := by decide +kernel
theorem dX5_readLinks_21 : decode cX5_readLinks 21 = .ok (.ireturn, 1) := by decide +kernel
theorem dX5_readLinks_22 : decode cX5_readLinks 22 = .ok (.iload_n 2, 1) := by decide +kernel
theorem dX5_readLinks_23 : decode cX5_readLinks 23 = .ok (.ifCond .le 12, 3) := by decide +kernel
theorem dX5_readLinks_26 : decode cX5_readLinks 26 = .ok (.aload_n 0, 1) := by decide +kernel
theorem dX5_readLinks_27 : decode cX5_readLinks 27 = .ok (.bipush 44, 2) := by decide +kernel
theorem dX5_readLinks_29 : decode cX5_readLinks 29 = .ok (.invokevirtual 74, 3) := by decide +kernel
theorem dX5_readLinks_32 : decode cX5_readLinks 32 = .ok (.ifCond .eq 20, 3) := by decide +kernel
theorem dX5_readLinks_35 : decode cX5_readLinks 35 = .ok (.aload_n 0, 1) := by decide +kernel
theorem dX5_readLinks_36 : decode cX5_readLinks 36 = .ok (.iconst 0, 1) := by decide +kernel
theorem dX5_readLinks_37 : decode cX5_readLinks 37 = .ok (.aload_n 0, 1) := by decide +kernel
theorem dX5_readLinks_38 : decode cX5_readLinks 38 = .ok (.getfield 18, 3) := by decide +kernel
theorem dX5_readLinks_41 : decode cX5_readLinks 41 = .ok (.getfield 82, 3) := by decide +kernel
theorem dX5_readLinks_44 : decode cX5_readLinks 44 = .ok (.iconst 1, 1) := by decide +kernel
theorem dX5_readLinks_45 : decode cX5_readLinks 45 = .ok (.isub, 1) := by decide +kernel
theorem dX5_readLinks_46 : decode cX5_readLinks 46 = .ok (.invokevirtual 78, 3) := by decide +kernel
theorem dX5_readLinks_49 : decode cX5_readLinks 49 = .ok (.ifCond .ne 5, 3) := by decide +kernel
theorem dX5_readLinks_52 : decode cX5_readLinks 52 = .ok (.iconst 0, 1) := by decide +kernel
theorem dX5_readLinks_53 : decode cX5_readLinks 53 = .ok (.ireturn, 1) := by decide +kernel
theorem dX5_readLinks_54 : decode cX5_readLinks 54 = .ok (.aload_n 0, 1) := by decide +kernel
theorem dX5_readLinks_55 : decode cX5_readLinks 55 = .ok (.getfield 18, 3) := by decide +kernel
theorem dX5_readLinks_58 : decode cX5_readLinks 58 = .ok (.iload_n 1, 1) := by decide +kernel
theorem dX5_readLinks_59 : decode cX5_readLinks 59 = .ok (.aload_n 0, 1) := by decide +kernel
theorem dX5_readLinks_60 : decode cX5_readLinks 60 = .ok (.getfield 51, 3) := by decide +kernel
theorem dX5_readLinks_63 : decode cX5_readLinks 63 = .ok (.invokevirtual 88, 3) := by decide +kernel
theorem dX5_readLinks_66 : decode cX5_readLinks 66 = .ok (.iinc 2 1, 3) := by decide +kernel
theorem dX5_readLinks_69 : decode cX5_readLinks 69 = .ok (.goto (-67), 3) := by decide +kernel
theorem dX5_readLinks_72 : decode cX5_readLinks 72 = .ok (.iconst 1, 1) := by decide +kernel
theorem dX5_readLinks_73 : decode cX5_readLinks 73 = .ok (.ireturn, 1) := by decide +kernel
theorem dX5_readTabs_0 : decode cX5_readTabs 0 = .ok (.iconst 0, 1) := by decide +kernel
theorem dX5_readTabs_1 : decode cX5_readTabs 1 = .ok (.istore_n 1, 1) := by decide +kernel
theorem dX5_readTabs_2 : decode cX5_readTabs 2 = .ok (.iload_n 1, 1) := by decide +kernel
theorem dX5_readTabs_3 : decode cX5_readTabs 3 = .ok (.iconst 5, 1) := by decide +kernel
theorem dX5_readTabs_4 : decode cX5_readTabs 4 = .ok (.if_icmp .gt 32, 3) := by decide +kernel
theorem dX5_readTabs_7 : decode cX5_readTabs 7 = .ok (.iload_n 1, 1) := by decide +kernel
theorem dX5_readTabs_8 : decode cX5_readTabs 8 = .ok (.ifCond .le 13, 3) := by decide +kernel
theorem dX5_readTabs_11 : decode cX5_readTabs 11 = .ok (.aload_n 0, 1) := by decide +kernel
theorem dX5_readTabs_12 : decode cX5_readTabs 12 = .ok (.getfield 42, 3) := by decide +kernel
theorem dX5_readTabs_15 : decode cX5_readTabs 15 = .ok (.iconst (-1), 1) := by decide +kernel
theorem dX5_readTabs_16 : decode cX5_readTabs 16 = .ok (.if_icmp .ne 5, 3) := by decide +kernel
theorem dX5_readTabs_19 : decode cX5_readTabs 19 = .ok (.iconst 1, 1) := by decide +kernel
theorem dX5_readTabs_20 : decode cX5_readTabs 20 = .ok (.ireturn, 1) := by decide +kernel
theorem dX5_readTabs_21 : decode cX5_readTabs 21 = .ok (.aload_n 0, 1) := by decide +kernel
theorem dX5_readTabs_22 : decode cX5_readTabs 22 = .ok (.invokevirtual 92, 3) := by decide +kernel
theorem dX5_readTabs_25 : decode cX5_readTabs 25 = .ok (.ifCond .ne 5, 3) := by decide +kernel
theorem dX5_readTabs_28 : decode cX5_readTabs 28 = .ok (.iconst 0, 1) := by decide +kernel
theorem dX5_readTabs_29 : decode cX5_readTabs 29 = .ok (.ireturn, 1) := by decide +kernel
theorem dX5_readTabs_30 : decode cX5_readTabs 30 = .ok (.iinc 1 1, 3) := by decide +kernel
theorem dX5_readTabs_33 : decode cX5_readTabs 33 = .ok (.goto (-31), 3) := by decide +kernel
theorem dX5_readTabs_36 : decode cX5_readTabs 36 = .ok (.iconst 1, 1) := by decide +kernel
theorem dX5_readTabs_37 : decode cX5_readTabs 37 = .ok (.ireturn, 1) := by decide +kernel
theorem dX5_readTab_0 : decode cX5_readTab 0 = .ok (.aload_n 0, 1) := by decide +kernel
theorem dX5_readTab_1 : decode cX5_readTab 1 = .ok (.getfield 42, 3) := by decide +kernel
theorem dX5_readTab_4 : decode cX5_readTab 4 = .ok (.invokestatic 95, 3) := by decide +kernel
theorem dX5_readTab_7 : decode cX5_readTab 7 = .ok (.istore_n 1, 1) := by decide +kernel
theorem dX5_readTab_8 : decode cX5_readTab 8 = .ok (.iload_n 1, 1) := by decide +kernel
theorem dX5_readTab_9 : decode cX5_readTab 9 = .ok (.ldc 99, 2) := by decide +kernel
theorem dX5_readTab_11 : decode cX5_readTab 11 = .ok (.if_icmp .ne 9, 3) := by decide +kernel
theorem dX5_readTab_14 : decode cX5_readTab 14 = .ok (.aload_n 0, 1) := by decide +kernel
theorem dX5_readTab_15 : decode cX5_readTab 15 = .ok (.iconst 1, 1) := by decide +kernel
theorem dX5_readTab_16 : decode cX5_readTab 16 = .ok (.invokevirtual 100, 3) := by decide +kernel
theorem dX5_readTab_19 : decode cX5_readTab 19 = .ok (.ireturn, 1) := by decide +kernel
theorem dX5_readTab_20 : decode cX5_readTab 20 = .ok (.aload_n 0, 1) := by decide +kernel
theorem dX5_readTab_21 : decode cX5_readTab 21 = .ok (.getfield 25, 3) := by decide +kernel
theorem dX5_readTab_24 : decode cX5_readTab 24 = .ok (.invokevirtual 103, 3) := by decide +kernel
theorem dX5_readTab_27 : decode cX5_readTab 27 = .ok (.ifCond .ne 9, 3) := by decide +kernel
theorem dX5_readTab_30 : decode cX5_readTab 30 = .ok (.aload_n 0, 1) := by decide +kernel
theorem dX5_readTab_31 : decode cX5_readTab 31 = .ok (.iconst 3, 1) := by decide +kernel
theorem dX5_readTab_32 : decode cX5_readTab 32 = .ok (.invokevirtual 100, 3) := by decide +kernel
theorem dX5_readTab_35 : decode cX5_readTab 35 = .ok (.ireturn, 1) := by decide +kernel
theorem dX5_readTab_36 : decode cX5_readTab 36 = .ok (.aload_n 0, 1) := by decide +kernel
theorem dX5_readTab_37 : decode cX5_readTab 37 = .ok (.invokevirtual 61, 3) := by decide +kernel
theorem dX5_readTab_40 : decode cX5_readTab 40 = .ok (.aload_n 0, 1) := by decide +kernel
theorem dX5_readTab_41 : decode cX5_readTab 41 = .ok (.iconst 0, 1) := by decide +kernel
theorem dX5_readTab_42 : decode cX5_readTab 42 = .ok (.aload_n 0, 1) := by decide +kernel
theorem dX5_readTab_43 : decode cX5_readTab 43 = .ok (.getfield 18, 3) := by decide +kernel
theorem dX5_readTab_46 : decode cX5_readTab 46 = .ok (.getfield 82, 3) := by decide +kernel
theorem dX5_readTab_49 : decode cX5_readTab 49 = .ok (.iconst 1, 1) := by decide +kernel
theorem dX5_readTab_50 : decode cX5_readTab 50 = .ok (.isub, 1) := by decide +kernel
theorem dX5_readTab_51 : decode cX5_readTab 51 = .ok (.invokevirtual 78, 3) := by decide +kernel
theorem dX5_readTab_54 : decode cX5_readTab 54 = .ok (.ifCond .ne 5, 3) := by decide +kernel
theorem dX5_readTab_57 : decode cX5_readTab 57 = .ok (.iconst 0, 1) := by decide +kernel
theorem dX5_readTab_58 : decode cX5_readTab 58 = .ok (.ireturn, 1) := by decide +kernel
theorem dX5_readTab_59 : decode cX5_readTab 59 = .ok (.aload_n 0, 1) := by decide +kernel
theorem dX5_readTab_60 : decode cX5_readTab 60 = .ok (.getfield 25, 3) := by decide +kernel
theorem dX5_readTab_63 : decode cX5_readTab 63 = .ok (.getfield 106, 3) := by decide +kernel
theorem dX5_readTab_66 : decode cX5_readTab 66 = .ok (.aload_n 0, 1) := by decide +kernel
theorem dX5_readTab_67 : decode cX5_readTab 67 = .ok (.getfield 25, 3) := by decide +kernel
theorem dX5_readTab_70 : decode cX5_readTab 70 = .ok (.getfield 110, 3) := by decide +kernel
theorem dX5_readTab_73 : decode cX5_readTab 73 = .ok (.aaload, 1) := by decide +kernel
theorem dX5_readTab_74 : decode cX5_readTab 74 = .ok (.iload_n 1, 1) := by decide +kernel
theorem dX5_readTab_75 : decode cX5_readTab 75 = .ok (.aload_n 0, 1) := by decide +kernel
theorem dX5_readTab_76 : decode cX5_readTab 76 = .ok (.getfield 51, 3) := by decide +kernel
theorem dX5_readTab_79 : decode cX5_readTab 79 = .ok (.invokevirtual 113, 3) := by decide +kernel
theorem dX5_readTab_82 : decode cX5_readTab 82 = .ok (.aload_n 0, 1) := by decide +kernel
theorem dX5_readTab_83 : decode cX5_readTab 83 = .ok (.getfield 25, 3) := by decide +kernel
theorem dX5_readTab_86 : decode cX5_readTab 86 = .ok (.dup, 1) := by decide +kernel
theorem dX5_readTab_87 : decode cX5_readTab 87 = .ok (.getfield 110, 3) := by decide +kernel
theorem dX5_readTab_90 : decode cX5_readTab 90 = .ok (.iconst 1, 1) := by decide +kernel
theorem dX5_readTab_91 : decode cX5_readTab 91 = .ok (.iadd, 1) := by decide +kernel
theorem dX5_readTab_92 : decode cX5_readTab 92 = .ok (.putfield 110, 3) := by decide +kernel
theorem dX5_readTab_95 : decode cX5_readTab 95 = .ok (.aload_n 0, 1) := by decide +kernel
theorem dX5_readTab_96 : decode cX5_readTab 96 = .ok (.bipush 59, 2) := by decide +kernel
theorem dX5_readTab_98 : decode cX5_readTab 98 = .ok (.invokevirtual 74, 3) := by decide +kernel
theorem dX5_readTab_101 : decode cX5_readTab 101 = .ok (.ireturn, 1) := by decide +kernel
theorem dX5_sortOf_0 : decode cX5_sortOf 0 = .ok (.iload_n 0, 1) := by decide +kernel
theorem dX5_sortOf_1 : decode cX5_sortOf 1 = .ok (.tableswitch 77 103 115 #[73, 77, 77, 77, 75, 77, 77, 71, 77, 67, 77, 77, 69], 67) := by decide +kernel
theorem dX5_sortOf_68 : decode cX5_sortOf 68 = .ok (.iconst 1, 1) := by decide +kernel
theorem dX5_sortOf_69 : decode cX5_sortOf 69 = .ok (.ireturn, 1) := by decide +kernel
theorem dX5_sortOf_70 : decode cX5_sortOf 70 = .ok (.iconst 2, 1) := by decide +kernel
theorem dX5_sortOf_71 : decode cX5_sortOf 71 = .ok (.ireturn, 1) := by decide +kernel
theorem dX5_sortOf_72 : decode cX5_sortOf 72 = .ok (.iconst 3, 1) := by decide +kernel
theorem dX5_sortOf_73 : decode cX5_sortOf 73 = .ok (.ireturn, 1) := by decide +kernel
theorem dX5_sortOf_74 : decode cX5_sortOf 74 = .ok (.iconst 4, 1) := by decide +kernel
theorem dX5_sortOf_75 : decode cX5_sortOf 75 = .ok (.ireturn, 1) := by decide +kernel
theorem dX5_sortOf_76 : decode cX5_sortOf 76 = .ok (.iconst 5, 1) := by decide +kernel
theorem dX5_sortOf_77 : decode cX5_sortOf 77 = .ok (.ireturn, 1) := by decide +kernel
theorem dX5_sortOf_78 : decode cX5_sortOf 78 = .ok (.ldc 99, 2) := by decide +kernel
theorem dX5_sortOf_80 : decode cX5_sortOf 80 = .ok (.ireturn, 1) := by decide +kernel
theorem dX5_take_0 : decode cX5_take 0 = .ok (.aload_n 0, 1) := by decide +kernel
theorem dX5_take_1 : decode cX5_take 1 = .ok (.getfield 42, 3) := by decide +kernel
theorem dX5_take_4 : decode cX5_take 4 = .ok (.iload_n 1, 1) := by decide +kernel
theorem dX5_take_5 : decode cX5_take 5 = .ok (.if_icmp .eq 9, 3) := by decide +kernel
theorem dX5_take_8 : decode cX5_take 8 = .ok (.aload_n 0, 1) := by decide +kernel
theorem dX5_take_9 : decode cX5_take 9 = .ok (.iconst 1, 1) := by decide +kernel
theorem dX5_take_10 : decode cX5_take 10 = .ok (.invokevirtual 100, 3) := by decide +kernel
theorem dX5_take_13 : decode cX5_take 13 = .ok (.ireturn, 1) := by decide +kernel
theorem dX5_take_14 : decode cX5_take 14 = .ok (.aload_n 0, 1) := by decide +kernel
theorem dX5_take_15 : decode cX5_take 15 = .ok (.invokevirtual 61, 3) := by decide +kernel
theorem dX5_take_18 : decode cX5_take 18 = .ok (.iconst 1, 1) := by decide +kernel
theorem dX5_take_19 : decode cX5_take 19 = .ok (.ireturn, 1) := by decide +kernel
theorem dX5_takeNumber_0 : decode cX5_takeNumber 0 = .ok (.aload_n 0, 1) := by decide +kernel
theorem dX5_takeNumber_1 : decode cX5_takeNumber 1 = .ok (.getfield 42, 3) := by decide +kernel
theorem dX5_takeNumber_4 : decode cX5_takeNumber 4 = .ok (.bipush (-2), 2) := by decide +kernel
theorem dX5_takeNumber_6 : decode cX5_takeNumber 6 = .ok (.if_icmp .eq 9, 3) := by decide +kernel
theorem dX5_takeNumber_9 : decode cX5_takeNumber 9 = .ok (.aload_n 0, 1) := by decide +kernel
theorem dX5_takeNumber_10 : decode cX5_takeNumber 10 = .ok (.iconst 1, 1) := by decide +kernel
theorem dX5_takeNumber_11 : decode cX5_takeNumber 11 = .ok (.invokevirtual 100, 3) := by decide +kernel
theorem dX5_takeNumber_14 : decode cX5_takeNumber 14 = .ok (.ireturn, 1) := by decide +kernel
theorem dX5_takeNumber_15 : decode cX5_takeNumber 15 = .ok (.aload_n 0, 1) := by decide +kernel
theorem dX5_takeNumber_16 : decode cX5_takeNumber 16 = .ok (.getfield 45, 3) := by decide +kernel
theorem dX5_takeNumber_19 : decode cX5_takeNumber 19 = .ok (.iload_n 1, 1) := by decide +kernel
theorem dX5_takeNumber_20 : decode cX5_takeNumber 20 = .ok (.if_icmp .lt 11, 3) := by decide +kernel
theorem dX5_takeNumber_23 : decode cX5_takeNumber 23 = .ok (.aload_n 0, 1) := by decide +kernel
theorem dX5_takeNumber_24 : decode cX5_takeNumber 24 = .ok (.getfield 45, 3) := by decide +kernel
theorem dX5_takeNumber_27 : decode cX5_takeNumber 27 = .ok (.iload_n 2, 1) := by decide +kernel
theorem dX5_takeNumber_28 : decode cX5_takeNumber 28 = .ok (.if_icmp .le 9, 3) := by decide +kernel
theorem dX5_takeNumber_31 : decode cX5_takeNumber 31 = .ok (.aload_n 0, 1) := by decide +kernel
theorem dX5_takeNumber_32 : decode cX5_takeNumber 32 = .ok (.iconst 2, 1) := by decide +kernel
theorem dX5_takeNumber_33 : decode cX5_takeNumber 33 = .ok (.invokevirtual 100, 3) := by decide +kernel
theorem dX5_takeNumber_36 : decode cX5_takeNumber 36 = .ok (.ireturn, 1) := by decide +kernel
theorem dX5_takeNumber_37 : decode cX5_takeNumber 37 = .ok (.aload_n 0, 1) := by decide +kernel
theorem dX5_takeNumber_38 : decode cX5_takeNumber 38 = .ok (.aload_n 0, 1) := by decide +kernel
theorem dX5_takeNumber_39 : decode cX5_takeNumber 39 = .ok (.getfield 45, 3) := by decide +kernel
theorem dX5_takeNumber_42 : decode cX5_takeNumber 42 = .ok (.putfield 51, 3) := by decide +kernel
theorem dX5_takeNumber_45 : decode cX5_takeNumber 45 = .ok (.aload_n 0, 1) := by decide +kernel
theorem dX5_takeNumber_46 : decode cX5_takeNumber 46 = .ok (.invokevirtual 61, 3) := by decide +kernel
theorem dX5_takeNumber_49 : decode cX5_takeNumber 49 = .ok (.iconst 1, 1) := by decide +kernel
theorem dX5_takeNumber_50 : decode cX5_takeNumber 50 = .ok (.ireturn, 1) := by decide +kernel
theorem dX5_wrong_0 : decode cX5_wrong 0 = .ok (.aload_n 0, 1) := by decide +kernel
theorem dX5_wrong_1 : decode cX5_wrong 1 = .ok (.iload_n 1, 1) := by decide +kernel
theorem dX5_wrong_2 : decode cX5_wrong 2 = .ok (.putfield 33, 3) := by decide +kernel
theorem dX5_wrong_5 : decode cX5_wrong 5 = .ok (.aload_n 0, 1) := by decide +kernel
theorem dX5_wrong_6 : decode cX5_wrong 6 = .ok (.aload_n 0, 1) := by decide +kernel
theorem dX5_wrong_7 : decode cX5_wrong 7 = .ok (.getfield 39, 3) := by decide +kernel
theorem dX5_wrong_10 : decode cX5_wrong 10 = .ok (.putfield 36, 3) := by decide +kernel
theorem dX5_wrong_13 : decode cX5_wrong 13 = .ok (.iconst 0, 1) := by decide +kernel
theorem dX5_wrong_14 : decode cX5_wrong 14 = .ok (.ireturn, 1) := by decide +kernel
theorem dX5_advance_0 : decode cX5_advance 0 = .ok (.aload_n 0, 1) := by decide +kernel
theorem dX5_advance_1 : decode cX5_advance 1 = .ok (.aload_n 0, 1) := by decide +kernel
theorem dX5_advance_2 : decode cX5_advance 2 = .ok (.getfield 48, 3) := by decide +kernel
theorem dX5_advance_5 : decode cX5_advance 5 = .ok (.putfield 39, 3) := by decide +kernel
theorem dX5_advance_8 : decode cX5_advance 8 = .ok (.aload_n 0, 1) := by decide +kernel
theorem dX5_advance_9 : decode cX5_advance 9 = .ok (.iconst 0, 1) := by decide +kernel
theorem dX5_advance_10 : decode cX5_advance 10 = .ok (.putfield 45, 3) := by decide +kernel
theorem dX5_advance_13 : decode cX5_advance 13 = .ok (.iconst 0, 1) := by decide +kernel
theorem dX5_advance_14 : decode cX5_advance 14 = .ok (.istore_n 1, 1) := by decide +kernel
theorem dX5_advance_15 : decode cX5_advance 15 = .ok (.iload_n 1, 1) := by decide +kernel
theorem dX5_advance_16 : decode cX5_advance 16 = .ok (.bipush 80, 2) := by decide +kernel
theorem dX5_advance_18 : decode cX5_advance 18 = .ok (.if_icmp .ge 59, 3) := by decide +kernel
theorem dX5_advance_21 : decode cX5_advance 21 = .ok (.aload_n 0, 1) := by decide +kernel
theorem dX5_advance_22 : decode cX5_advance 22 = .ok (.aload_n 0, 1) := by decide +kernel
theorem dX5_advance_23 : decode cX5_advance 23 = .ok (.getfield 48, 3) := by decide +kernel
theorem dX5_advance_26 : decode cX5_advance 26 = .ok (.invokevirtual 117, 3) := by decide +kernel
theorem dX5_advance_29 : decode cX5_advance 29 = .ok (.invokestatic 120, 3) := by decide +kernel
theorem dX5_advance_32 : decode cX5_advance 32 = .ok (.ifCond .eq 45, 3) := by decide +kernel
theorem dX5_advance_35 : decode cX5_advance 35 = .ok (.aload_n 0, 1) := by decide +kernel
theorem dX5_advance_36 : decode cX5_advance 36 = .ok (.aload_n 0, 1) := by decide +kernel
theorem dX5_advance_37 : decode cX5_advance 37 = .ok (.getfield 45, 3) := by decide +kernel
theorem dX5_advance_40 : decode cX5_advance 40 = .ok (.bipush 10, 2) := by decide +kernel
theorem dX5_advance_42 : decode cX5_advance 42 = .ok (.imul, 1) := by decide +kernel
theorem dX5_advance_43 : decode cX5_advance 43 = .ok (.aload_n 0, 1) := by decide +kernel
theorem dX5_advance_44 : decode cX5_advance 44 = .ok (.aload_n 0, 1) := by decide +kernel
theorem dX5_advance_45 : decode cX5_advance 45 = .ok (.getfield 48, 3) := by decide +kernel
theorem dX5_advance_48 : decode cX5_advance 48 = .ok (.invokevirtual 117, 3) := by decide +kernel
theorem dX5_advance_51 : decode cX5_advance 51 = .ok (.iadd, 1) := by decide +kernel
theorem dX5_advance_52 : decode cX5_advance 52 = .ok (.bipush 48, 2) := by decide +kernel
theorem dX5_advance_54 : decode cX5_advance 54 = .ok (.isub, 1) := by decide +kernel
theorem dX5_advance_55 : decode cX5_advance 55 = .ok (.bipush 100, 2) := by decide +kernel
theorem dX5_advance_57 : decode cX5_advance 57 = .ok (.irem, 1) := by decide +kernel
theorem dX5_advance_58 : decode cX5_advance 58 = .ok (.putfield 45, 3) := by decide +kernel
theorem dX5_advance_61 : decode cX5_advance 61 = .ok (.aload_n 0, 1) := by decide +kernel
theorem dX5_advance_62 : decode cX5_advance 62 = .ok (.dup, 1) := by decide +kernel
theorem dX5_advance_63 : decode cX5_advance 63 = .ok (.getfield 48, 3) := by decide +kernel
theorem dX5_advance_66 : decode cX5_advance 66 = .ok (.iconst 1, 1) := by decide +kernel
theorem dX5_advance_67 : decode cX5_advance 67 = .ok (.iadd, 1) := by decide +kernel
theorem dX5_advance_68 : decode cX5_advance 68 = .ok (.putfield 48, 3) := by decide +kernel
theorem dX5_advance_71 : decode cX5_advance 71 = .ok (.iinc 1 1, 3) := by decide +kernel
theorem dX5_advance_74 : decode cX5_advance 74 = .ok (.goto (-59), 3) := by decide +kernel
theorem dX5_advance_77 : decode cX5_advance 77 = .ok (.aload_n 0, 1) := by decide +kernel
theorem dX5_advance_78 : decode cX5_advance 78 = .ok (.getfield 48, 3) := by decide +kernel
theorem dX5_advance_81 : decode cX5_advance 81 = .ok (.aload_n 0, 1) := by decide +kernel
theorem dX5_advance_82 : decode cX5_advance 82 = .ok (.getfield 39, 3) := by decide +kernel
theorem dX5_advance_85 : decode cX5_advance 85 = .ok (.if_icmp .le 28, 3) := by decide +kernel
theorem dX5_advance_88 : decode cX5_advance 88 = .ok (.aload_n 0, 1) := by decide +kernel
theorem dX5_advance_89 : decode cX5_advance 89 = .ok (.aload_n 0, 1) := by decide +kernel
theorem dX5_advance_90 : decode cX5_advance 90 = .ok (.getfield 48, 3) := by decide +kernel
theorem dX5_advance_93 : decode cX5_advance 93 = .ok (.aload_n 0, 1) := by decide +kernel
theorem dX5_advance_94 : decode cX5_advance 94 = .ok (.getfield 39, 3) := by decide +kernel
theorem dX5_advance_97 : decode cX5_advance 97 = .ok (.isub, 1) := by decide +kernel
theorem dX5_advance_98 : decode cX5_advance 98 = .ok (.iconst 2, 1) := by decide +kernel
theorem dX5_advance_99 : decode cX5_advance 99 = .ok (.if_icmp .gt 8, 3) := by decide +kernel
theorem dX5_advance_102 : decode cX5_advance 102 = .ok (.bipush (-2), 2) := by decide +kernel
theorem dX5_advance_104 : decode cX5_advance 104 = .ok (.goto 5, 3) := by decide +kernel
theorem dX5_advance_107 : decode cX5_advance 107 = .ok (.bipush (-3), 2) := by decide +kernel
theorem dX5_advance_109 : decode cX5_advance 109 = .ok (.putfield 42, 3) := by decide +kernel
theorem dX5_advance_112 : decode cX5_advance 112 = .ok (.return_, 1) := by decide +kernel
theorem dX5_advance_113 : decode cX5_advance 113 = .ok (.aload_n 0, 1) := by decide +kernel
theorem dX5_advance_114 : decode cX5_advance 114 = .ok (.aload_n 0, 1) := by decide +kernel
theorem dX5_advance_115 : decode cX5_advance 115 = .ok (.aload_n 0, 1) := by decide +kernel
theorem dX5_advance_116 : decode cX5_advance 116 = .ok (.getfield 48, 3) := by decide +kernel
theorem dX5_advance_119 : decode cX5_advance 119 = .ok (.invokevirtual 117, 3) := by decide +kernel
theorem dX5_advance_122 : decode cX5_advance 122 = .ok (.putfield 42, 3) := by decide +kernel
theorem dX5_advance_125 : decode cX5_advance 125 = .ok (.aload_n 0, 1) := by decide +kernel
theorem dX5_advance_126 : decode cX5_advance 126 = .ok (.dup, 1) := by decide +kernel
theorem dX5_advance_127 : decode cX5_advance 127 = .ok (.getfield 48, 3) := by decide +kernel
theorem dX5_advance_130 : decode cX5_advance 130 = .ok (.iconst 1, 1) := by decide +kernel
theorem dX5_advance_131 : decode cX5_advance 131 = .ok (.iadd, 1) := by decide +kernel
theorem dX5_advance_132 : decode cX5_advance 132 = .ok (.putfield 48, 3) := by decide +kernel
theorem dX5_advance_135 : decode cX5_advance 135 = .ok (.return_, 1) := by decide +kernel
theorem dX5_byteAt_0 : decode cX5_byteAt 0 = .ok (.iload_n 1, 1) := by decide +kernel
theorem dX5_byteAt_1 : decode cX5_byteAt 1 = .ok (.ifCond .lt 26, 3) := by decide +kernel
theorem dX5_byteAt_4 : decode cX5_byteAt 4 = .ok (.iload_n 1, 1) := by decide +kernel
theorem dX5_byteAt_5 : decode cX5_byteAt 5 = .ok (.aload_n 0, 1) := by decide +kernel
theorem dX5_byteAt_6 : decode cX5_byteAt 6 = .ok (.getfield 29, 3) := by decide +kernel
theorem dX5_byteAt_9 : decode cX5_byteAt 9 = .ok (.if_icmp .ge 18, 3) := by decide +kernel
theorem dX5_byteAt_12 : decode cX5_byteAt 12 = .ok (.iload_n 1, 1) := by decide +kernel
theorem dX5_byteAt_13 : decode cX5_byteAt 13 = .ok (.bipush 80, 2) := by decide +kernel
theorem dX5_byteAt_15 : decode cX5_byteAt 15 = .ok (.if_icmp .ge 12, 3) := by decide +kernel
theorem dX5_byteAt_18 : decode cX5_byteAt 18 = .ok (.aload_n 0, 1) := by decide +kernel
theorem dX5_byteAt_19 : decode cX5_byteAt 19 = .ok (.getfield 9, 3) := by decide +kernel
theorem dX5_byteAt_22 : decode cX5_byteAt 22 = .ok (.iload_n 1, 1) := by decide +kernel
theorem dX5_byteAt_23 : decode cX5_byteAt 23 = .ok (.iaload, 1) := by decide +kernel
theorem dX5_byteAt_24 : decode cX5_byteAt 24 = .ok (.goto 4, 3) := by decide +kernel
theorem dX5_byteAt_27 : decode cX5_byteAt 27 = .ok (.iconst (-1), 1) := by decide +kernel
theorem dX5_byteAt_28 : decode cX5_byteAt 28 = .ok (.ireturn, 1) := by decide +kernel
theorem dX5_isFigure_0 : decode cX5_isFigure 0 = .ok (.iload_n 0, 1) := by decide +kernel
theorem dX5_isFigure_1 : decode cX5_isFigure 1 = .ok (.bipush 48, 2) := by decide +kernel
theorem dX5_isFigure_3 : decode cX5_isFigure 3 = .ok (.if_icmp .lt 13, 3) := by decide +kernel
theorem dX5_isFigure_6 : decode cX5_isFigure 6 = .ok (.iload_n 0, 1) := by decide +kernel
theorem dX5_isFigure_7 : decode cX5_isFigure 7 = .ok (.bipush 57, 2) := by decide +kernel
theorem dX5_isFigure_9 : decode cX5_isFigure 9 = .ok (.if_icmp .gt 7, 3) := by decide +kernel
theorem dX5_isFigure_12 : decode cX5_isFigure 12 = .ok (.iconst 1, 1) := by decide +kernel
theorem dX5_isFigure_13 : decode cX5_isFigure 13 = .ok (.goto 4, 3) := by decide +kernel
theorem dX5_isFigure_16 : decode cX5_isFigure 16 = .ok (.iconst 0, 1) := by decide +kernel
theorem dX5_isFigure_17 : decode cX5_isFigure 17 = .ok (.ireturn, 1) := by decide +kernel
theorem dX6_init_0 : decode cX6_init 0 = .ok (.aload_n 0, 1) := by decide +kernel
theorem dX6_init_1 : decode cX6_init 1 = .ok (.invokespecial 3, 3) := by decide +kernel
theorem dX6_init_4 : decode cX6_init 4 = .ok (.aload_n 0, 1) := by decide +kernel
theorem dX6_init_5 : decode cX6_init 5 = .ok (.bipush 40, 2) := by decide +kernel
theorem dX6_init_7 : decode cX6_init 7 = .ok (.newarray .int, 2) := by decide +kernel
theorem dX6_init_9 : decode cX6_init 9 = .ok (.putfield 9, 3) := by decide +kernel
theorem dX6_init_12 : decode cX6_init 12 = .ok (.aload_n 0, 1) := by decide +kernel
theorem dX6_init_13 : decode cX6_init 13 = .ok (.iconst 0, 1) := by decide +kernel
theorem dX6_init_14 : decode cX6_init 14 = .ok (.putfield 15, 3) := by decide +kernel
theorem dX6_init_17 : decode cX6_init 17 = .ok (.aload_n 0, 1) := by decide +kernel
theorem dX6_init_18 : decode cX6_init 18 = .ok (.iconst 0, 1) := by decide +kernel
theorem dX6_init_19 : decode cX6_init 19 = .ok (.putfield 19, 3) := by decide +kernel
theorem dX6_init_22 : decode cX6_init 22 = .ok (.aload_n 0, 1) := by decide +kernel
theorem dX6_init_23 : decode cX6_init 23 = .ok (.iconst 0, 1) := by decide +kernel
theorem dX6_init_24 : decode cX6_init 24 = .ok (.putfield 23, 3) := by decide +kernel
theorem dX6_init_27 : decode cX6_init 27 = .ok (.return_, 1) := by decide +kernel
theorem dX6_make_0 : decode cX6_make 0 = .ok (.aload_n 0, 1) := by decide +kernel
theorem dX6_make_1 : decode cX6_make 1 = .ok (.iconst 1, 1) := by decide +kernel
theorem dX6_make_2 : decode cX6_make 2 = .ok (.putfield 15, 3) := by decide +kernel
theorem dX6_make_5 : decode cX6_make 5 = .ok (.aload_n 0, 1) := by decide +kernel
theorem dX6_make_6 : decode cX6_make 6 = .ok (.iload_n 1, 1) := by decide +kernel
theorem dX6_make_7 : decode cX6_make 7 = .ok (.putfield 19, 3) := by decide +kernel
theorem dX6_make_10 : decode cX6_make 10 = .ok (.aload_n 0, 1) := by decide +kernel
theorem dX6_make_11 : decode cX6_make 11 = .ok (.iload_n 2, 1) := by decide +kernel
theorem dX6_make_12 : decode cX6_make 12 = .ok (.putfield 23, 3) := by decide +kernel
theorem dX6_make_15 : decode cX6_make 15 = .ok (.iconst 0, 1) := by decide +kernel
theorem dX6_make_16 : decode cX6_make 16 = .ok (.istore_n 3, 1) := by decide +kernel
theorem dX6_make_17 : decode cX6_make 17 = .ok (.iload_n 3, 1) := by decide +kernel
theorem dX6_make_18 : decode cX6_make 18 = .ok (.aload_n 0, 1) := by decide +kernel
theorem dX6_make_19 : decode cX6_make 19 = .ok (.getfield 9, 3) := by decide +kernel
theorem dX6_make_22 : decode cX6_make 22 = .ok (.arraylength, 1) := by decide +kernel
theorem dX6_make_23 : decode cX6_make 23 = .ok (.if_icmp .ge 16, 3) := by decide +kernel
theorem dX6_make_26 : decode cX6_make 26 = .ok (.aload_n 0, 1) := by decide +kernel
theorem dX6_make_27 : decode cX6_make 27 = .ok (.getfield 9, 3) := by decide +kernel
theorem dX6_make_30 : decode cX6_make 30 = .ok (.iload_n 3, 1) := by decide +kernel
theorem dX6_make_31 : decode cX6_make 31 = .ok (.iconst 0, 1) := by decide +kernel
theorem dX6_make_32 : decode cX6_make 32 = .ok (.iastore, 1) := by decide +kernel
theorem dX6_make_33 : decode cX6_make 33 = .ok (.iinc 3 1, 3) := by decide +kernel
theorem dX6_make_36 : decode cX6_make 36 = .ok (.goto (-19), 3) := by decide +kernel
theorem dX6_make_39 : decode cX6_make 39 = .ok (.return_, 1) := by decide +kernel
theorem dX6_hasPlaces_0 : decode cX6_hasPlaces 0 = .ok (.iload_n 1, 1) := by decide +kernel
theorem dX6_hasPlaces_1 : decode cX6_hasPlaces 1 = .ok (.ifCond .lt 29, 3) := by decide +kernel
theorem dX6_hasPlaces_4 : decode cX6_hasPlaces 4 = .ok (.iload_n 2, 1) := by decide +kernel
theorem dX6_hasPlaces_5 : decode cX6_hasPlaces 5 = .ok (.ifCond .lt 25, 3) := by decide +kernel
theorem dX6_hasPlaces_8 : decode cX6_hasPlaces 8 = .ok (.iload_n 2, 1) := by decide +kernel
theorem dX6_hasPlaces_9 : decode cX6_hasPlaces 9 = .ok (.aload_n 0, 1) := by decide +kernel
theorem dX6_hasPlaces_10 : decode cX6_hasPlaces 10 = .ok (.getfield 23, 3) := by decide +kernel
theorem dX6_hasPlaces_13 : decode cX6_hasPlaces 13 = .ok (.if_icmp .gt 17, 3) := by decide +kernel
theorem dX6_hasPlaces_16 : decode cX6_hasPlaces 16 = .ok (.iload_n 1, 1) := by decide +kernel
theorem dX6_hasPlaces_17 : decode cX6_hasPlaces 17 = .ok (.aload_n 0, 1) := by decide +kernel
theorem dX6_hasPlaces_18 : decode cX6_hasPlaces 18 = .ok (.getfield 23, 3) := by decide +kernel
theorem dX6_hasPlaces_21 : decode cX6_hasPlaces 21 = .ok (.iload_n 2, 1) := by decide +kernel
theorem dX6_hasPlaces_22 : decode cX6_hasPlaces 22 = .ok (.isub, 1) := by decide +kernel
theorem dX6_hasPlaces_23 : decode cX6_hasPlaces 23 = .ok (.if_icmp .gt 7, 3) := by decide +kernel
theorem dX6_hasPlaces_26 : decode cX6_hasPlaces 26 = .ok (.iconst 1, 1) := by decide +kernel
theorem dX6_hasPlaces_27 : decode cX6_hasPlaces 27 = .ok (.goto 4, 3) := by decide +kernel
theorem dX6_hasPlaces_30 : decode cX6_hasPlaces 30 = .ok (.iconst 0, 1) := by decide +kernel
theorem dX6_hasPlaces_31 : decode cX6_hasPlaces 31 = .ok (.ireturn, 1) := by decide +kernel
theorem dX6_put_0 : decode cX6_put 0 = .ok (.aload_n 0, 1) := by decide +kernel
theorem dX6_put_1 : decode cX6_put 1 = .ok (.getfield 19, 3) := by decide +kernel
theorem dX6_put_4 : decode cX6_put 4 = .ok (.ifCond .ne 8, 3) := by decide +kernel
theorem dX6_put_7 : decode cX6_put 7 = .ok (.iload_n 2, 1) := by decide +kernel
theorem dX6_put_8 : decode cX6_put 8 = .ok (.i2b, 1) := by decide +kernel
theorem dX6_put_9 : decode cX6_put 9 = .ok (.goto 17, 3) := by decide +kernel
theorem dX6_put_12 : decode cX6_put 12 = .ok (.aload_n 0, 1) := by decide +kernel
theorem dX6_put_13 : decode cX6_put 13 = .ok (.getfield 19, 3) := by decide +kernel
theorem dX6_put_16 : decode cX6_put 16 = .ok (.iconst 1, 1) := by decide +kernel
theorem dX6_put_17 : decode cX6_put 17 = .ok (.if_icmp .ne 8, 3) := by decide +kernel
theorem dX6_put_20 : decode cX6_put 20 = .ok (.iload_n 2, 1) := by decide +kernel
theorem dX6_put_21 : decode cX6_put 21 = .ok (.i2s, 1) := by decide +kernel
theorem dX6_put_22 : decode cX6_put 22 = .ok (.goto 4, 3) := by decide +kernel
theorem dX6_put_25 : decode cX6_put 25 = .ok (.iload_n 2, 1) := by decide +kernel
theorem dX6_put_26 : decode cX6_put 26 = .ok (.istore_n 3, 1) := by decide +kernel
theorem dX6_put_27 : decode cX6_put 27 = .ok (.iload_n 1, 1) := by decide +kernel
theorem dX6_put_28 : decode cX6_put 28 = .ok (.ifCond .lt 19, 3) := by decide +kernel
theorem dX6_put_31 : decode cX6_put 31 = .ok (.iload_n 1, 1) := by decide +kernel
theorem dX6_put_32 : decode cX6_put 32 = .ok (.aload_n 0, 1) := by decide +kernel
theorem dX6_put_33 : decode cX6_put 33 = .ok (.getfield 9, 3) := by decide +kernel
theorem dX6_put_36 : decode cX6_put 36 = .ok (.arraylength, 1) := by decide +kernel
theorem dX6_put_37 : decode cX6_put 37 = .ok (.if_icmp .ge 10, 3) := by decide +kernel
theorem dX6_put_40 : decode cX6_put 40 = .ok (.aload_n 0, 1) := by decide +kernel
theorem dX6_put_41 : decode cX6_put 41 = .ok (.getfield 9, 3) := by decide +kernel
theorem dX6_put_44 : decode cX6_put 44 = .ok (.iload_n 1, 1) := by decide +kernel
theorem dX6_put_45 : decode cX6_put 45 = .ok (.iload_n 3, 1) := by decide +kernel
theorem dX6_put_46 : decode cX6_put 46 = .ok (.iastore, 1) := by decide +kernel
theorem dX6_put_47 : decode cX6_put 47 = .ok (.iload_n 3, 1) := by decide +kernel
theorem dX6_put_48 : decode cX6_put 48 = .ok (.ireturn, 1) := by decide +kernel
theorem dX7_init_0 : decode cX7_init 0 = .ok (.aload_n 0, 1) := by decide +kernel
theorem dX7_init_1 : decode cX7_init 1 = .ok (.invokespecial 3, 3) := by decide +kernel
theorem dX7_init_4 : decode cX7_init 4 = .ok (.aload_n 0, 1) := by decide +kernel
theorem dX7_init_5 : decode cX7_init 5 = .ok (.bipush 6, 2) := by decide +kernel
theorem dX7_init_7 : decode cX7_init 7 = .ok (.newarray .int, 2) := by decide +kernel
theorem dX7_init_9 : decode cX7_init 9 = .ok (.putfield 9, 3) := by decide +kernel
theorem dX7_init_12 : decode cX7_init 12 = .ok (.aload_n 0, 1) := by decide +kernel
theorem dX7_init_13 : decode cX7_init 13 = .ok (.iconst 1, 1) := by decide +kernel
theorem dX7_init_14 : decode cX7_init 14 = .ok (.putfield 15, 3) := by decide +kernel
theorem dX7_init_17 : decode cX7_init 17 = .ok (.aload_n 0, 1) := by decide +kernel
theorem dX7_init_18 : decode cX7_init 18 = .ok (.iconst 0, 1) := by decide +kernel
theorem dX7_init_19 : decode cX7_init 19 = .ok (.putfield 19, 3) := by decide +kernel
theorem dX7_init_22 : decode cX7_init 22 = .ok (.aload_n 0, 1) := by decide +kernel
theorem dX7_init_23 : decode cX7_init 23 = .ok (.iconst 1, 1) := by decide +kernel
theorem dX7_init_24 : decode cX7_init 24 = .ok (.putfield 22, 3) := by decide +kernel
theorem dX7_init_27 : decode cX7_init 27 = .ok (.aload_n 0, 1) := by decide +kernel
theorem dX7_init_28 : decode cX7_init 28 = .ok (.iconst 0, 1) := by decide +kernel
theorem dX7_init_29 : decode cX7_init 29 = .ok (.putfield 25, 3) := by decide +kernel
theorem dX7_init_32 : decode cX7_init 32 = .ok (.return_, 1) := by decide +kernel
theorem dX7_begin_0 : decode cX7_begin 0 = .ok (.aload_n 0, 1) := by decide +kernel
theorem dX7_begin_1 : decode cX7_begin 1 = .ok (.iload_n 1, 1) := by decide +kernel
theorem dX7_begin_2 : decode cX7_begin 2 = .ok (.putfield 15, 3) := by decide +kernel
theorem dX7_begin_5 : decode cX7_begin 5 = .ok (.aload_n 0, 1) := by decide +kernel
theorem dX7_begin_6 : decode cX7_begin 6 = .ok (.iload_n 2, 1) := by decide +kernel
theorem dX7_begin_7 : decode cX7_begin 7 = .ok (.putfield 19, 3) := by decide +kernel
theorem dX7_begin_10 : decode cX7_begin 10 = .ok (.aload_n 0, 1) := by decide +kernel
theorem dX7_begin_11 : decode cX7_begin 11 = .ok (.invokevirtual 28, 3) := by decide +kernel
theorem dX7_begin_14 : decode cX7_begin 14 = .ok (.return_, 1) := by decide +kernel
theorem dX7_become_0 : decode cX7_become 0 = .ok (.aload_n 0, 1) := by decide +kernel
theorem dX7_become_1 : decode cX7_become 1 = .ok (.aload_n 1, 1) := by decide +kernel
theorem dX7_become_2 : decode cX7_become 2 = .ok (.getfield 15, 3) := by decide +kernel
theorem dX7_become_5 : decode cX7_become 5 = .ok (.putfield 15, 3) := by decide +kernel
theorem dX7_become_8 : decode cX7_become 8 = .ok (.aload_n 0, 1) := by decide +kernel
theorem dX7_become_9 : decode cX7_become 9 = .ok (.aload_n 1, 1) := by decide +kernel
theorem dX7_become_10 : decode cX7_become 10 = .ok (.getfield 19, 3) := by decide +kernel
theorem dX7_become_13 : decode cX7_become 13 = .ok (.putfield 19, 3) := by decide +kernel
theorem dX7_become_16 : decode cX7_become 16 = .ok (.aload_n 0, 1) := by decide +kernel
theorem dX7_become_17 : decode cX7_become 17 = .ok (.aload_n 1, 1) := by decide +kernel
theorem dX7_become_18 : decode cX7_become 18 = .ok (.getfield 22, 3) := by decide +kernel
theorem dX7_become_21 : decode cX7_become 21 = .ok (.putfield 22, 3) := by decide +kernel
theorem dX7_become_24 : decode cX7_become 24 = .ok (.aload_n 0, 1) := by decide +kernel
theorem dX7_become_25 : decode cX7_become 25 = .ok (.aload_n 1, 1) := by decide +kernel
theorem dX7_become_26 : decode cX7_become 26 = .ok (.getfield 25, 3) := by decide +kernel
theorem dX7_become_29 : decode cX7_become 29 = .ok (.putfield 25, 3) := by decide +kernel
theorem dX7_become_32 : decode cX7_become 32 = .ok (.aload_n 1, 1) := by decide +kernel
theorem dX7_become_33 : decode cX7_become 33 = .ok (.getfield 9, 3) := by decide +kernel
theorem dX7_become_36 : decode cX7_become 36 = .ok (.iconst 0, 1) := by decide +kernel
theorem dX7_become_37 : decode cX7_become 37 = .ok (.aload_n 0, 1) := by decide +kernel
theorem dX7_become_38 : decode cX7_become 38 = .ok (.getfield 9, 3) := by decide +kernel
theorem dX7_become_41 : decode cX7_become 41 = .ok (.iconst 0, 1) := by decide +kernel
theorem dX7_become_42 : decode cX7_become 42 = .ok (.bipush 6, 2) := by decide +kernel
theorem dX7_become_44 : decode cX7_become 44 = .ok (.invokestatic 31, 3) := by decide +kernel
theorem dX7_become_47 : decode cX7_become 47 = .ok (.return_, 1) := by decide +kernel
theorem dX7_isOf_0 : decode cX7_isOf 0 = .ok (.aload_n 0, 1) := by decide +kernel
theorem dX7_isOf_1 : decode cX7_isOf 1 = .ok (.getfield 15, 3) := by decide +kernel
theorem dX7_isOf_4 : decode cX7_isOf 4 = .ok (.istore_n 2, 1) := by decide +kernel
theorem dX7_isOf_5 : decode cX7_isOf 5 = .ok (.iconst 0, 1) := by decide +kernel
theorem dX7_isOf_6 : decode cX7_isOf 6 = .ok (.istore_n 3, 1) := by decide +kernel
theorem dX7_isOf_7 : decode cX7_isOf 7 = .ok (.iload_n 3, 1) := by decide +kernel
theorem dX7_isOf_8 : decode cX7_isOf 8 = .ok (.getstatic 37, 3) := by decide +kernel
theorem dX7_isOf_11 : decode cX7_isOf 11 = .ok (.arraylength, 1) := by decide +kernel
theorem dX7_isOf_12 : decode cX7_isOf 12 = .ok (.if_icmp .ge 34, 3) := by decide +kernel
theorem dX7_isOf_15 : decode cX7_isOf 15 = .ok (.iload_n 2, 1) := by decide +kernel
theorem dX7_isOf_16 : decode cX7_isOf 16 = .ok (.ifCond .lt 30, 3) := by decide +kernel
theorem dX7_isOf_19 : decode cX7_isOf 19 = .ok (.iload_n 2, 1) := by decide +kernel
theorem dX7_isOf_20 : decode cX7_isOf 20 = .ok (.getstatic 37, 3) := by decide +kernel
theorem dX7_isOf_23 : decode cX7_isOf 23 = .ok (.arraylength, 1) := by decide +kernel
theorem dX7_isOf_24 : decode cX7_isOf 24 = .ok (.if_icmp .ge 22, 3) := by decide +kernel
theorem dX7_isOf_27 : decode cX7_isOf 27 = .ok (.iload_n 2, 1) := by decide +kernel
theorem dX7_isOf_28 : decode cX7_isOf 28 = .ok (.iload_n 1, 1) := by decide +kernel
theorem dX7_isOf_29 : decode cX7_isOf 29 = .ok (.if_icmp .ne 5, 3) := by decide +kernel
theorem dX7_isOf_32 : decode cX7_isOf 32 = .ok (.iconst 1, 1) := by decide +kernel
theorem dX7_isOf_33 : decode cX7_isOf 33 = .ok (.ireturn, 1) := by decide +kernel
theorem dX7_isOf_34 : decode cX7_isOf 34 = .ok (.getstatic 37, 3) := by decide +kernel
theorem dX7_isOf_37 : decode cX7_isOf 37 = .ok (.iload_n 2, 1) := by decide +kernel
theorem dX7_isOf_38 : decode cX7_isOf 38 = .ok (.iaload, 1) := by decide +kernel
theorem dX7_isOf_39 : decode cX7_isOf 39 = .ok (.istore_n 2, 1) := by decide +kernel
theorem dX7_isOf_40 : decode cX7_isOf 40 = .ok (.iinc 3 1, 3) := by decide +kernel
theorem dX7_isOf_43 : decode cX7_isOf 43 = .ok (.goto (-36), 3) := by decide +kernel
theorem dX7_isOf_46 : decode cX7_isOf 46 = .ok (.iconst 0, 1) := by decide +kernel
theorem dX7_isOf_47 : decode cX7_isOf 47 = .ok (.ireturn, 1) := by decide +kernel
theorem dX7_shownPage_0 : decode cX7_shownPage 0 = .ok (.aload_n 0, 1) := by decide +kernel
theorem dX7_shownPage_1 : decode cX7_shownPage 1 = .ok (.getfield 25, 3) := by decide +kernel
theorem dX7_shownPage_4 : decode cX7_shownPage 4 = .ok (.ifCond .lt 24, 3) := by decide +kernel
theorem dX7_shownPage_7 : decode cX7_shownPage 7 = .ok (.aload_n 0, 1) := by decide +kernel
theorem dX7_shownPage_8 : decode cX7_shownPage 8 = .ok (.getfield 25, 3) := by decide +kernel
theorem dX7_shownPage_11 : decode cX7_shownPage 11 = .ok (.bipush 6, 2) := by decide +kernel
theorem dX7_shownPage_13 : decode cX7_shownPage 13 = .ok (.if_icmp .ge 15, 3) := by decide +kernel
theorem dX7_shownPage_16 : decode cX7_shownPage 16 = .ok (.aload_n 0, 1) := by decide +kernel
theorem dX7_shownPage_17 : decode cX7_shownPage 17 = .ok (.getfield 9, 3) := by decide +kernel
theorem dX7_shownPage_20 : decode cX7_shownPage 20 = .ok (.aload_n 0, 1) := by decide +kernel
theorem dX7_shownPage_21 : decode cX7_shownPage 21 = .ok (.getfield 25, 3) := by decide +kernel
theorem dX7_shownPage_24 : decode cX7_shownPage 24 = .ok (.iaload, 1) := by decide +kernel
theorem dX7_shownPage_25 : decode cX7_shownPage 25 = .ok (.goto 5, 3) := by decide +kernel
theorem dX7_shownPage_28 : decode cX7_shownPage 28 = .ok (.ldc 40, 2) := by decide +kernel
theorem dX7_shownPage_30 : decode cX7_shownPage 30 = .ok (.ireturn, 1) := by decide +kernel
theorem dX7_showInstead_0 : decode cX7_showInstead 0 = .ok (.aload_n 0, 1) := by decide +kernel
theorem dX7_showInstead_1 : decode cX7_showInstead 1 = .ok (.getfield 25, 3) := by decide +kernel
theorem dX7_showInstead_4 : decode cX7_showInstead 4 = .ok (.ifCond .lt 22, 3) := by decide +kernel
theorem dX7_showInstead_7 : decode cX7_showInstead 7 = .ok (.aload_n 0, 1) := by decide +kernel
theorem dX7_showInstead_8 : decode cX7_showInstead 8 = .ok (.getfield 25, 3) := by decide +kernel
theorem dX7_showInstead_11 : decode cX7_showInstead 11 = .ok (.bipush 6, 2) := by decide +kernel
theorem dX7_showInstead_13 : decode cX7_showInstead 13 = .ok (.if_icmp .ge 13, 3) := by decide +kernel
theorem dX7_showInstead_16 : decode cX7_showInstead 16 = .ok (.aload_n 0, 1) := by decide +kernel
theorem dX7_showInstead_17 : decode cX7_showInstead 17 = .ok (.getfield 9, 3) := by decide +kernel
theorem dX7_showInstead_20 : decode cX7_showInstead 20 = .ok (.aload_n 0, 1) := by decide +kernel
theorem dX7_showInstead_21 : decode cX7_showInstead 21 = .ok (.getfield 25, 3) := by decide +kernel
theorem dX7_showInstead_24 : decode cX7_showInstead 24 = .ok (.iload_n 1, 1) := by decide +kernel
theorem dX7_showInstead_25 : decode cX7_showInstead 25 = .ok (.iastore, 1) := by decide +kernel
theorem dX7_showInstead_26 : decode cX7_showInstead 26 = .ok (.return_, 1) := by decide +kernel
theorem dX7_stepBack_0 : decode cX7_stepBack 0 = .ok (.aload_n 0, 1) := by decide +kernel
theorem dX7_stepBack_1 : decode cX7_stepBack 1 = .ok (.getfield 15, 3) := by decide +kernel
theorem dX7_stepBack_4 : decode cX7_stepBack 4 = .ok (.iconst 5, 1) := by decide +kernel
theorem dX7_stepBack_5 : decode cX7_stepBack 5 = .ok (.if_icmp .eq 10, 3) := by decide +kernel
theorem dX7_stepBack_8 : decode cX7_stepBack 8 = .ok (.aload_n 0, 1) := by decide +kernel
theorem dX7_stepBack_9 : decode cX7_stepBack 9 = .ok (.getfield 25, 3) := by decide +kernel
theorem dX7_stepBack_12 : decode cX7_stepBack 12 = .ok (.ifCond .gt 5, 3) := by decide +kernel
theorem dX7_stepBack_15 : decode cX7_stepBack 15 = .ok (.iconst 0, 1) := by decide +kernel
theorem dX7_stepBack_16 : decode cX7_stepBack 16 = .ok (.ireturn, 1) := by decide +kernel
theorem dX7_stepBack_17 : decode cX7_stepBack 17 = .ok (.aload_n 0, 1) := by decide +kernel
theorem dX7_stepBack_18 : decode cX7_stepBack 18 = .ok (.dup, 1) := by decide +kernel
theorem dX7_stepBack_19 : decode cX7_stepBack 19 = .ok (.getfield 25, 3) := by decide +kernel
theorem dX7_stepBack_22 : decode cX7_stepBack 22 = .ok (.iconst 1, 1) := by decide +kernel
theorem dX7_stepBack_23 : decode cX7_stepBack 23 = .ok (.isub, 1) := by decide +kernel
theorem dX7_stepBack_24 : decode cX7_stepBack 24 = .ok (.putfield 25, 3) := by decide +kernel
theorem dX7_stepBack_27 : decode cX7_stepBack 27 = .ok (.iconst 1, 1) := by decide +kernel
theorem dX7_stepBack_28 : decode cX7_stepBack 28 = .ok (.ireturn, 1) := by decide +kernel
theorem dX7_stepForward_0 : decode cX7_stepForward 0 = .ok (.aload_n 0, 1) := by decide +kernel
theorem dX7_stepForward_1 : decode cX7_stepForward 1 = .ok (.getfield 15, 3) := by decide +kernel
theorem dX7_stepForward_4 : decode cX7_stepForward 4 = .ok (.iconst 5, 1) := by decide +kernel
theorem dX7_stepForward_5 : decode cX7_stepForward 5 = .ok (.if_icmp .eq 16, 3) := by decide +kernel
theorem dX7_stepForward_8 : decode cX7_stepForward 8 = .ok (.aload_n 0, 1) := by decide +kernel
theorem dX7_stepForward_9 : decode cX7_stepForward 9 = .ok (.getfield 25, 3) := by decide +kernel
theorem dX7_stepForward_12 : decode cX7_stepForward 12 = .ok (.iconst 1, 1) := by decide +kernel
theorem dX7_stepForward_13 : decode cX7_stepForward 13 = .ok (.iadd, 1) := by decide +kernel
theorem dX7_stepForward_14 : decode cX7_stepForward 14 = .ok (.aload_n 0, 1) := by decide +kernel
theorem dX7_stepForward_15 : decode cX7_stepForward 15 = .ok (.getfield 22, 3) := by decide +kernel
theorem dX7_stepForward_18 : decode cX7_stepForward 18 = .ok (.if_icmp .lt 5, 3) := by decide +kernel
theorem dX7_stepForward_21 : decode cX7_stepForward 21 = .ok (.iconst 0, 1) := by decide +kernel
theorem dX7_stepForward_22 : decode cX7_stepForward 22 = .ok (.ireturn, 1) := by decide +kernel
theorem dX7_stepForward_23 : decode cX7_stepForward 23 = .ok (.aload_n 0, 1) := by decide +kernel
theorem dX7_stepForward_24 : decode cX7_stepForward 24 = .ok (.dup, 1) := by decide +kernel
theorem dX7_stepForward_25 : decode cX7_stepForward 25 = .ok (.getfield 25, 3) := by decide +kernel
theorem dX7_stepForward_28 : decode cX7_stepForward 28 = .ok (.iconst 1, 1) := by decide +kernel
theorem dX7_stepForward_29 : decode cX7_stepForward 29 = .ok (.iadd, 1) := by decide +kernel
theorem dX7_stepForward_30 : decode cX7_stepForward 30 = .ok (.putfield 25, 3) := by decide +kernel
theorem dX7_stepForward_33 : decode cX7_stepForward 33 = .ok (.iconst 1, 1) := by decide +kernel
theorem dX7_stepForward_34 : decode cX7_stepForward 34 = .ok (.ireturn, 1) := by decide +kernel
theorem dX7_moveOn_0 : decode cX7_moveOn 0 = .ok (.aload_n 0, 1) := by decide +kernel
theorem dX7_moveOn_1 : decode cX7_moveOn 1 = .ok (.aload_n 0, 1) := by decide +kernel
theorem dX7_moveOn_2 : decode cX7_moveOn 2 = .ok (.getfield 25, 3) := by decide +kernel
theorem dX7_moveOn_5 : decode cX7_moveOn 5 = .ok (.iconst 1, 1) := by decide +kernel
theorem dX7_moveOn_6 : decode cX7_moveOn 6 = .ok (.iadd, 1) := by decide +kernel
theorem dX7_moveOn_7 : decode cX7_moveOn 7 = .ok (.putfield 22, 3) := by decide +kernel
theorem dX7_moveOn_10 : decode cX7_moveOn 10 = .ok (.aload_n 0, 1) := by decide +kernel
theorem dX7_moveOn_11 : decode cX7_moveOn 11 = .ok (.getfield 15, 3) := by decide +kernel
theorem dX7_moveOn_14 : decode cX7_moveOn 14 = .ok (.iconst 5, 1) := by decide +kernel
theorem dX7_moveOn_15 : decode cX7_moveOn 15 = .ok (.if_icmp .ne 16, 3) := by decide +kernel
theorem dX7_moveOn_18 : decode cX7_moveOn 18 = .ok (.aload_n 0, 1) := by decide +kernel
theorem dX7_moveOn_19 : decode cX7_moveOn 19 = .ok (.getfield 22, 3) := by decide +kernel
theorem dX7_moveOn_22 : decode cX7_moveOn 22 = .ok (.iconst 3, 1) := by decide +kernel
theorem dX7_moveOn_23 : decode cX7_moveOn 23 = .ok (.if_icmp .lt 8, 3) := by decide +kernel
theorem dX7_moveOn_26 : decode cX7_moveOn 26 = .ok (.aload_n 0, 1) := by decide +kernel
theorem dX7_moveOn_27 : decode cX7_moveOn 27 = .ok (.invokevirtual 28, 3) := by decide +kernel
theorem dX7_moveOn_30 : decode cX7_moveOn 30 = .ok (.return_, 1) := by decide +kernel
theorem dX7_moveOn_31 : decode cX7_moveOn 31 = .ok (.aload_n 0, 1) := by decide +kernel
theorem dX7_moveOn_32 : decode cX7_moveOn 32 = .ok (.getfield 22, 3) := by decide +kernel
theorem dX7_moveOn_35 : decode cX7_moveOn 35 = .ok (.aload_n 0, 1) := by decide +kernel
theorem dX7_moveOn_36 : decode cX7_moveOn 36 = .ok (.getfield 15, 3) := by decide +kernel
theorem dX7_moveOn_39 : decode cX7_moveOn 39 = .ok (.iconst 2, 1) := by decide +kernel
theorem dX7_moveOn_40 : decode cX7_moveOn 40 = .ok (.if_icmp .ne 7, 3) := by decide +kernel
theorem dX7_moveOn_43 : decode cX7_moveOn 43 = .ok (.iconst 3, 1) := by decide +kernel
theorem dX7_moveOn_44 : decode cX7_moveOn 44 = .ok (.goto 5, 3) := by decide +kernel
theorem dX7_moveOn_47 : decode cX7_moveOn 47 = .ok (.bipush 6, 2) := by decide +kernel
theorem dX7_moveOn_49 : decode cX7_moveOn 49 = .ok (.if_icmp .lt 7, 3) := by decide +kernel
theorem dX7_moveOn_52 : decode cX7_moveOn 52 = .ok (.aload_n 0, 1) := by decide +kernel
theorem dX7_moveOn_53 : decode cX7_moveOn 53 = .ok (.invokevirtual 41, 3) := by decide +kernel
theorem dX7_moveOn_56 : decode cX7_moveOn 56 = .ok (.aload_n 0, 1) := by decide +kernel
theorem dX7_moveOn_57 : decode cX7_moveOn 57 = .ok (.getfield 22, 3) := by decide +kernel
theorem dX7_moveOn_60 : decode cX7_moveOn 60 = .ok (.ifCond .lt 40, 3) := by decide +kernel
theorem dX7_moveOn_63 : decode cX7_moveOn 63 = .ok (.aload_n 0, 1) := by decide +kernel
theorem dX7_moveOn_64 : decode cX7_moveOn 64 = .ok (.getfield 22, 3) := by decide +kernel
theorem dX7_moveOn_67 : decode cX7_moveOn 67 = .ok (.bipush 6, 2) := by decide +kernel
theorem dX7_moveOn_69 : decode cX7_moveOn 69 = .ok (.if_icmp .ge 31, 3) := by decide +kernel
theorem dX7_moveOn_72 : decode cX7_moveOn 72 = .ok (.aload_n 0, 1) := by decide +kernel
theorem dX7_moveOn_73 : decode cX7_moveOn 73 = .ok (.getfield 9, 3) := by decide +kernel
theorem dX7_moveOn_76 : decode cX7_moveOn 76 = .ok (.aload_n 0, 1) := by decide +kernel
theorem dX7_moveOn_77 : decode cX7_moveOn 77 = .ok (.getfield 22, 3) := by decide +kernel
theorem dX7_moveOn_80 : decode cX7_moveOn 80 = .ok (.iload_n 1, 1) := by decide +kernel
theorem dX7_moveOn_81 : decode cX7_moveOn 81 = .ok (.iastore, 1) := by decide +kernel
theorem dX7_moveOn_82 : decode cX7_moveOn 82 = .ok (.aload_n 0, 1) := by decide +kernel
theorem dX7_moveOn_83 : decode cX7_moveOn 83 = .ok (.aload_n 0, 1) := by decide +kernel
theorem dX7_moveOn_84 : decode cX7_moveOn 84 = .ok (.getfield 22, 3) := by decide +kernel
theorem dX7_moveOn_87 : decode cX7_moveOn 87 = .ok (.putfield 25, 3) := by decide +kernel
theorem dX7_moveOn_90 : decode cX7_moveOn 90 = .ok (.aload_n 0, 1) := by decide +kernel
theorem dX7_moveOn_91 : decode cX7_moveOn 91 = .ok (.dup, 1) := by decide +kernel
theorem dX7_moveOn_92 : decode cX7_moveOn 92 = .ok (.getfield 22, 3) := by decide +kernel
theorem dX7_moveOn_95 : decode cX7_moveOn 95 = .ok (.iconst 1, 1) := by decide +kernel
theorem dX7_moveOn_96 : decode cX7_moveOn 96 = .ok (.iadd, 1) := by decide +kernel
theorem dX7_moveOn_97 : decode cX7_moveOn 97 = .ok (.putfield 22, 3) := by decide +kernel
theorem dX7_moveOn_100 : decode cX7_moveOn 100 = .ok (.return_, 1) := by decide +kernel
theorem dX7_press_0 : decode cX7_press 0 = .ok (.iload_n 2, 1) := by decide +kernel
theorem dX7_press_1 : decode cX7_press 1 = .ok (.ifCond .ne 8, 3) := by decide +kernel
theorem dX7_press_4 : decode cX7_press 4 = .ok (.aload_n 0, 1) := by decide +kernel
theorem dX7_press_5 : decode cX7_press 5 = .ok (.invokevirtual 44, 3) := by decide +kernel
theorem dX7_press_8 : decode cX7_press 8 = .ok (.ireturn, 1) := by decide +kernel
theorem dX7_press_9 : decode cX7_press 9 = .ok (.iload_n 2, 1) := by decide +kernel
theorem dX7_press_10 : decode cX7_press 10 = .ok (.iconst 1, 1) := by decide +kernel
theorem dX7_press_11 : decode cX7_press 11 = .ok (.if_icmp .ne 8, 3) := by decide +kernel
theorem dX7_press_14 : decode cX7_press 14 = .ok (.aload_n 0, 1) := by decide +kernel
theorem dX7_press_15 : decode cX7_press 15 = .ok (.invokevirtual 48, 3) := by decide +kernel
theorem dX7_press_18 : decode cX7_press 18 = .ok (.ireturn, 1) := by decide +kernel
theorem dX7_press_19 : decode cX7_press 19 = .ok (.aload_n 1, 1) := by decide +kernel
theorem dX7_press_20 : decode cX7_press 20 = .ok (.aload_n 0, 1) := by decide +kernel
theorem dX7_press_21 : decode cX7_press 21 = .ok (.invokevirtual 51, 3) := by decide +kernel
theorem dX7_press_24 : decode cX7_press 24 = .ok (.iload_n 2, 1) := by decide +kernel
theorem dX7_press_25 : decode cX7_press 25 = .ok (.iconst 2, 1) := by decide +kernel
theorem dX7_press_26 : decode cX7_press 26 = .ok (.isub, 1) := by decide +kernel
theorem dX7_press_27 : decode cX7_press 27 = .ok (.invokevirtual 55, 3) := by decide +kernel
theorem dX7_press_30 : decode cX7_press 30 = .ok (.istore 4, 2) := by decide +kernel
theorem dX7_press_32 : decode cX7_press 32 = .ok (.iload 4, 2) := by decide +kernel
theorem dX7_press_34 : decode cX7_press 34 = .ok (.ldc 40, 2) := by decide +kernel
theorem dX7_press_36 : decode cX7_press 36 = .ok (.if_icmp .eq 15, 3) := by decide +kernel
theorem dX7_press_39 : decode cX7_press 39 = .ok (.aload_n 0, 1) := by decide +kernel
theorem dX7_press_40 : decode cX7_press 40 = .ok (.getfield 15, 3) := by decide +kernel
theorem dX7_press_43 : decode cX7_press 43 = .ok (.iconst 3, 1) := by decide +kernel
theorem dX7_press_44 : decode cX7_press 44 = .ok (.if_icmp .ne 9, 3) := by decide +kernel
theorem dX7_press_47 : decode cX7_press 47 = .ok (.iload_n 3, 1) := by decide +kernel
theorem dX7_press_48 : decode cX7_press 48 = .ok (.ifCond .ne 5, 3) := by decide +kernel
theorem dX7_press_51 : decode cX7_press 51 = .ok (.iconst 0, 1) := by decide +kernel
theorem dX7_press_52 : decode cX7_press 52 = .ok (.ireturn, 1) := by decide +kernel
theorem dX7_press_53 : decode cX7_press 53 = .ok (.aload_n 0, 1) := by decide +kernel
theorem dX7_press_54 : decode cX7_press 54 = .ok (.getfield 15, 3) := by decide +kernel
theorem dX7_press_57 : decode cX7_press 57 = .ok (.iconst 3, 1) := by decide +kernel
theorem dX7_press_58 : decode cX7_press 58 = .ok (.if_icmp .ne 13, 3) := by decide +kernel
theorem dX7_press_61 : decode cX7_press 61 = .ok (.aload_n 0, 1) := by decide +kernel
theorem dX7_press_62 : decode cX7_press 62 = .ok (.iconst 1, 1) := by decide +kernel
theorem dX7_press_63 : decode cX7_press 63 = .ok (.iload 4, 2) := by decide +kernel
theorem dX7_press_65 : decode cX7_press 65 = .ok (.invokevirtual 61, 3) := by decide +kernel
theorem dX7_press_68 : decode cX7_press 68 = .ok (.goto 9, 3) := by decide +kernel
theorem dX7_press_71 : decode cX7_press 71 = .ok (.aload_n 0, 1) := by decide +kernel
theorem dX7_press_72 : decode cX7_press 72 = .ok (.iload 4, 2) := by decide +kernel
theorem dX7_press_74 : decode cX7_press 74 = .ok (.invokevirtual 65, 3) := by decide +kernel
theorem dX7_press_77 : decode cX7_press 77 = .ok (.iconst 1, 1) := by decide +kernel
theorem dX7_press_78 : decode cX7_press 78 = .ok (.ireturn, 1) := by decide +kernel
theorem dX7_goHome_0 : decode cX7_goHome 0 = .ok (.aload_n 0, 1) := by decide +kernel
theorem dX7_goHome_1 : decode cX7_goHome 1 = .ok (.getfield 9, 3) := by decide +kernel
theorem dX7_goHome_4 : decode cX7_goHome 4 = .ok (.iconst 0, 1) := by decide +kernel
theorem dX7_goHome_5 : decode cX7_goHome 5 = .ok (.aload_n 0, 1) := by decide +kernel
theorem dX7_goHome_6 : decode cX7_goHome 6 = .ok (.getfield 19, 3) := by decide +kernel
theorem dX7_goHome_9 : decode cX7_goHome 9 = .ok (.iastore, 1) := by decide +kernel
theorem dX7_goHome_10 : decode cX7_goHome 10 = .ok (.aload_n 0, 1) := by decide +kernel
theorem dX7_goHome_11 : decode cX7_goHome 11 = .ok (.iconst 1, 1) := by decide +kernel
theorem dX7_goHome_12 : decode cX7_goHome 12 = .ok (.putfield 22, 3) := by decide +kernel
theorem dX7_goHome_15 : decode cX7_goHome 15 = .ok (.aload_n 0, 1) := by decide +kernel
theorem dX7_goHome_16 : decode cX7_goHome 16 = .ok (.iconst 0, 1) := by decide +kernel
theorem dX7_goHome_17 : decode cX7_goHome 17 = .ok (.putfield 25, 3) := by decide +kernel
theorem dX7_goHome_20 : decode cX7_goHome 20 = .ok (.return_, 1) := by decide +kernel
theorem dX7_forgetFirst_0 : decode cX7_forgetFirst 0 = .ok (.iconst 1, 1) := by decide +kernel
theorem dX7_forgetFirst_1 : decode cX7_forgetFirst 1 = .ok (.istore_n 1, 1) := by decide +kernel
theorem dX7_forgetFirst_2 : decode cX7_forgetFirst 2 = .ok (.iload_n 1, 1) := by decide +kernel
theorem dX7_forgetFirst_3 : decode cX7_forgetFirst 3 = .ok (.bipush 6, 2) := by decide +kernel
theorem dX7_forgetFirst_5 : decode cX7_forgetFirst 5 = .ok (.if_icmp .ge 23, 3) := by decide +kernel
theorem dX7_forgetFirst_8 : decode cX7_forgetFirst 8 = .ok (.aload_n 0, 1) := by decide +kernel
theorem dX7_forgetFirst_9 : decode cX7_forgetFirst 9 = .ok (.getfield 9, 3) := by decide +kernel
theorem dX7_forgetFirst_12 : decode cX7_forgetFirst 12 = .ok (.iload_n 1, 1) := by decide +kernel
theorem dX7_forgetFirst_13 : decode cX7_forgetFirst 13 = .ok (.iconst 1, 1) := by decide +kernel
theorem dX7_forgetFirst_14 : decode cX7_forgetFirst 14 = .ok (.isub, 1) := by decide +kernel
theorem dX7_forgetFirst_15 : decode cX7_forgetFirst 15 = .ok (.aload_n 0, 1) := by decide +kernel
theorem dX7_forgetFirst_16 : decode cX7_forgetFirst 16 = .ok (.getfield 9, 3) := by decide +kernel
theorem dX7_forgetFirst_19 : decode cX7_forgetFirst 19 = .ok (.iload_n 1, 1) := by decide +kernel
theorem dX7_forgetFirst_20 : decode cX7_forgetFirst 20 = .ok (.iaload, 1) := by decide +kernel
theorem dX7_forgetFirst_21 : decode cX7_forgetFirst 21 = .ok (.iastore, 1) := by decide +kernel
theorem dX7_forgetFirst_22 : decode cX7_forgetFirst 22 = .ok (.iinc 1 1, 3) := by decide +kernel
theorem dX7_forgetFirst_25 : decode cX7_forgetFirst 25 = .ok (.goto (-23), 3) := by decide +kernel
theorem dX7_forgetFirst_28 : decode cX7_forgetFirst 28 = .ok (.aload_n 0, 1) := by decide +kernel
theorem dX7_forgetFirst_29 : decode cX7_forgetFirst 29 = .ok (.dup, 1) := by decide +kernel
theorem dX7_forgetFirst_30 : decode cX7_forgetFirst 30 = .ok (.getfield 22, 3) := by decide +kernel
theorem dX7_forgetFirst_33 : decode cX7_forgetFirst 33 = .ok (.iconst 1, 1) := by decide +kernel
theorem dX7_forgetFirst_34 : decode cX7_forgetFirst 34 = .ok (.isub, 1) := by decide +kernel
theorem dX7_forgetFirst_35 : decode cX7_forgetFirst 35 = .ok (.putfield 22, 3) := by decide +kernel
theorem dX7_forgetFirst_38 : decode cX7_forgetFirst 38 = .ok (.return_, 1) := by decide +kernel
theorem dX8_init_0 : decode cX8_init 0 = .ok (.aload_n 0, 1) := by decide +kernel
theorem dX8_init_1 : decode cX8_init 1 = .ok (.invokespecial 3, 3) := by decide +kernel
theorem dX8_init_4 : decode cX8_init 4 = .ok (.aload_n 0, 1) := by decide +kernel
theorem dX8_init_5 : decode cX8_init 5 = .ok (.bipush 8, 2) := by decide +kernel
theorem dX8_init_7 : decode cX8_init 7 = .ok (.newarray .int, 2) := by decide +kernel
theorem dX8_init_9 : decode cX8_init 9 = .ok (.putfield 9, 3) := by decide +kernel
theorem dX8_init_12 : decode cX8_init 12 = .ok (.aload_n 0, 1) := by decide +kernel
theorem dX8_init_13 : decode cX8_init 13 = .ok (.bipush 24, 2) := by decide +kernel
theorem dX8_init_15 : decode cX8_init 15 = .ok (.newarray .int, 2) := by decide +kernel
theorem dX8_init_17 : decode cX8_init 17 = .ok (.putfield 15, 3) := by decide +kernel
theorem dX8_init_20 : decode cX8_init 20 = .ok (.aload_n 0, 1) := by decide +kernel
theorem dX8_init_21 : decode cX8_init 21 = .ok (.iconst 0, 1) := by decide +kernel
theorem dX8_init_22 : decode cX8_init 22 = .ok (.putfield 18, 3) := by decide +kernel
theorem dX8_init_25 : decode cX8_init 25 = .ok (.return_, 1) := by decide +kernel
theorem dX8_become_0 : decode cX8_become 0 = .ok (.aload_n 0, 1) := by decide +kernel
theorem dX8_become_1 : decode cX8_become 1 = .ok (.aload_n 1, 1) := by decide +kernel
theorem dX8_become_2 : decode cX8_become 2 = .ok (.getfield 18, 3) := by decide +kernel
theorem dX8_become_5 : decode cX8_become 5 = .ok (.putfield 18, 3) := by decide +kernel
theorem dX8_become_8 : decode cX8_become 8 = .ok (.aload_n 1, 1) := by decide +kernel
theorem dX8_become_9 : decode cX8_become 9 = .ok (.getfield 9, 3) := by decide +kernel
theorem dX8_become_12 : decode cX8_become 12 = .ok (.iconst 0, 1) := by decide +kernel
theorem dX8_become_13 : decode cX8_become 13 = .ok (.aload_n 0, 1) := by decide +kernel
theorem dX8_become_14 : decode cX8_become 14 = .ok (.getfield 9, 3) := by decide +kernel
theorem dX8_become_17 : decode cX8_become 17 = .ok (.iconst 0, 1) := by decide +kernel
theorem dX8_become_18 : decode cX8_become 18 = .ok (.bipush 8, 2) := by decide +kernel
theorem dX8_become_20 : decode cX8_become 20 = .ok (.invokestatic 22, 3) := by decide +kernel
theorem dX8_become_23 : decode cX8_become 23 = .ok (.aload_n 1, 1) := by decide +kernel
theorem dX8_become_24 : decode cX8_become 24 = .ok (.getfield 15, 3) := by decide +kernel
theorem dX8_become_27 : decode cX8_become 27 = .ok (.iconst 0, 1) := by decide +kernel
theorem dX8_become_28 : decode cX8_become 28 = .ok (.aload_n 0, 1) := by decide +kernel
theorem dX8_become_29 : decode cX8_become 29 = .ok (.getfield 15, 3) := by decide +kernel
theorem dX8_become_32 : decode cX8_become 32 = .ok (.iconst 0, 1) := by decide +kernel
theorem dX8_become_33 : decode cX8_become 33 = .ok (.bipush 24, 2) := by decide +kernel
theorem dX8_become_35 : decode cX8_become 35 = .ok (.invokestatic 22, 3) := by decide +kernel
theorem dX8_become_38 : decode cX8_become 38 = .ok (.return_, 1) := by decide +kernel
theorem dX8_begin_0 : decode cX8_begin 0 = .ok (.aload_n 0, 1) := by decide +kernel
theorem dX8_begin_1 : decode cX8_begin 1 = .ok (.iload_n 1, 1) := by decide +kernel
theorem dX8_begin_2 : decode cX8_begin 2 = .ok (.putfield 18, 3) := by decide +kernel
theorem dX8_begin_5 : decode cX8_begin 5 = .ok (.iconst 0, 1) := by decide +kernel
theorem dX8_begin_6 : decode cX8_begin 6 = .ok (.istore_n 2, 1) := by decide +kernel
theorem dX8_begin_7 : decode cX8_begin 7 = .ok (.iload_n 2, 1) := by decide +kernel
theorem dX8_begin_8 : decode cX8_begin 8 = .ok (.bipush 8, 2) := by decide +kernel
theorem dX8_begin_10 : decode cX8_begin 10 = .ok (.if_icmp .ge 16, 3) := by decide +kernel
theorem dX8_begin_13 : decode cX8_begin 13 = .ok (.aload_n 0, 1) := by decide +kernel
theorem dX8_begin_14 : decode cX8_begin 14 = .ok (.getfield 9, 3) := by decide +kernel
theorem dX8_begin_17 : decode cX8_begin 17 = .ok (.iload_n 2, 1) := by decide +kernel
theorem dX8_begin_18 : decode cX8_begin 18 = .ok (.iconst 0, 1) := by decide +kernel
theorem dX8_begin_19 : decode cX8_begin 19 = .ok (.iastore, 1) := by decide +kernel
theorem dX8_begin_20 : decode cX8_begin 20 = .ok (.iinc 2 1, 3) := by decide +kernel
theorem dX8_begin_23 : decode cX8_begin 23 = .ok (.goto (-16), 3) := by decide +kernel
theorem dX8_begin_26 : decode cX8_begin 26 = .ok (.return_, 1) := by decide +kernel
theorem dX8_hasPage_0 : decode cX8_hasPage 0 = .ok (.iload_n 1, 1) := by decide +kernel
theorem dX8_hasPage_1 : decode cX8_hasPage 1 = .ok (.ifCond .lt 21, 3) := by decide +kernel
theorem dX8_hasPage_4 : decode cX8_hasPage 4 = .ok (.iload_n 1, 1) := by decide +kernel
theorem dX8_hasPage_5 : decode cX8_hasPage 5 = .ok (.aload_n 0, 1) := by decide +kernel
theorem dX8_hasPage_6 : decode cX8_hasPage 6 = .ok (.getfield 18, 3) := by decide +kernel
theorem dX8_hasPage_9 : decode cX8_hasPage 9 = .ok (.if_icmp .ge 13, 3) := by decide +kernel
theorem dX8_hasPage_12 : decode cX8_hasPage 12 = .ok (.iload_n 1, 1) := by decide +kernel
theorem dX8_hasPage_13 : decode cX8_hasPage 13 = .ok (.bipush 8, 2) := by decide +kernel
theorem dX8_hasPage_15 : decode cX8_hasPage 15 = .ok (.if_icmp .ge 7, 3) := by decide +kernel
theorem dX8_hasPage_18 : decode cX8_hasPage 18 = .ok (.iconst 1, 1) := by decide +kernel
theorem dX8_hasPage_19 : decode cX8_hasPage 19 = .ok (.goto 4, 3) := by decide +kernel
theorem dX8_hasPage_22 : decode cX8_hasPage 22 = .ok (.iconst 0, 1) := by decide +kernel
theorem dX8_hasPage_23 : decode cX8_hasPage 23 = .ok (.ireturn, 1) := by decide +kernel
theorem dX8_linksOf_0 : decode cX8_linksOf 0 = .ok (.aload_n 0, 1) := by decide +kernel
theorem dX8_linksOf_1 : decode cX8_linksOf 1 = .ok (.iload_n 1, 1) := by decide +kernel
theorem dX8_linksOf_2 : decode cX8_linksOf 2 = .ok (.invokevirtual 28, 3) := by decide +kernel
theorem dX8_linksOf_5 : decode cX8_linksOf 5 = .ok (.ifCond .eq 12, 3) := by decide +kernel
theorem dX8_linksOf_8 : decode cX8_linksOf 8 = .ok (.aload_n 0, 1) := by decide +kernel
theorem dX8_linksOf_9 : decode cX8_linksOf 9 = .ok (.getfield 9, 3) := by decide +kernel
theorem dX8_linksOf_12 : decode cX8_linksOf 12 = .ok (.iload_n 1, 1) := by decide +kernel
theorem dX8_linksOf_13 : decode cX8_linksOf 13 = .ok (.iaload, 1) := by decide +kernel
theorem dX8_linksOf_14 : decode cX8_linksOf 14 = .ok (.goto 4, 3) := by decide +kernel
theorem dX8_linksOf_17 : decode cX8_linksOf 17 = .ok (.iconst 0, 1) := by decide +kernel
theorem dX8_linksOf_18 : decode cX8_linksOf 18 = .ok (.ireturn, 1) := by decide +kernel
theorem dX8_target_0 : decode cX8_target 0 = .ok (.iload_n 2, 1) := by decide +kernel
theorem dX8_target_1 : decode cX8_target 1 = .ok (.ifCond .lt 25, 3) := by decide +kernel
theorem dX8_target_4 : decode cX8_target 4 = .ok (.iload_n 2, 1) := by decide +kernel
theorem dX8_target_5 : decode cX8_target 5 = .ok (.aload_n 0, 1) := by decide +kernel
theorem dX8_target_6 : decode cX8_target 6 = .ok (.iload_n 1, 1) := by decide +kernel
theorem dX8_target_7 : decode cX8_target 7 = .ok (.invokevirtual 32, 3) := by decide +kernel
theorem dX8_target_10 : decode cX8_target 10 = .ok (.if_icmp .ge 16, 3) := by decide +kernel
theorem dX8_target_13 : decode cX8_target 13 = .ok (.aload_n 0, 1) := by decide +kernel
theorem dX8_target_14 : decode cX8_target 14 = .ok (.getfield 15, 3) := by decide +kernel
theorem dX8_target_17 : decode cX8_target 17 = .ok (.iload_n 1, 1) := by decide +kernel
theorem dX8_target_18 : decode cX8_target 18 = .ok (.iconst 3, 1) := by decide +kernel
theorem dX8_target_19 : decode cX8_target 19 = .ok (.imul, 1) := by decide +kernel
theorem dX8_target_20 : decode cX8_target 20 = .ok (.iload_n 2, 1) := by decide +kernel
theorem dX8_target_21 : decode cX8_target 21 = .ok (.iadd, 1) := by decide +kernel
theorem dX8_target_22 : decode cX8_target 22 = .ok (.iaload, 1) := by decide +kernel
theorem dX8_target_23 : decode cX8_target 23 = .ok (.goto 5, 3) := by decide +kernel
theorem dX8_target_26 : decode cX8_target 26 = .ok (.ldc 36, 2) := by decide +kernel
theorem dX8_target_28 : decode cX8_target 28 = .ok (.ireturn, 1) := by decide +kernel
theorem dX8_addLink_0 : decode cX8_addLink 0 = .ok (.aload_n 0, 1) := by decide +kernel
theorem dX8_addLink_1 : decode cX8_addLink 1 = .ok (.iload_n 1, 1) := by decide +kernel
theorem dX8_addLink_2 : decode cX8_addLink 2 = .ok (.invokevirtual 28, 3) := by decide +kernel
theorem dX8_addLink_5 : decode cX8_addLink 5 = .ok (.ifCond .eq 39, 3) := by decide +kernel
theorem dX8_addLink_8 : decode cX8_addLink 8 = .ok (.aload_n 0, 1) := by decide +kernel
theorem dX8_addLink_9 : decode cX8_addLink 9 = .ok (.getfield 9, 3) := by decide +kernel
theorem dX8_addLink_12 : decode cX8_addLink 12 = .ok (.iload_n 1, 1) := by decide +kernel
theorem dX8_addLink_13 : decode cX8_addLink 13 = .ok (.iaload, 1) := by decide +kernel
theorem dX8_addLink_14 : decode cX8_addLink 14 = .ok (.iconst 3, 1) := by decide +kernel
theorem dX8_addLink_15 : decode cX8_addLink 15 = .ok (.if_icmp .ge 29, 3) := by decide +kernel
theorem dX8_addLink_18 : decode cX8_addLink 18 = .ok (.aload_n 0, 1) := by decide +kernel
theorem dX8_addLink_19 : decode cX8_addLink 19 = .ok (.getfield 15, 3) := by decide +kernel
theorem dX8_addLink_22 : decode cX8_addLink 22 = .ok (.iload_n 1, 1) := by decide +kernel
theorem dX8_addLink_23 : decode cX8_addLink 23 = .ok (.iconst 3, 1) := by decide +kernel
theorem dX8_addLink_24 : decode cX8_addLink 24 = .ok (.imul, 1) := by decide +kernel
theorem dX8_addLink_25 : decode cX8_addLink 25 = .ok (.aload_n 0, 1) := by decide +kernel
theorem dX8_addLink_26 : decode cX8_addLink 26 = .ok (.getfield 9, 3) := by decide +kernel
theorem dX8_addLink_29 : decode cX8_addLink 29 = .ok (.iload_n 1, 1) := by decide +kernel
theorem dX8_addLink_30 : decode cX8_addLink 30 = .ok (.iaload, 1) := by decide +kernel
theorem dX8_addLink_31 : decode cX8_addLink 31 = .ok (.iadd, 1) := by decide +kernel
theorem dX8_addLink_32 : decode cX8_addLink 32 = .ok (.iload_n 2, 1) := by decide +kernel
theorem dX8_addLink_33 : decode cX8_addLink 33 = .ok (.iastore, 1) := by decide +kernel
theorem dX8_addLink_34 : decode cX8_addLink 34 = .ok (.aload_n 0, 1) := by decide +kernel
theorem dX8_addLink_35 : decode cX8_addLink 35 = .ok (.getfield 9, 3) := by decide +kernel
theorem dX8_addLink_38 : decode cX8_addLink 38 = .ok (.iload_n 1, 1) := by decide +kernel
theorem dX8_addLink_39 : decode cX8_addLink 39 = .ok (.dup2, 1) := by decide +kernel
theorem dX8_addLink_40 : decode cX8_addLink 40 = .ok (.iaload, 1) := by decide +kernel
theorem dX8_addLink_41 : decode cX8_addLink 41 = .ok (.iconst 1, 1) := by decide +kernel
theorem dX8_addLink_42 : decode cX8_addLink 42 = .ok (.iadd, 1) := by decide +kernel
theorem dX8_addLink_43 : decode cX8_addLink 43 = .ok (.iastore, 1) := by decide +kernel
theorem dX8_addLink_44 : decode cX8_addLink 44 = .ok (.return_, 1) := by decide +kernel
theorem dX8_turnFirstLink_0 : decode cX8_turnFirstLink 0 = .ok (.aload_n 0, 1) := by decide +kernel
theorem dX8_turnFirstLink_1 : decode cX8_turnFirstLink 1 = .ok (.iload_n 1, 1) := by decide +kernel
theorem dX8_turnFirstLink_2 : decode cX8_turnFirstLink 2 = .ok (.invokevirtual 28, 3) := by decide +kernel
theorem dX8_turnFirstLink_5 : decode cX8_turnFirstLink 5 = .ok (.ifCond .eq 12, 3) := by decide +kernel
theorem dX8_turnFirstLink_8 : decode cX8_turnFirstLink 8 = .ok (.aload_n 0, 1) := by decide +kernel
theorem dX8_turnFirstLink_9 : decode cX8_turnFirstLink 9 = .ok (.getfield 15, 3) := by decide +kernel
theorem dX8_turnFirstLink_12 : decode cX8_turnFirstLink 12 = .ok (.iload_n 1, 1) := by decide +kernel
theorem dX8_turnFirstLink_13 : decode cX8_turnFirstLink 13 = .ok (.iconst 3, 1) := by decide +kernel
theorem dX8_turnFirstLink_14 : decode cX8_turnFirstLink 14 = .ok (.imul, 1) := by decide +kernel
theorem dX8_turnFirstLink_15 : decode cX8_turnFirstLink 15 = .ok (.iload_n 2, 1) := by decide +kernel
theorem dX8_turnFirstLink_16 : decode cX8_turnFirstLink 16 = .ok (.iastore, 1) := by decide +kernel
theorem dX8_turnFirstLink_17 : decode cX8_turnFirstLink 17 = .ok (.return_, 1) := by decide +kernel
theorem dX8_walkedTo_0 : decode cX8_walkedTo 0 = .ok (.iload_n 1, 1) := by decide +kernel
theorem dX8_walkedTo_1 : decode cX8_walkedTo 1 = .ok (.istore 4, 2) := by decide +kernel
theorem dX8_walkedTo_3 : decode cX8_walkedTo 3 = .ok (.iconst 0, 1) := by decide +kernel
theorem dX8_walkedTo_4 : decode cX8_walkedTo 4 = .ok (.istore 5, 2) := by decide +kernel
theorem dX8_walkedTo_6 : decode cX8_walkedTo 6 = .ok (.iload 5, 2) := by decide +kernel
theorem dX8_walkedTo_8 : decode cX8_walkedTo 8 = .ok (.iload_n 2, 1) := by decide +kernel
theorem dX8_walkedTo_9 : decode cX8_walkedTo 9 = .ok (.if_icmp .ge 29, 3) := by decide +kernel
theorem dX8_walkedTo_12 : decode cX8_walkedTo 12 = .ok (.aload_n 0, 1) := by decide +kernel
theorem dX8_walkedTo_13 : decode cX8_walkedTo 13 = .ok (.iload 4, 2) := by decide +kernel
theorem dX8_walkedTo_15 : decode cX8_walkedTo 15 = .ok (.iload_n 3, 1) := by decide +kernel
theorem dX8_walkedTo_16 : decode cX8_walkedTo 16 = .ok (.aload_n 0, 1) := by decide +kernel
theorem dX8_walkedTo_17 : decode cX8_walkedTo 17 = .ok (.iload 4, 2) := by decide +kernel
theorem dX8_walkedTo_19 : decode cX8_walkedTo 19 = .ok (.invokevirtual 32, 3) := by decide +kernel
theorem dX8_walkedTo_22 : decode cX8_walkedTo 22 = .ok (.iconst 1, 1) := by decide +kernel
theorem dX8_walkedTo_23 : decode cX8_walkedTo 23 = .ok (.isub, 1) := by decide +kernel
theorem dX8_walkedTo_24 : decode cX8_walkedTo 24 = .ok (.invokestatic 37, 3) := by decide +kernel
theorem dX8_walkedTo_27 : decode cX8_walkedTo 27 = .ok (.invokevirtual 43, 3) := by decide +kernel
theorem dX8_walkedTo_30 : decode cX8_walkedTo 30 = .ok (.istore 4, 2) := by decide +kernel
theorem dX8_walkedTo_32 : decode cX8_walkedTo 32 = .ok (.iinc 5 1, 3) := by decide +kernel
theorem dX8_walkedTo_35 : decode cX8_walkedTo 35 = .ok (.goto (-29), 3) := by decide +kernel
theorem dX8_walkedTo_38 : decode cX8_walkedTo 38 = .ok (.iload 4, 2) := by decide +kernel
theorem dX8_walkedTo_40 : decode cX8_walkedTo 40 = .ok (.ireturn, 1) := by decide +kernel
theorem dX8_distance_0 : decode cX8_distance 0 = .ok (.iconst 1, 1) := by decide +kernel
theorem dX8_distance_1 : decode cX8_distance 1 = .ok (.iload_n 1, 1) := by decide +kernel
theorem dX8_distance_2 : decode cX8_distance 2 = .ok (.ishl, 1) := by decide +kernel
theorem dX8_distance_3 : decode cX8_distance 3 = .ok (.istore_n 3, 1) := by decide +kernel
theorem dX8_distance_4 : decode cX8_distance 4 = .ok (.iconst 0, 1) := by decide +kernel
theorem dX8_distance_5 : decode cX8_distance 5 = .ok (.istore 4, 2) := by decide +kernel
theorem dX8_distance_7 : decode cX8_distance 7 = .ok (.iload 4, 2) := by decide +kernel
theorem dX8_distance_9 : decode cX8_distance 9 = .ok (.aload_n 0, 1) := by decide +kernel
theorem dX8_distance_10 : decode cX8_distance 10 = .ok (.getfield 18, 3) := by decide +kernel
theorem dX8_distance_13 : decode cX8_distance 13 = .ok (.if_icmp .ge 26, 3) := by decide +kernel
theorem dX8_distance_16 : decode cX8_distance 16 = .ok (.iload_n 3, 1) := by decide +kernel
theorem dX8_distance_17 : decode cX8_distance 17 = .ok (.iload_n 2, 1) := by decide +kernel
theorem dX8_distance_18 : decode cX8_distance 18 = .ok (.ishr, 1) := by decide +kernel
theorem dX8_distance_19 : decode cX8_distance 19 = .ok (.iconst 1, 1) := by decide +kernel
theorem dX8_distance_20 : decode cX8_distance 20 = .ok (.iand, 1) := by decide +kernel
theorem dX8_distance_21 : decode cX8_distance 21 = .ok (.ifCond .eq 6, 3) := by decide +kernel
theorem dX8_distance_24 : decode cX8_distance 24 = .ok (.iload 4, 2) := by decide +kernel
theorem dX8_distance_26 : decode cX8_distance 26 = .ok (.ireturn, 1) := by decide +kernel
theorem dX8_distance_27 : decode cX8_distance 27 = .ok (.aload_n 0, 1) := by decide +kernel
theorem dX8_distance_28 : decode cX8_distance 28 = .ok (.iload_n 3, 1) := by decide +kernel
theorem dX8_distance_29 : decode cX8_distance 29 = .ok (.invokevirtual 46, 3) := by decide +kernel
theorem dX8_distance_32 : decode cX8_distance 32 = .ok (.istore_n 3, 1) := by decide +kernel
theorem dX8_distance_33 : decode cX8_distance 33 = .ok (.iinc 4 1, 3) := by decide +kernel
theorem dX8_distance_36 : decode cX8_distance 36 = .ok (.goto (-29), 3) := by decide +kernel
theorem dX8_distance_39 : decode cX8_distance 39 = .ok (.ldc 36, 2) := by decide +kernel
theorem dX8_distance_41 : decode cX8_distance 41 = .ok (.ireturn, 1) := by decide +kernel
theorem dX8_circle_0 : decode cX8_circle 0 = .ok (.iconst 0, 1) := by decide +kernel
theorem dX8_circle_1 : decode cX8_circle 1 = .ok (.istore_n 2, 1) := by decide +kernel
theorem dX8_circle_2 : decode cX8_circle 2 = .ok (.iconst 0, 1) := by decide +kernel
theorem dX8_circle_3 : decode cX8_circle 3 = .ok (.istore_n 3, 1) := by decide +kernel
theorem dX8_circle_4 : decode cX8_circle 4 = .ok (.iload_n 3, 1) := by decide +kernel
theorem dX8_circle_5 : decode cX8_circle 5 = .ok (.aload_n 0, 1) := by decide +kernel
theorem dX8_circle_6 : decode cX8_circle 6 = .ok (.getfield 18, 3) := by decide +kernel
theorem dX8_circle_9 : decode cX8_circle 9 = .ok (.if_icmp .ge 37, 3) := by decide +kernel
theorem dX8_circle_12 : decode cX8_circle 12 = .ok (.aload_n 0, 1) := by decide +kernel
theorem dX8_circle_13 : decode cX8_circle 13 = .ok (.iload_n 1, 1) := by decide +kernel
theorem dX8_circle_14 : decode cX8_circle 14 = .ok (.iload_n 3, 1) := by decide +kernel
theorem dX8_circle_15 : decode cX8_circle 15 = .ok (.invokevirtual 49, 3) := by decide +kernel
theorem dX8_circle_18 : decode cX8_circle 18 = .ok (.ldc 36, 2) := by decide +kernel
theorem dX8_circle_20 : decode cX8_circle 20 = .ok (.if_icmp .eq 20, 3) := by decide +kernel
theorem dX8_circle_23 : decode cX8_circle 23 = .ok (.aload_n 0, 1) := by decide +kernel
theorem dX8_circle_24 : decode cX8_circle 24 = .ok (.iload_n 3, 1) := by decide +kernel
theorem dX8_circle_25 : decode cX8_circle 25 = .ok (.iload_n 1, 1) := by decide +kernel
theorem dX8_circle_26 : decode cX8_circle 26 = .ok (.invokevirtual 49, 3) := by decide +kernel
theorem dX8_circle_29 : decode cX8_circle 29 = .ok (.ldc 36, 2) := by decide +kernel
theorem dX8_circle_31 : decode cX8_circle 31 = .ok (.if_icmp .eq 9, 3) := by decide +kernel
theorem dX8_circle_34 : decode cX8_circle 34 = .ok (.iload_n 2, 1) := by decide +kernel
theorem dX8_circle_35 : decode cX8_circle 35 = .ok (.iconst 1, 1) := by decide +kernel
theorem dX8_circle_36 : decode cX8_circle 36 = .ok (.iload_n 3, 1) := by decide +kernel
theorem dX8_circle_37 : decode cX8_circle 37 = .ok (.ishl, 1) := by decide +kernel
theorem dX8_circle_38 : decode cX8_circle 38 = .ok (.ior, 1) := by decide +kernel
theorem dX8_circle_39 : decode cX8_circle 39 = .ok (.istore_n 2, 1) := by decide +kernel
theorem dX8_circle_40 : decode cX8_circle 40 = .ok (.iinc 3 1, 3) := by decide +kernel
theorem dX8_circle_43 : decode cX8_circle 43 = .ok (.goto (-39), 3) := by decide +kernel
theorem dX8_circle_46 : decode cX8_circle 46 = .ok (.iload_n 2, 1) := by decide +kernel
theorem dX8_circle_47 : decode cX8_circle 47 = .ok (.ireturn, 1) := by decide +kernel
theorem dX8_withNeighbours_0 : decode cX8_withNeighbours 0 = .ok (.iload_n 1, 1) := by decide +kernel
theorem dX8_withNeighbours_1 : decode cX8_withNeighbours 1 = .ok (.istore_n 2, 1) := by decide +kernel
theorem dX8_withNeighbours_2 : decode cX8_withNeighbours 2 = .ok (.iconst 0, 1) := by decide +kernel
theorem dX8_withNeighbours_3 : decode cX8_withNeighbours 3 = .ok (.istore_n 3, 1) := by decide +kernel
theorem dX8_withNeighbours_4 : decode cX8_withNeighbours 4 = .ok (.iload_n 3, 1) := by decide +kernel
theorem dX8_withNeighbours_5 : decode cX8_withNeighbours 5 = .ok (.aload_n 0, 1) := by decide +kernel
theorem dX8_withNeighbours_6 : decode cX8_withNeighbours 6 = .ok (.getfield 18, 3) := by decide +kernel
theorem dX8_withNeighbours_9 : decode cX8_withNeighbours 9 = .ok (.if_icmp .ge 48, 3) := by decide +kernel
theorem dX8_withNeighbours_12 : decode cX8_withNeighbours 12 = .ok (.iconst 0, 1) := by decide +kernel
theorem dX8_withNeighbours_13 : decode cX8_withNeighbours 13 = .ok (.istore 4, 2) := by decide +kernel
theorem dX8_withNeighbours_15 : decode cX8_withNeighbours 15 = .ok (.iload 4, 2) := by decide +kernel
theorem dX8_withNeighbours_17 : decode cX8_withNeighbours 17 = .ok (.aload_n 0, 1) := by decide +kernel
theorem dX8_withNeighbours_18 : decode cX8_withNeighbours 18 = .ok (.iload_n 3, 1) := by decide +kernel
theorem dX8_withNeighbours_19 : decode cX8_withNeighbours 19 = .ok (.invokevirtual 32, 3) := by decide +kernel
theorem dX8_withNeighbours_22 : decode cX8_withNeighbours 22 = .ok (.if_icmp .ge 29, 3) := by decide +kernel
theorem dX8_withNeighbours_25 : decode cX8_withNeighbours 25 = .ok (.iload_n 1, 1) := by decide +kernel
theorem dX8_withNeighbours_26 : decode cX8_withNeighbours 26 = .ok (.iload_n 3, 1) := by decide +kernel
theorem dX8_withNeighbours_27 : decode cX8_withNeighbours 27 = .ok (.ishr, 1) := by decide +kernel
theorem dX8_withNeighbours_28 : decode cX8_withNeighbours 28 = .ok (.iconst 1, 1) := by decide +kernel
theorem dX8_withNeighbours_29 : decode cX8_withNeighbours 29 = .ok (.iand, 1) := by decide +kernel
theorem dX8_withNeighbours_30 : decode cX8_withNeighbours 30 = .ok (.ifCond .eq 15, 3) := by decide +kernel
theorem dX8_withNeighbours_33 : decode cX8_withNeighbours 33 = .ok (.iload_n 2, 1) := by decide +kernel
theorem dX8_withNeighbours_34 : decode cX8_withNeighbours 34 = .ok (.iconst 1, 1) := by decide +kernel
theorem dX8_withNeighbours_35 : decode cX8_withNeighbours 35 = .ok (.aload_n 0, 1) := by decide +kernel
theorem dX8_withNeighbours_36 : decode cX8_withNeighbours 36 = .ok (.iload_n 3, 1) := by decide +kernel
theorem dX8_withNeighbours_37 : decode cX8_withNeighbours 37 = .ok (.iload 4, 2) := by decide +kernel
theorem dX8_withNeighbours_39 : decode cX8_withNeighbours 39 = .ok (.invokevirtual 43, 3) := by decide +kernel
theorem dX8_withNeighbours_42 : decode cX8_withNeighbours 42 = .ok (.ishl, 1) := by decide +kernel
theorem dX8_withNeighbours_43 : decode cX8_withNeighbours 43 = .ok (.ior, 1) := by decide +kernel
theorem dX8_withNeighbours_44 : decode cX8_withNeighbours 44 = .ok (.istore_n 2, 1) := by decide +kernel
theorem dX8_withNeighbours_45 : decode cX8_withNeighbours 45 = .ok (.iinc 4 1, 3) := by decide +kernel
theorem dX8_withNeighbours_48 : decode cX8_withNeighbours 48 = .ok (.goto (-33), 3) := by decide +kernel
theorem dX8_withNeighbours_51 : decode cX8_withNeighbours 51 = .ok (.iinc 3 1, 3) := by decide +kernel
theorem dX8_withNeighbours_54 : decode cX8_withNeighbours 54 = .ok (.goto (-50), 3) := by decide +kernel
theorem dX8_withNeighbours_57 : decode cX8_withNeighbours 57 = .ok (.iload_n 2, 1) := by decide +kernel
theorem dX8_withNeighbours_58 : decode cX8_withNeighbours 58 = .ok (.ireturn, 1) := by decide +kernel
