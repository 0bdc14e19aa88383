/-! the decoded instructions of the reference -/
theorem dX12_init_0 : decode cX12_init 0 = .ok (.aload_n 0, 1) := by decide +kernel
theorem dX12_init_1 : decode cX12_init 1 = .ok (.invokespecial 3, 3) := by decide +kernel
theorem dX12_init_4 : decode cX12_init 4 = .ok (.aload_n 0, 1) := by decide +kernel
theorem dX12_init_5 : decode cX12_init 5 = .ok (.bipush 81, 2) := by decide +kernel
theorem dX12_init_7 : decode cX12_init 7 = .ok (.newarray .int, 2) := by decide +kernel
theorem dX12_init_9 : decode cX12_init 9 = .ok (.putfield 9, 3) := by decide +kernel
theorem dX12_init_12 : decode cX12_init 12 = .ok (.aload_n 0, 1) := by decide +kernel
theorem dX12_init_13 : decode cX12_init 13 = .ok (.bipush 81, 2) := by decide +kernel
theorem dX12_init_15 : decode cX12_init 15 = .ok (.newarray .int, 2) := by decide +kernel
theorem dX12_init_17 : decode cX12_init 17 = .ok (.putfield 13, 3) := by decide +kernel
theorem dX12_init_20 : decode cX12_init 20 = .ok (.aload_n 0, 1) := by decide +kernel
theorem dX12_init_21 : decode cX12_init 21 = .ok (.bipush 81, 2) := by decide +kernel
theorem dX12_init_23 : decode cX12_init 23 = .ok (.newarray .int, 2) := by decide +kernel
theorem dX12_init_25 : decode cX12_init 25 = .ok (.putfield 16, 3) := by decide +kernel
theorem dX12_init_28 : decode cX12_init 28 = .ok (.aload_n 0, 1) := by decide +kernel
theorem dX12_init_29 : decode cX12_init 29 = .ok (.bipush 81, 2) := by decide +kernel
theorem dX12_init_31 : decode cX12_init 31 = .ok (.newarray .int, 2) := by decide +kernel
theorem dX12_init_33 : decode cX12_init 33 = .ok (.putfield 19, 3) := by decide +kernel
theorem dX12_init_36 : decode cX12_init 36 = .ok (.aload_n 0, 1) := by decide +kernel
theorem dX12_init_37 : decode cX12_init 37 = .ok (.sipush 648, 3) := by decide +kernel
theorem dX12_init_40 : decode cX12_init 40 = .ok (.newarray .int, 2) := by decide +kernel
theorem dX12_init_42 : decode cX12_init 42 = .ok (.putfield 22, 3) := by decide +kernel
theorem dX12_init_45 : decode cX12_init 45 = .ok (.aload_n 0, 1) := by decide +kernel
theorem dX12_init_46 : decode cX12_init 46 = .ok (.bipush 120, 2) := by decide +kernel
theorem dX12_init_48 : decode cX12_init 48 = .ok (.newarray .char, 2) := by decide +kernel
theorem dX12_init_50 : decode cX12_init 50 = .ok (.putfield 25, 3) := by decide +kernel
theorem dX12_init_53 : decode cX12_init 53 = .ok (.aload_n 0, 1) := by decide +kernel
theorem dX12_init_54 : decode cX12_init 54 = .ok (.bipush 60, 2) := by decide +kernel
theorem dX12_init_56 : decode cX12_init 56 = .ok (.newarray .char, 2) := by decide +kernel
theorem dX12_init_58 : decode cX12_init 58 = .ok (.putfield 29, 3) := by decide +kernel
theorem dX12_init_61 : decode cX12_init 61 = .ok (.aload_n 0, 1) := by decide +kernel
theorem dX12_init_62 : decode cX12_init 62 = .ok (.iconst (-1), 1) := by decide +kernel
theorem dX12_init_63 : decode cX12_init 63 = .ok (.putfield 32, 3) := by decide +kernel
theorem dX12_init_66 : decode cX12_init 66 = .ok (.aload_n 0, 1) := by decide +kernel
theorem dX12_init_67 : decode cX12_init 67 = .ok (.iconst (-1), 1) := by decide +kernel
theorem dX12_init_68 : decode cX12_init 68 = .ok (.putfield 36, 3) := by decide +kernel
theorem dX12_init_71 : decode cX12_init 71 = .ok (.aload_n 0, 1) := by decide +kernel
theorem dX12_init_72 : decode cX12_init 72 = .ok (.sipush 240, 3) := by decide +kernel
theorem dX12_init_75 : decode cX12_init 75 = .ok (.newarray .int, 2) := by decide +kernel
theorem dX12_init_77 : decode cX12_init 77 = .ok (.putfield 39, 3) := by decide +kernel
theorem dX12_init_80 : decode cX12_init 80 = .ok (.return_, 1) := by decide +kernel
theorem dX12_thrown_0 : decode cX12_thrown 0 = .ok (.aload_n 0, 1) := by decide +kernel
theorem dX12_thrown_1 : decode cX12_thrown 1 = .ok (.getfield 42, 3) := by decide +kernel
theorem dX12_thrown_4 : decode cX12_thrown 4 = .ok (.ireturn, 1) := by decide +kernel
theorem dX12_in_0 : decode cX12_in 0 = .ok (.iload_n 0, 1) := by decide +kernel
theorem dX12_in_1 : decode cX12_in 1 = .ok (.iload_n 1, 1) := by decide +kernel
theorem dX12_in_2 : decode cX12_in 2 = .ok (.if_icmp .lt 12, 3) := by decide +kernel
theorem dX12_in_5 : decode cX12_in 5 = .ok (.iload_n 0, 1) := by decide +kernel
theorem dX12_in_6 : decode cX12_in 6 = .ok (.iload_n 2, 1) := by decide +kernel
theorem dX12_in_7 : decode cX12_in 7 = .ok (.if_icmp .gt 7, 3) := by decide +kernel
theorem dX12_in_10 : decode cX12_in 10 = .ok (.iconst 1, 1) := by decide +kernel
theorem dX12_in_11 : decode cX12_in 11 = .ok (.goto 4, 3) := by decide +kernel
theorem dX12_in_14 : decode cX12_in 14 = .ok (.iconst 0, 1) := by decide +kernel
theorem dX12_in_15 : decode cX12_in 15 = .ok (.ireturn, 1) := by decide +kernel
theorem dX12_keep_0 : decode cX12_keep 0 = .ok (.aload_n 0, 1) := by decide +kernel
theorem dX12_keep_1 : decode cX12_keep 1 = .ok (.iconst 0, 1) := by decide +kernel
theorem dX12_keep_2 : decode cX12_keep 2 = .ok (.putfield 42, 3) := by decide +kernel
theorem dX12_keep_5 : decode cX12_keep 5 = .ok (.aload_n 0, 1) := by decide +kernel
theorem dX12_keep_6 : decode cX12_keep 6 = .ok (.getfield 9, 3) := by decide +kernel
theorem dX12_keep_9 : decode cX12_keep 9 = .ok (.iconst 0, 1) := by decide +kernel
theorem dX12_keep_10 : decode cX12_keep 10 = .ok (.aload_n 0, 1) := by decide +kernel
theorem dX12_keep_11 : decode cX12_keep 11 = .ok (.getfield 13, 3) := by decide +kernel
theorem dX12_keep_14 : decode cX12_keep 14 = .ok (.iconst 0, 1) := by decide +kernel
theorem dX12_keep_15 : decode cX12_keep 15 = .ok (.bipush 81, 2) := by decide +kernel
theorem dX12_keep_17 : decode cX12_keep 17 = .ok (.invokestatic 45, 3) := by decide +kernel
theorem dX12_keep_20 : decode cX12_keep 20 = .ok (.return_, 1) := by decide +kernel
theorem dX12_ends_0 : decode cX12_ends 0 = .ok (.aload_n 0, 1) := by decide +kernel
theorem dX12_ends_1 : decode cX12_ends 1 = .ok (.getfield 42, 3) := by decide +kernel
theorem dX12_ends_4 : decode cX12_ends 4 = .ok (.ifCond .le 20, 3) := by decide +kernel
theorem dX12_ends_7 : decode cX12_ends 7 = .ok (.aload_n 0, 1) := by decide +kernel
theorem dX12_ends_8 : decode cX12_ends 8 = .ok (.getfield 13, 3) := by decide +kernel
theorem dX12_ends_11 : decode cX12_ends 11 = .ok (.iconst 0, 1) := by decide +kernel
theorem dX12_ends_12 : decode cX12_ends 12 = .ok (.aload_n 0, 1) := by decide +kernel
theorem dX12_ends_13 : decode cX12_ends 13 = .ok (.getfield 9, 3) := by decide +kernel
theorem dX12_ends_16 : decode cX12_ends 16 = .ok (.iconst 0, 1) := by decide +kernel
theorem dX12_ends_17 : decode cX12_ends 17 = .ok (.bipush 81, 2) := by decide +kernel
theorem dX12_ends_19 : decode cX12_ends 19 = .ok (.invokestatic 45, 3) := by decide +kernel
theorem dX12_ends_22 : decode cX12_ends 22 = .ok (.iconst 0, 1) := by decide +kernel
theorem dX12_ends_23 : decode cX12_ends 23 = .ok (.ireturn, 1) := by decide +kernel
theorem dX12_ends_24 : decode cX12_ends 24 = .ok (.aload_n 0, 1) := by decide +kernel
theorem dX12_ends_25 : decode cX12_ends 25 = .ok (.getfield 51, 3) := by decide +kernel
theorem dX12_ends_28 : decode cX12_ends 28 = .ok (.bipush 8, 2) := by decide +kernel
theorem dX12_ends_30 : decode cX12_ends 30 = .ok (.if_icmp .ne 30, 3) := by decide +kernel
theorem dX12_ends_33 : decode cX12_ends 33 = .ok (.aload_n 0, 1) := by decide +kernel
theorem dX12_ends_34 : decode cX12_ends 34 = .ok (.getfield 22, 3) := by decide +kernel
theorem dX12_ends_37 : decode cX12_ends 37 = .ok (.bipush 81, 2) := by decide +kernel
theorem dX12_ends_39 : decode cX12_ends 39 = .ok (.aload_n 0, 1) := by decide +kernel
theorem dX12_ends_40 : decode cX12_ends 40 = .ok (.getfield 22, 3) := by decide +kernel
theorem dX12_ends_43 : decode cX12_ends 43 = .ok (.iconst 0, 1) := by decide +kernel
theorem dX12_ends_44 : decode cX12_ends 44 = .ok (.sipush 567, 3) := by decide +kernel
theorem dX12_ends_47 : decode cX12_ends 47 = .ok (.invokestatic 45, 3) := by decide +kernel
theorem dX12_ends_50 : decode cX12_ends 50 = .ok (.aload_n 0, 1) := by decide +kernel
theorem dX12_ends_51 : decode cX12_ends 51 = .ok (.dup, 1) := by decide +kernel
theorem dX12_ends_52 : decode cX12_ends 52 = .ok (.getfield 51, 3) := by decide +kernel
theorem dX12_ends_55 : decode cX12_ends 55 = .ok (.iconst 1, 1) := by decide +kernel
theorem dX12_ends_56 : decode cX12_ends 56 = .ok (.isub, 1) := by decide +kernel
theorem dX12_ends_57 : decode cX12_ends 57 = .ok (.putfield 51, 3) := by decide +kernel
theorem dX12_ends_60 : decode cX12_ends 60 = .ok (.aload_n 0, 1) := by decide +kernel
theorem dX12_ends_61 : decode cX12_ends 61 = .ok (.getfield 13, 3) := by decide +kernel
theorem dX12_ends_64 : decode cX12_ends 64 = .ok (.iconst 0, 1) := by decide +kernel
theorem dX12_ends_65 : decode cX12_ends 65 = .ok (.aload_n 0, 1) := by decide +kernel
theorem dX12_ends_66 : decode cX12_ends 66 = .ok (.getfield 22, 3) := by decide +kernel
theorem dX12_ends_69 : decode cX12_ends 69 = .ok (.bipush 81, 2) := by decide +kernel
theorem dX12_ends_71 : decode cX12_ends 71 = .ok (.aload_n 0, 1) := by decide +kernel
theorem dX12_ends_72 : decode cX12_ends 72 = .ok (.getfield 51, 3) := by decide +kernel
theorem dX12_ends_75 : decode cX12_ends 75 = .ok (.imul, 1) := by decide +kernel
theorem dX12_ends_76 : decode cX12_ends 76 = .ok (.bipush 81, 2) := by decide +kernel
theorem dX12_ends_78 : decode cX12_ends 78 = .ok (.invokestatic 45, 3) := by decide +kernel
theorem dX12_ends_81 : decode cX12_ends 81 = .ok (.aload_n 0, 1) := by decide +kernel
theorem dX12_ends_82 : decode cX12_ends 82 = .ok (.dup, 1) := by decide +kernel
theorem dX12_ends_83 : decode cX12_ends 83 = .ok (.getfield 51, 3) := by decide +kernel
theorem dX12_ends_86 : decode cX12_ends 86 = .ok (.iconst 1, 1) := by decide +kernel
theorem dX12_ends_87 : decode cX12_ends 87 = .ok (.iadd, 1) := by decide +kernel
theorem dX12_ends_88 : decode cX12_ends 88 = .ok (.putfield 51, 3) := by decide +kernel
theorem dX12_ends_91 : decode cX12_ends 91 = .ok (.iload_n 1, 1) := by decide +kernel
theorem dX12_ends_92 : decode cX12_ends 92 = .ok (.ireturn, 1) := by decide +kernel
theorem dX12_fails_0 : decode cX12_fails 0 = .ok (.aload_n 0, 1) := by decide +kernel
theorem dX12_fails_1 : decode cX12_fails 1 = .ok (.iload_n 1, 1) := by decide +kernel
theorem dX12_fails_2 : decode cX12_fails 2 = .ok (.putfield 42, 3) := by decide +kernel
theorem dX12_fails_5 : decode cX12_fails 5 = .ok (.iconst 0, 1) := by decide +kernel
theorem dX12_fails_6 : decode cX12_fails 6 = .ok (.ireturn, 1) := by decide +kernel
theorem dX12_isThere_0 : decode cX12_isThere 0 = .ok (.aload_n 0, 1) := by decide +kernel
theorem dX12_isThere_1 : decode cX12_isThere 1 = .ok (.iload_n 1, 1) := by decide +kernel
theorem dX12_isThere_2 : decode cX12_isThere 2 = .ok (.ifCond .eq 7, 3) := by decide +kernel
theorem dX12_isThere_5 : decode cX12_isThere 5 = .ok (.iconst 0, 1) := by decide +kernel
theorem dX12_isThere_6 : decode cX12_isThere 6 = .ok (.goto 4, 3) := by decide +kernel
theorem dX12_isThere_9 : decode cX12_isThere 9 = .ok (.iconst 1, 1) := by decide +kernel
theorem dX12_isThere_10 : decode cX12_isThere 10 = .ok (.putfield 42, 3) := by decide +kernel
theorem dX12_isThere_13 : decode cX12_isThere 13 = .ok (.iload_n 1, 1) := by decide +kernel
theorem dX12_isThere_14 : decode cX12_isThere 14 = .ok (.ireturn, 1) := by decide +kernel
theorem dX12_isShip_0 : decode cX12_isShip 0 = .ok (.iload_n 1, 1) := by decide +kernel
theorem dX12_isShip_1 : decode cX12_isShip 1 = .ok (.iconst 0, 1) := by decide +kernel
theorem dX12_isShip_2 : decode cX12_isShip 2 = .ok (.aload_n 0, 1) := by decide +kernel
theorem dX12_isShip_3 : decode cX12_isShip 3 = .ok (.getfield 9, 3) := by decide +kernel
theorem dX12_isShip_6 : decode cX12_isShip 6 = .ok (.iconst 0, 1) := by decide +kernel
theorem dX12_isShip_7 : decode cX12_isShip 7 = .ok (.iaload, 1) := by decide +kernel
theorem dX12_isShip_8 : decode cX12_isShip 8 = .ok (.iconst 1, 1) := by decide +kernel
theorem dX12_isShip_9 : decode cX12_isShip 9 = .ok (.isub, 1) := by decide +kernel
theorem dX12_isShip_10 : decode cX12_isShip 10 = .ok (.invokestatic 54, 3) := by decide +kernel
theorem dX12_isShip_13 : decode cX12_isShip 13 = .ok (.ireturn, 1) := by decide +kernel
theorem dX12_isLamp_0 : decode cX12_isLamp 0 = .ok (.iload_n 1, 1) := by decide +kernel
theorem dX12_isLamp_1 : decode cX12_isLamp 1 = .ok (.iconst 0, 1) := by decide +kernel
theorem dX12_isLamp_2 : decode cX12_isLamp 2 = .ok (.aload_n 0, 1) := by decide +kernel
theorem dX12_isLamp_3 : decode cX12_isLamp 3 = .ok (.getfield 9, 3) := by decide +kernel
theorem dX12_isLamp_6 : decode cX12_isLamp 6 = .ok (.iconst 1, 1) := by decide +kernel
theorem dX12_isLamp_7 : decode cX12_isLamp 7 = .ok (.iaload, 1) := by decide +kernel
theorem dX12_isLamp_8 : decode cX12_isLamp 8 = .ok (.iconst 1, 1) := by decide +kernel
theorem dX12_isLamp_9 : decode cX12_isLamp 9 = .ok (.isub, 1) := by decide +kernel
theorem dX12_isLamp_10 : decode cX12_isLamp 10 = .ok (.invokestatic 54, 3) := by decide +kernel
theorem dX12_isLamp_13 : decode cX12_isLamp 13 = .ok (.ireturn, 1) := by decide +kernel
theorem dX12_ofShip_0 : decode cX12_ofShip 0 = .ok (.aload_n 0, 1) := by decide +kernel
theorem dX12_ofShip_1 : decode cX12_ofShip 1 = .ok (.getfield 9, 3) := by decide +kernel
theorem dX12_ofShip_4 : decode cX12_ofShip 4 = .ok (.bipush 7, 2) := by decide +kernel
theorem dX12_ofShip_6 : decode cX12_ofShip 6 = .ok (.iconst 3, 1) := by decide +kernel
theorem dX12_ofShip_7 : decode cX12_ofShip 7 = .ok (.iload_n 1, 1) := by decide +kernel
theorem dX12_ofShip_8 : decode cX12_ofShip 8 = .ok (.imul, 1) := by decide +kernel
theorem dX12_ofShip_9 : decode cX12_ofShip 9 = .ok (.iadd, 1) := by decide +kernel
theorem dX12_ofShip_10 : decode cX12_ofShip 10 = .ok (.iload_n 2, 1) := by decide +kernel
theorem dX12_ofShip_11 : decode cX12_ofShip 11 = .ok (.iadd, 1) := by decide +kernel
theorem dX12_ofShip_12 : decode cX12_ofShip 12 = .ok (.iaload, 1) := by decide +kernel
theorem dX12_ofShip_13 : decode cX12_ofShip 13 = .ok (.ireturn, 1) := by decide +kernel
theorem dX12_of_0 : decode cX12_of 0 = .ok (.aload_n 0, 1) := by decide +kernel
theorem dX12_of_1 : decode cX12_of 1 = .ok (.getfield 9, 3) := by decide +kernel
theorem dX12_of_4 : decode cX12_of 4 = .ok (.bipush 25, 2) := by decide +kernel
theorem dX12_of_6 : decode cX12_of 6 = .ok (.iconst 5, 1) := by decide +kernel
theorem dX12_of_7 : decode cX12_of 7 = .ok (.iload_n 1, 1) := by decide +kernel
theorem dX12_of_8 : decode cX12_of 8 = .ok (.imul, 1) := by decide +kernel
theorem dX12_of_9 : decode cX12_of 9 = .ok (.iadd, 1) := by decide +kernel
theorem dX12_of_10 : decode cX12_of 10 = .ok (.iload_n 2, 1) := by decide +kernel
theorem dX12_of_11 : decode cX12_of 11 = .ok (.iadd, 1) := by decide +kernel
theorem dX12_of_12 : decode cX12_of 12 = .ok (.iaload, 1) := by decide +kernel
theorem dX12_of_13 : decode cX12_of 13 = .ok (.ireturn, 1) := by decide +kernel
theorem dX12_sets_0 : decode cX12_sets 0 = .ok (.aload_n 0, 1) := by decide +kernel
theorem dX12_sets_1 : decode cX12_sets 1 = .ok (.getfield 9, 3) := by decide +kernel
theorem dX12_sets_4 : decode cX12_sets 4 = .ok (.bipush 25, 2) := by decide +kernel
theorem dX12_sets_6 : decode cX12_sets 6 = .ok (.iconst 5, 1) := by decide +kernel
theorem dX12_sets_7 : decode cX12_sets 7 = .ok (.iload_n 1, 1) := by decide +kernel
theorem dX12_sets_8 : decode cX12_sets 8 = .ok (.imul, 1) := by decide +kernel
theorem dX12_sets_9 : decode cX12_sets 9 = .ok (.iadd, 1) := by decide +kernel
theorem dX12_sets_10 : decode cX12_sets 10 = .ok (.iload_n 2, 1) := by decide +kernel
theorem dX12_sets_11 : decode cX12_sets 11 = .ok (.iadd, 1) := by decide +kernel
theorem dX12_sets_12 : decode cX12_sets 12 = .ok (.iload_n 3, 1) := by decide +kernel
theorem dX12_sets_13 : decode cX12_sets 13 = .ok (.iastore, 1) := by decide +kernel
theorem dX12_sets_14 : decode cX12_sets 14 = .ok (.return_, 1) := by decide +kernel
theorem dX12_isOut_0 : decode cX12_isOut 0 = .ok (.aload_n 0, 1) := by decide +kernel
theorem dX12_isOut_1 : decode cX12_isOut 1 = .ok (.iload_n 1, 1) := by decide +kernel
theorem dX12_isOut_2 : decode cX12_isOut 2 = .ok (.iconst 1, 1) := by decide +kernel
theorem dX12_isOut_3 : decode cX12_isOut 3 = .ok (.invokevirtual 58, 3) := by decide +kernel
theorem dX12_isOut_6 : decode cX12_isOut 6 = .ok (.ifCond .le 7, 3) := by decide +kernel
theorem dX12_isOut_9 : decode cX12_isOut 9 = .ok (.iconst 1, 1) := by decide +kernel
theorem dX12_isOut_10 : decode cX12_isOut 10 = .ok (.goto 4, 3) := by decide +kernel
theorem dX12_isOut_13 : decode cX12_isOut 13 = .ok (.iconst 0, 1) := by decide +kernel
theorem dX12_isOut_14 : decode cX12_isOut 14 = .ok (.ireturn, 1) := by decide +kernel
theorem dX12_pays_0 : decode cX12_pays 0 = .ok (.aload_n 0, 1) := by decide +kernel
theorem dX12_pays_1 : decode cX12_pays 1 = .ok (.getfield 9, 3) := by decide +kernel
theorem dX12_pays_4 : decode cX12_pays 4 = .ok (.bipush 7, 2) := by decide +kernel
theorem dX12_pays_6 : decode cX12_pays 6 = .ok (.iconst 3, 1) := by decide +kernel
theorem dX12_pays_7 : decode cX12_pays 7 = .ok (.iload_n 1, 1) := by decide +kernel
theorem dX12_pays_8 : decode cX12_pays 8 = .ok (.imul, 1) := by decide +kernel
theorem dX12_pays_9 : decode cX12_pays 9 = .ok (.iadd, 1) := by decide +kernel
theorem dX12_pays_10 : decode cX12_pays 10 = .ok (.dup2, 1) := by decide +kernel
theorem dX12_pays_11 : decode cX12_pays 11 = .ok (.iaload, 1) := by decide +kernel
theorem dX12_pays_12 : decode cX12_pays 12 = .ok (.iload_n 2, 1) := by decide +kernel
theorem dX12_pays_13 : decode cX12_pays 13 = .ok (.isub, 1) := by decide +kernel
theorem dX12_pays_14 : decode cX12_pays 14 = .ok (.iastore, 1) := by decide +kernel
theorem dX12_pays_15 : decode cX12_pays 15 = .ok (.aload_n 0, 1) := by decide +kernel
theorem dX12_pays_16 : decode cX12_pays 16 = .ok (.getfield 9, 3) := by decide +kernel
theorem dX12_pays_19 : decode cX12_pays 19 = .ok (.iconst 5, 1) := by decide +kernel
theorem dX12_pays_20 : decode cX12_pays 20 = .ok (.dup2, 1) := by decide +kernel
theorem dX12_pays_21 : decode cX12_pays 21 = .ok (.iaload, 1) := by decide +kernel
theorem dX12_pays_22 : decode cX12_pays 22 = .ok (.iload_n 2, 1) := by decide +kernel
theorem dX12_pays_23 : decode cX12_pays 23 = .ok (.iadd, 1) := by decide +kernel
theorem dX12_pays_24 : decode cX12_pays 24 = .ok (.iastore, 1) := by decide +kernel
theorem dX12_pays_25 : decode cX12_pays 25 = .ok (.return_, 1) := by decide +kernel
theorem dX12_requestFor_0 : decode cX12_requestFor 0 = .ok (.iconst (-1), 1) := by decide +kernel
theorem dX12_requestFor_1 : decode cX12_requestFor 1 = .ok (.istore_n 2, 1) := by decide +kernel
theorem dX12_requestFor_2 : decode cX12_requestFor 2 = .ok (.iconst 0, 1) := by decide +kernel
theorem dX12_requestFor_3 : decode cX12_requestFor 3 = .ok (.istore_n 3, 1) := by decide +kernel
theorem dX12_requestFor_4 : decode cX12_requestFor 4 = .ok (.iload_n 3, 1) := by decide +kernel
theorem dX12_requestFor_5 : decode cX12_requestFor 5 = .ok (.aload_n 0, 1) := by decide +kernel
theorem dX12_requestFor_6 : decode cX12_requestFor 6 = .ok (.getfield 9, 3) := by decide +kernel
theorem dX12_requestFor_9 : decode cX12_requestFor 9 = .ok (.bipush 6, 2) := by decide +kernel
theorem dX12_requestFor_11 : decode cX12_requestFor 11 = .ok (.iaload, 1) := by decide +kernel
theorem dX12_requestFor_12 : decode cX12_requestFor 12 = .ok (.if_icmp .ge 30, 3) := by decide +kernel
theorem dX12_requestFor_15 : decode cX12_requestFor 15 = .ok (.aload_n 0, 1) := by decide +kernel
theorem dX12_requestFor_16 : decode cX12_requestFor 16 = .ok (.getfield 9, 3) := by decide +kernel
theorem dX12_requestFor_19 : decode cX12_requestFor 19 = .ok (.bipush 65, 2) := by decide +kernel
theorem dX12_requestFor_21 : decode cX12_requestFor 21 = .ok (.iconst 2, 1) := by decide +kernel
theorem dX12_requestFor_22 : decode cX12_requestFor 22 = .ok (.iload_n 3, 1) := by decide +kernel
theorem dX12_requestFor_23 : decode cX12_requestFor 23 = .ok (.imul, 1) := by decide +kernel
theorem dX12_requestFor_24 : decode cX12_requestFor 24 = .ok (.iadd, 1) := by decide +kernel
theorem dX12_requestFor_25 : decode cX12_requestFor 25 = .ok (.iaload, 1) := by decide +kernel
theorem dX12_requestFor_26 : decode cX12_requestFor 26 = .ok (.iload_n 1, 1) := by decide +kernel
theorem dX12_requestFor_27 : decode cX12_requestFor 27 = .ok (.if_icmp .ne 7, 3) := by decide +kernel
theorem dX12_requestFor_30 : decode cX12_requestFor 30 = .ok (.iload_n 3, 1) := by decide +kernel
theorem dX12_requestFor_31 : decode cX12_requestFor 31 = .ok (.goto 4, 3) := by decide +kernel
theorem dX12_requestFor_34 : decode cX12_requestFor 34 = .ok (.iload_n 2, 1) := by decide +kernel
theorem dX12_requestFor_35 : decode cX12_requestFor 35 = .ok (.istore_n 2, 1) := by decide +kernel
theorem dX12_requestFor_36 : decode cX12_requestFor 36 = .ok (.iinc 3 1, 3) := by decide +kernel
theorem dX12_requestFor_39 : decode cX12_requestFor 39 = .ok (.goto (-35), 3) := by decide +kernel
theorem dX12_requestFor_42 : decode cX12_requestFor 42 = .ok (.iload_n 2, 1) := by decide +kernel
theorem dX12_requestFor_43 : decode cX12_requestFor 43 = .ok (.ireturn, 1) := by decide +kernel
theorem dX12_frees_0 : decode cX12_frees 0 = .ok (.aload_n 0, 1) := by decide +kernel
theorem dX12_frees_1 : decode cX12_frees 1 = .ok (.iload_n 1, 1) := by decide +kernel
theorem dX12_frees_2 : decode cX12_frees 2 = .ok (.invokevirtual 62, 3) := by decide +kernel
theorem dX12_frees_5 : decode cX12_frees 5 = .ok (.istore_n 2, 1) := by decide +kernel
theorem dX12_frees_6 : decode cX12_frees 6 = .ok (.iload_n 2, 1) := by decide +kernel
theorem dX12_frees_7 : decode cX12_frees 7 = .ok (.ifCond .lt 47, 3) := by decide +kernel
theorem dX12_frees_10 : decode cX12_frees 10 = .ok (.aload_n 0, 1) := by decide +kernel
theorem dX12_frees_11 : decode cX12_frees 11 = .ok (.getfield 9, 3) := by decide +kernel
theorem dX12_frees_14 : decode cX12_frees 14 = .ok (.bipush 6, 2) := by decide +kernel
theorem dX12_frees_16 : decode cX12_frees 16 = .ok (.dup2, 1) := by decide +kernel
theorem dX12_frees_17 : decode cX12_frees 17 = .ok (.iaload, 1) := by decide +kernel
theorem dX12_frees_18 : decode cX12_frees 18 = .ok (.iconst 1, 1) := by decide +kernel
theorem dX12_frees_19 : decode cX12_frees 19 = .ok (.isub, 1) := by decide +kernel
theorem dX12_frees_20 : decode cX12_frees 20 = .ok (.iastore, 1) := by decide +kernel
theorem dX12_frees_21 : decode cX12_frees 21 = .ok (.bipush 65, 2) := by decide +kernel
theorem dX12_frees_23 : decode cX12_frees 23 = .ok (.iconst 2, 1) := by decide +kernel
theorem dX12_frees_24 : decode cX12_frees 24 = .ok (.iload_n 2, 1) := by decide +kernel
theorem dX12_frees_25 : decode cX12_frees 25 = .ok (.imul, 1) := by decide +kernel
theorem dX12_frees_26 : decode cX12_frees 26 = .ok (.iadd, 1) := by decide +kernel
theorem dX12_frees_27 : decode cX12_frees 27 = .ok (.istore_n 3, 1) := by decide +kernel
theorem dX12_frees_28 : decode cX12_frees 28 = .ok (.aload_n 0, 1) := by decide +kernel
theorem dX12_frees_29 : decode cX12_frees 29 = .ok (.getfield 9, 3) := by decide +kernel
theorem dX12_frees_32 : decode cX12_frees 32 = .ok (.iload_n 3, 1) := by decide +kernel
theorem dX12_frees_33 : decode cX12_frees 33 = .ok (.iconst 2, 1) := by decide +kernel
theorem dX12_frees_34 : decode cX12_frees 34 = .ok (.iadd, 1) := by decide +kernel
theorem dX12_frees_35 : decode cX12_frees 35 = .ok (.aload_n 0, 1) := by decide +kernel
theorem dX12_frees_36 : decode cX12_frees 36 = .ok (.getfield 9, 3) := by decide +kernel
theorem dX12_frees_39 : decode cX12_frees 39 = .ok (.iload_n 3, 1) := by decide +kernel
theorem dX12_frees_40 : decode cX12_frees 40 = .ok (.iconst 2, 1) := by decide +kernel
theorem dX12_frees_41 : decode cX12_frees 41 = .ok (.aload_n 0, 1) := by decide +kernel
theorem dX12_frees_42 : decode cX12_frees 42 = .ok (.getfield 9, 3) := by decide +kernel
theorem dX12_frees_45 : decode cX12_frees 45 = .ok (.bipush 6, 2) := by decide +kernel
theorem dX12_frees_47 : decode cX12_frees 47 = .ok (.iaload, 1) := by decide +kernel
theorem dX12_frees_48 : decode cX12_frees 48 = .ok (.iload_n 2, 1) := by decide +kernel
theorem dX12_frees_49 : decode cX12_frees 49 = .ok (.isub, 1) := by decide +kernel
theorem dX12_frees_50 : decode cX12_frees 50 = .ok (.imul, 1) := by decide +kernel
theorem dX12_frees_51 : decode cX12_frees 51 = .ok (.invokestatic 45, 3) := by decide +kernel
theorem dX12_frees_54 : decode cX12_frees 54 = .ok (.aload_n 0, 1) := by decide +kernel
theorem dX12_frees_55 : decode cX12_frees 55 = .ok (.iload_n 1, 1) := by decide +kernel
theorem dX12_frees_56 : decode cX12_frees 56 = .ok (.iconst 1, 1) := by decide +kernel
theorem dX12_frees_57 : decode cX12_frees 57 = .ok (.iconst 0, 1) := by decide +kernel
theorem dX12_frees_58 : decode cX12_frees 58 = .ok (.invokevirtual 66, 3) := by decide +kernel
theorem dX12_frees_61 : decode cX12_frees 61 = .ok (.aload_n 0, 1) := by decide +kernel
theorem dX12_frees_62 : decode cX12_frees 62 = .ok (.iload_n 1, 1) := by decide +kernel
theorem dX12_frees_63 : decode cX12_frees 63 = .ok (.iconst 2, 1) := by decide +kernel
theorem dX12_frees_64 : decode cX12_frees 64 = .ok (.iconst 0, 1) := by decide +kernel
theorem dX12_frees_65 : decode cX12_frees 65 = .ok (.invokevirtual 66, 3) := by decide +kernel
theorem dX12_frees_68 : decode cX12_frees 68 = .ok (.return_, 1) := by decide +kernel
theorem dX12_doAddShip_0 : decode cX12_doAddShip 0 = .ok (.aload_n 0, 1) := by decide +kernel
theorem dX12_doAddShip_1 : decode cX12_doAddShip 1 = .ok (.getfield 9, 3) := by decide +kernel
theorem dX12_doAddShip_4 : decode cX12_doAddShip 4 = .ok (.iconst 0, 1) := by decide +kernel
theorem dX12_doAddShip_5 : decode cX12_doAddShip 5 = .ok (.iaload, 1) := by decide +kernel
theorem dX12_doAddShip_6 : decode cX12_doAddShip 6 = .ok (.istore_n 1, 1) := by decide +kernel
theorem dX12_doAddShip_7 : decode cX12_doAddShip 7 = .ok (.iload_n 1, 1) := by decide +kernel
theorem dX12_doAddShip_8 : decode cX12_doAddShip 8 = .ok (.bipush 6, 2) := by decide +kernel
theorem dX12_doAddShip_10 : decode cX12_doAddShip 10 = .ok (.if_icmp .ne 9, 3) := by decide +kernel
theorem dX12_doAddShip_13 : decode cX12_doAddShip 13 = .ok (.aload_n 0, 1) := by decide +kernel
theorem dX12_doAddShip_14 : decode cX12_doAddShip 14 = .ok (.iconst 1, 1) := by decide +kernel
theorem dX12_doAddShip_15 : decode cX12_doAddShip 15 = .ok (.invokevirtual 70, 3) := by decide +kernel
theorem dX12_doAddShip_18 : decode cX12_doAddShip 18 = .ok (.ireturn, 1) := by decide +kernel
theorem dX12_doAddShip_19 : decode cX12_doAddShip 19 = .ok (.aload_n 0, 1) := by decide +kernel
theorem dX12_doAddShip_20 : decode cX12_doAddShip 20 = .ok (.getfield 9, 3) := by decide +kernel
theorem dX12_doAddShip_23 : decode cX12_doAddShip 23 = .ok (.bipush 7, 2) := by decide +kernel
theorem dX12_doAddShip_25 : decode cX12_doAddShip 25 = .ok (.iconst 3, 1) := by decide +kernel
theorem dX12_doAddShip_26 : decode cX12_doAddShip 26 = .ok (.iload_n 1, 1) := by decide +kernel
theorem dX12_doAddShip_27 : decode cX12_doAddShip 27 = .ok (.imul, 1) := by decide +kernel
theorem dX12_doAddShip_28 : decode cX12_doAddShip 28 = .ok (.iadd, 1) := by decide +kernel
theorem dX12_doAddShip_29 : decode cX12_doAddShip 29 = .ok (.bipush 100, 2) := by decide +kernel
theorem dX12_doAddShip_31 : decode cX12_doAddShip 31 = .ok (.iastore, 1) := by decide +kernel
theorem dX12_doAddShip_32 : decode cX12_doAddShip 32 = .ok (.aload_n 0, 1) := by decide +kernel
theorem dX12_doAddShip_33 : decode cX12_doAddShip 33 = .ok (.getfield 9, 3) := by decide +kernel
theorem dX12_doAddShip_36 : decode cX12_doAddShip 36 = .ok (.bipush 7, 2) := by decide +kernel
theorem dX12_doAddShip_38 : decode cX12_doAddShip 38 = .ok (.iconst 3, 1) := by decide +kernel
theorem dX12_doAddShip_39 : decode cX12_doAddShip 39 = .ok (.iload_n 1, 1) := by decide +kernel
theorem dX12_doAddShip_40 : decode cX12_doAddShip 40 = .ok (.imul, 1) := by decide +kernel
theorem dX12_doAddShip_41 : decode cX12_doAddShip 41 = .ok (.iadd, 1) := by decide +kernel
theorem dX12_doAddShip_42 : decode cX12_doAddShip 42 = .ok (.iconst 1, 1) := by decide +kernel
theorem dX12_doAddShip_43 : decode cX12_doAddShip 43 = .ok (.iadd, 1) := by decide +kernel
theorem dX12_doAddShip_44 : decode cX12_doAddShip 44 = .ok (.iconst 0, 1) := by decide +kernel
theorem dX12_doAddShip_45 : decode cX12_doAddShip 45 = .ok (.iastore, 1) := by decide +kernel
theorem dX12_doAddShip_46 : decode cX12_doAddShip 46 = .ok (.aload_n 0, 1) := by decide +kernel
theorem dX12_doAddShip_47 : decode cX12_doAddShip 47 = .ok (.getfield 9, 3) := by decide +kernel
theorem dX12_doAddShip_50 : decode cX12_doAddShip 50 = .ok (.bipush 7, 2) := by decide +kernel
theorem dX12_doAddShip_52 : decode cX12_doAddShip 52 = .ok (.iconst 3, 1) := by decide +kernel
theorem dX12_doAddShip_53 : decode cX12_doAddShip 53 = .ok (.iload_n 1, 1) := by decide +kernel
theorem dX12_doAddShip_54 : decode cX12_doAddShip 54 = .ok (.imul, 1) := by decide +kernel
theorem dX12_doAddShip_55 : decode cX12_doAddShip 55 = .ok (.iadd, 1) := by decide +kernel
theorem dX12_doAddShip_56 : decode cX12_doAddShip 56 = .ok (.iconst 2, 1) := by decide +kernel
theorem dX12_doAddShip_57 : decode cX12_doAddShip 57 = .ok (.iadd, 1) := by decide +kernel
theorem dX12_doAddShip_58 : decode cX12_doAddShip 58 = .ok (.iconst 0, 1) := by decide +kernel
theorem dX12_doAddShip_59 : decode cX12_doAddShip 59 = .ok (.iastore, 1) := by decide +kernel
theorem dX12_doAddShip_60 : decode cX12_doAddShip 60 = .ok (.aload_n 0, 1) := by decide +kernel
theorem dX12_doAddShip_61 : decode cX12_doAddShip 61 = .ok (.getfield 9, 3) := by decide +kernel
theorem dX12_doAddShip_64 : decode cX12_doAddShip 64 = .ok (.iconst 0, 1) := by decide +kernel
theorem dX12_doAddShip_65 : decode cX12_doAddShip 65 = .ok (.dup2, 1) := by decide +kernel
theorem dX12_doAddShip_66 : decode cX12_doAddShip 66 = .ok (.iaload, 1) := by decide +kernel
theorem dX12_doAddShip_67 : decode cX12_doAddShip 67 = .ok (.iconst 1, 1) := by decide +kernel
theorem dX12_doAddShip_68 : decode cX12_doAddShip 68 = .ok (.iadd, 1) := by decide +kernel
theorem dX12_doAddShip_69 : decode cX12_doAddShip 69 = .ok (.iastore, 1) := by decide +kernel
theorem dX12_doAddShip_70 : decode cX12_doAddShip 70 = .ok (.iload_n 1, 1) := by decide +kernel
theorem dX12_doAddShip_71 : decode cX12_doAddShip 71 = .ok (.ireturn, 1) := by decide +kernel
theorem dX12_addShip_0 : decode cX12_addShip 0 = .ok (.aload_n 0, 1) := by decide +kernel
theorem dX12_addShip_1 : decode cX12_addShip 1 = .ok (.invokevirtual 73, 3) := by decide +kernel
theorem dX12_addShip_4 : decode cX12_addShip 4 = .ok (.aload_n 0, 1) := by decide +kernel
theorem dX12_addShip_5 : decode cX12_addShip 5 = .ok (.aload_n 0, 1) := by decide +kernel
theorem dX12_addShip_6 : decode cX12_addShip 6 = .ok (.invokevirtual 76, 3) := by decide +kernel
theorem dX12_addShip_9 : decode cX12_addShip 9 = .ok (.invokevirtual 80, 3) := by decide +kernel
theorem dX12_addShip_12 : decode cX12_addShip 12 = .ok (.ireturn, 1) := by decide +kernel
theorem dX12_doAddLamp_0 : decode cX12_doAddLamp 0 = .ok (.aload_n 0, 1) := by decide +kernel
theorem dX12_doAddLamp_1 : decode cX12_doAddLamp 1 = .ok (.getfield 9, 3) := by decide +kernel
theorem dX12_doAddLamp_4 : decode cX12_doAddLamp 4 = .ok (.iconst 1, 1) := by decide +kernel
theorem dX12_doAddLamp_5 : decode cX12_doAddLamp 5 = .ok (.iaload, 1) := by decide +kernel
theorem dX12_doAddLamp_6 : decode cX12_doAddLamp 6 = .ok (.istore_n 2, 1) := by decide +kernel
theorem dX12_doAddLamp_7 : decode cX12_doAddLamp 7 = .ok (.iload_n 1, 1) := by decide +kernel
theorem dX12_doAddLamp_8 : decode cX12_doAddLamp 8 = .ok (.iconst 1, 1) := by decide +kernel
theorem dX12_doAddLamp_9 : decode cX12_doAddLamp 9 = .ok (.iconst 3, 1) := by decide +kernel
theorem dX12_doAddLamp_10 : decode cX12_doAddLamp 10 = .ok (.invokestatic 54, 3) := by decide +kernel
theorem dX12_doAddLamp_13 : decode cX12_doAddLamp 13 = .ok (.ifCond .ne 9, 3) := by decide +kernel
theorem dX12_doAddLamp_16 : decode cX12_doAddLamp 16 = .ok (.aload_n 0, 1) := by decide +kernel
theorem dX12_doAddLamp_17 : decode cX12_doAddLamp 17 = .ok (.iconst 1, 1) := by decide +kernel
theorem dX12_doAddLamp_18 : decode cX12_doAddLamp 18 = .ok (.invokevirtual 70, 3) := by decide +kernel
theorem dX12_doAddLamp_21 : decode cX12_doAddLamp 21 = .ok (.ireturn, 1) := by decide +kernel
theorem dX12_doAddLamp_22 : decode cX12_doAddLamp 22 = .ok (.iload_n 2, 1) := by decide +kernel
theorem dX12_doAddLamp_23 : decode cX12_doAddLamp 23 = .ok (.bipush 8, 2) := by decide +kernel
theorem dX12_doAddLamp_25 : decode cX12_doAddLamp 25 = .ok (.if_icmp .ne 9, 3) := by decide +kernel
theorem dX12_doAddLamp_28 : decode cX12_doAddLamp 28 = .ok (.aload_n 0, 1) := by decide +kernel
theorem dX12_doAddLamp_29 : decode cX12_doAddLamp 29 = .ok (.iconst 2, 1) := by decide +kernel
theorem dX12_doAddLamp_30 : decode cX12_doAddLamp 30 = .ok (.invokevirtual 70, 3) := by decide +kernel
theorem dX12_doAddLamp_33 : decode cX12_doAddLamp 33 = .ok (.ireturn, 1) := by decide +kernel
theorem dX12_doAddLamp_34 : decode cX12_doAddLamp 34 = .ok (.iconst 0, 1) := by decide +kernel
theorem dX12_doAddLamp_35 : decode cX12_doAddLamp 35 = .ok (.istore_n 3, 1) := by decide +kernel
theorem dX12_doAddLamp_36 : decode cX12_doAddLamp 36 = .ok (.iload_n 3, 1) := by decide +kernel
theorem dX12_doAddLamp_37 : decode cX12_doAddLamp 37 = .ok (.iconst 5, 1) := by decide +kernel
theorem dX12_doAddLamp_38 : decode cX12_doAddLamp 38 = .ok (.if_icmp .ge 16, 3) := by decide +kernel
theorem dX12_doAddLamp_41 : decode cX12_doAddLamp 41 = .ok (.aload_n 0, 1) := by decide +kernel
theorem dX12_doAddLamp_42 : decode cX12_doAddLamp 42 = .ok (.iload_n 2, 1) := by decide +kernel
theorem dX12_doAddLamp_43 : decode cX12_doAddLamp 43 = .ok (.iload_n 3, 1) := by decide +kernel
theorem dX12_doAddLamp_44 : decode cX12_doAddLamp 44 = .ok (.iconst 0, 1) := by decide +kernel
theorem dX12_doAddLamp_45 : decode cX12_doAddLamp 45 = .ok (.invokevirtual 66, 3) := by decide +kernel
theorem dX12_doAddLamp_48 : decode cX12_doAddLamp 48 = .ok (.iinc 3 1, 3) := by decide +kernel
theorem dX12_doAddLamp_51 : decode cX12_doAddLamp 51 = .ok (.goto (-15), 3) := by decide +kernel
theorem dX12_doAddLamp_54 : decode cX12_doAddLamp 54 = .ok (.aload_n 0, 1) := by decide +kernel
theorem dX12_doAddLamp_55 : decode cX12_doAddLamp 55 = .ok (.iload_n 2, 1) := by decide +kernel
theorem dX12_doAddLamp_56 : decode cX12_doAddLamp 56 = .ok (.iconst 0, 1) := by decide +kernel
theorem dX12_doAddLamp_57 : decode cX12_doAddLamp 57 = .ok (.iload_n 1, 1) := by decide +kernel
theorem dX12_doAddLamp_58 : decode cX12_doAddLamp 58 = .ok (.invokevirtual 66, 3) := by decide +kernel
theorem dX12_doAddLamp_61 : decode cX12_doAddLamp 61 = .ok (.aload_n 0, 1) := by decide +kernel
theorem dX12_doAddLamp_62 : decode cX12_doAddLamp 62 = .ok (.getfield 9, 3) := by decide +kernel
theorem dX12_doAddLamp_65 : decode cX12_doAddLamp 65 = .ok (.iconst 1, 1) := by decide +kernel
theorem dX12_doAddLamp_66 : decode cX12_doAddLamp 66 = .ok (.dup2, 1) := by decide +kernel
theorem dX12_doAddLamp_67 : decode cX12_doAddLamp 67 = .ok (.iaload, 1) := by decide +kernel
theorem dX12_doAddLamp_68 : decode cX12_doAddLamp 68 = .ok (.iconst 1, 1) := by decide +kernel
theorem dX12_doAddLamp_69 : decode cX12_doAddLamp 69 = .ok (.iadd, 1) := by decide +kernel
theorem dX12_doAddLamp_70 : decode cX12_doAddLamp 70 = .ok (.iastore, 1) := by decide +kernel
theorem dX12_doAddLamp_71 : decode cX12_doAddLamp 71 = .ok (.iload_n 2, 1) := by decide +kernel
theorem dX12_doAddLamp_72 : decode cX12_doAddLamp 72 = .ok (.ireturn, 1) := by decide +kernel
theorem dX12_addLamp_0 : decode cX12_addLamp 0 = .ok (.aload_n 0, 1) := by decide +kernel
theorem dX12_addLamp_1 : decode cX12_addLamp 1 = .ok (.invokevirtual 73, 3) := by decide +kernel
theorem dX12_addLamp_4 : decode cX12_addLamp 4 = .ok (.aload_n 0, 1) := by decide +kernel
theorem dX12_addLamp_5 : decode cX12_addLamp 5 = .ok (.aload_n 0, 1) := by decide +kernel
theorem dX12_addLamp_6 : decode cX12_addLamp 6 = .ok (.iload_n 1, 1) := by decide +kernel
theorem dX12_addLamp_7 : decode cX12_addLamp 7 = .ok (.invokevirtual 83, 3) := by decide +kernel
theorem dX12_addLamp_10 : decode cX12_addLamp 10 = .ok (.invokevirtual 80, 3) := by decide +kernel
theorem dX12_addLamp_13 : decode cX12_addLamp 13 = .ok (.ireturn, 1) := by decide +kernel
theorem dX12_doAddOil_0 : decode cX12_doAddOil 0 = .ok (.iload_n 1, 1) := by decide +kernel
theorem dX12_doAddOil_1 : decode cX12_doAddOil 1 = .ok (.iconst 1, 1) := by decide +kernel
theorem dX12_doAddOil_2 : decode cX12_doAddOil 2 = .ok (.sipush 200, 3) := by decide +kernel
theorem dX12_doAddOil_5 : decode cX12_doAddOil 5 = .ok (.invokestatic 54, 3) := by decide +kernel
theorem dX12_doAddOil_8 : decode cX12_doAddOil 8 = .ok (.ifCond .ne 9, 3) := by decide +kernel
theorem dX12_doAddOil_11 : decode cX12_doAddOil 11 = .ok (.aload_n 0, 1) := by decide +kernel
theorem dX12_doAddOil_12 : decode cX12_doAddOil 12 = .ok (.iconst 1, 1) := by decide +kernel
theorem dX12_doAddOil_13 : decode cX12_doAddOil 13 = .ok (.invokevirtual 70, 3) := by decide +kernel
theorem dX12_doAddOil_16 : decode cX12_doAddOil 16 = .ok (.ireturn, 1) := by decide +kernel
theorem dX12_doAddOil_17 : decode cX12_doAddOil 17 = .ok (.aload_n 0, 1) := by decide +kernel
theorem dX12_doAddOil_18 : decode cX12_doAddOil 18 = .ok (.getfield 9, 3) := by decide +kernel
theorem dX12_doAddOil_21 : decode cX12_doAddOil 21 = .ok (.iconst 2, 1) := by decide +kernel
theorem dX12_doAddOil_22 : decode cX12_doAddOil 22 = .ok (.iaload, 1) := by decide +kernel
theorem dX12_doAddOil_23 : decode cX12_doAddOil 23 = .ok (.iload_n 1, 1) := by decide +kernel
theorem dX12_doAddOil_24 : decode cX12_doAddOil 24 = .ok (.iadd, 1) := by decide +kernel
theorem dX12_doAddOil_25 : decode cX12_doAddOil 25 = .ok (.sipush 500, 3) := by decide +kernel
theorem dX12_doAddOil_28 : decode cX12_doAddOil 28 = .ok (.if_icmp .le 9, 3) := by decide +kernel
theorem dX12_doAddOil_31 : decode cX12_doAddOil 31 = .ok (.aload_n 0, 1) := by decide +kernel
theorem dX12_doAddOil_32 : decode cX12_doAddOil 32 = .ok (.iconst 2, 1) := by decide +kernel
theorem dX12_doAddOil_33 : decode cX12_doAddOil 33 = .ok (.invokevirtual 70, 3) := by decide +kernel
theorem dX12_doAddOil_36 : decode cX12_doAddOil 36 = .ok (.ireturn, 1) := by decide +kernel
theorem dX12_doAddOil_37 : decode cX12_doAddOil 37 = .ok (.aload_n 0, 1) := by decide +kernel
theorem dX12_doAddOil_38 : decode cX12_doAddOil 38 = .ok (.getfield 9, 3) := by decide +kernel
theorem dX12_doAddOil_41 : decode cX12_doAddOil 41 = .ok (.iconst 2, 1) := by decide +kernel
theorem dX12_doAddOil_42 : decode cX12_doAddOil 42 = .ok (.dup2, 1) := by decide +kernel
theorem dX12_doAddOil_43 : decode cX12_doAddOil 43 = .ok (.iaload, 1) := by decide +kernel
theorem dX12_doAddOil_44 : decode cX12_doAddOil 44 = .ok (.iload_n 1, 1) := by decide +kernel
theorem dX12_doAddOil_45 : decode cX12_doAddOil 45 = .ok (.iadd, 1) := by decide +kernel
theorem dX12_doAddOil_46 : decode cX12_doAddOil 46 = .ok (.iastore, 1) := by decide +kernel
theorem dX12_doAddOil_47 : decode cX12_doAddOil 47 = .ok (.aload_n 0, 1) := by decide +kernel
theorem dX12_doAddOil_48 : decode cX12_doAddOil 48 = .ok (.getfield 9, 3) := by decide +kernel
theorem dX12_doAddOil_51 : decode cX12_doAddOil 51 = .ok (.iconst 2, 1) := by decide +kernel
theorem dX12_doAddOil_52 : decode cX12_doAddOil 52 = .ok (.iaload, 1) := by decide +kernel
theorem dX12_doAddOil_53 : decode cX12_doAddOil 53 = .ok (.ireturn, 1) := by decide +kernel
theorem dX12_addOil_0 : decode cX12_addOil 0 = .ok (.aload_n 0, 1) := by decide +kernel
theorem dX12_addOil_1 : decode cX12_addOil 1 = .ok (.invokevirtual 73, 3) := by decide +kernel
theorem dX12_addOil_4 : decode cX12_addOil 4 = .ok (.aload_n 0, 1) := by decide +kernel
theorem dX12_addOil_5 : decode cX12_addOil 5 = .ok (.aload_n 0, 1) := by decide +kernel
theorem dX12_addOil_6 : decode cX12_addOil 6 = .ok (.iload_n 1, 1) := by decide +kernel
theorem dX12_addOil_7 : decode cX12_addOil 7 = .ok (.invokevirtual 86, 3) := by decide +kernel
theorem dX12_addOil_10 : decode cX12_addOil 10 = .ok (.invokevirtual 80, 3) := by decide +kernel
theorem dX12_addOil_13 : decode cX12_addOil 13 = .ok (.ireturn, 1) := by decide +kernel
theorem dX12_doLease_0 : decode cX12_doLease 0 = .ok (.aload_n 0, 1) := by decide +kernel
theorem dX12_doLease_1 : decode cX12_doLease 1 = .ok (.iload_n 1, 1) := by decide +kernel
theorem dX12_doLease_2 : decode cX12_doLease 2 = .ok (.invokevirtual 89, 3) := by decide +kernel
theorem dX12_doLease_5 : decode cX12_doLease 5 = .ok (.ifCond .eq 11, 3) := by decide +kernel
theorem dX12_doLease_8 : decode cX12_doLease 8 = .ok (.aload_n 0, 1) := by decide +kernel
theorem dX12_doLease_9 : decode cX12_doLease 9 = .ok (.iload_n 2, 1) := by decide +kernel
theorem dX12_doLease_10 : decode cX12_doLease 10 = .ok (.invokevirtual 93, 3) := by decide +kernel
theorem dX12_doLease_13 : decode cX12_doLease 13 = .ok (.ifCond .ne 9, 3) := by decide +kernel
theorem dX12_doLease_16 : decode cX12_doLease 16 = .ok (.aload_n 0, 1) := by decide +kernel
theorem dX12_doLease_17 : decode cX12_doLease 17 = .ok (.iconst 1, 1) := by decide +kernel
theorem dX12_doLease_18 : decode cX12_doLease 18 = .ok (.invokevirtual 70, 3) := by decide +kernel
theorem dX12_doLease_21 : decode cX12_doLease 21 = .ok (.ireturn, 1) := by decide +kernel
theorem dX12_doLease_22 : decode cX12_doLease 22 = .ok (.iload_n 3, 1) := by decide +kernel
theorem dX12_doLease_23 : decode cX12_doLease 23 = .ok (.iconst 1, 1) := by decide +kernel
theorem dX12_doLease_24 : decode cX12_doLease 24 = .ok (.bipush 24, 2) := by decide +kernel
theorem dX12_doLease_26 : decode cX12_doLease 26 = .ok (.invokestatic 54, 3) := by decide +kernel
theorem dX12_doLease_29 : decode cX12_doLease 29 = .ok (.ifCond .ne 9, 3) := by decide +kernel
theorem dX12_doLease_32 : decode cX12_doLease 32 = .ok (.aload_n 0, 1) := by decide +kernel
theorem dX12_doLease_33 : decode cX12_doLease 33 = .ok (.iconst 2, 1) := by decide +kernel
theorem dX12_doLease_34 : decode cX12_doLease 34 = .ok (.invokevirtual 70, 3) := by decide +kernel
theorem dX12_doLease_37 : decode cX12_doLease 37 = .ok (.ireturn, 1) := by decide +kernel
theorem dX12_doLease_38 : decode cX12_doLease 38 = .ok (.aload_n 0, 1) := by decide +kernel
theorem dX12_doLease_39 : decode cX12_doLease 39 = .ok (.iload_n 2, 1) := by decide +kernel
theorem dX12_doLease_40 : decode cX12_doLease 40 = .ok (.invokevirtual 96, 3) := by decide +kernel
theorem dX12_doLease_43 : decode cX12_doLease 43 = .ok (.ifCond .eq 9, 3) := by decide +kernel
theorem dX12_doLease_46 : decode cX12_doLease 46 = .ok (.aload_n 0, 1) := by decide +kernel
theorem dX12_doLease_47 : decode cX12_doLease 47 = .ok (.iconst 3, 1) := by decide +kernel
theorem dX12_doLease_48 : decode cX12_doLease 48 = .ok (.invokevirtual 70, 3) := by decide +kernel
theorem dX12_doLease_51 : decode cX12_doLease 51 = .ok (.ireturn, 1) := by decide +kernel
theorem dX12_doLease_52 : decode cX12_doLease 52 = .ok (.aload_n 0, 1) := by decide +kernel
theorem dX12_doLease_53 : decode cX12_doLease 53 = .ok (.iload_n 2, 1) := by decide +kernel
theorem dX12_doLease_54 : decode cX12_doLease 54 = .ok (.iconst 0, 1) := by decide +kernel
theorem dX12_doLease_55 : decode cX12_doLease 55 = .ok (.invokevirtual 58, 3) := by decide +kernel
theorem dX12_doLease_58 : decode cX12_doLease 58 = .ok (.iload_n 3, 1) := by decide +kernel
theorem dX12_doLease_59 : decode cX12_doLease 59 = .ok (.imul, 1) := by decide +kernel
theorem dX12_doLease_60 : decode cX12_doLease 60 = .ok (.istore 4, 2) := by decide +kernel
theorem dX12_doLease_62 : decode cX12_doLease 62 = .ok (.aload_n 0, 1) := by decide +kernel
theorem dX12_doLease_63 : decode cX12_doLease 63 = .ok (.iload_n 1, 1) := by decide +kernel
theorem dX12_doLease_64 : decode cX12_doLease 64 = .ok (.iconst 0, 1) := by decide +kernel
theorem dX12_doLease_65 : decode cX12_doLease 65 = .ok (.invokevirtual 99, 3) := by decide +kernel
theorem dX12_doLease_68 : decode cX12_doLease 68 = .ok (.iload 4, 2) := by decide +kernel
theorem dX12_doLease_70 : decode cX12_doLease 70 = .ok (.if_icmp .ge 9, 3) := by decide +kernel
theorem dX12_doLease_73 : decode cX12_doLease 73 = .ok (.aload_n 0, 1) := by decide +kernel
theorem dX12_doLease_74 : decode cX12_doLease 74 = .ok (.iconst 4, 1) := by decide +kernel
theorem dX12_doLease_75 : decode cX12_doLease 75 = .ok (.invokevirtual 70, 3) := by decide +kernel
theorem dX12_doLease_78 : decode cX12_doLease 78 = .ok (.ireturn, 1) := by decide +kernel
theorem dX12_doLease_79 : decode cX12_doLease 79 = .ok (.aload_n 0, 1) := by decide +kernel
theorem dX12_doLease_80 : decode cX12_doLease 80 = .ok (.iload_n 1, 1) := by decide +kernel
theorem dX12_doLease_81 : decode cX12_doLease 81 = .ok (.iload 4, 2) := by decide +kernel
theorem dX12_doLease_83 : decode cX12_doLease 83 = .ok (.invokevirtual 102, 3) := by decide +kernel
theorem dX12_doLease_86 : decode cX12_doLease 86 = .ok (.aload_n 0, 1) := by decide +kernel
theorem dX12_doLease_87 : decode cX12_doLease 87 = .ok (.iload_n 2, 1) := by decide +kernel
theorem dX12_doLease_88 : decode cX12_doLease 88 = .ok (.iconst 1, 1) := by decide +kernel
theorem dX12_doLease_89 : decode cX12_doLease 89 = .ok (.iload_n 1, 1) := by decide +kernel
theorem dX12_doLease_90 : decode cX12_doLease 90 = .ok (.iconst 1, 1) := by decide +kernel
theorem dX12_doLease_91 : decode cX12_doLease 91 = .ok (.iadd, 1) := by decide +kernel
theorem dX12_doLease_92 : decode cX12_doLease 92 = .ok (.invokevirtual 66, 3) := by decide +kernel
theorem dX12_doLease_95 : decode cX12_doLease 95 = .ok (.aload_n 0, 1) := by decide +kernel
theorem dX12_doLease_96 : decode cX12_doLease 96 = .ok (.iload_n 2, 1) := by decide +kernel
theorem dX12_doLease_97 : decode cX12_doLease 97 = .ok (.iconst 2, 1) := by decide +kernel
theorem dX12_doLease_98 : decode cX12_doLease 98 = .ok (.aload_n 0, 1) := by decide +kernel
theorem dX12_doLease_99 : decode cX12_doLease 99 = .ok (.getfield 9, 3) := by decide +kernel
theorem dX12_doLease_102 : decode cX12_doLease 102 = .ok (.iconst 3, 1) := by decide +kernel
theorem dX12_doLease_103 : decode cX12_doLease 103 = .ok (.iaload, 1) := by decide +kernel
theorem dX12_doLease_104 : decode cX12_doLease 104 = .ok (.iload_n 3, 1) := by decide +kernel
theorem dX12_doLease_105 : decode cX12_doLease 105 = .ok (.iadd, 1) := by decide +kernel
theorem dX12_doLease_106 : decode cX12_doLease 106 = .ok (.invokevirtual 66, 3) := by decide +kernel
theorem dX12_doLease_109 : decode cX12_doLease 109 = .ok (.aload_n 0, 1) := by decide +kernel
theorem dX12_doLease_110 : decode cX12_doLease 110 = .ok (.getfield 9, 3) := by decide +kernel
theorem dX12_doLease_113 : decode cX12_doLease 113 = .ok (.iconst 3, 1) := by decide +kernel
theorem dX12_doLease_114 : decode cX12_doLease 114 = .ok (.iaload, 1) := by decide +kernel
theorem dX12_doLease_115 : decode cX12_doLease 115 = .ok (.iload_n 3, 1) := by decide +kernel
theorem dX12_doLease_116 : decode cX12_doLease 116 = .ok (.iadd, 1) := by decide +kernel
theorem dX12_doLease_117 : decode cX12_doLease 117 = .ok (.ireturn, 1) := by decide +kernel
theorem dX12_lease_0 : decode cX12_lease 0 = .ok (.aload_n 0, 1) := by decide +kernel
theorem dX12_lease_1 : decode cX12_lease 1 = .ok (.invokevirtual 73, 3) := by decide +kernel
theorem dX12_lease_4 : decode cX12_lease 4 = .ok (.aload_n 0, 1) := by decide +kernel
theorem dX12_lease_5 : decode cX12_lease 5 = .ok (.aload_n 0, 1) := by decide +kernel
theorem dX12_lease_6 : decode cX12_lease 6 = .ok (.iload_n 1, 1) := by decide +kernel
theorem dX12_lease_7 : decode cX12_lease 7 = .ok (.iload_n 2, 1) := by decide +kernel
theorem dX12_lease_8 : decode cX12_lease 8 = .ok (.iload_n 3, 1) := by decide +kernel
theorem dX12_lease_9 : decode cX12_lease 9 = .ok (.invokevirtual 106, 3) := by decide +kernel
theorem dX12_lease_12 : decode cX12_lease 12 = .ok (.invokevirtual 80, 3) := by decide +kernel
theorem dX12_lease_15 : decode cX12_lease 15 = .ok (.ireturn, 1) := by decide +kernel
theorem dX12_doRequestRenewal_0 : decode cX12_doRequestRenewal 0 = .ok (.aload_n 0, 1) := by decide +kernel
theorem dX12_doRequestRenewal_1 : decode cX12_doRequestRenewal 1 = .ok (.iload_n 1, 1) := by decide +kernel
theorem dX12_doRequestRenewal_2 : decode cX12_doRequestRenewal 2 = .ok (.invokevirtual 93, 3) := by decide +kernel
theorem dX12_doRequestRenewal_5 : decode cX12_doRequestRenewal 5 = .ok (.ifCond .ne 9, 3) := by decide +kernel
theorem dX12_doRequestRenewal_8 : decode cX12_doRequestRenewal 8 = .ok (.aload_n 0, 1) := by decide +kernel
theorem dX12_doRequestRenewal_9 : decode cX12_doRequestRenewal 9 = .ok (.iconst 1, 1) := by decide +kernel
theorem dX12_doRequestRenewal_10 : decode cX12_doRequestRenewal 10 = .ok (.invokevirtual 70, 3) := by decide +kernel
theorem dX12_doRequestRenewal_13 : decode cX12_doRequestRenewal 13 = .ok (.ireturn, 1) := by decide +kernel
theorem dX12_doRequestRenewal_14 : decode cX12_doRequestRenewal 14 = .ok (.iload_n 2, 1) := by decide +kernel
theorem dX12_doRequestRenewal_15 : decode cX12_doRequestRenewal 15 = .ok (.iconst 1, 1) := by decide +kernel
theorem dX12_doRequestRenewal_16 : decode cX12_doRequestRenewal 16 = .ok (.bipush 24, 2) := by decide +kernel
theorem dX12_doRequestRenewal_18 : decode cX12_doRequestRenewal 18 = .ok (.invokestatic 54, 3) := by decide +kernel
theorem dX12_doRequestRenewal_21 : decode cX12_doRequestRenewal 21 = .ok (.ifCond .ne 9, 3) := by decide +kernel
theorem dX12_doRequestRenewal_24 : decode cX12_doRequestRenewal 24 = .ok (.aload_n 0, 1) := by decide +kernel
theorem dX12_doRequestRenewal_25 : decode cX12_doRequestRenewal 25 = .ok (.iconst 2, 1) := by decide +kernel
theorem dX12_doRequestRenewal_26 : decode cX12_doRequestRenewal 26 = .ok (.invokevirtual 70, 3) := by decide +kernel
theorem dX12_doRequestRenewal_29 : decode cX12_doRequestRenewal 29 = .ok (.ireturn, 1) := by decide +kernel
theorem dX12_doRequestRenewal_30 : decode cX12_doRequestRenewal 30 = .ok (.aload_n 0, 1) := by decide +kernel
theorem dX12_doRequestRenewal_31 : decode cX12_doRequestRenewal 31 = .ok (.iload_n 1, 1) := by decide +kernel
theorem dX12_doRequestRenewal_32 : decode cX12_doRequestRenewal 32 = .ok (.invokevirtual 96, 3) := by decide +kernel
theorem dX12_doRequestRenewal_35 : decode cX12_doRequestRenewal 35 = .ok (.ifCond .ne 9, 3) := by decide +kernel
theorem dX12_doRequestRenewal_38 : decode cX12_doRequestRenewal 38 = .ok (.aload_n 0, 1) := by decide +kernel
theorem dX12_doRequestRenewal_39 : decode cX12_doRequestRenewal 39 = .ok (.iconst 3, 1) := by decide +kernel
theorem dX12_doRequestRenewal_40 : decode cX12_doRequestRenewal 40 = .ok (.invokevirtual 70, 3) := by decide +kernel
theorem dX12_doRequestRenewal_43 : decode cX12_doRequestRenewal 43 = .ok (.ireturn, 1) := by decide +kernel
theorem dX12_doRequestRenewal_44 : decode cX12_doRequestRenewal 44 = .ok (.aload_n 0, 1) := by decide +kernel
theorem dX12_doRequestRenewal_45 : decode cX12_doRequestRenewal 45 = .ok (.iload_n 1, 1) := by decide +kernel
theorem dX12_doRequestRenewal_46 : decode cX12_doRequestRenewal 46 = .ok (.invokevirtual 62, 3) := by decide +kernel
theorem dX12_doRequestRenewal_49 : decode cX12_doRequestRenewal 49 = .ok (.ifCond .lt 9, 3) := by decide +kernel
theorem dX12_doRequestRenewal_52 : decode cX12_doRequestRenewal 52 = .ok (.aload_n 0, 1) := by decide +kernel
theorem dX12_doRequestRenewal_53 : decode cX12_doRequestRenewal 53 = .ok (.iconst 4, 1) := by decide +kernel
theorem dX12_doRequestRenewal_54 : decode cX12_doRequestRenewal 54 = .ok (.invokevirtual 70, 3) := by decide +kernel
theorem dX12_doRequestRenewal_57 : decode cX12_doRequestRenewal 57 = .ok (.ireturn, 1) := by decide +kernel
theorem dX12_doRequestRenewal_58 : decode cX12_doRequestRenewal 58 = .ok (.aload_n 0, 1) := by decide +kernel
theorem dX12_doRequestRenewal_59 : decode cX12_doRequestRenewal 59 = .ok (.getfield 9, 3) := by decide +kernel
theorem dX12_doRequestRenewal_62 : decode cX12_doRequestRenewal 62 = .ok (.bipush 6, 2) := by decide +kernel
theorem dX12_doRequestRenewal_64 : decode cX12_doRequestRenewal 64 = .ok (.iaload, 1) := by decide +kernel
theorem dX12_doRequestRenewal_65 : decode cX12_doRequestRenewal 65 = .ok (.istore_n 3, 1) := by decide +kernel
theorem dX12_doRequestRenewal_66 : decode cX12_doRequestRenewal 66 = .ok (.aload_n 0, 1) := by decide +kernel
theorem dX12_doRequestRenewal_67 : decode cX12_doRequestRenewal 67 = .ok (.getfield 9, 3) := by decide +kernel
theorem dX12_doRequestRenewal_70 : decode cX12_doRequestRenewal 70 = .ok (.bipush 65, 2) := by decide +kernel
theorem dX12_doRequestRenewal_72 : decode cX12_doRequestRenewal 72 = .ok (.iconst 2, 1) := by decide +kernel
theorem dX12_doRequestRenewal_73 : decode cX12_doRequestRenewal 73 = .ok (.iload_n 3, 1) := by decide +kernel
theorem dX12_doRequestRenewal_74 : decode cX12_doRequestRenewal 74 = .ok (.imul, 1) := by decide +kernel
theorem dX12_doRequestRenewal_75 : decode cX12_doRequestRenewal 75 = .ok (.iadd, 1) := by decide +kernel
theorem dX12_doRequestRenewal_76 : decode cX12_doRequestRenewal 76 = .ok (.iload_n 1, 1) := by decide +kernel
theorem dX12_doRequestRenewal_77 : decode cX12_doRequestRenewal 77 = .ok (.iastore, 1) := by decide +kernel
theorem dX12_doRequestRenewal_78 : decode cX12_doRequestRenewal 78 = .ok (.aload_n 0, 1) := by decide +kernel
theorem dX12_doRequestRenewal_79 : decode cX12_doRequestRenewal 79 = .ok (.getfield 9, 3) := by decide +kernel
theorem dX12_doRequestRenewal_82 : decode cX12_doRequestRenewal 82 = .ok (.bipush 65, 2) := by decide +kernel
theorem dX12_doRequestRenewal_84 : decode cX12_doRequestRenewal 84 = .ok (.iconst 2, 1) := by decide +kernel
theorem dX12_doRequestRenewal_85 : decode cX12_doRequestRenewal 85 = .ok (.iload_n 3, 1) := by decide +kernel
theorem dX12_doRequestRenewal_86 : decode cX12_doRequestRenewal 86 = .ok (.imul, 1) := by decide +kernel
theorem dX12_doRequestRenewal_87 : decode cX12_doRequestRenewal 87 = .ok (.iadd, 1) := by decide +kernel
theorem dX12_doRequestRenewal_88 : decode cX12_doRequestRenewal 88 = .ok (.iconst 1, 1) := by decide +kernel
theorem dX12_doRequestRenewal_89 : decode cX12_doRequestRenewal 89 = .ok (.iadd, 1) := by decide +kernel
theorem dX12_doRequestRenewal_90 : decode cX12_doRequestRenewal 90 = .ok (.iload_n 2, 1) := by decide +kernel
theorem dX12_doRequestRenewal_91 : decode cX12_doRequestRenewal 91 = .ok (.iastore, 1) := by decide +kernel
theorem dX12_doRequestRenewal_92 : decode cX12_doRequestRenewal 92 = .ok (.aload_n 0, 1) := by decide +kernel
theorem dX12_doRequestRenewal_93 : decode cX12_doRequestRenewal 93 = .ok (.getfield 9, 3) := by decide +kernel
theorem dX12_doRequestRenewal_96 : decode cX12_doRequestRenewal 96 = .ok (.bipush 6, 2) := by decide +kernel
theorem dX12_doRequestRenewal_98 : decode cX12_doRequestRenewal 98 = .ok (.dup2, 1) := by decide +kernel
theorem dX12_doRequestRenewal_99 : decode cX12_doRequestRenewal 99 = .ok (.iaload, 1) := by decide +kernel
theorem dX12_doRequestRenewal_100 : decode cX12_doRequestRenewal 100 = .ok (.iconst 1, 1) := by decide +kernel
theorem dX12_doRequestRenewal_101 : decode cX12_doRequestRenewal 101 = .ok (.iadd, 1) := by decide +kernel
theorem dX12_doRequestRenewal_102 : decode cX12_doRequestRenewal 102 = .ok (.iastore, 1) := by decide +kernel
theorem dX12_doRequestRenewal_103 : decode cX12_doRequestRenewal 103 = .ok (.iload_n 3, 1) := by decide +kernel
theorem dX12_doRequestRenewal_104 : decode cX12_doRequestRenewal 104 = .ok (.ireturn, 1) := by decide +kernel
theorem dX12_requestRenewal_0 : decode cX12_requestRenewal 0 = .ok (.aload_n 0, 1) := by decide +kernel
theorem dX12_requestRenewal_1 : decode cX12_requestRenewal 1 = .ok (.invokevirtual 73, 3) := by decide +kernel
theorem dX12_requestRenewal_4 : decode cX12_requestRenewal 4 = .ok (.aload_n 0, 1) := by decide +kernel
theorem dX12_requestRenewal_5 : decode cX12_requestRenewal 5 = .ok (.aload_n 0, 1) := by decide +kernel
theorem dX12_requestRenewal_6 : decode cX12_requestRenewal 6 = .ok (.iload_n 1, 1) := by decide +kernel
theorem dX12_requestRenewal_7 : decode cX12_requestRenewal 7 = .ok (.iload_n 2, 1) := by decide +kernel
theorem dX12_requestRenewal_8 : decode cX12_requestRenewal 8 = .ok (.invokevirtual 110, 3) := by decide +kernel
theorem dX12_requestRenewal_11 : decode cX12_requestRenewal 11 = .ok (.invokevirtual 80, 3) := by decide +kernel
theorem dX12_requestRenewal_14 : decode cX12_requestRenewal 14 = .ok (.ireturn, 1) := by decide +kernel
theorem dX12_doGiveUp_0 : decode cX12_doGiveUp 0 = .ok (.aload_n 0, 1) := by decide +kernel
theorem dX12_doGiveUp_1 : decode cX12_doGiveUp 1 = .ok (.iload_n 1, 1) := by decide +kernel
theorem dX12_doGiveUp_2 : decode cX12_doGiveUp 2 = .ok (.invokevirtual 93, 3) := by decide +kernel
theorem dX12_doGiveUp_5 : decode cX12_doGiveUp 5 = .ok (.ifCond .ne 9, 3) := by decide +kernel
theorem dX12_doGiveUp_8 : decode cX12_doGiveUp 8 = .ok (.aload_n 0, 1) := by decide +kernel
theorem dX12_doGiveUp_9 : decode cX12_doGiveUp 9 = .ok (.iconst 1, 1) := by decide +kernel
theorem dX12_doGiveUp_10 : decode cX12_doGiveUp 10 = .ok (.invokevirtual 70, 3) := by decide +kernel
theorem dX12_doGiveUp_13 : decode cX12_doGiveUp 13 = .ok (.ireturn, 1) := by decide +kernel
theorem dX12_doGiveUp_14 : decode cX12_doGiveUp 14 = .ok (.aload_n 0, 1) := by decide +kernel
theorem dX12_doGiveUp_15 : decode cX12_doGiveUp 15 = .ok (.iload_n 1, 1) := by decide +kernel
theorem dX12_doGiveUp_16 : decode cX12_doGiveUp 16 = .ok (.invokevirtual 96, 3) := by decide +kernel
theorem dX12_doGiveUp_19 : decode cX12_doGiveUp 19 = .ok (.ifCond .ne 9, 3) := by decide +kernel
theorem dX12_doGiveUp_22 : decode cX12_doGiveUp 22 = .ok (.aload_n 0, 1) := by decide +kernel
theorem dX12_doGiveUp_23 : decode cX12_doGiveUp 23 = .ok (.iconst 2, 1) := by decide +kernel
theorem dX12_doGiveUp_24 : decode cX12_doGiveUp 24 = .ok (.invokevirtual 70, 3) := by decide +kernel
theorem dX12_doGiveUp_27 : decode cX12_doGiveUp 27 = .ok (.ireturn, 1) := by decide +kernel
theorem dX12_doGiveUp_28 : decode cX12_doGiveUp 28 = .ok (.aload_n 0, 1) := by decide +kernel
theorem dX12_doGiveUp_29 : decode cX12_doGiveUp 29 = .ok (.iload_n 1, 1) := by decide +kernel
theorem dX12_doGiveUp_30 : decode cX12_doGiveUp 30 = .ok (.iconst 2, 1) := by decide +kernel
theorem dX12_doGiveUp_31 : decode cX12_doGiveUp 31 = .ok (.invokevirtual 58, 3) := by decide +kernel
theorem dX12_doGiveUp_34 : decode cX12_doGiveUp 34 = .ok (.aload_n 0, 1) := by decide +kernel
theorem dX12_doGiveUp_35 : decode cX12_doGiveUp 35 = .ok (.getfield 9, 3) := by decide +kernel
theorem dX12_doGiveUp_38 : decode cX12_doGiveUp 38 = .ok (.iconst 3, 1) := by decide +kernel
theorem dX12_doGiveUp_39 : decode cX12_doGiveUp 39 = .ok (.iaload, 1) := by decide +kernel
theorem dX12_doGiveUp_40 : decode cX12_doGiveUp 40 = .ok (.isub, 1) := by decide +kernel
theorem dX12_doGiveUp_41 : decode cX12_doGiveUp 41 = .ok (.istore_n 2, 1) := by decide +kernel
theorem dX12_doGiveUp_42 : decode cX12_doGiveUp 42 = .ok (.aload_n 0, 1) := by decide +kernel
theorem dX12_doGiveUp_43 : decode cX12_doGiveUp 43 = .ok (.iload_n 1, 1) := by decide +kernel
theorem dX12_doGiveUp_44 : decode cX12_doGiveUp 44 = .ok (.invokevirtual 113, 3) := by decide +kernel
theorem dX12_doGiveUp_47 : decode cX12_doGiveUp 47 = .ok (.iload_n 2, 1) := by decide +kernel
theorem dX12_doGiveUp_48 : decode cX12_doGiveUp 48 = .ok (.ireturn, 1) := by decide +kernel
theorem dX12_giveUp_0 : decode cX12_giveUp 0 = .ok (.aload_n 0, 1) := by decide +kernel
theorem dX12_giveUp_1 : decode cX12_giveUp 1 = .ok (.invokevirtual 73, 3) := by decide +kernel
theorem dX12_giveUp_4 : decode cX12_giveUp 4 = .ok (.aload_n 0, 1) := by decide +kernel
theorem dX12_giveUp_5 : decode cX12_giveUp 5 = .ok (.aload_n 0, 1) := by decide +kernel
theorem dX12_giveUp_6 : decode cX12_giveUp 6 = .ok (.iload_n 1, 1) := by decide +kernel
theorem dX12_giveUp_7 : decode cX12_giveUp 7 = .ok (.invokevirtual 117, 3) := by decide +kernel
theorem dX12_giveUp_10 : decode cX12_giveUp 10 = .ok (.invokevirtual 80, 3) := by decide +kernel
theorem dX12_giveUp_13 : decode cX12_giveUp 13 = .ok (.ireturn, 1) := by decide +kernel
theorem dX12_renews_0 : decode cX12_renews 0 = .ok (.iconst 0, 1) := by decide +kernel
theorem dX12_renews_1 : decode cX12_renews 1 = .ok (.istore_n 1, 1) := by decide +kernel
theorem dX12_renews_2 : decode cX12_renews 2 = .ok (.iload_n 1, 1) := by decide +kernel
theorem dX12_renews_3 : decode cX12_renews 3 = .ok (.aload_n 0, 1) := by decide +kernel
theorem dX12_renews_4 : decode cX12_renews 4 = .ok (.getfield 9, 3) := by decide +kernel
theorem dX12_renews_7 : decode cX12_renews 7 = .ok (.bipush 6, 2) := by decide +kernel
theorem dX12_renews_9 : decode cX12_renews 9 = .ok (.iaload, 1) := by decide +kernel
theorem dX12_renews_10 : decode cX12_renews 10 = .ok (.if_icmp .ge 133, 3) := by decide +kernel
theorem dX12_renews_13 : decode cX12_renews 13 = .ok (.aload_n 0, 1) := by decide +kernel
theorem dX12_renews_14 : decode cX12_renews 14 = .ok (.getfield 9, 3) := by decide +kernel
theorem dX12_renews_17 : decode cX12_renews 17 = .ok (.bipush 65, 2) := by decide +kernel
theorem dX12_renews_19 : decode cX12_renews 19 = .ok (.iconst 2, 1) := by decide +kernel
theorem dX12_renews_20 : decode cX12_renews 20 = .ok (.iload_n 1, 1) := by decide +kernel
theorem dX12_renews_21 : decode cX12_renews 21 = .ok (.imul, 1) := by decide +kernel
theorem dX12_renews_22 : decode cX12_renews 22 = .ok (.iadd, 1) := by decide +kernel
theorem dX12_renews_23 : decode cX12_renews 23 = .ok (.iaload, 1) := by decide +kernel
theorem dX12_renews_24 : decode cX12_renews 24 = .ok (.istore_n 2, 1) := by decide +kernel
theorem dX12_renews_25 : decode cX12_renews 25 = .ok (.aload_n 0, 1) := by decide +kernel
theorem dX12_renews_26 : decode cX12_renews 26 = .ok (.getfield 9, 3) := by decide +kernel
theorem dX12_renews_29 : decode cX12_renews 29 = .ok (.bipush 65, 2) := by decide +kernel
theorem dX12_renews_31 : decode cX12_renews 31 = .ok (.iconst 2, 1) := by decide +kernel
theorem dX12_renews_32 : decode cX12_renews 32 = .ok (.iload_n 1, 1) := by decide +kernel
theorem dX12_renews_33 : decode cX12_renews 33 = .ok (.imul, 1) := by decide +kernel
theorem dX12_renews_34 : decode cX12_renews 34 = .ok (.iadd, 1) := by decide +kernel
theorem dX12_renews_35 : decode cX12_renews 35 = .ok (.iconst 1, 1) := by decide +kernel
theorem dX12_renews_36 : decode cX12_renews 36 = .ok (.iadd, 1) := by decide +kernel
theorem dX12_renews_37 : decode cX12_renews 37 = .ok (.iaload, 1) := by decide +kernel
theorem dX12_renews_38 : decode cX12_renews 38 = .ok (.istore_n 3, 1) := by decide +kernel
theorem dX12_renews_39 : decode cX12_renews 39 = .ok (.aload_n 0, 1) := by decide +kernel
theorem dX12_renews_40 : decode cX12_renews 40 = .ok (.iload_n 2, 1) := by decide +kernel
theorem dX12_renews_41 : decode cX12_renews 41 = .ok (.iconst 1, 1) := by decide +kernel
theorem dX12_renews_42 : decode cX12_renews 42 = .ok (.invokevirtual 58, 3) := by decide +kernel
theorem dX12_renews_45 : decode cX12_renews 45 = .ok (.iconst 1, 1) := by decide +kernel
theorem dX12_renews_46 : decode cX12_renews 46 = .ok (.isub, 1) := by decide +kernel
theorem dX12_renews_47 : decode cX12_renews 47 = .ok (.istore 4, 2) := by decide +kernel
theorem dX12_renews_49 : decode cX12_renews 49 = .ok (.aload_n 0, 1) := by decide +kernel
theorem dX12_renews_50 : decode cX12_renews 50 = .ok (.iload_n 2, 1) := by decide +kernel
theorem dX12_renews_51 : decode cX12_renews 51 = .ok (.iconst 0, 1) := by decide +kernel
theorem dX12_renews_52 : decode cX12_renews 52 = .ok (.invokevirtual 58, 3) := by decide +kernel
theorem dX12_renews_55 : decode cX12_renews 55 = .ok (.iload_n 3, 1) := by decide +kernel
theorem dX12_renews_56 : decode cX12_renews 56 = .ok (.imul, 1) := by decide +kernel
theorem dX12_renews_57 : decode cX12_renews 57 = .ok (.istore 5, 2) := by decide +kernel
theorem dX12_renews_59 : decode cX12_renews 59 = .ok (.aload_n 0, 1) := by decide +kernel
theorem dX12_renews_60 : decode cX12_renews 60 = .ok (.iload 4, 2) := by decide +kernel
theorem dX12_renews_62 : decode cX12_renews 62 = .ok (.iconst 0, 1) := by decide +kernel
theorem dX12_renews_63 : decode cX12_renews 63 = .ok (.invokevirtual 99, 3) := by decide +kernel
theorem dX12_renews_66 : decode cX12_renews 66 = .ok (.iload 5, 2) := by decide +kernel
theorem dX12_renews_68 : decode cX12_renews 68 = .ok (.if_icmp .lt 7, 3) := by decide +kernel
theorem dX12_renews_71 : decode cX12_renews 71 = .ok (.iconst 1, 1) := by decide +kernel
theorem dX12_renews_72 : decode cX12_renews 72 = .ok (.goto 4, 3) := by decide +kernel
theorem dX12_renews_75 : decode cX12_renews 75 = .ok (.iconst 0, 1) := by decide +kernel
theorem dX12_renews_76 : decode cX12_renews 76 = .ok (.istore 6, 2) := by decide +kernel
theorem dX12_renews_78 : decode cX12_renews 78 = .ok (.aload_n 0, 1) := by decide +kernel
theorem dX12_renews_79 : decode cX12_renews 79 = .ok (.iload 4, 2) := by decide +kernel
theorem dX12_renews_81 : decode cX12_renews 81 = .ok (.iload 6, 2) := by decide +kernel
theorem dX12_renews_83 : decode cX12_renews 83 = .ok (.ifCond .eq 8, 3) := by decide +kernel
theorem dX12_renews_86 : decode cX12_renews 86 = .ok (.iload 5, 2) := by decide +kernel
theorem dX12_renews_88 : decode cX12_renews 88 = .ok (.goto 4, 3) := by decide +kernel
theorem dX12_renews_91 : decode cX12_renews 91 = .ok (.iconst 0, 1) := by decide +kernel
theorem dX12_renews_92 : decode cX12_renews 92 = .ok (.invokevirtual 102, 3) := by decide +kernel
theorem dX12_renews_95 : decode cX12_renews 95 = .ok (.aload_n 0, 1) := by decide +kernel
theorem dX12_renews_96 : decode cX12_renews 96 = .ok (.iload_n 2, 1) := by decide +kernel
theorem dX12_renews_97 : decode cX12_renews 97 = .ok (.iconst 2, 1) := by decide +kernel
theorem dX12_renews_98 : decode cX12_renews 98 = .ok (.aload_n 0, 1) := by decide +kernel
theorem dX12_renews_99 : decode cX12_renews 99 = .ok (.iload_n 2, 1) := by decide +kernel
theorem dX12_renews_100 : decode cX12_renews 100 = .ok (.iconst 2, 1) := by decide +kernel
theorem dX12_renews_101 : decode cX12_renews 101 = .ok (.invokevirtual 58, 3) := by decide +kernel
theorem dX12_renews_104 : decode cX12_renews 104 = .ok (.iload 6, 2) := by decide +kernel
theorem dX12_renews_106 : decode cX12_renews 106 = .ok (.ifCond .eq 7, 3) := by decide +kernel
theorem dX12_renews_109 : decode cX12_renews 109 = .ok (.iload_n 3, 1) := by decide +kernel
theorem dX12_renews_110 : decode cX12_renews 110 = .ok (.goto 4, 3) := by decide +kernel
theorem dX12_renews_113 : decode cX12_renews 113 = .ok (.iconst 0, 1) := by decide +kernel
theorem dX12_renews_114 : decode cX12_renews 114 = .ok (.iadd, 1) := by decide +kernel
theorem dX12_renews_115 : decode cX12_renews 115 = .ok (.invokevirtual 66, 3) := by decide +kernel
theorem dX12_renews_118 : decode cX12_renews 118 = .ok (.aload_n 0, 1) := by decide +kernel
theorem dX12_renews_119 : decode cX12_renews 119 = .ok (.getfield 9, 3) := by decide +kernel
theorem dX12_renews_122 : decode cX12_renews 122 = .ok (.iconst 4, 1) := by decide +kernel
theorem dX12_renews_123 : decode cX12_renews 123 = .ok (.dup2, 1) := by decide +kernel
theorem dX12_renews_124 : decode cX12_renews 124 = .ok (.iaload, 1) := by decide +kernel
theorem dX12_renews_125 : decode cX12_renews 125 = .ok (.iload 6, 2) := by decide +kernel
theorem dX12_renews_127 : decode cX12_renews 127 = .ok (.ifCond .eq 7, 3) := by decide +kernel
theorem dX12_renews_130 : decode cX12_renews 130 = .ok (.iconst 0, 1) := by decide +kernel
theorem dX12_renews_131 : decode cX12_renews 131 = .ok (.goto 4, 3) := by decide +kernel
theorem dX12_renews_134 : decode cX12_renews 134 = .ok (.iconst 1, 1) := by decide +kernel
theorem dX12_renews_135 : decode cX12_renews 135 = .ok (.iadd, 1) := by decide +kernel
theorem dX12_renews_136 : decode cX12_renews 136 = .ok (.iastore, 1) := by decide +kernel
theorem dX12_renews_137 : decode cX12_renews 137 = .ok (.iinc 1 1, 3) := by decide +kernel
theorem dX12_renews_140 : decode cX12_renews 140 = .ok (.goto (-138), 3) := by decide +kernel
theorem dX12_renews_143 : decode cX12_renews 143 = .ok (.aload_n 0, 1) := by decide +kernel
theorem dX12_renews_144 : decode cX12_renews 144 = .ok (.getfield 9, 3) := by decide +kernel
theorem dX12_renews_147 : decode cX12_renews 147 = .ok (.bipush 6, 2) := by decide +kernel
theorem dX12_renews_149 : decode cX12_renews 149 = .ok (.iconst 0, 1) := by decide +kernel
theorem dX12_renews_150 : decode cX12_renews 150 = .ok (.iastore, 1) := by decide +kernel
theorem dX12_renews_151 : decode cX12_renews 151 = .ok (.return_, 1) := by decide +kernel
theorem dX12_burns_0 : decode cX12_burns 0 = .ok (.iconst 0, 1) := by decide +kernel
theorem dX12_burns_1 : decode cX12_burns 1 = .ok (.istore_n 1, 1) := by decide +kernel
theorem dX12_burns_2 : decode cX12_burns 2 = .ok (.iconst 0, 1) := by decide +kernel
theorem dX12_burns_3 : decode cX12_burns 3 = .ok (.istore_n 2, 1) := by decide +kernel
theorem dX12_burns_4 : decode cX12_burns 4 = .ok (.iload_n 2, 1) := by decide +kernel
theorem dX12_burns_5 : decode cX12_burns 5 = .ok (.aload_n 0, 1) := by decide +kernel
theorem dX12_burns_6 : decode cX12_burns 6 = .ok (.getfield 9, 3) := by decide +kernel
theorem dX12_burns_9 : decode cX12_burns 9 = .ok (.iconst 1, 1) := by decide +kernel
theorem dX12_burns_10 : decode cX12_burns 10 = .ok (.iaload, 1) := by decide +kernel
theorem dX12_burns_11 : decode cX12_burns 11 = .ok (.if_icmp .ge 110, 3) := by decide +kernel
theorem dX12_burns_14 : decode cX12_burns 14 = .ok (.aload_n 0, 1) := by decide +kernel
theorem dX12_burns_15 : decode cX12_burns 15 = .ok (.iload_n 2, 1) := by decide +kernel
theorem dX12_burns_16 : decode cX12_burns 16 = .ok (.invokevirtual 96, 3) := by decide +kernel
theorem dX12_burns_19 : decode cX12_burns 19 = .ok (.ifCond .eq 22, 3) := by decide +kernel
theorem dX12_burns_22 : decode cX12_burns 22 = .ok (.aload_n 0, 1) := by decide +kernel
theorem dX12_burns_23 : decode cX12_burns 23 = .ok (.iload_n 2, 1) := by decide +kernel
theorem dX12_burns_24 : decode cX12_burns 24 = .ok (.iconst 0, 1) := by decide +kernel
theorem dX12_burns_25 : decode cX12_burns 25 = .ok (.invokevirtual 58, 3) := by decide +kernel
theorem dX12_burns_28 : decode cX12_burns 28 = .ok (.aload_n 0, 1) := by decide +kernel
theorem dX12_burns_29 : decode cX12_burns 29 = .ok (.getfield 9, 3) := by decide +kernel
theorem dX12_burns_32 : decode cX12_burns 32 = .ok (.iconst 2, 1) := by decide +kernel
theorem dX12_burns_33 : decode cX12_burns 33 = .ok (.iaload, 1) := by decide +kernel
theorem dX12_burns_34 : decode cX12_burns 34 = .ok (.if_icmp .gt 7, 3) := by decide +kernel
theorem dX12_burns_37 : decode cX12_burns 37 = .ok (.iconst 1, 1) := by decide +kernel
theorem dX12_burns_38 : decode cX12_burns 38 = .ok (.goto 4, 3) := by decide +kernel
theorem dX12_burns_41 : decode cX12_burns 41 = .ok (.iconst 0, 1) := by decide +kernel
theorem dX12_burns_42 : decode cX12_burns 42 = .ok (.istore_n 3, 1) := by decide +kernel
theorem dX12_burns_43 : decode cX12_burns 43 = .ok (.aload_n 0, 1) := by decide +kernel
theorem dX12_burns_44 : decode cX12_burns 44 = .ok (.getfield 9, 3) := by decide +kernel
theorem dX12_burns_47 : decode cX12_burns 47 = .ok (.iconst 2, 1) := by decide +kernel
theorem dX12_burns_48 : decode cX12_burns 48 = .ok (.dup2, 1) := by decide +kernel
theorem dX12_burns_49 : decode cX12_burns 49 = .ok (.iaload, 1) := by decide +kernel
theorem dX12_burns_50 : decode cX12_burns 50 = .ok (.iload_n 3, 1) := by decide +kernel
theorem dX12_burns_51 : decode cX12_burns 51 = .ok (.ifCond .eq 12, 3) := by decide +kernel
theorem dX12_burns_54 : decode cX12_burns 54 = .ok (.aload_n 0, 1) := by decide +kernel
theorem dX12_burns_55 : decode cX12_burns 55 = .ok (.iload_n 2, 1) := by decide +kernel
theorem dX12_burns_56 : decode cX12_burns 56 = .ok (.iconst 0, 1) := by decide +kernel
theorem dX12_burns_57 : decode cX12_burns 57 = .ok (.invokevirtual 58, 3) := by decide +kernel
theorem dX12_burns_60 : decode cX12_burns 60 = .ok (.goto 4, 3) := by decide +kernel
theorem dX12_burns_63 : decode cX12_burns 63 = .ok (.iconst 0, 1) := by decide +kernel
theorem dX12_burns_64 : decode cX12_burns 64 = .ok (.isub, 1) := by decide +kernel
theorem dX12_burns_65 : decode cX12_burns 65 = .ok (.iastore, 1) := by decide +kernel
theorem dX12_burns_66 : decode cX12_burns 66 = .ok (.aload_n 0, 1) := by decide +kernel
theorem dX12_burns_67 : decode cX12_burns 67 = .ok (.iload_n 2, 1) := by decide +kernel
theorem dX12_burns_68 : decode cX12_burns 68 = .ok (.iconst 4, 1) := by decide +kernel
theorem dX12_burns_69 : decode cX12_burns 69 = .ok (.iload_n 3, 1) := by decide +kernel
theorem dX12_burns_70 : decode cX12_burns 70 = .ok (.ifCond .eq 7, 3) := by decide +kernel
theorem dX12_burns_73 : decode cX12_burns 73 = .ok (.iconst 1, 1) := by decide +kernel
theorem dX12_burns_74 : decode cX12_burns 74 = .ok (.goto 4, 3) := by decide +kernel
theorem dX12_burns_77 : decode cX12_burns 77 = .ok (.iconst 0, 1) := by decide +kernel
theorem dX12_burns_78 : decode cX12_burns 78 = .ok (.invokevirtual 66, 3) := by decide +kernel
theorem dX12_burns_81 : decode cX12_burns 81 = .ok (.aload_n 0, 1) := by decide +kernel
theorem dX12_burns_82 : decode cX12_burns 82 = .ok (.iload_n 2, 1) := by decide +kernel
theorem dX12_burns_83 : decode cX12_burns 83 = .ok (.iconst 3, 1) := by decide +kernel
theorem dX12_burns_84 : decode cX12_burns 84 = .ok (.aload_n 0, 1) := by decide +kernel
theorem dX12_burns_85 : decode cX12_burns 85 = .ok (.iload_n 2, 1) := by decide +kernel
theorem dX12_burns_86 : decode cX12_burns 86 = .ok (.iconst 3, 1) := by decide +kernel
theorem dX12_burns_87 : decode cX12_burns 87 = .ok (.invokevirtual 58, 3) := by decide +kernel
theorem dX12_burns_90 : decode cX12_burns 90 = .ok (.iload_n 3, 1) := by decide +kernel
theorem dX12_burns_91 : decode cX12_burns 91 = .ok (.ifCond .eq 7, 3) := by decide +kernel
theorem dX12_burns_94 : decode cX12_burns 94 = .ok (.iconst 1, 1) := by decide +kernel
theorem dX12_burns_95 : decode cX12_burns 95 = .ok (.goto 4, 3) := by decide +kernel
theorem dX12_burns_98 : decode cX12_burns 98 = .ok (.iconst 0, 1) := by decide +kernel
theorem dX12_burns_99 : decode cX12_burns 99 = .ok (.iadd, 1) := by decide +kernel
theorem dX12_burns_100 : decode cX12_burns 100 = .ok (.invokevirtual 66, 3) := by decide +kernel
theorem dX12_burns_103 : decode cX12_burns 103 = .ok (.iload_n 1, 1) := by decide +kernel
theorem dX12_burns_104 : decode cX12_burns 104 = .ok (.iload_n 3, 1) := by decide +kernel
theorem dX12_burns_105 : decode cX12_burns 105 = .ok (.ifCond .eq 7, 3) := by decide +kernel
theorem dX12_burns_108 : decode cX12_burns 108 = .ok (.iconst 1, 1) := by decide +kernel
theorem dX12_burns_109 : decode cX12_burns 109 = .ok (.goto 4, 3) := by decide +kernel
theorem dX12_burns_112 : decode cX12_burns 112 = .ok (.iconst 0, 1) := by decide +kernel
theorem dX12_burns_113 : decode cX12_burns 113 = .ok (.iadd, 1) := by decide +kernel
theorem dX12_burns_114 : decode cX12_burns 114 = .ok (.istore_n 1, 1) := by decide +kernel
theorem dX12_burns_115 : decode cX12_burns 115 = .ok (.iinc 2 1, 3) := by decide +kernel
theorem dX12_burns_118 : decode cX12_burns 118 = .ok (.goto (-114), 3) := by decide +kernel
theorem dX12_burns_121 : decode cX12_burns 121 = .ok (.iload_n 1, 1) := by decide +kernel
theorem dX12_burns_122 : decode cX12_burns 122 = .ok (.ireturn, 1) := by decide +kernel
theorem dX12_lampsOf_0 : decode cX12_lampsOf 0 = .ok (.iconst 0, 1) := by decide +kernel
theorem dX12_lampsOf_1 : decode cX12_lampsOf 1 = .ok (.istore_n 3, 1) := by decide +kernel
theorem dX12_lampsOf_2 : decode cX12_lampsOf 2 = .ok (.iconst 0, 1) := by decide +kernel
theorem dX12_lampsOf_3 : decode cX12_lampsOf 3 = .ok (.istore 4, 2) := by decide +kernel
theorem dX12_lampsOf_5 : decode cX12_lampsOf 5 = .ok (.iload 4, 2) := by decide +kernel
theorem dX12_lampsOf_7 : decode cX12_lampsOf 7 = .ok (.aload_n 0, 1) := by decide +kernel
theorem dX12_lampsOf_8 : decode cX12_lampsOf 8 = .ok (.getfield 9, 3) := by decide +kernel
theorem dX12_lampsOf_11 : decode cX12_lampsOf 11 = .ok (.iconst 1, 1) := by decide +kernel
theorem dX12_lampsOf_12 : decode cX12_lampsOf 12 = .ok (.iaload, 1) := by decide +kernel
theorem dX12_lampsOf_13 : decode cX12_lampsOf 13 = .ok (.if_icmp .ge 45, 3) := by decide +kernel
theorem dX12_lampsOf_16 : decode cX12_lampsOf 16 = .ok (.iload_n 3, 1) := by decide +kernel
theorem dX12_lampsOf_17 : decode cX12_lampsOf 17 = .ok (.aload_n 0, 1) := by decide +kernel
theorem dX12_lampsOf_18 : decode cX12_lampsOf 18 = .ok (.iload 4, 2) := by decide +kernel
theorem dX12_lampsOf_20 : decode cX12_lampsOf 20 = .ok (.iconst 1, 1) := by decide +kernel
theorem dX12_lampsOf_21 : decode cX12_lampsOf 21 = .ok (.invokevirtual 58, 3) := by decide +kernel
theorem dX12_lampsOf_24 : decode cX12_lampsOf 24 = .ok (.iload_n 1, 1) := by decide +kernel
theorem dX12_lampsOf_25 : decode cX12_lampsOf 25 = .ok (.iconst 1, 1) := by decide +kernel
theorem dX12_lampsOf_26 : decode cX12_lampsOf 26 = .ok (.iadd, 1) := by decide +kernel
theorem dX12_lampsOf_27 : decode cX12_lampsOf 27 = .ok (.if_icmp .ne 22, 3) := by decide +kernel
theorem dX12_lampsOf_30 : decode cX12_lampsOf 30 = .ok (.iload_n 2, 1) := by decide +kernel
theorem dX12_lampsOf_31 : decode cX12_lampsOf 31 = .ok (.ifCond .eq 14, 3) := by decide +kernel
theorem dX12_lampsOf_34 : decode cX12_lampsOf 34 = .ok (.aload_n 0, 1) := by decide +kernel
theorem dX12_lampsOf_35 : decode cX12_lampsOf 35 = .ok (.iload 4, 2) := by decide +kernel
theorem dX12_lampsOf_37 : decode cX12_lampsOf 37 = .ok (.iconst 4, 1) := by decide +kernel
theorem dX12_lampsOf_38 : decode cX12_lampsOf 38 = .ok (.invokevirtual 58, 3) := by decide +kernel
theorem dX12_lampsOf_41 : decode cX12_lampsOf 41 = .ok (.iconst 1, 1) := by decide +kernel
theorem dX12_lampsOf_42 : decode cX12_lampsOf 42 = .ok (.if_icmp .ne 7, 3) := by decide +kernel
theorem dX12_lampsOf_45 : decode cX12_lampsOf 45 = .ok (.iconst 1, 1) := by decide +kernel
theorem dX12_lampsOf_46 : decode cX12_lampsOf 46 = .ok (.goto 4, 3) := by decide +kernel
theorem dX12_lampsOf_49 : decode cX12_lampsOf 49 = .ok (.iconst 0, 1) := by decide +kernel
theorem dX12_lampsOf_50 : decode cX12_lampsOf 50 = .ok (.iadd, 1) := by decide +kernel
theorem dX12_lampsOf_51 : decode cX12_lampsOf 51 = .ok (.istore_n 3, 1) := by decide +kernel
theorem dX12_lampsOf_52 : decode cX12_lampsOf 52 = .ok (.iinc 4 1, 3) := by decide +kernel
theorem dX12_lampsOf_55 : decode cX12_lampsOf 55 = .ok (.goto (-50), 3) := by decide +kernel
theorem dX12_lampsOf_58 : decode cX12_lampsOf 58 = .ok (.iload_n 3, 1) := by decide +kernel
theorem dX12_lampsOf_59 : decode cX12_lampsOf 59 = .ok (.ireturn, 1) := by decide +kernel
theorem dX12_fines_0 : decode cX12_fines 0 = .ok (.iconst 0, 1) := by decide +kernel
theorem dX12_fines_1 : decode cX12_fines 1 = .ok (.istore_n 1, 1) := by decide +kernel
theorem dX12_fines_2 : decode cX12_fines 2 = .ok (.iload_n 1, 1) := by decide +kernel
theorem dX12_fines_3 : decode cX12_fines 3 = .ok (.aload_n 0, 1) := by decide +kernel
theorem dX12_fines_4 : decode cX12_fines 4 = .ok (.getfield 9, 3) := by decide +kernel
theorem dX12_fines_7 : decode cX12_fines 7 = .ok (.iconst 0, 1) := by decide +kernel
theorem dX12_fines_8 : decode cX12_fines 8 = .ok (.iaload, 1) := by decide +kernel
theorem dX12_fines_9 : decode cX12_fines 9 = .ok (.if_icmp .ge 82, 3) := by decide +kernel
theorem dX12_fines_12 : decode cX12_fines 12 = .ok (.aload_n 0, 1) := by decide +kernel
theorem dX12_fines_13 : decode cX12_fines 13 = .ok (.iload_n 1, 1) := by decide +kernel
theorem dX12_fines_14 : decode cX12_fines 14 = .ok (.iconst 0, 1) := by decide +kernel
theorem dX12_fines_15 : decode cX12_fines 15 = .ok (.invokevirtual 120, 3) := by decide +kernel
theorem dX12_fines_18 : decode cX12_fines 18 = .ok (.istore_n 2, 1) := by decide +kernel
theorem dX12_fines_19 : decode cX12_fines 19 = .ok (.iload_n 2, 1) := by decide +kernel
theorem dX12_fines_20 : decode cX12_fines 20 = .ok (.ifCond .le 65, 3) := by decide +kernel
theorem dX12_fines_23 : decode cX12_fines 23 = .ok (.aload_n 0, 1) := by decide +kernel
theorem dX12_fines_24 : decode cX12_fines 24 = .ok (.iload_n 1, 1) := by decide +kernel
theorem dX12_fines_25 : decode cX12_fines 25 = .ok (.iconst 1, 1) := by decide +kernel
theorem dX12_fines_26 : decode cX12_fines 26 = .ok (.invokevirtual 120, 3) := by decide +kernel
theorem dX12_fines_29 : decode cX12_fines 29 = .ok (.ifCond .ne 56, 3) := by decide +kernel
theorem dX12_fines_32 : decode cX12_fines 32 = .ok (.iconst 2, 1) := by decide +kernel
theorem dX12_fines_33 : decode cX12_fines 33 = .ok (.iload_n 2, 1) := by decide +kernel
theorem dX12_fines_34 : decode cX12_fines 34 = .ok (.imul, 1) := by decide +kernel
theorem dX12_fines_35 : decode cX12_fines 35 = .ok (.aload_n 0, 1) := by decide +kernel
theorem dX12_fines_36 : decode cX12_fines 36 = .ok (.iload_n 1, 1) := by decide +kernel
theorem dX12_fines_37 : decode cX12_fines 37 = .ok (.iconst 0, 1) := by decide +kernel
theorem dX12_fines_38 : decode cX12_fines 38 = .ok (.invokevirtual 99, 3) := by decide +kernel
theorem dX12_fines_41 : decode cX12_fines 41 = .ok (.invokestatic 124, 3) := by decide +kernel
theorem dX12_fines_44 : decode cX12_fines 44 = .ok (.istore_n 3, 1) := by decide +kernel
theorem dX12_fines_45 : decode cX12_fines 45 = .ok (.aload_n 0, 1) := by decide +kernel
theorem dX12_fines_46 : decode cX12_fines 46 = .ok (.iload_n 1, 1) := by decide +kernel
theorem dX12_fines_47 : decode cX12_fines 47 = .ok (.iload_n 3, 1) := by decide +kernel
theorem dX12_fines_48 : decode cX12_fines 48 = .ok (.invokevirtual 102, 3) := by decide +kernel
theorem dX12_fines_51 : decode cX12_fines 51 = .ok (.aload_n 0, 1) := by decide +kernel
theorem dX12_fines_52 : decode cX12_fines 52 = .ok (.getfield 9, 3) := by decide +kernel
theorem dX12_fines_55 : decode cX12_fines 55 = .ok (.bipush 7, 2) := by decide +kernel
theorem dX12_fines_57 : decode cX12_fines 57 = .ok (.iconst 3, 1) := by decide +kernel
theorem dX12_fines_58 : decode cX12_fines 58 = .ok (.iload_n 1, 1) := by decide +kernel
theorem dX12_fines_59 : decode cX12_fines 59 = .ok (.imul, 1) := by decide +kernel
theorem dX12_fines_60 : decode cX12_fines 60 = .ok (.iadd, 1) := by decide +kernel
theorem dX12_fines_61 : decode cX12_fines 61 = .ok (.iconst 1, 1) := by decide +kernel
theorem dX12_fines_62 : decode cX12_fines 62 = .ok (.iadd, 1) := by decide +kernel
theorem dX12_fines_63 : decode cX12_fines 63 = .ok (.dup2, 1) := by decide +kernel
theorem dX12_fines_64 : decode cX12_fines 64 = .ok (.iaload, 1) := by decide +kernel
theorem dX12_fines_65 : decode cX12_fines 65 = .ok (.iload_n 3, 1) := by decide +kernel
theorem dX12_fines_66 : decode cX12_fines 66 = .ok (.iadd, 1) := by decide +kernel
theorem dX12_fines_67 : decode cX12_fines 67 = .ok (.iastore, 1) := by decide +kernel
theorem dX12_fines_68 : decode cX12_fines 68 = .ok (.aload_n 0, 1) := by decide +kernel
theorem dX12_fines_69 : decode cX12_fines 69 = .ok (.getfield 9, 3) := by decide +kernel
theorem dX12_fines_72 : decode cX12_fines 72 = .ok (.bipush 7, 2) := by decide +kernel
theorem dX12_fines_74 : decode cX12_fines 74 = .ok (.iconst 3, 1) := by decide +kernel
theorem dX12_fines_75 : decode cX12_fines 75 = .ok (.iload_n 1, 1) := by decide +kernel
theorem dX12_fines_76 : decode cX12_fines 76 = .ok (.imul, 1) := by decide +kernel
theorem dX12_fines_77 : decode cX12_fines 77 = .ok (.iadd, 1) := by decide +kernel
theorem dX12_fines_78 : decode cX12_fines 78 = .ok (.iconst 2, 1) := by decide +kernel
theorem dX12_fines_79 : decode cX12_fines 79 = .ok (.iadd, 1) := by decide +kernel
theorem dX12_fines_80 : decode cX12_fines 80 = .ok (.dup2, 1) := by decide +kernel
theorem dX12_fines_81 : decode cX12_fines 81 = .ok (.iaload, 1) := by decide +kernel
theorem dX12_fines_82 : decode cX12_fines 82 = .ok (.iconst 1, 1) := by decide +kernel
theorem dX12_fines_83 : decode cX12_fines 83 = .ok (.iadd, 1) := by decide +kernel
theorem dX12_fines_84 : decode cX12_fines 84 = .ok (.iastore, 1) := by decide +kernel
theorem dX12_fines_85 : decode cX12_fines 85 = .ok (.iinc 1 1, 3) := by decide +kernel
theorem dX12_fines_88 : decode cX12_fines 88 = .ok (.goto (-86), 3) := by decide +kernel
theorem dX12_fines_91 : decode cX12_fines 91 = .ok (.return_, 1) := by decide +kernel
theorem dX12_endsLeases_0 : decode cX12_endsLeases 0 = .ok (.iconst 0, 1) := by decide +kernel
theorem dX12_endsLeases_1 : decode cX12_endsLeases 1 = .ok (.istore_n 1, 1) := by decide +kernel
theorem dX12_endsLeases_2 : decode cX12_endsLeases 2 = .ok (.aload_n 0, 1) := by decide +kernel
theorem dX12_endsLeases_3 : decode cX12_endsLeases 3 = .ok (.getfield 9, 3) := by decide +kernel
theorem dX12_endsLeases_6 : decode cX12_endsLeases 6 = .ok (.iconst 3, 1) := by decide +kernel
theorem dX12_endsLeases_7 : decode cX12_endsLeases 7 = .ok (.dup2, 1) := by decide +kernel
theorem dX12_endsLeases_8 : decode cX12_endsLeases 8 = .ok (.iaload, 1) := by decide +kernel
theorem dX12_endsLeases_9 : decode cX12_endsLeases 9 = .ok (.iconst 1, 1) := by decide +kernel
theorem dX12_endsLeases_10 : decode cX12_endsLeases 10 = .ok (.iadd, 1) := by decide +kernel
theorem dX12_endsLeases_11 : decode cX12_endsLeases 11 = .ok (.iastore, 1) := by decide +kernel
theorem dX12_endsLeases_12 : decode cX12_endsLeases 12 = .ok (.iconst 0, 1) := by decide +kernel
theorem dX12_endsLeases_13 : decode cX12_endsLeases 13 = .ok (.istore_n 2, 1) := by decide +kernel
theorem dX12_endsLeases_14 : decode cX12_endsLeases 14 = .ok (.iload_n 2, 1) := by decide +kernel
theorem dX12_endsLeases_15 : decode cX12_endsLeases 15 = .ok (.aload_n 0, 1) := by decide +kernel
theorem dX12_endsLeases_16 : decode cX12_endsLeases 16 = .ok (.getfield 9, 3) := by decide +kernel
theorem dX12_endsLeases_19 : decode cX12_endsLeases 19 = .ok (.iconst 1, 1) := by decide +kernel
theorem dX12_endsLeases_20 : decode cX12_endsLeases 20 = .ok (.iaload, 1) := by decide +kernel
theorem dX12_endsLeases_21 : decode cX12_endsLeases 21 = .ok (.if_icmp .ge 40, 3) := by decide +kernel
theorem dX12_endsLeases_24 : decode cX12_endsLeases 24 = .ok (.aload_n 0, 1) := by decide +kernel
theorem dX12_endsLeases_25 : decode cX12_endsLeases 25 = .ok (.iload_n 2, 1) := by decide +kernel
theorem dX12_endsLeases_26 : decode cX12_endsLeases 26 = .ok (.invokevirtual 96, 3) := by decide +kernel
theorem dX12_endsLeases_29 : decode cX12_endsLeases 29 = .ok (.ifCond .eq 26, 3) := by decide +kernel
theorem dX12_endsLeases_32 : decode cX12_endsLeases 32 = .ok (.aload_n 0, 1) := by decide +kernel
theorem dX12_endsLeases_33 : decode cX12_endsLeases 33 = .ok (.iload_n 2, 1) := by decide +kernel
theorem dX12_endsLeases_34 : decode cX12_endsLeases 34 = .ok (.iconst 2, 1) := by decide +kernel
theorem dX12_endsLeases_35 : decode cX12_endsLeases 35 = .ok (.invokevirtual 58, 3) := by decide +kernel
theorem dX12_endsLeases_38 : decode cX12_endsLeases 38 = .ok (.aload_n 0, 1) := by decide +kernel
theorem dX12_endsLeases_39 : decode cX12_endsLeases 39 = .ok (.getfield 9, 3) := by decide +kernel
theorem dX12_endsLeases_42 : decode cX12_endsLeases 42 = .ok (.iconst 3, 1) := by decide +kernel
theorem dX12_endsLeases_43 : decode cX12_endsLeases 43 = .ok (.iaload, 1) := by decide +kernel
theorem dX12_endsLeases_44 : decode cX12_endsLeases 44 = .ok (.if_icmp .ne 11, 3) := by decide +kernel
theorem dX12_endsLeases_47 : decode cX12_endsLeases 47 = .ok (.aload_n 0, 1) := by decide +kernel
theorem dX12_endsLeases_48 : decode cX12_endsLeases 48 = .ok (.iload_n 2, 1) := by decide +kernel
theorem dX12_endsLeases_49 : decode cX12_endsLeases 49 = .ok (.invokevirtual 113, 3) := by decide +kernel
theorem dX12_endsLeases_52 : decode cX12_endsLeases 52 = .ok (.iinc 1 1, 3) := by decide +kernel
theorem dX12_endsLeases_55 : decode cX12_endsLeases 55 = .ok (.iinc 2 1, 3) := by decide +kernel
theorem dX12_endsLeases_58 : decode cX12_endsLeases 58 = .ok (.goto (-44), 3) := by decide +kernel
theorem dX12_endsLeases_61 : decode cX12_endsLeases 61 = .ok (.iload_n 1, 1) := by decide +kernel
theorem dX12_endsLeases_62 : decode cX12_endsLeases 62 = .ok (.ireturn, 1) := by decide +kernel
theorem dX12_doPassHours_0 : decode cX12_doPassHours 0 = .ok (.iconst 0, 1) := by decide +kernel
theorem dX12_doPassHours_1 : decode cX12_doPassHours 1 = .ok (.istore_n 2, 1) := by decide +kernel
theorem dX12_doPassHours_2 : decode cX12_doPassHours 2 = .ok (.iload_n 1, 1) := by decide +kernel
theorem dX12_doPassHours_3 : decode cX12_doPassHours 3 = .ok (.iconst 1, 1) := by decide +kernel
theorem dX12_doPassHours_4 : decode cX12_doPassHours 4 = .ok (.bipush 48, 2) := by decide +kernel
theorem dX12_doPassHours_6 : decode cX12_doPassHours 6 = .ok (.invokestatic 54, 3) := by decide +kernel
theorem dX12_doPassHours_9 : decode cX12_doPassHours 9 = .ok (.ifCond .ne 9, 3) := by decide +kernel
theorem dX12_doPassHours_12 : decode cX12_doPassHours 12 = .ok (.aload_n 0, 1) := by decide +kernel
theorem dX12_doPassHours_13 : decode cX12_doPassHours 13 = .ok (.iconst 1, 1) := by decide +kernel
theorem dX12_doPassHours_14 : decode cX12_doPassHours 14 = .ok (.invokevirtual 70, 3) := by decide +kernel
theorem dX12_doPassHours_17 : decode cX12_doPassHours 17 = .ok (.ireturn, 1) := by decide +kernel
theorem dX12_doPassHours_18 : decode cX12_doPassHours 18 = .ok (.iconst 0, 1) := by decide +kernel
theorem dX12_doPassHours_19 : decode cX12_doPassHours 19 = .ok (.istore_n 3, 1) := by decide +kernel
theorem dX12_doPassHours_20 : decode cX12_doPassHours 20 = .ok (.iload_n 3, 1) := by decide +kernel
theorem dX12_doPassHours_21 : decode cX12_doPassHours 21 = .ok (.iload_n 1, 1) := by decide +kernel
theorem dX12_doPassHours_22 : decode cX12_doPassHours 22 = .ok (.if_icmp .ge 30, 3) := by decide +kernel
theorem dX12_doPassHours_25 : decode cX12_doPassHours 25 = .ok (.aload_n 0, 1) := by decide +kernel
theorem dX12_doPassHours_26 : decode cX12_doPassHours 26 = .ok (.invokevirtual 129, 3) := by decide +kernel
theorem dX12_doPassHours_29 : decode cX12_doPassHours 29 = .ok (.aload_n 0, 1) := by decide +kernel
theorem dX12_doPassHours_30 : decode cX12_doPassHours 30 = .ok (.invokevirtual 132, 3) := by decide +kernel
theorem dX12_doPassHours_33 : decode cX12_doPassHours 33 = .ok (.istore 4, 2) := by decide +kernel
theorem dX12_doPassHours_35 : decode cX12_doPassHours 35 = .ok (.aload_n 0, 1) := by decide +kernel
theorem dX12_doPassHours_36 : decode cX12_doPassHours 36 = .ok (.invokevirtual 135, 3) := by decide +kernel
theorem dX12_doPassHours_39 : decode cX12_doPassHours 39 = .ok (.iload_n 2, 1) := by decide +kernel
theorem dX12_doPassHours_40 : decode cX12_doPassHours 40 = .ok (.aload_n 0, 1) := by decide +kernel
theorem dX12_doPassHours_41 : decode cX12_doPassHours 41 = .ok (.invokevirtual 138, 3) := by decide +kernel
theorem dX12_doPassHours_44 : decode cX12_doPassHours 44 = .ok (.iadd, 1) := by decide +kernel
theorem dX12_doPassHours_45 : decode cX12_doPassHours 45 = .ok (.istore_n 2, 1) := by decide +kernel
theorem dX12_doPassHours_46 : decode cX12_doPassHours 46 = .ok (.iinc 3 1, 3) := by decide +kernel
theorem dX12_doPassHours_49 : decode cX12_doPassHours 49 = .ok (.goto (-29), 3) := by decide +kernel
theorem dX12_doPassHours_52 : decode cX12_doPassHours 52 = .ok (.iload_n 2, 1) := by decide +kernel
theorem dX12_doPassHours_53 : decode cX12_doPassHours 53 = .ok (.ireturn, 1) := by decide +kernel
theorem dX12_passHours_0 : decode cX12_passHours 0 = .ok (.aload_n 0, 1) := by decide +kernel
theorem dX12_passHours_1 : decode cX12_passHours 1 = .ok (.invokevirtual 73, 3) := by decide +kernel
theorem dX12_passHours_4 : decode cX12_passHours 4 = .ok (.aload_n 0, 1) := by decide +kernel
theorem dX12_passHours_5 : decode cX12_passHours 5 = .ok (.aload_n 0, 1) := by decide +kernel
theorem dX12_passHours_6 : decode cX12_passHours 6 = .ok (.iload_n 1, 1) := by decide +kernel
theorem dX12_passHours_7 : decode cX12_passHours 7 = .ok (.invokevirtual 141, 3) := by decide +kernel
theorem dX12_passHours_10 : decode cX12_passHours 10 = .ok (.invokevirtual 80, 3) := by decide +kernel
theorem dX12_passHours_13 : decode cX12_passHours 13 = .ok (.ireturn, 1) := by decide +kernel
theorem dX12_hour_0 : decode cX12_hour 0 = .ok (.aload_n 0, 1) := by decide +kernel
theorem dX12_hour_1 : decode cX12_hour 1 = .ok (.iconst 0, 1) := by decide +kernel
theorem dX12_hour_2 : decode cX12_hour 2 = .ok (.putfield 42, 3) := by decide +kernel
theorem dX12_hour_5 : decode cX12_hour 5 = .ok (.aload_n 0, 1) := by decide +kernel
theorem dX12_hour_6 : decode cX12_hour 6 = .ok (.getfield 9, 3) := by decide +kernel
theorem dX12_hour_9 : decode cX12_hour 9 = .ok (.iconst 3, 1) := by decide +kernel
theorem dX12_hour_10 : decode cX12_hour 10 = .ok (.iaload, 1) := by decide +kernel
theorem dX12_hour_11 : decode cX12_hour 11 = .ok (.ireturn, 1) := by decide +kernel
theorem dX12_shipCount_0 : decode cX12_shipCount 0 = .ok (.aload_n 0, 1) := by decide +kernel
theorem dX12_shipCount_1 : decode cX12_shipCount 1 = .ok (.iconst 0, 1) := by decide +kernel
theorem dX12_shipCount_2 : decode cX12_shipCount 2 = .ok (.putfield 42, 3) := by decide +kernel
theorem dX12_shipCount_5 : decode cX12_shipCount 5 = .ok (.aload_n 0, 1) := by decide +kernel
theorem dX12_shipCount_6 : decode cX12_shipCount 6 = .ok (.getfield 9, 3) := by decide +kernel
theorem dX12_shipCount_9 : decode cX12_shipCount 9 = .ok (.iconst 0, 1) := by decide +kernel
theorem dX12_shipCount_10 : decode cX12_shipCount 10 = .ok (.iaload, 1) := by decide +kernel
theorem dX12_shipCount_11 : decode cX12_shipCount 11 = .ok (.ireturn, 1) := by decide +kernel
theorem dX12_coins_0 : decode cX12_coins 0 = .ok (.aload_n 0, 1) := by decide +kernel
theorem dX12_coins_1 : decode cX12_coins 1 = .ok (.aload_n 0, 1) := by decide +kernel
theorem dX12_coins_2 : decode cX12_coins 2 = .ok (.iload_n 1, 1) := by decide +kernel
theorem dX12_coins_3 : decode cX12_coins 3 = .ok (.invokevirtual 89, 3) := by decide +kernel
theorem dX12_coins_6 : decode cX12_coins 6 = .ok (.invokevirtual 144, 3) := by decide +kernel
theorem dX12_coins_9 : decode cX12_coins 9 = .ok (.ifCond .eq 12, 3) := by decide +kernel
theorem dX12_coins_12 : decode cX12_coins 12 = .ok (.aload_n 0, 1) := by decide +kernel
theorem dX12_coins_13 : decode cX12_coins 13 = .ok (.iload_n 1, 1) := by decide +kernel
theorem dX12_coins_14 : decode cX12_coins 14 = .ok (.iconst 0, 1) := by decide +kernel
theorem dX12_coins_15 : decode cX12_coins 15 = .ok (.invokevirtual 99, 3) := by decide +kernel
theorem dX12_coins_18 : decode cX12_coins 18 = .ok (.goto 4, 3) := by decide +kernel
theorem dX12_coins_21 : decode cX12_coins 21 = .ok (.iconst 0, 1) := by decide +kernel
theorem dX12_coins_22 : decode cX12_coins 22 = .ok (.ireturn, 1) := by decide +kernel
theorem dX12_finesPaid_0 : decode cX12_finesPaid 0 = .ok (.aload_n 0, 1) := by decide +kernel
theorem dX12_finesPaid_1 : decode cX12_finesPaid 1 = .ok (.aload_n 0, 1) := by decide +kernel
theorem dX12_finesPaid_2 : decode cX12_finesPaid 2 = .ok (.iload_n 1, 1) := by decide +kernel
theorem dX12_finesPaid_3 : decode cX12_finesPaid 3 = .ok (.invokevirtual 89, 3) := by decide +kernel
theorem dX12_finesPaid_6 : decode cX12_finesPaid 6 = .ok (.invokevirtual 144, 3) := by decide +kernel
theorem dX12_finesPaid_9 : decode cX12_finesPaid 9 = .ok (.ifCond .eq 12, 3) := by decide +kernel
theorem dX12_finesPaid_12 : decode cX12_finesPaid 12 = .ok (.aload_n 0, 1) := by decide +kernel
theorem dX12_finesPaid_13 : decode cX12_finesPaid 13 = .ok (.iload_n 1, 1) := by decide +kernel
theorem dX12_finesPaid_14 : decode cX12_finesPaid 14 = .ok (.iconst 1, 1) := by decide +kernel
theorem dX12_finesPaid_15 : decode cX12_finesPaid 15 = .ok (.invokevirtual 99, 3) := by decide +kernel
theorem dX12_finesPaid_18 : decode cX12_finesPaid 18 = .ok (.goto 4, 3) := by decide +kernel
theorem dX12_finesPaid_21 : decode cX12_finesPaid 21 = .ok (.iconst 0, 1) := by decide +kernel
theorem dX12_finesPaid_22 : decode cX12_finesPaid 22 = .ok (.ireturn, 1) := by decide +kernel
theorem dX12_darkHours_0 : decode cX12_darkHours 0 = .ok (.aload_n 0, 1) := by decide +kernel
theorem dX12_darkHours_1 : decode cX12_darkHours 1 = .ok (.aload_n 0, 1) := by decide +kernel
theorem dX12_darkHours_2 : decode cX12_darkHours 2 = .ok (.iload_n 1, 1) := by decide +kernel
theorem dX12_darkHours_3 : decode cX12_darkHours 3 = .ok (.invokevirtual 89, 3) := by decide +kernel
theorem dX12_darkHours_6 : decode cX12_darkHours 6 = .ok (.invokevirtual 144, 3) := by decide +kernel
theorem dX12_darkHours_9 : decode cX12_darkHours 9 = .ok (.ifCond .eq 12, 3) := by decide +kernel
theorem dX12_darkHours_12 : decode cX12_darkHours 12 = .ok (.aload_n 0, 1) := by decide +kernel
theorem dX12_darkHours_13 : decode cX12_darkHours 13 = .ok (.iload_n 1, 1) := by decide +kernel
theorem dX12_darkHours_14 : decode cX12_darkHours 14 = .ok (.iconst 2, 1) := by decide +kernel
theorem dX12_darkHours_15 : decode cX12_darkHours 15 = .ok (.invokevirtual 99, 3) := by decide +kernel
theorem dX12_darkHours_18 : decode cX12_darkHours 18 = .ok (.goto 4, 3) := by decide +kernel
theorem dX12_darkHours_21 : decode cX12_darkHours 21 = .ok (.iconst 0, 1) := by decide +kernel
theorem dX12_darkHours_22 : decode cX12_darkHours 22 = .ok (.ireturn, 1) := by decide +kernel
theorem dX12_wants_0 : decode cX12_wants 0 = .ok (.iconst 0, 1) := by decide +kernel
theorem dX12_wants_1 : decode cX12_wants 1 = .ok (.istore_n 2, 1) := by decide +kernel
theorem dX12_wants_2 : decode cX12_wants 2 = .ok (.iconst 0, 1) := by decide +kernel
theorem dX12_wants_3 : decode cX12_wants 3 = .ok (.istore_n 3, 1) := by decide +kernel
theorem dX12_wants_4 : decode cX12_wants 4 = .ok (.iload_n 3, 1) := by decide +kernel
theorem dX12_wants_5 : decode cX12_wants 5 = .ok (.aload_n 0, 1) := by decide +kernel
theorem dX12_wants_6 : decode cX12_wants 6 = .ok (.getfield 9, 3) := by decide +kernel
theorem dX12_wants_9 : decode cX12_wants 9 = .ok (.iconst 1, 1) := by decide +kernel
theorem dX12_wants_10 : decode cX12_wants 10 = .ok (.iaload, 1) := by decide +kernel
theorem dX12_wants_11 : decode cX12_wants 11 = .ok (.if_icmp .ge 34, 3) := by decide +kernel
theorem dX12_wants_14 : decode cX12_wants 14 = .ok (.iload_n 2, 1) := by decide +kernel
theorem dX12_wants_15 : decode cX12_wants 15 = .ok (.aload_n 0, 1) := by decide +kernel
theorem dX12_wants_16 : decode cX12_wants 16 = .ok (.iload_n 3, 1) := by decide +kernel
theorem dX12_wants_17 : decode cX12_wants 17 = .ok (.iconst 1, 1) := by decide +kernel
theorem dX12_wants_18 : decode cX12_wants 18 = .ok (.invokevirtual 58, 3) := by decide +kernel
theorem dX12_wants_21 : decode cX12_wants 21 = .ok (.iload_n 1, 1) := by decide +kernel
theorem dX12_wants_22 : decode cX12_wants 22 = .ok (.iconst 1, 1) := by decide +kernel
theorem dX12_wants_23 : decode cX12_wants 23 = .ok (.iadd, 1) := by decide +kernel
theorem dX12_wants_24 : decode cX12_wants 24 = .ok (.if_icmp .ne 12, 3) := by decide +kernel
theorem dX12_wants_27 : decode cX12_wants 27 = .ok (.aload_n 0, 1) := by decide +kernel
theorem dX12_wants_28 : decode cX12_wants 28 = .ok (.iload_n 3, 1) := by decide +kernel
theorem dX12_wants_29 : decode cX12_wants 29 = .ok (.iconst 0, 1) := by decide +kernel
theorem dX12_wants_30 : decode cX12_wants 30 = .ok (.invokevirtual 58, 3) := by decide +kernel
theorem dX12_wants_33 : decode cX12_wants 33 = .ok (.goto 4, 3) := by decide +kernel
theorem dX12_wants_36 : decode cX12_wants 36 = .ok (.iconst 0, 1) := by decide +kernel
theorem dX12_wants_37 : decode cX12_wants 37 = .ok (.iadd, 1) := by decide +kernel
theorem dX12_wants_38 : decode cX12_wants 38 = .ok (.istore_n 2, 1) := by decide +kernel
theorem dX12_wants_39 : decode cX12_wants 39 = .ok (.iinc 3 1, 3) := by decide +kernel
theorem dX12_wants_42 : decode cX12_wants 42 = .ok (.goto (-38), 3) := by decide +kernel
theorem dX12_wants_45 : decode cX12_wants 45 = .ok (.iload_n 2, 1) := by decide +kernel
theorem dX12_wants_46 : decode cX12_wants 46 = .ok (.ireturn, 1) := by decide +kernel
theorem dX12_demand_0 : decode cX12_demand 0 = .ok (.aload_n 0, 1) := by decide +kernel
theorem dX12_demand_1 : decode cX12_demand 1 = .ok (.aload_n 0, 1) := by decide +kernel
theorem dX12_demand_2 : decode cX12_demand 2 = .ok (.iload_n 1, 1) := by decide +kernel
theorem dX12_demand_3 : decode cX12_demand 3 = .ok (.invokevirtual 89, 3) := by decide +kernel
theorem dX12_demand_6 : decode cX12_demand 6 = .ok (.invokevirtual 144, 3) := by decide +kernel
theorem dX12_demand_9 : decode cX12_demand 9 = .ok (.ifCond .eq 11, 3) := by decide +kernel
theorem dX12_demand_12 : decode cX12_demand 12 = .ok (.aload_n 0, 1) := by decide +kernel
theorem dX12_demand_13 : decode cX12_demand 13 = .ok (.iload_n 1, 1) := by decide +kernel
theorem dX12_demand_14 : decode cX12_demand 14 = .ok (.invokevirtual 148, 3) := by decide +kernel
theorem dX12_demand_17 : decode cX12_demand 17 = .ok (.goto 4, 3) := by decide +kernel
theorem dX12_demand_20 : decode cX12_demand 20 = .ok (.iconst 0, 1) := by decide +kernel
theorem dX12_demand_21 : decode cX12_demand 21 = .ok (.ireturn, 1) := by decide +kernel
theorem dX12_leasesOf_0 : decode cX12_leasesOf 0 = .ok (.aload_n 0, 1) := by decide +kernel
theorem dX12_leasesOf_1 : decode cX12_leasesOf 1 = .ok (.aload_n 0, 1) := by decide +kernel
theorem dX12_leasesOf_2 : decode cX12_leasesOf 2 = .ok (.iload_n 1, 1) := by decide +kernel
theorem dX12_leasesOf_3 : decode cX12_leasesOf 3 = .ok (.invokevirtual 89, 3) := by decide +kernel
theorem dX12_leasesOf_6 : decode cX12_leasesOf 6 = .ok (.invokevirtual 144, 3) := by decide +kernel
theorem dX12_leasesOf_9 : decode cX12_leasesOf 9 = .ok (.ifCond .eq 12, 3) := by decide +kernel
theorem dX12_leasesOf_12 : decode cX12_leasesOf 12 = .ok (.aload_n 0, 1) := by decide +kernel
theorem dX12_leasesOf_13 : decode cX12_leasesOf 13 = .ok (.iload_n 1, 1) := by decide +kernel
theorem dX12_leasesOf_14 : decode cX12_leasesOf 14 = .ok (.iconst 0, 1) := by decide +kernel
theorem dX12_leasesOf_15 : decode cX12_leasesOf 15 = .ok (.invokevirtual 120, 3) := by decide +kernel
theorem dX12_leasesOf_18 : decode cX12_leasesOf 18 = .ok (.goto 4, 3) := by decide +kernel
theorem dX12_leasesOf_21 : decode cX12_leasesOf 21 = .ok (.iconst 0, 1) := by decide +kernel
theorem dX12_leasesOf_22 : decode cX12_leasesOf 22 = .ok (.ireturn, 1) := by decide +kernel
theorem dX12_lampCount_0 : decode cX12_lampCount 0 = .ok (.aload_n 0, 1) := by decide +kernel
theorem dX12_lampCount_1 : decode cX12_lampCount 1 = .ok (.iconst 0, 1) := by decide +kernel
theorem dX12_lampCount_2 : decode cX12_lampCount 2 = .ok (.putfield 42, 3) := by decide +kernel
theorem dX12_lampCount_5 : decode cX12_lampCount 5 = .ok (.aload_n 0, 1) := by decide +kernel
theorem dX12_lampCount_6 : decode cX12_lampCount 6 = .ok (.getfield 9, 3) := by decide +kernel
theorem dX12_lampCount_9 : decode cX12_lampCount 9 = .ok (.iconst 1, 1) := by decide +kernel
theorem dX12_lampCount_10 : decode cX12_lampCount 10 = .ok (.iaload, 1) := by decide +kernel
theorem dX12_lampCount_11 : decode cX12_lampCount 11 = .ok (.ireturn, 1) := by decide +kernel
theorem dX12_level_0 : decode cX12_level 0 = .ok (.aload_n 0, 1) := by decide +kernel
theorem dX12_level_1 : decode cX12_level 1 = .ok (.aload_n 0, 1) := by decide +kernel
theorem dX12_level_2 : decode cX12_level 2 = .ok (.iload_n 1, 1) := by decide +kernel
theorem dX12_level_3 : decode cX12_level 3 = .ok (.invokevirtual 93, 3) := by decide +kernel
theorem dX12_level_6 : decode cX12_level 6 = .ok (.invokevirtual 144, 3) := by decide +kernel
theorem dX12_level_9 : decode cX12_level 9 = .ok (.ifCond .eq 12, 3) := by decide +kernel
theorem dX12_level_12 : decode cX12_level 12 = .ok (.aload_n 0, 1) := by decide +kernel
theorem dX12_level_13 : decode cX12_level 13 = .ok (.iload_n 1, 1) := by decide +kernel
theorem dX12_level_14 : decode cX12_level 14 = .ok (.iconst 0, 1) := by decide +kernel
theorem dX12_level_15 : decode cX12_level 15 = .ok (.invokevirtual 58, 3) := by decide +kernel
theorem dX12_level_18 : decode cX12_level 18 = .ok (.goto 4, 3) := by decide +kernel
theorem dX12_level_21 : decode cX12_level 21 = .ok (.iconst 0, 1) := by decide +kernel
theorem dX12_level_22 : decode cX12_level 22 = .ok (.ireturn, 1) := by decide +kernel
theorem dX12_isLeased_0 : decode cX12_isLeased 0 = .ok (.aload_n 0, 1) := by decide +kernel
theorem dX12_isLeased_1 : decode cX12_isLeased 1 = .ok (.aload_n 0, 1) := by decide +kernel
theorem dX12_isLeased_2 : decode cX12_isLeased 2 = .ok (.iload_n 1, 1) := by decide +kernel
theorem dX12_isLeased_3 : decode cX12_isLeased 3 = .ok (.invokevirtual 93, 3) := by decide +kernel
theorem dX12_isLeased_6 : decode cX12_isLeased 6 = .ok (.invokevirtual 144, 3) := by decide +kernel
theorem dX12_isLeased_9 : decode cX12_isLeased 9 = .ok (.ifCond .eq 15, 3) := by decide +kernel
theorem dX12_isLeased_12 : decode cX12_isLeased 12 = .ok (.aload_n 0, 1) := by decide +kernel
theorem dX12_isLeased_13 : decode cX12_isLeased 13 = .ok (.iload_n 1, 1) := by decide +kernel
theorem dX12_isLeased_14 : decode cX12_isLeased 14 = .ok (.invokevirtual 96, 3) := by decide +kernel
theorem dX12_isLeased_17 : decode cX12_isLeased 17 = .ok (.ifCond .eq 7, 3) := by decide +kernel
theorem dX12_isLeased_20 : decode cX12_isLeased 20 = .ok (.iconst 1, 1) := by decide +kernel
theorem dX12_isLeased_21 : decode cX12_isLeased 21 = .ok (.goto 4, 3) := by decide +kernel
theorem dX12_isLeased_24 : decode cX12_isLeased 24 = .ok (.iconst 0, 1) := by decide +kernel
theorem dX12_isLeased_25 : decode cX12_isLeased 25 = .ok (.ireturn, 1) := by decide +kernel
theorem dX12_lessee_0 : decode cX12_lessee 0 = .ok (.aload_n 0, 1) := by decide +kernel
theorem dX12_lessee_1 : decode cX12_lessee 1 = .ok (.aload_n 0, 1) := by decide +kernel
theorem dX12_lessee_2 : decode cX12_lessee 2 = .ok (.iload_n 1, 1) := by decide +kernel
theorem dX12_lessee_3 : decode cX12_lessee 3 = .ok (.invokevirtual 93, 3) := by decide +kernel
theorem dX12_lessee_6 : decode cX12_lessee 6 = .ok (.ifCond .ne 7, 3) := by decide +kernel
theorem dX12_lessee_9 : decode cX12_lessee 9 = .ok (.iconst 1, 1) := by decide +kernel
theorem dX12_lessee_10 : decode cX12_lessee 10 = .ok (.goto 16, 3) := by decide +kernel
theorem dX12_lessee_13 : decode cX12_lessee 13 = .ok (.aload_n 0, 1) := by decide +kernel
theorem dX12_lessee_14 : decode cX12_lessee 14 = .ok (.iload_n 1, 1) := by decide +kernel
theorem dX12_lessee_15 : decode cX12_lessee 15 = .ok (.invokevirtual 96, 3) := by decide +kernel
theorem dX12_lessee_18 : decode cX12_lessee 18 = .ok (.ifCond .ne 7, 3) := by decide +kernel
theorem dX12_lessee_21 : decode cX12_lessee 21 = .ok (.iconst 2, 1) := by decide +kernel
theorem dX12_lessee_22 : decode cX12_lessee 22 = .ok (.goto 4, 3) := by decide +kernel
theorem dX12_lessee_25 : decode cX12_lessee 25 = .ok (.iconst 0, 1) := by decide +kernel
theorem dX12_lessee_26 : decode cX12_lessee 26 = .ok (.putfield 42, 3) := by decide +kernel
theorem dX12_lessee_29 : decode cX12_lessee 29 = .ok (.aload_n 0, 1) := by decide +kernel
theorem dX12_lessee_30 : decode cX12_lessee 30 = .ok (.getfield 42, 3) := by decide +kernel
theorem dX12_lessee_33 : decode cX12_lessee 33 = .ok (.ifCond .le 7, 3) := by decide +kernel
theorem dX12_lessee_36 : decode cX12_lessee 36 = .ok (.iconst 0, 1) := by decide +kernel
theorem dX12_lessee_37 : decode cX12_lessee 37 = .ok (.goto 11, 3) := by decide +kernel
theorem dX12_lessee_40 : decode cX12_lessee 40 = .ok (.aload_n 0, 1) := by decide +kernel
theorem dX12_lessee_41 : decode cX12_lessee 41 = .ok (.iload_n 1, 1) := by decide +kernel
theorem dX12_lessee_42 : decode cX12_lessee 42 = .ok (.iconst 1, 1) := by decide +kernel
theorem dX12_lessee_43 : decode cX12_lessee 43 = .ok (.invokevirtual 58, 3) := by decide +kernel
theorem dX12_lessee_46 : decode cX12_lessee 46 = .ok (.iconst 1, 1) := by decide +kernel
theorem dX12_lessee_47 : decode cX12_lessee 47 = .ok (.isub, 1) := by decide +kernel
theorem dX12_lessee_48 : decode cX12_lessee 48 = .ok (.ireturn, 1) := by decide +kernel
theorem dX12_endHour_0 : decode cX12_endHour 0 = .ok (.aload_n 0, 1) := by decide +kernel
theorem dX12_endHour_1 : decode cX12_endHour 1 = .ok (.aload_n 0, 1) := by decide +kernel
theorem dX12_endHour_2 : decode cX12_endHour 2 = .ok (.iload_n 1, 1) := by decide +kernel
theorem dX12_endHour_3 : decode cX12_endHour 3 = .ok (.invokevirtual 93, 3) := by decide +kernel
theorem dX12_endHour_6 : decode cX12_endHour 6 = .ok (.ifCond .ne 7, 3) := by decide +kernel
theorem dX12_endHour_9 : decode cX12_endHour 9 = .ok (.iconst 1, 1) := by decide +kernel
theorem dX12_endHour_10 : decode cX12_endHour 10 = .ok (.goto 16, 3) := by decide +kernel
theorem dX12_endHour_13 : decode cX12_endHour 13 = .ok (.aload_n 0, 1) := by decide +kernel
theorem dX12_endHour_14 : decode cX12_endHour 14 = .ok (.iload_n 1, 1) := by decide +kernel
theorem dX12_endHour_15 : decode cX12_endHour 15 = .ok (.invokevirtual 96, 3) := by decide +kernel
theorem dX12_endHour_18 : decode cX12_endHour 18 = .ok (.ifCond .ne 7, 3) := by decide +kernel
theorem dX12_endHour_21 : decode cX12_endHour 21 = .ok (.iconst 2, 1) := by decide +kernel
theorem dX12_endHour_22 : decode cX12_endHour 22 = .ok (.goto 4, 3) := by decide +kernel
theorem dX12_endHour_25 : decode cX12_endHour 25 = .ok (.iconst 0, 1) := by decide +kernel
theorem dX12_endHour_26 : decode cX12_endHour 26 = .ok (.putfield 42, 3) := by decide +kernel
theorem dX12_endHour_29 : decode cX12_endHour 29 = .ok (.aload_n 0, 1) := by decide +kernel
theorem dX12_endHour_30 : decode cX12_endHour 30 = .ok (.getfield 42, 3) := by decide +kernel
theorem dX12_endHour_33 : decode cX12_endHour 33 = .ok (.ifCond .le 7, 3) := by decide +kernel
theorem dX12_endHour_36 : decode cX12_endHour 36 = .ok (.iconst 0, 1) := by decide +kernel
theorem dX12_endHour_37 : decode cX12_endHour 37 = .ok (.goto 9, 3) := by decide +kernel
theorem dX12_endHour_40 : decode cX12_endHour 40 = .ok (.aload_n 0, 1) := by decide +kernel
theorem dX12_endHour_41 : decode cX12_endHour 41 = .ok (.iload_n 1, 1) := by decide +kernel
theorem dX12_endHour_42 : decode cX12_endHour 42 = .ok (.iconst 2, 1) := by decide +kernel
theorem dX12_endHour_43 : decode cX12_endHour 43 = .ok (.invokevirtual 58, 3) := by decide +kernel
theorem dX12_endHour_46 : decode cX12_endHour 46 = .ok (.ireturn, 1) := by decide +kernel
theorem dX12_brightHours_0 : decode cX12_brightHours 0 = .ok (.aload_n 0, 1) := by decide +kernel
theorem dX12_brightHours_1 : decode cX12_brightHours 1 = .ok (.aload_n 0, 1) := by decide +kernel
theorem dX12_brightHours_2 : decode cX12_brightHours 2 = .ok (.iload_n 1, 1) := by decide +kernel
theorem dX12_brightHours_3 : decode cX12_brightHours 3 = .ok (.invokevirtual 93, 3) := by decide +kernel
theorem dX12_brightHours_6 : decode cX12_brightHours 6 = .ok (.invokevirtual 144, 3) := by decide +kernel
theorem dX12_brightHours_9 : decode cX12_brightHours 9 = .ok (.ifCond .eq 12, 3) := by decide +kernel
theorem dX12_brightHours_12 : decode cX12_brightHours 12 = .ok (.aload_n 0, 1) := by decide +kernel
theorem dX12_brightHours_13 : decode cX12_brightHours 13 = .ok (.iload_n 1, 1) := by decide +kernel
theorem dX12_brightHours_14 : decode cX12_brightHours 14 = .ok (.iconst 3, 1) := by decide +kernel
theorem dX12_brightHours_15 : decode cX12_brightHours 15 = .ok (.invokevirtual 58, 3) := by decide +kernel
theorem dX12_brightHours_18 : decode cX12_brightHours 18 = .ok (.goto 4, 3) := by decide +kernel
theorem dX12_brightHours_21 : decode cX12_brightHours 21 = .ok (.iconst 0, 1) := by decide +kernel
theorem dX12_brightHours_22 : decode cX12_brightHours 22 = .ok (.ireturn, 1) := by decide +kernel
theorem dX12_wasBright_0 : decode cX12_wasBright 0 = .ok (.aload_n 0, 1) := by decide +kernel
theorem dX12_wasBright_1 : decode cX12_wasBright 1 = .ok (.aload_n 0, 1) := by decide +kernel
theorem dX12_wasBright_2 : decode cX12_wasBright 2 = .ok (.iload_n 1, 1) := by decide +kernel
theorem dX12_wasBright_3 : decode cX12_wasBright 3 = .ok (.invokevirtual 93, 3) := by decide +kernel
theorem dX12_wasBright_6 : decode cX12_wasBright 6 = .ok (.invokevirtual 144, 3) := by decide +kernel
theorem dX12_wasBright_9 : decode cX12_wasBright 9 = .ok (.ifCond .eq 17, 3) := by decide +kernel
theorem dX12_wasBright_12 : decode cX12_wasBright 12 = .ok (.aload_n 0, 1) := by decide +kernel
theorem dX12_wasBright_13 : decode cX12_wasBright 13 = .ok (.iload_n 1, 1) := by decide +kernel
theorem dX12_wasBright_14 : decode cX12_wasBright 14 = .ok (.iconst 4, 1) := by decide +kernel
theorem dX12_wasBright_15 : decode cX12_wasBright 15 = .ok (.invokevirtual 58, 3) := by decide +kernel
theorem dX12_wasBright_18 : decode cX12_wasBright 18 = .ok (.iconst 1, 1) := by decide +kernel
theorem dX12_wasBright_19 : decode cX12_wasBright 19 = .ok (.if_icmp .ne 7, 3) := by decide +kernel
theorem dX12_wasBright_22 : decode cX12_wasBright 22 = .ok (.iconst 1, 1) := by decide +kernel
theorem dX12_wasBright_23 : decode cX12_wasBright 23 = .ok (.goto 4, 3) := by decide +kernel
theorem dX12_wasBright_26 : decode cX12_wasBright 26 = .ok (.iconst 0, 1) := by decide +kernel
theorem dX12_wasBright_27 : decode cX12_wasBright 27 = .ok (.ireturn, 1) := by decide +kernel
theorem dX12_leased_0 : decode cX12_leased 0 = .ok (.iconst 0, 1) := by decide +kernel
theorem dX12_leased_1 : decode cX12_leased 1 = .ok (.istore_n 1, 1) := by decide +kernel
theorem dX12_leased_2 : decode cX12_leased 2 = .ok (.iconst 0, 1) := by decide +kernel
theorem dX12_leased_3 : decode cX12_leased 3 = .ok (.istore_n 2, 1) := by decide +kernel
theorem dX12_leased_4 : decode cX12_leased 4 = .ok (.iload_n 2, 1) := by decide +kernel
theorem dX12_leased_5 : decode cX12_leased 5 = .ok (.aload_n 0, 1) := by decide +kernel
theorem dX12_leased_6 : decode cX12_leased 6 = .ok (.getfield 9, 3) := by decide +kernel
theorem dX12_leased_9 : decode cX12_leased 9 = .ok (.iconst 1, 1) := by decide +kernel
theorem dX12_leased_10 : decode cX12_leased 10 = .ok (.iaload, 1) := by decide +kernel
theorem dX12_leased_11 : decode cX12_leased 11 = .ok (.if_icmp .ge 25, 3) := by decide +kernel
theorem dX12_leased_14 : decode cX12_leased 14 = .ok (.iload_n 1, 1) := by decide +kernel
theorem dX12_leased_15 : decode cX12_leased 15 = .ok (.aload_n 0, 1) := by decide +kernel
theorem dX12_leased_16 : decode cX12_leased 16 = .ok (.iload_n 2, 1) := by decide +kernel
theorem dX12_leased_17 : decode cX12_leased 17 = .ok (.invokevirtual 96, 3) := by decide +kernel
theorem dX12_leased_20 : decode cX12_leased 20 = .ok (.ifCond .eq 7, 3) := by decide +kernel
theorem dX12_leased_23 : decode cX12_leased 23 = .ok (.iconst 1, 1) := by decide +kernel
theorem dX12_leased_24 : decode cX12_leased 24 = .ok (.goto 4, 3) := by decide +kernel
theorem dX12_leased_27 : decode cX12_leased 27 = .ok (.iconst 0, 1) := by decide +kernel
theorem dX12_leased_28 : decode cX12_leased 28 = .ok (.iadd, 1) := by decide +kernel
theorem dX12_leased_29 : decode cX12_leased 29 = .ok (.istore_n 1, 1) := by decide +kernel
theorem dX12_leased_30 : decode cX12_leased 30 = .ok (.iinc 2 1, 3) := by decide +kernel
theorem dX12_leased_33 : decode cX12_leased 33 = .ok (.goto (-29), 3) := by decide +kernel
theorem dX12_leased_36 : decode cX12_leased 36 = .ok (.iload_n 1, 1) := by decide +kernel
theorem dX12_leased_37 : decode cX12_leased 37 = .ok (.ireturn, 1) := by decide +kernel
theorem dX12_leasedLamps_0 : decode cX12_leasedLamps 0 = .ok (.aload_n 0, 1) := by decide +kernel
theorem dX12_leasedLamps_1 : decode cX12_leasedLamps 1 = .ok (.iconst 0, 1) := by decide +kernel
theorem dX12_leasedLamps_2 : decode cX12_leasedLamps 2 = .ok (.putfield 42, 3) := by decide +kernel
theorem dX12_leasedLamps_5 : decode cX12_leasedLamps 5 = .ok (.aload_n 0, 1) := by decide +kernel
theorem dX12_leasedLamps_6 : decode cX12_leasedLamps 6 = .ok (.invokevirtual 151, 3) := by decide +kernel
theorem dX12_leasedLamps_9 : decode cX12_leasedLamps 9 = .ok (.ireturn, 1) := by decide +kernel
theorem dX12_oil_0 : decode cX12_oil 0 = .ok (.aload_n 0, 1) := by decide +kernel
theorem dX12_oil_1 : decode cX12_oil 1 = .ok (.iconst 0, 1) := by decide +kernel
theorem dX12_oil_2 : decode cX12_oil 2 = .ok (.putfield 42, 3) := by decide +kernel
theorem dX12_oil_5 : decode cX12_oil 5 = .ok (.aload_n 0, 1) := by decide +kernel
theorem dX12_oil_6 : decode cX12_oil 6 = .ok (.getfield 9, 3) := by decide +kernel
theorem dX12_oil_9 : decode cX12_oil 9 = .ok (.iconst 2, 1) := by decide +kernel
theorem dX12_oil_10 : decode cX12_oil 10 = .ok (.iaload, 1) := by decide +kernel
theorem dX12_oil_11 : decode cX12_oil 11 = .ok (.ireturn, 1) := by decide +kernel
theorem dX12_needed_0 : decode cX12_needed 0 = .ok (.iconst 0, 1) := by decide +kernel
theorem dX12_needed_1 : decode cX12_needed 1 = .ok (.istore_n 1, 1) := by decide +kernel
theorem dX12_needed_2 : decode cX12_needed 2 = .ok (.iconst 0, 1) := by decide +kernel
theorem dX12_needed_3 : decode cX12_needed 3 = .ok (.istore_n 2, 1) := by decide +kernel
theorem dX12_needed_4 : decode cX12_needed 4 = .ok (.iload_n 2, 1) := by decide +kernel
theorem dX12_needed_5 : decode cX12_needed 5 = .ok (.aload_n 0, 1) := by decide +kernel
theorem dX12_needed_6 : decode cX12_needed 6 = .ok (.getfield 9, 3) := by decide +kernel
theorem dX12_needed_9 : decode cX12_needed 9 = .ok (.iconst 1, 1) := by decide +kernel
theorem dX12_needed_10 : decode cX12_needed 10 = .ok (.iaload, 1) := by decide +kernel
theorem dX12_needed_11 : decode cX12_needed 11 = .ok (.if_icmp .ge 30, 3) := by decide +kernel
theorem dX12_needed_14 : decode cX12_needed 14 = .ok (.iload_n 1, 1) := by decide +kernel
theorem dX12_needed_15 : decode cX12_needed 15 = .ok (.aload_n 0, 1) := by decide +kernel
theorem dX12_needed_16 : decode cX12_needed 16 = .ok (.iload_n 2, 1) := by decide +kernel
theorem dX12_needed_17 : decode cX12_needed 17 = .ok (.invokevirtual 96, 3) := by decide +kernel
theorem dX12_needed_20 : decode cX12_needed 20 = .ok (.ifCond .eq 12, 3) := by decide +kernel
theorem dX12_needed_23 : decode cX12_needed 23 = .ok (.aload_n 0, 1) := by decide +kernel
theorem dX12_needed_24 : decode cX12_needed 24 = .ok (.iload_n 2, 1) := by decide +kernel
theorem dX12_needed_25 : decode cX12_needed 25 = .ok (.iconst 0, 1) := by decide +kernel
theorem dX12_needed_26 : decode cX12_needed 26 = .ok (.invokevirtual 58, 3) := by decide +kernel
theorem dX12_needed_29 : decode cX12_needed 29 = .ok (.goto 4, 3) := by decide +kernel
theorem dX12_needed_32 : decode cX12_needed 32 = .ok (.iconst 0, 1) := by decide +kernel
theorem dX12_needed_33 : decode cX12_needed 33 = .ok (.iadd, 1) := by decide +kernel
theorem dX12_needed_34 : decode cX12_needed 34 = .ok (.istore_n 1, 1) := by decide +kernel
theorem dX12_needed_35 : decode cX12_needed 35 = .ok (.iinc 2 1, 3) := by decide +kernel
theorem dX12_needed_38 : decode cX12_needed 38 = .ok (.goto (-34), 3) := by decide +kernel
theorem dX12_needed_41 : decode cX12_needed 41 = .ok (.iload_n 1, 1) := by decide +kernel
theorem dX12_needed_42 : decode cX12_needed 42 = .ok (.ireturn, 1) := by decide +kernel
theorem dX12_consumption_0 : decode cX12_consumption 0 = .ok (.aload_n 0, 1) := by decide +kernel
theorem dX12_consumption_1 : decode cX12_consumption 1 = .ok (.iconst 0, 1) := by decide +kernel
theorem dX12_consumption_2 : decode cX12_consumption 2 = .ok (.putfield 42, 3) := by decide +kernel
theorem dX12_consumption_5 : decode cX12_consumption 5 = .ok (.aload_n 0, 1) := by decide +kernel
theorem dX12_consumption_6 : decode cX12_consumption 6 = .ok (.invokevirtual 154, 3) := by decide +kernel
theorem dX12_consumption_9 : decode cX12_consumption 9 = .ok (.ireturn, 1) := by decide +kernel
theorem dX12_hoursOfOil_0 : decode cX12_hoursOfOil 0 = .ok (.aload_n 0, 1) := by decide +kernel
theorem dX12_hoursOfOil_1 : decode cX12_hoursOfOil 1 = .ok (.getfield 9, 3) := by decide +kernel
theorem dX12_hoursOfOil_4 : decode cX12_hoursOfOil 4 = .ok (.iconst 0, 1) := by decide +kernel
theorem dX12_hoursOfOil_5 : decode cX12_hoursOfOil 5 = .ok (.aload_n 0, 1) := by decide +kernel
theorem dX12_hoursOfOil_6 : decode cX12_hoursOfOil 6 = .ok (.getfield 16, 3) := by decide +kernel
theorem dX12_hoursOfOil_9 : decode cX12_hoursOfOil 9 = .ok (.iconst 0, 1) := by decide +kernel
theorem dX12_hoursOfOil_10 : decode cX12_hoursOfOil 10 = .ok (.bipush 81, 2) := by decide +kernel
theorem dX12_hoursOfOil_12 : decode cX12_hoursOfOil 12 = .ok (.invokestatic 45, 3) := by decide +kernel
theorem dX12_hoursOfOil_15 : decode cX12_hoursOfOil 15 = .ok (.iconst 0, 1) := by decide +kernel
theorem dX12_hoursOfOil_16 : decode cX12_hoursOfOil 16 = .ok (.istore_n 1, 1) := by decide +kernel
theorem dX12_hoursOfOil_17 : decode cX12_hoursOfOil 17 = .ok (.aload_n 0, 1) := by decide +kernel
theorem dX12_hoursOfOil_18 : decode cX12_hoursOfOil 18 = .ok (.invokevirtual 151, 3) := by decide +kernel
theorem dX12_hoursOfOil_21 : decode cX12_hoursOfOil 21 = .ok (.ifCond .le 32, 3) := by decide +kernel
theorem dX12_hoursOfOil_24 : decode cX12_hoursOfOil 24 = .ok (.aload_n 0, 1) := by decide +kernel
theorem dX12_hoursOfOil_25 : decode cX12_hoursOfOil 25 = .ok (.invokevirtual 154, 3) := by decide +kernel
theorem dX12_hoursOfOil_28 : decode cX12_hoursOfOil 28 = .ok (.aload_n 0, 1) := by decide +kernel
theorem dX12_hoursOfOil_29 : decode cX12_hoursOfOil 29 = .ok (.getfield 9, 3) := by decide +kernel
theorem dX12_hoursOfOil_32 : decode cX12_hoursOfOil 32 = .ok (.iconst 2, 1) := by decide +kernel
theorem dX12_hoursOfOil_33 : decode cX12_hoursOfOil 33 = .ok (.iaload, 1) := by decide +kernel
theorem dX12_hoursOfOil_34 : decode cX12_hoursOfOil 34 = .ok (.if_icmp .gt 19, 3) := by decide +kernel
theorem dX12_hoursOfOil_37 : decode cX12_hoursOfOil 37 = .ok (.aload_n 0, 1) := by decide +kernel
theorem dX12_hoursOfOil_38 : decode cX12_hoursOfOil 38 = .ok (.invokevirtual 132, 3) := by decide +kernel
theorem dX12_hoursOfOil_41 : decode cX12_hoursOfOil 41 = .ok (.istore_n 2, 1) := by decide +kernel
theorem dX12_hoursOfOil_42 : decode cX12_hoursOfOil 42 = .ok (.aload_n 0, 1) := by decide +kernel
theorem dX12_hoursOfOil_43 : decode cX12_hoursOfOil 43 = .ok (.invokevirtual 138, 3) := by decide +kernel
theorem dX12_hoursOfOil_46 : decode cX12_hoursOfOil 46 = .ok (.istore_n 3, 1) := by decide +kernel
theorem dX12_hoursOfOil_47 : decode cX12_hoursOfOil 47 = .ok (.iinc 1 1, 3) := by decide +kernel
theorem dX12_hoursOfOil_50 : decode cX12_hoursOfOil 50 = .ok (.goto (-33), 3) := by decide +kernel
theorem dX12_hoursOfOil_53 : decode cX12_hoursOfOil 53 = .ok (.aload_n 0, 1) := by decide +kernel
theorem dX12_hoursOfOil_54 : decode cX12_hoursOfOil 54 = .ok (.invokevirtual 151, 3) := by decide +kernel
theorem dX12_hoursOfOil_57 : decode cX12_hoursOfOil 57 = .ok (.ifCond .le 7, 3) := by decide +kernel
theorem dX12_hoursOfOil_60 : decode cX12_hoursOfOil 60 = .ok (.iconst 1, 1) := by decide +kernel
theorem dX12_hoursOfOil_61 : decode cX12_hoursOfOil 61 = .ok (.goto 4, 3) := by decide +kernel
theorem dX12_hoursOfOil_64 : decode cX12_hoursOfOil 64 = .ok (.iconst 0, 1) := by decide +kernel
theorem dX12_hoursOfOil_65 : decode cX12_hoursOfOil 65 = .ok (.istore_n 2, 1) := by decide +kernel
theorem dX12_hoursOfOil_66 : decode cX12_hoursOfOil 66 = .ok (.aload_n 0, 1) := by decide +kernel
theorem dX12_hoursOfOil_67 : decode cX12_hoursOfOil 67 = .ok (.getfield 16, 3) := by decide +kernel
theorem dX12_hoursOfOil_70 : decode cX12_hoursOfOil 70 = .ok (.iconst 0, 1) := by decide +kernel
theorem dX12_hoursOfOil_71 : decode cX12_hoursOfOil 71 = .ok (.aload_n 0, 1) := by decide +kernel
theorem dX12_hoursOfOil_72 : decode cX12_hoursOfOil 72 = .ok (.getfield 9, 3) := by decide +kernel
theorem dX12_hoursOfOil_75 : decode cX12_hoursOfOil 75 = .ok (.iconst 0, 1) := by decide +kernel
theorem dX12_hoursOfOil_76 : decode cX12_hoursOfOil 76 = .ok (.bipush 81, 2) := by decide +kernel
theorem dX12_hoursOfOil_78 : decode cX12_hoursOfOil 78 = .ok (.invokestatic 45, 3) := by decide +kernel
theorem dX12_hoursOfOil_81 : decode cX12_hoursOfOil 81 = .ok (.aload_n 0, 1) := by decide +kernel
theorem dX12_hoursOfOil_82 : decode cX12_hoursOfOil 82 = .ok (.iload_n 2, 1) := by decide +kernel
theorem dX12_hoursOfOil_83 : decode cX12_hoursOfOil 83 = .ok (.invokevirtual 144, 3) := by decide +kernel
theorem dX12_hoursOfOil_86 : decode cX12_hoursOfOil 86 = .ok (.ifCond .eq 7, 3) := by decide +kernel
theorem dX12_hoursOfOil_89 : decode cX12_hoursOfOil 89 = .ok (.iload_n 1, 1) := by decide +kernel
theorem dX12_hoursOfOil_90 : decode cX12_hoursOfOil 90 = .ok (.goto 4, 3) := by decide +kernel
theorem dX12_hoursOfOil_93 : decode cX12_hoursOfOil 93 = .ok (.iconst 0, 1) := by decide +kernel
theorem dX12_hoursOfOil_94 : decode cX12_hoursOfOil 94 = .ok (.ireturn, 1) := by decide +kernel
theorem dX12_hoursOfOilByEnds_0 : decode cX12_hoursOfOilByEnds 0 = .ok (.aload_n 0, 1) := by decide +kernel
theorem dX12_hoursOfOilByEnds_1 : decode cX12_hoursOfOilByEnds 1 = .ok (.invokevirtual 157, 3) := by decide +kernel
theorem dX12_hoursOfOilByEnds_4 : decode cX12_hoursOfOilByEnds 4 = .ok (.ireturn, 1) := by decide +kernel
theorem dX12_brightNext_0 : decode cX12_brightNext 0 = .ok (.aload_n 0, 1) := by decide +kernel
theorem dX12_brightNext_1 : decode cX12_brightNext 1 = .ok (.iconst 0, 1) := by decide +kernel
theorem dX12_brightNext_2 : decode cX12_brightNext 2 = .ok (.putfield 42, 3) := by decide +kernel
theorem dX12_brightNext_5 : decode cX12_brightNext 5 = .ok (.aload_n 0, 1) := by decide +kernel
theorem dX12_brightNext_6 : decode cX12_brightNext 6 = .ok (.getfield 9, 3) := by decide +kernel
theorem dX12_brightNext_9 : decode cX12_brightNext 9 = .ok (.iconst 0, 1) := by decide +kernel
theorem dX12_brightNext_10 : decode cX12_brightNext 10 = .ok (.aload_n 0, 1) := by decide +kernel
theorem dX12_brightNext_11 : decode cX12_brightNext 11 = .ok (.getfield 16, 3) := by decide +kernel
theorem dX12_brightNext_14 : decode cX12_brightNext 14 = .ok (.iconst 0, 1) := by decide +kernel
theorem dX12_brightNext_15 : decode cX12_brightNext 15 = .ok (.bipush 81, 2) := by decide +kernel
theorem dX12_brightNext_17 : decode cX12_brightNext 17 = .ok (.invokestatic 45, 3) := by decide +kernel
theorem dX12_brightNext_20 : decode cX12_brightNext 20 = .ok (.aload_n 0, 1) := by decide +kernel
theorem dX12_brightNext_21 : decode cX12_brightNext 21 = .ok (.invokevirtual 132, 3) := by decide +kernel
theorem dX12_brightNext_24 : decode cX12_brightNext 24 = .ok (.istore_n 1, 1) := by decide +kernel
theorem dX12_brightNext_25 : decode cX12_brightNext 25 = .ok (.aload_n 0, 1) := by decide +kernel
theorem dX12_brightNext_26 : decode cX12_brightNext 26 = .ok (.getfield 16, 3) := by decide +kernel
theorem dX12_brightNext_29 : decode cX12_brightNext 29 = .ok (.iconst 0, 1) := by decide +kernel
theorem dX12_brightNext_30 : decode cX12_brightNext 30 = .ok (.aload_n 0, 1) := by decide +kernel
theorem dX12_brightNext_31 : decode cX12_brightNext 31 = .ok (.getfield 9, 3) := by decide +kernel
theorem dX12_brightNext_34 : decode cX12_brightNext 34 = .ok (.iconst 0, 1) := by decide +kernel
theorem dX12_brightNext_35 : decode cX12_brightNext 35 = .ok (.bipush 81, 2) := by decide +kernel
theorem dX12_brightNext_37 : decode cX12_brightNext 37 = .ok (.invokestatic 45, 3) := by decide +kernel
theorem dX12_brightNext_40 : decode cX12_brightNext 40 = .ok (.iload_n 1, 1) := by decide +kernel
theorem dX12_brightNext_41 : decode cX12_brightNext 41 = .ok (.ireturn, 1) := by decide +kernel
theorem dX12_mostBright_0 : decode cX12_mostBright 0 = .ok (.aload_n 0, 1) := by decide +kernel
theorem dX12_mostBright_1 : decode cX12_mostBright 1 = .ok (.iconst 0, 1) := by decide +kernel
theorem dX12_mostBright_2 : decode cX12_mostBright 2 = .ok (.putfield 42, 3) := by decide +kernel
theorem dX12_mostBright_5 : decode cX12_mostBright 5 = .ok (.aload_n 0, 1) := by decide +kernel
theorem dX12_mostBright_6 : decode cX12_mostBright 6 = .ok (.getfield 9, 3) := by decide +kernel
theorem dX12_mostBright_9 : decode cX12_mostBright 9 = .ok (.iconst 2, 1) := by decide +kernel
theorem dX12_mostBright_10 : decode cX12_mostBright 10 = .ok (.iaload, 1) := by decide +kernel
theorem dX12_mostBright_11 : decode cX12_mostBright 11 = .ok (.istore_n 1, 1) := by decide +kernel
theorem dX12_mostBright_12 : decode cX12_mostBright 12 = .ok (.iconst 0, 1) := by decide +kernel
theorem dX12_mostBright_13 : decode cX12_mostBright 13 = .ok (.istore_n 2, 1) := by decide +kernel
theorem dX12_mostBright_14 : decode cX12_mostBright 14 = .ok (.iconst 1, 1) := by decide +kernel
theorem dX12_mostBright_15 : decode cX12_mostBright 15 = .ok (.istore_n 3, 1) := by decide +kernel
theorem dX12_mostBright_16 : decode cX12_mostBright 16 = .ok (.iload_n 3, 1) := by decide +kernel
theorem dX12_mostBright_17 : decode cX12_mostBright 17 = .ok (.iconst 4, 1) := by decide +kernel
theorem dX12_mostBright_18 : decode cX12_mostBright 18 = .ok (.if_icmp .ge 87, 3) := by decide +kernel
theorem dX12_mostBright_21 : decode cX12_mostBright 21 = .ok (.iconst 0, 1) := by decide +kernel
theorem dX12_mostBright_22 : decode cX12_mostBright 22 = .ok (.istore 4, 2) := by decide +kernel
theorem dX12_mostBright_24 : decode cX12_mostBright 24 = .ok (.iload 4, 2) := by decide +kernel
theorem dX12_mostBright_26 : decode cX12_mostBright 26 = .ok (.aload_n 0, 1) := by decide +kernel
theorem dX12_mostBright_27 : decode cX12_mostBright 27 = .ok (.getfield 9, 3) := by decide +kernel
theorem dX12_mostBright_30 : decode cX12_mostBright 30 = .ok (.iconst 1, 1) := by decide +kernel
theorem dX12_mostBright_31 : decode cX12_mostBright 31 = .ok (.iaload, 1) := by decide +kernel
theorem dX12_mostBright_32 : decode cX12_mostBright 32 = .ok (.if_icmp .ge 67, 3) := by decide +kernel
theorem dX12_mostBright_35 : decode cX12_mostBright 35 = .ok (.aload_n 0, 1) := by decide +kernel
theorem dX12_mostBright_36 : decode cX12_mostBright 36 = .ok (.iload 4, 2) := by decide +kernel
theorem dX12_mostBright_38 : decode cX12_mostBright 38 = .ok (.invokevirtual 96, 3) := by decide +kernel
theorem dX12_mostBright_41 : decode cX12_mostBright 41 = .ok (.ifCond .eq 23, 3) := by decide +kernel
theorem dX12_mostBright_44 : decode cX12_mostBright 44 = .ok (.aload_n 0, 1) := by decide +kernel
theorem dX12_mostBright_45 : decode cX12_mostBright 45 = .ok (.iload 4, 2) := by decide +kernel
theorem dX12_mostBright_47 : decode cX12_mostBright 47 = .ok (.iconst 0, 1) := by decide +kernel
theorem dX12_mostBright_48 : decode cX12_mostBright 48 = .ok (.invokevirtual 58, 3) := by decide +kernel
theorem dX12_mostBright_51 : decode cX12_mostBright 51 = .ok (.iload_n 3, 1) := by decide +kernel
theorem dX12_mostBright_52 : decode cX12_mostBright 52 = .ok (.if_icmp .ne 12, 3) := by decide +kernel
theorem dX12_mostBright_55 : decode cX12_mostBright 55 = .ok (.iload_n 3, 1) := by decide +kernel
theorem dX12_mostBright_56 : decode cX12_mostBright 56 = .ok (.iload_n 1, 1) := by decide +kernel
theorem dX12_mostBright_57 : decode cX12_mostBright 57 = .ok (.if_icmp .gt 7, 3) := by decide +kernel
theorem dX12_mostBright_60 : decode cX12_mostBright 60 = .ok (.iconst 1, 1) := by decide +kernel
theorem dX12_mostBright_61 : decode cX12_mostBright 61 = .ok (.goto 4, 3) := by decide +kernel
theorem dX12_mostBright_64 : decode cX12_mostBright 64 = .ok (.iconst 0, 1) := by decide +kernel
theorem dX12_mostBright_65 : decode cX12_mostBright 65 = .ok (.istore 5, 2) := by decide +kernel
theorem dX12_mostBright_67 : decode cX12_mostBright 67 = .ok (.iload_n 1, 1) := by decide +kernel
theorem dX12_mostBright_68 : decode cX12_mostBright 68 = .ok (.iload 5, 2) := by decide +kernel
theorem dX12_mostBright_70 : decode cX12_mostBright 70 = .ok (.ifCond .eq 7, 3) := by decide +kernel
theorem dX12_mostBright_73 : decode cX12_mostBright 73 = .ok (.iload_n 3, 1) := by decide +kernel
theorem dX12_mostBright_74 : decode cX12_mostBright 74 = .ok (.goto 4, 3) := by decide +kernel
theorem dX12_mostBright_77 : decode cX12_mostBright 77 = .ok (.iconst 0, 1) := by decide +kernel
theorem dX12_mostBright_78 : decode cX12_mostBright 78 = .ok (.isub, 1) := by decide +kernel
theorem dX12_mostBright_79 : decode cX12_mostBright 79 = .ok (.istore_n 1, 1) := by decide +kernel
theorem dX12_mostBright_80 : decode cX12_mostBright 80 = .ok (.iload_n 2, 1) := by decide +kernel
theorem dX12_mostBright_81 : decode cX12_mostBright 81 = .ok (.iload 5, 2) := by decide +kernel
theorem dX12_mostBright_83 : decode cX12_mostBright 83 = .ok (.ifCond .eq 7, 3) := by decide +kernel
theorem dX12_mostBright_86 : decode cX12_mostBright 86 = .ok (.iconst 1, 1) := by decide +kernel
theorem dX12_mostBright_87 : decode cX12_mostBright 87 = .ok (.goto 4, 3) := by decide +kernel
theorem dX12_mostBright_90 : decode cX12_mostBright 90 = .ok (.iconst 0, 1) := by decide +kernel
theorem dX12_mostBright_91 : decode cX12_mostBright 91 = .ok (.iadd, 1) := by decide +kernel
theorem dX12_mostBright_92 : decode cX12_mostBright 92 = .ok (.istore_n 2, 1) := by decide +kernel
theorem dX12_mostBright_93 : decode cX12_mostBright 93 = .ok (.iinc 4 1, 3) := by decide +kernel
theorem dX12_mostBright_96 : decode cX12_mostBright 96 = .ok (.goto (-72), 3) := by decide +kernel
theorem dX12_mostBright_99 : decode cX12_mostBright 99 = .ok (.iinc 3 1, 3) := by decide +kernel
theorem dX12_mostBright_102 : decode cX12_mostBright 102 = .ok (.goto (-86), 3) := by decide +kernel
theorem dX12_mostBright_105 : decode cX12_mostBright 105 = .ok (.iload_n 2, 1) := by decide +kernel
theorem dX12_mostBright_106 : decode cX12_mostBright 106 = .ok (.ireturn, 1) := by decide +kernel
theorem dX12_mostBrightBySums_0 : decode cX12_mostBrightBySums 0 = .ok (.aload_n 0, 1) := by decide +kernel
theorem dX12_mostBrightBySums_1 : decode cX12_mostBrightBySums 1 = .ok (.invokevirtual 160, 3) := by decide +kernel
theorem dX12_mostBrightBySums_4 : decode cX12_mostBrightBySums 4 = .ok (.ireturn, 1) := by decide +kernel
theorem dX12_partOf_0 : decode cX12_partOf 0 = .ok (.aload_n 0, 1) := by decide +kernel
theorem dX12_partOf_1 : decode cX12_partOf 1 = .ok (.invokevirtual 154, 3) := by decide +kernel
theorem dX12_partOf_4 : decode cX12_partOf 4 = .ok (.istore_n 2, 1) := by decide +kernel
theorem dX12_partOf_5 : decode cX12_partOf 5 = .ok (.iload_n 2, 1) := by decide +kernel
theorem dX12_partOf_6 : decode cX12_partOf 6 = .ok (.ifCond .ne 5, 3) := by decide +kernel
theorem dX12_partOf_9 : decode cX12_partOf 9 = .ok (.iconst 0, 1) := by decide +kernel
theorem dX12_partOf_10 : decode cX12_partOf 10 = .ok (.ireturn, 1) := by decide +kernel
theorem dX12_partOf_11 : decode cX12_partOf 11 = .ok (.iconst 0, 1) := by decide +kernel
theorem dX12_partOf_12 : decode cX12_partOf 12 = .ok (.istore_n 3, 1) := by decide +kernel
theorem dX12_partOf_13 : decode cX12_partOf 13 = .ok (.iconst 0, 1) := by decide +kernel
theorem dX12_partOf_14 : decode cX12_partOf 14 = .ok (.istore 4, 2) := by decide +kernel
theorem dX12_partOf_16 : decode cX12_partOf 16 = .ok (.aload_n 0, 1) := by decide +kernel
theorem dX12_partOf_17 : decode cX12_partOf 17 = .ok (.getfield 9, 3) := by decide +kernel
theorem dX12_partOf_20 : decode cX12_partOf 20 = .ok (.iconst 2, 1) := by decide +kernel
theorem dX12_partOf_21 : decode cX12_partOf 21 = .ok (.iaload, 1) := by decide +kernel
theorem dX12_partOf_22 : decode cX12_partOf 22 = .ok (.aload_n 0, 1) := by decide +kernel
theorem dX12_partOf_23 : decode cX12_partOf 23 = .ok (.iload_n 1, 1) := by decide +kernel
theorem dX12_partOf_24 : decode cX12_partOf 24 = .ok (.invokevirtual 148, 3) := by decide +kernel
theorem dX12_partOf_27 : decode cX12_partOf 27 = .ok (.imul, 1) := by decide +kernel
theorem dX12_partOf_28 : decode cX12_partOf 28 = .ok (.iload_n 2, 1) := by decide +kernel
theorem dX12_partOf_29 : decode cX12_partOf 29 = .ok (.irem, 1) := by decide +kernel
theorem dX12_partOf_30 : decode cX12_partOf 30 = .ok (.istore 5, 2) := by decide +kernel
theorem dX12_partOf_32 : decode cX12_partOf 32 = .ok (.iconst 0, 1) := by decide +kernel
theorem dX12_partOf_33 : decode cX12_partOf 33 = .ok (.istore 6, 2) := by decide +kernel
theorem dX12_partOf_35 : decode cX12_partOf 35 = .ok (.iload 6, 2) := by decide +kernel
theorem dX12_partOf_37 : decode cX12_partOf 37 = .ok (.aload_n 0, 1) := by decide +kernel
theorem dX12_partOf_38 : decode cX12_partOf 38 = .ok (.getfield 9, 3) := by decide +kernel
theorem dX12_partOf_41 : decode cX12_partOf 41 = .ok (.iconst 0, 1) := by decide +kernel
theorem dX12_partOf_42 : decode cX12_partOf 42 = .ok (.iaload, 1) := by decide +kernel
theorem dX12_partOf_43 : decode cX12_partOf 43 = .ok (.if_icmp .ge 73, 3) := by decide +kernel
theorem dX12_partOf_46 : decode cX12_partOf 46 = .ok (.aload_n 0, 1) := by decide +kernel
theorem dX12_partOf_47 : decode cX12_partOf 47 = .ok (.getfield 9, 3) := by decide +kernel
theorem dX12_partOf_50 : decode cX12_partOf 50 = .ok (.iconst 2, 1) := by decide +kernel
theorem dX12_partOf_51 : decode cX12_partOf 51 = .ok (.iaload, 1) := by decide +kernel
theorem dX12_partOf_52 : decode cX12_partOf 52 = .ok (.aload_n 0, 1) := by decide +kernel
theorem dX12_partOf_53 : decode cX12_partOf 53 = .ok (.iload 6, 2) := by decide +kernel
theorem dX12_partOf_55 : decode cX12_partOf 55 = .ok (.invokevirtual 148, 3) := by decide +kernel
theorem dX12_partOf_58 : decode cX12_partOf 58 = .ok (.imul, 1) := by decide +kernel
theorem dX12_partOf_59 : decode cX12_partOf 59 = .ok (.iload_n 2, 1) := by decide +kernel
theorem dX12_partOf_60 : decode cX12_partOf 60 = .ok (.irem, 1) := by decide +kernel
theorem dX12_partOf_61 : decode cX12_partOf 61 = .ok (.iload 5, 2) := by decide +kernel
theorem dX12_partOf_63 : decode cX12_partOf 63 = .ok (.isub, 1) := by decide +kernel
theorem dX12_partOf_64 : decode cX12_partOf 64 = .ok (.istore 7, 2) := by decide +kernel
theorem dX12_partOf_66 : decode cX12_partOf 66 = .ok (.iload_n 3, 1) := by decide +kernel
theorem dX12_partOf_67 : decode cX12_partOf 67 = .ok (.aload_n 0, 1) := by decide +kernel
theorem dX12_partOf_68 : decode cX12_partOf 68 = .ok (.getfield 9, 3) := by decide +kernel
theorem dX12_partOf_71 : decode cX12_partOf 71 = .ok (.iconst 2, 1) := by decide +kernel
theorem dX12_partOf_72 : decode cX12_partOf 72 = .ok (.iaload, 1) := by decide +kernel
theorem dX12_partOf_73 : decode cX12_partOf 73 = .ok (.aload_n 0, 1) := by decide +kernel
theorem dX12_partOf_74 : decode cX12_partOf 74 = .ok (.iload 6, 2) := by decide +kernel
theorem dX12_partOf_76 : decode cX12_partOf 76 = .ok (.invokevirtual 148, 3) := by decide +kernel
theorem dX12_partOf_79 : decode cX12_partOf 79 = .ok (.imul, 1) := by decide +kernel
theorem dX12_partOf_80 : decode cX12_partOf 80 = .ok (.iload_n 2, 1) := by decide +kernel
theorem dX12_partOf_81 : decode cX12_partOf 81 = .ok (.idiv, 1) := by decide +kernel
theorem dX12_partOf_82 : decode cX12_partOf 82 = .ok (.iadd, 1) := by decide +kernel
theorem dX12_partOf_83 : decode cX12_partOf 83 = .ok (.istore_n 3, 1) := by decide +kernel
theorem dX12_partOf_84 : decode cX12_partOf 84 = .ok (.iload 4, 2) := by decide +kernel
theorem dX12_partOf_86 : decode cX12_partOf 86 = .ok (.iload 7, 2) := by decide +kernel
theorem dX12_partOf_88 : decode cX12_partOf 88 = .ok (.ifCond .gt 14, 3) := by decide +kernel
theorem dX12_partOf_91 : decode cX12_partOf 91 = .ok (.iload 7, 2) := by decide +kernel
theorem dX12_partOf_93 : decode cX12_partOf 93 = .ok (.ifCond .ne 13, 3) := by decide +kernel
theorem dX12_partOf_96 : decode cX12_partOf 96 = .ok (.iload 6, 2) := by decide +kernel
theorem dX12_partOf_98 : decode cX12_partOf 98 = .ok (.iload_n 1, 1) := by decide +kernel
theorem dX12_partOf_99 : decode cX12_partOf 99 = .ok (.if_icmp .ge 7, 3) := by decide +kernel
theorem dX12_partOf_102 : decode cX12_partOf 102 = .ok (.iconst 1, 1) := by decide +kernel
theorem dX12_partOf_103 : decode cX12_partOf 103 = .ok (.goto 4, 3) := by decide +kernel
theorem dX12_partOf_106 : decode cX12_partOf 106 = .ok (.iconst 0, 1) := by decide +kernel
theorem dX12_partOf_107 : decode cX12_partOf 107 = .ok (.iadd, 1) := by decide +kernel
theorem dX12_partOf_108 : decode cX12_partOf 108 = .ok (.istore 4, 2) := by decide +kernel
theorem dX12_partOf_110 : decode cX12_partOf 110 = .ok (.iinc 6 1, 3) := by decide +kernel
theorem dX12_partOf_113 : decode cX12_partOf 113 = .ok (.goto (-78), 3) := by decide +kernel
theorem dX12_partOf_116 : decode cX12_partOf 116 = .ok (.aload_n 0, 1) := by decide +kernel
theorem dX12_partOf_117 : decode cX12_partOf 117 = .ok (.getfield 9, 3) := by decide +kernel
theorem dX12_partOf_120 : decode cX12_partOf 120 = .ok (.iconst 2, 1) := by decide +kernel
theorem dX12_partOf_121 : decode cX12_partOf 121 = .ok (.iaload, 1) := by decide +kernel
theorem dX12_partOf_122 : decode cX12_partOf 122 = .ok (.aload_n 0, 1) := by decide +kernel
theorem dX12_partOf_123 : decode cX12_partOf 123 = .ok (.iload_n 1, 1) := by decide +kernel
theorem dX12_partOf_124 : decode cX12_partOf 124 = .ok (.invokevirtual 148, 3) := by decide +kernel
theorem dX12_partOf_127 : decode cX12_partOf 127 = .ok (.imul, 1) := by decide +kernel
theorem dX12_partOf_128 : decode cX12_partOf 128 = .ok (.iload_n 2, 1) := by decide +kernel
theorem dX12_partOf_129 : decode cX12_partOf 129 = .ok (.idiv, 1) := by decide +kernel
theorem dX12_partOf_130 : decode cX12_partOf 130 = .ok (.iload 4, 2) := by decide +kernel
theorem dX12_partOf_132 : decode cX12_partOf 132 = .ok (.aload_n 0, 1) := by decide +kernel
theorem dX12_partOf_133 : decode cX12_partOf 133 = .ok (.getfield 9, 3) := by decide +kernel
theorem dX12_partOf_136 : decode cX12_partOf 136 = .ok (.iconst 2, 1) := by decide +kernel
theorem dX12_partOf_137 : decode cX12_partOf 137 = .ok (.iaload, 1) := by decide +kernel
theorem dX12_partOf_138 : decode cX12_partOf 138 = .ok (.iload_n 3, 1) := by decide +kernel
theorem dX12_partOf_139 : decode cX12_partOf 139 = .ok (.isub, 1) := by decide +kernel
theorem dX12_partOf_140 : decode cX12_partOf 140 = .ok (.if_icmp .ge 7, 3) := by decide +kernel
theorem dX12_partOf_143 : decode cX12_partOf 143 = .ok (.iconst 1, 1) := by decide +kernel
theorem dX12_partOf_144 : decode cX12_partOf 144 = .ok (.goto 4, 3) := by decide +kernel
theorem dX12_partOf_147 : decode cX12_partOf 147 = .ok (.iconst 0, 1) := by decide +kernel
theorem dX12_partOf_148 : decode cX12_partOf 148 = .ok (.iadd, 1) := by decide +kernel
theorem dX12_partOf_149 : decode cX12_partOf 149 = .ok (.ireturn, 1) := by decide +kernel
theorem dX12_share_0 : decode cX12_share 0 = .ok (.aload_n 0, 1) := by decide +kernel
theorem dX12_share_1 : decode cX12_share 1 = .ok (.aload_n 0, 1) := by decide +kernel
theorem dX12_share_2 : decode cX12_share 2 = .ok (.iload_n 1, 1) := by decide +kernel
theorem dX12_share_3 : decode cX12_share 3 = .ok (.invokevirtual 89, 3) := by decide +kernel
theorem dX12_share_6 : decode cX12_share 6 = .ok (.invokevirtual 144, 3) := by decide +kernel
theorem dX12_share_9 : decode cX12_share 9 = .ok (.ifCond .eq 11, 3) := by decide +kernel
theorem dX12_share_12 : decode cX12_share 12 = .ok (.aload_n 0, 1) := by decide +kernel
theorem dX12_share_13 : decode cX12_share 13 = .ok (.iload_n 1, 1) := by decide +kernel
theorem dX12_share_14 : decode cX12_share 14 = .ok (.invokevirtual 163, 3) := by decide +kernel
theorem dX12_share_17 : decode cX12_share 17 = .ok (.goto 4, 3) := by decide +kernel
theorem dX12_share_20 : decode cX12_share 20 = .ok (.iconst 0, 1) := by decide +kernel
theorem dX12_share_21 : decode cX12_share 21 = .ok (.ireturn, 1) := by decide +kernel
theorem dX12_shareByRank_0 : decode cX12_shareByRank 0 = .ok (.aload_n 0, 1) := by decide +kernel
theorem dX12_shareByRank_1 : decode cX12_shareByRank 1 = .ok (.iload_n 1, 1) := by decide +kernel
theorem dX12_shareByRank_2 : decode cX12_shareByRank 2 = .ok (.invokevirtual 166, 3) := by decide +kernel
theorem dX12_shareByRank_5 : decode cX12_shareByRank 5 = .ok (.ireturn, 1) := by decide +kernel
theorem dX12_isRequest_0 : decode cX12_isRequest 0 = .ok (.iload_n 1, 1) := by decide +kernel
theorem dX12_isRequest_1 : decode cX12_isRequest 1 = .ok (.iconst 0, 1) := by decide +kernel
theorem dX12_isRequest_2 : decode cX12_isRequest 2 = .ok (.aload_n 0, 1) := by decide +kernel
theorem dX12_isRequest_3 : decode cX12_isRequest 3 = .ok (.getfield 9, 3) := by decide +kernel
theorem dX12_isRequest_6 : decode cX12_isRequest 6 = .ok (.bipush 6, 2) := by decide +kernel
theorem dX12_isRequest_8 : decode cX12_isRequest 8 = .ok (.iaload, 1) := by decide +kernel
theorem dX12_isRequest_9 : decode cX12_isRequest 9 = .ok (.iconst 1, 1) := by decide +kernel
theorem dX12_isRequest_10 : decode cX12_isRequest 10 = .ok (.isub, 1) := by decide +kernel
theorem dX12_isRequest_11 : decode cX12_isRequest 11 = .ok (.invokestatic 54, 3) := by decide +kernel
theorem dX12_isRequest_14 : decode cX12_isRequest 14 = .ok (.ireturn, 1) := by decide +kernel
theorem dX12_requestCount_0 : decode cX12_requestCount 0 = .ok (.aload_n 0, 1) := by decide +kernel
theorem dX12_requestCount_1 : decode cX12_requestCount 1 = .ok (.iconst 0, 1) := by decide +kernel
theorem dX12_requestCount_2 : decode cX12_requestCount 2 = .ok (.putfield 42, 3) := by decide +kernel
theorem dX12_requestCount_5 : decode cX12_requestCount 5 = .ok (.aload_n 0, 1) := by decide +kernel
theorem dX12_requestCount_6 : decode cX12_requestCount 6 = .ok (.getfield 9, 3) := by decide +kernel
theorem dX12_requestCount_9 : decode cX12_requestCount 9 = .ok (.bipush 6, 2) := by decide +kernel
theorem dX12_requestCount_11 : decode cX12_requestCount 11 = .ok (.iaload, 1) := by decide +kernel
theorem dX12_requestCount_12 : decode cX12_requestCount 12 = .ok (.ireturn, 1) := by decide +kernel
theorem dX12_requestedLamp_0 : decode cX12_requestedLamp 0 = .ok (.aload_n 0, 1) := by decide +kernel
theorem dX12_requestedLamp_1 : decode cX12_requestedLamp 1 = .ok (.aload_n 0, 1) := by decide +kernel
theorem dX12_requestedLamp_2 : decode cX12_requestedLamp 2 = .ok (.iload_n 1, 1) := by decide +kernel
theorem dX12_requestedLamp_3 : decode cX12_requestedLamp 3 = .ok (.invokevirtual 169, 3) := by decide +kernel
theorem dX12_requestedLamp_6 : decode cX12_requestedLamp 6 = .ok (.invokevirtual 144, 3) := by decide +kernel
theorem dX12_requestedLamp_9 : decode cX12_requestedLamp 9 = .ok (.ifCond .eq 17, 3) := by decide +kernel
theorem dX12_requestedLamp_12 : decode cX12_requestedLamp 12 = .ok (.aload_n 0, 1) := by decide +kernel
theorem dX12_requestedLamp_13 : decode cX12_requestedLamp 13 = .ok (.getfield 9, 3) := by decide +kernel
theorem dX12_requestedLamp_16 : decode cX12_requestedLamp 16 = .ok (.bipush 65, 2) := by decide +kernel
theorem dX12_requestedLamp_18 : decode cX12_requestedLamp 18 = .ok (.iconst 2, 1) := by decide +kernel
theorem dX12_requestedLamp_19 : decode cX12_requestedLamp 19 = .ok (.iload_n 1, 1) := by decide +kernel
theorem dX12_requestedLamp_20 : decode cX12_requestedLamp 20 = .ok (.imul, 1) := by decide +kernel
theorem dX12_requestedLamp_21 : decode cX12_requestedLamp 21 = .ok (.iadd, 1) := by decide +kernel
theorem dX12_requestedLamp_22 : decode cX12_requestedLamp 22 = .ok (.iaload, 1) := by decide +kernel
theorem dX12_requestedLamp_23 : decode cX12_requestedLamp 23 = .ok (.goto 4, 3) := by decide +kernel
theorem dX12_requestedLamp_26 : decode cX12_requestedLamp 26 = .ok (.iconst 0, 1) := by decide +kernel
theorem dX12_requestedLamp_27 : decode cX12_requestedLamp 27 = .ok (.ireturn, 1) := by decide +kernel
theorem dX12_requestedHours_0 : decode cX12_requestedHours 0 = .ok (.aload_n 0, 1) := by decide +kernel
theorem dX12_requestedHours_1 : decode cX12_requestedHours 1 = .ok (.aload_n 0, 1) := by decide +kernel
theorem dX12_requestedHours_2 : decode cX12_requestedHours 2 = .ok (.iload_n 1, 1) := by decide +kernel
theorem dX12_requestedHours_3 : decode cX12_requestedHours 3 = .ok (.invokevirtual 169, 3) := by decide +kernel
theorem dX12_requestedHours_6 : decode cX12_requestedHours 6 = .ok (.invokevirtual 144, 3) := by decide +kernel
theorem dX12_requestedHours_9 : decode cX12_requestedHours 9 = .ok (.ifCond .eq 19, 3) := by decide +kernel
theorem dX12_requestedHours_12 : decode cX12_requestedHours 12 = .ok (.aload_n 0, 1) := by decide +kernel
theorem dX12_requestedHours_13 : decode cX12_requestedHours 13 = .ok (.getfield 9, 3) := by decide +kernel
theorem dX12_requestedHours_16 : decode cX12_requestedHours 16 = .ok (.bipush 65, 2) := by decide +kernel
theorem dX12_requestedHours_18 : decode cX12_requestedHours 18 = .ok (.iconst 2, 1) := by decide +kernel
theorem dX12_requestedHours_19 : decode cX12_requestedHours 19 = .ok (.iload_n 1, 1) := by decide +kernel
theorem dX12_requestedHours_20 : decode cX12_requestedHours 20 = .ok (.imul, 1) := by decide +kernel
theorem dX12_requestedHours_21 : decode cX12_requestedHours 21 = .ok (.iadd, 1) := by decide +kernel
theorem dX12_requestedHours_22 : decode cX12_requestedHours 22 = .ok (.iconst 1, 1) := by decide +kernel
theorem dX12_requestedHours_23 : decode cX12_requestedHours 23 = .ok (.iadd, 1) := by decide +kernel
theorem dX12_requestedHours_24 : decode cX12_requestedHours 24 = .ok (.iaload, 1) := by decide +kernel
theorem dX12_requestedHours_25 : decode cX12_requestedHours 25 = .ok (.goto 4, 3) := by decide +kernel
theorem dX12_requestedHours_28 : decode cX12_requestedHours 28 = .ok (.iconst 0, 1) := by decide +kernel
theorem dX12_requestedHours_29 : decode cX12_requestedHours 29 = .ok (.ireturn, 1) := by decide +kernel
theorem dX12_refusedRenewals_0 : decode cX12_refusedRenewals 0 = .ok (.aload_n 0, 1) := by decide +kernel
theorem dX12_refusedRenewals_1 : decode cX12_refusedRenewals 1 = .ok (.iconst 0, 1) := by decide +kernel
theorem dX12_refusedRenewals_2 : decode cX12_refusedRenewals 2 = .ok (.putfield 42, 3) := by decide +kernel
theorem dX12_refusedRenewals_5 : decode cX12_refusedRenewals 5 = .ok (.aload_n 0, 1) := by decide +kernel
theorem dX12_refusedRenewals_6 : decode cX12_refusedRenewals 6 = .ok (.getfield 9, 3) := by decide +kernel
theorem dX12_refusedRenewals_9 : decode cX12_refusedRenewals 9 = .ok (.iconst 4, 1) := by decide +kernel
theorem dX12_refusedRenewals_10 : decode cX12_refusedRenewals 10 = .ok (.iaload, 1) := by decide +kernel
theorem dX12_refusedRenewals_11 : decode cX12_refusedRenewals 11 = .ok (.ireturn, 1) := by decide +kernel
theorem dX12_officeCoins_0 : decode cX12_officeCoins 0 = .ok (.aload_n 0, 1) := by decide +kernel
theorem dX12_officeCoins_1 : decode cX12_officeCoins 1 = .ok (.iconst 0, 1) := by decide +kernel
theorem dX12_officeCoins_2 : decode cX12_officeCoins 2 = .ok (.putfield 42, 3) := by decide +kernel
theorem dX12_officeCoins_5 : decode cX12_officeCoins 5 = .ok (.aload_n 0, 1) := by decide +kernel
theorem dX12_officeCoins_6 : decode cX12_officeCoins 6 = .ok (.getfield 9, 3) := by decide +kernel
theorem dX12_officeCoins_9 : decode cX12_officeCoins 9 = .ok (.iconst 5, 1) := by decide +kernel
theorem dX12_officeCoins_10 : decode cX12_officeCoins 10 = .ok (.iaload, 1) := by decide +kernel
theorem dX12_officeCoins_11 : decode cX12_officeCoins 11 = .ok (.ireturn, 1) := by decide +kernel
theorem dX12_shipByFines_0 : decode cX12_shipByFines 0 = .ok (.iconst 0, 1) := by decide +kernel
theorem dX12_shipByFines_1 : decode cX12_shipByFines 1 = .ok (.istore_n 2, 1) := by decide +kernel
theorem dX12_shipByFines_2 : decode cX12_shipByFines 2 = .ok (.aload_n 0, 1) := by decide +kernel
theorem dX12_shipByFines_3 : decode cX12_shipByFines 3 = .ok (.aload_n 0, 1) := by decide +kernel
theorem dX12_shipByFines_4 : decode cX12_shipByFines 4 = .ok (.iload_n 1, 1) := by decide +kernel
theorem dX12_shipByFines_5 : decode cX12_shipByFines 5 = .ok (.invokevirtual 89, 3) := by decide +kernel
theorem dX12_shipByFines_8 : decode cX12_shipByFines 8 = .ok (.invokevirtual 144, 3) := by decide +kernel
theorem dX12_shipByFines_11 : decode cX12_shipByFines 11 = .ok (.istore_n 3, 1) := by decide +kernel
theorem dX12_shipByFines_12 : decode cX12_shipByFines 12 = .ok (.iconst 0, 1) := by decide +kernel
theorem dX12_shipByFines_13 : decode cX12_shipByFines 13 = .ok (.istore 4, 2) := by decide +kernel
theorem dX12_shipByFines_15 : decode cX12_shipByFines 15 = .ok (.iload 4, 2) := by decide +kernel
theorem dX12_shipByFines_17 : decode cX12_shipByFines 17 = .ok (.aload_n 0, 1) := by decide +kernel
theorem dX12_shipByFines_18 : decode cX12_shipByFines 18 = .ok (.getfield 9, 3) := by decide +kernel
theorem dX12_shipByFines_21 : decode cX12_shipByFines 21 = .ok (.iconst 0, 1) := by decide +kernel
theorem dX12_shipByFines_22 : decode cX12_shipByFines 22 = .ok (.iaload, 1) := by decide +kernel
theorem dX12_shipByFines_23 : decode cX12_shipByFines 23 = .ok (.if_icmp .ge 120, 3) := by decide +kernel
theorem dX12_shipByFines_26 : decode cX12_shipByFines 26 = .ok (.iload_n 3, 1) := by decide +kernel
theorem dX12_shipByFines_27 : decode cX12_shipByFines 27 = .ok (.ifCond .eq 116, 3) := by decide +kernel
theorem dX12_shipByFines_30 : decode cX12_shipByFines 30 = .ok (.iconst 0, 1) := by decide +kernel
theorem dX12_shipByFines_31 : decode cX12_shipByFines 31 = .ok (.istore 5, 2) := by decide +kernel
theorem dX12_shipByFines_33 : decode cX12_shipByFines 33 = .ok (.iconst 0, 1) := by decide +kernel
theorem dX12_shipByFines_34 : decode cX12_shipByFines 34 = .ok (.istore 6, 2) := by decide +kernel
theorem dX12_shipByFines_36 : decode cX12_shipByFines 36 = .ok (.iload 6, 2) := by decide +kernel
theorem dX12_shipByFines_38 : decode cX12_shipByFines 38 = .ok (.aload_n 0, 1) := by decide +kernel
theorem dX12_shipByFines_39 : decode cX12_shipByFines 39 = .ok (.getfield 9, 3) := by decide +kernel
theorem dX12_shipByFines_42 : decode cX12_shipByFines 42 = .ok (.iconst 0, 1) := by decide +kernel
theorem dX12_shipByFines_43 : decode cX12_shipByFines 43 = .ok (.iaload, 1) := by decide +kernel
theorem dX12_shipByFines_44 : decode cX12_shipByFines 44 = .ok (.if_icmp .ge 80, 3) := by decide +kernel
theorem dX12_shipByFines_47 : decode cX12_shipByFines 47 = .ok (.aload_n 0, 1) := by decide +kernel
theorem dX12_shipByFines_48 : decode cX12_shipByFines 48 = .ok (.iload 6, 2) := by decide +kernel
theorem dX12_shipByFines_50 : decode cX12_shipByFines 50 = .ok (.iconst 1, 1) := by decide +kernel
theorem dX12_shipByFines_51 : decode cX12_shipByFines 51 = .ok (.invokevirtual 99, 3) := by decide +kernel
theorem dX12_shipByFines_54 : decode cX12_shipByFines 54 = .ok (.aload_n 0, 1) := by decide +kernel
theorem dX12_shipByFines_55 : decode cX12_shipByFines 55 = .ok (.iload 4, 2) := by decide +kernel
theorem dX12_shipByFines_57 : decode cX12_shipByFines 57 = .ok (.iconst 1, 1) := by decide +kernel
theorem dX12_shipByFines_58 : decode cX12_shipByFines 58 = .ok (.invokevirtual 99, 3) := by decide +kernel
theorem dX12_shipByFines_61 : decode cX12_shipByFines 61 = .ok (.isub, 1) := by decide +kernel
theorem dX12_shipByFines_62 : decode cX12_shipByFines 62 = .ok (.istore 7, 2) := by decide +kernel
theorem dX12_shipByFines_64 : decode cX12_shipByFines 64 = .ok (.aload_n 0, 1) := by decide +kernel
theorem dX12_shipByFines_65 : decode cX12_shipByFines 65 = .ok (.iload 4, 2) := by decide +kernel
theorem dX12_shipByFines_67 : decode cX12_shipByFines 67 = .ok (.iconst 0, 1) := by decide +kernel
theorem dX12_shipByFines_68 : decode cX12_shipByFines 68 = .ok (.invokevirtual 99, 3) := by decide +kernel
theorem dX12_shipByFines_71 : decode cX12_shipByFines 71 = .ok (.aload_n 0, 1) := by decide +kernel
theorem dX12_shipByFines_72 : decode cX12_shipByFines 72 = .ok (.iload 6, 2) := by decide +kernel
theorem dX12_shipByFines_74 : decode cX12_shipByFines 74 = .ok (.iconst 0, 1) := by decide +kernel
theorem dX12_shipByFines_75 : decode cX12_shipByFines 75 = .ok (.invokevirtual 99, 3) := by decide +kernel
theorem dX12_shipByFines_78 : decode cX12_shipByFines 78 = .ok (.isub, 1) := by decide +kernel
theorem dX12_shipByFines_79 : decode cX12_shipByFines 79 = .ok (.istore 8, 2) := by decide +kernel
theorem dX12_shipByFines_81 : decode cX12_shipByFines 81 = .ok (.iload 5, 2) := by decide +kernel
theorem dX12_shipByFines_83 : decode cX12_shipByFines 83 = .ok (.iload 7, 2) := by decide +kernel
theorem dX12_shipByFines_85 : decode cX12_shipByFines 85 = .ok (.ifCond .gt 25, 3) := by decide +kernel
theorem dX12_shipByFines_88 : decode cX12_shipByFines 88 = .ok (.iload 7, 2) := by decide +kernel
theorem dX12_shipByFines_90 : decode cX12_shipByFines 90 = .ok (.ifCond .ne 24, 3) := by decide +kernel
theorem dX12_shipByFines_93 : decode cX12_shipByFines 93 = .ok (.iload 8, 2) := by decide +kernel
theorem dX12_shipByFines_95 : decode cX12_shipByFines 95 = .ok (.ifCond .gt 15, 3) := by decide +kernel
theorem dX12_shipByFines_98 : decode cX12_shipByFines 98 = .ok (.iload 8, 2) := by decide +kernel
theorem dX12_shipByFines_100 : decode cX12_shipByFines 100 = .ok (.ifCond .ne 14, 3) := by decide +kernel
theorem dX12_shipByFines_103 : decode cX12_shipByFines 103 = .ok (.iload 6, 2) := by decide +kernel
theorem dX12_shipByFines_105 : decode cX12_shipByFines 105 = .ok (.iload 4, 2) := by decide +kernel
theorem dX12_shipByFines_107 : decode cX12_shipByFines 107 = .ok (.if_icmp .ge 7, 3) := by decide +kernel
theorem dX12_shipByFines_110 : decode cX12_shipByFines 110 = .ok (.iconst 1, 1) := by decide +kernel
theorem dX12_shipByFines_111 : decode cX12_shipByFines 111 = .ok (.goto 4, 3) := by decide +kernel
theorem dX12_shipByFines_114 : decode cX12_shipByFines 114 = .ok (.iconst 0, 1) := by decide +kernel
theorem dX12_shipByFines_115 : decode cX12_shipByFines 115 = .ok (.iadd, 1) := by decide +kernel
theorem dX12_shipByFines_116 : decode cX12_shipByFines 116 = .ok (.istore 5, 2) := by decide +kernel
theorem dX12_shipByFines_118 : decode cX12_shipByFines 118 = .ok (.iinc 6 1, 3) := by decide +kernel
theorem dX12_shipByFines_121 : decode cX12_shipByFines 121 = .ok (.goto (-85), 3) := by decide +kernel
theorem dX12_shipByFines_124 : decode cX12_shipByFines 124 = .ok (.iload 5, 2) := by decide +kernel
theorem dX12_shipByFines_126 : decode cX12_shipByFines 126 = .ok (.iload_n 1, 1) := by decide +kernel
theorem dX12_shipByFines_127 : decode cX12_shipByFines 127 = .ok (.if_icmp .ne 8, 3) := by decide +kernel
theorem dX12_shipByFines_130 : decode cX12_shipByFines 130 = .ok (.iload 4, 2) := by decide +kernel
theorem dX12_shipByFines_132 : decode cX12_shipByFines 132 = .ok (.goto 4, 3) := by decide +kernel
theorem dX12_shipByFines_135 : decode cX12_shipByFines 135 = .ok (.iload_n 2, 1) := by decide +kernel
theorem dX12_shipByFines_136 : decode cX12_shipByFines 136 = .ok (.istore_n 2, 1) := by decide +kernel
theorem dX12_shipByFines_137 : decode cX12_shipByFines 137 = .ok (.iinc 4 1, 3) := by decide +kernel
theorem dX12_shipByFines_140 : decode cX12_shipByFines 140 = .ok (.goto (-125), 3) := by decide +kernel
theorem dX12_shipByFines_143 : decode cX12_shipByFines 143 = .ok (.iload_n 2, 1) := by decide +kernel
theorem dX12_shipByFines_144 : decode cX12_shipByFines 144 = .ok (.ireturn, 1) := by decide +kernel
theorem dX12_lampByEnd_0 : decode cX12_lampByEnd 0 = .ok (.iconst 0, 1) := by decide +kernel
theorem dX12_lampByEnd_1 : decode cX12_lampByEnd 1 = .ok (.istore_n 2, 1) := by decide +kernel
theorem dX12_lampByEnd_2 : decode cX12_lampByEnd 2 = .ok (.aload_n 0, 1) := by decide +kernel
theorem dX12_lampByEnd_3 : decode cX12_lampByEnd 3 = .ok (.iload_n 1, 1) := by decide +kernel
theorem dX12_lampByEnd_4 : decode cX12_lampByEnd 4 = .ok (.iconst 0, 1) := by decide +kernel
theorem dX12_lampByEnd_5 : decode cX12_lampByEnd 5 = .ok (.aload_n 0, 1) := by decide +kernel
theorem dX12_lampByEnd_6 : decode cX12_lampByEnd 6 = .ok (.invokevirtual 151, 3) := by decide +kernel
theorem dX12_lampByEnd_9 : decode cX12_lampByEnd 9 = .ok (.iconst 1, 1) := by decide +kernel
theorem dX12_lampByEnd_10 : decode cX12_lampByEnd 10 = .ok (.isub, 1) := by decide +kernel
theorem dX12_lampByEnd_11 : decode cX12_lampByEnd 11 = .ok (.invokestatic 54, 3) := by decide +kernel
theorem dX12_lampByEnd_14 : decode cX12_lampByEnd 14 = .ok (.invokevirtual 144, 3) := by decide +kernel
theorem dX12_lampByEnd_17 : decode cX12_lampByEnd 17 = .ok (.istore_n 3, 1) := by decide +kernel
theorem dX12_lampByEnd_18 : decode cX12_lampByEnd 18 = .ok (.iconst 0, 1) := by decide +kernel
theorem dX12_lampByEnd_19 : decode cX12_lampByEnd 19 = .ok (.istore 4, 2) := by decide +kernel
theorem dX12_lampByEnd_21 : decode cX12_lampByEnd 21 = .ok (.iload 4, 2) := by decide +kernel
theorem dX12_lampByEnd_23 : decode cX12_lampByEnd 23 = .ok (.aload_n 0, 1) := by decide +kernel
theorem dX12_lampByEnd_24 : decode cX12_lampByEnd 24 = .ok (.getfield 9, 3) := by decide +kernel
theorem dX12_lampByEnd_27 : decode cX12_lampByEnd 27 = .ok (.iconst 1, 1) := by decide +kernel
theorem dX12_lampByEnd_28 : decode cX12_lampByEnd 28 = .ok (.iaload, 1) := by decide +kernel
theorem dX12_lampByEnd_29 : decode cX12_lampByEnd 29 = .ok (.if_icmp .ge 150, 3) := by decide +kernel
theorem dX12_lampByEnd_32 : decode cX12_lampByEnd 32 = .ok (.iload_n 3, 1) := by decide +kernel
theorem dX12_lampByEnd_33 : decode cX12_lampByEnd 33 = .ok (.ifCond .eq 146, 3) := by decide +kernel
theorem dX12_lampByEnd_36 : decode cX12_lampByEnd 36 = .ok (.iconst 0, 1) := by decide +kernel
theorem dX12_lampByEnd_37 : decode cX12_lampByEnd 37 = .ok (.istore 5, 2) := by decide +kernel
theorem dX12_lampByEnd_39 : decode cX12_lampByEnd 39 = .ok (.iconst 0, 1) := by decide +kernel
theorem dX12_lampByEnd_40 : decode cX12_lampByEnd 40 = .ok (.istore 6, 2) := by decide +kernel
theorem dX12_lampByEnd_42 : decode cX12_lampByEnd 42 = .ok (.iload 6, 2) := by decide +kernel
theorem dX12_lampByEnd_44 : decode cX12_lampByEnd 44 = .ok (.aload_n 0, 1) := by decide +kernel
theorem dX12_lampByEnd_45 : decode cX12_lampByEnd 45 = .ok (.getfield 9, 3) := by decide +kernel
theorem dX12_lampByEnd_48 : decode cX12_lampByEnd 48 = .ok (.iconst 1, 1) := by decide +kernel
theorem dX12_lampByEnd_49 : decode cX12_lampByEnd 49 = .ok (.iaload, 1) := by decide +kernel
theorem dX12_lampByEnd_50 : decode cX12_lampByEnd 50 = .ok (.if_icmp .ge 101, 3) := by decide +kernel
theorem dX12_lampByEnd_53 : decode cX12_lampByEnd 53 = .ok (.aload_n 0, 1) := by decide +kernel
theorem dX12_lampByEnd_54 : decode cX12_lampByEnd 54 = .ok (.iload 4, 2) := by decide +kernel
theorem dX12_lampByEnd_56 : decode cX12_lampByEnd 56 = .ok (.iconst 2, 1) := by decide +kernel
theorem dX12_lampByEnd_57 : decode cX12_lampByEnd 57 = .ok (.invokevirtual 58, 3) := by decide +kernel
theorem dX12_lampByEnd_60 : decode cX12_lampByEnd 60 = .ok (.aload_n 0, 1) := by decide +kernel
theorem dX12_lampByEnd_61 : decode cX12_lampByEnd 61 = .ok (.iload 6, 2) := by decide +kernel
theorem dX12_lampByEnd_63 : decode cX12_lampByEnd 63 = .ok (.iconst 2, 1) := by decide +kernel
theorem dX12_lampByEnd_64 : decode cX12_lampByEnd 64 = .ok (.invokevirtual 58, 3) := by decide +kernel
theorem dX12_lampByEnd_67 : decode cX12_lampByEnd 67 = .ok (.isub, 1) := by decide +kernel
theorem dX12_lampByEnd_68 : decode cX12_lampByEnd 68 = .ok (.istore 7, 2) := by decide +kernel
theorem dX12_lampByEnd_70 : decode cX12_lampByEnd 70 = .ok (.aload_n 0, 1) := by decide +kernel
theorem dX12_lampByEnd_71 : decode cX12_lampByEnd 71 = .ok (.iload 6, 2) := by decide +kernel
theorem dX12_lampByEnd_73 : decode cX12_lampByEnd 73 = .ok (.iconst 0, 1) := by decide +kernel
theorem dX12_lampByEnd_74 : decode cX12_lampByEnd 74 = .ok (.invokevirtual 58, 3) := by decide +kernel
theorem dX12_lampByEnd_77 : decode cX12_lampByEnd 77 = .ok (.aload_n 0, 1) := by decide +kernel
theorem dX12_lampByEnd_78 : decode cX12_lampByEnd 78 = .ok (.iload 4, 2) := by decide +kernel
theorem dX12_lampByEnd_80 : decode cX12_lampByEnd 80 = .ok (.iconst 0, 1) := by decide +kernel
theorem dX12_lampByEnd_81 : decode cX12_lampByEnd 81 = .ok (.invokevirtual 58, 3) := by decide +kernel
theorem dX12_lampByEnd_84 : decode cX12_lampByEnd 84 = .ok (.isub, 1) := by decide +kernel
theorem dX12_lampByEnd_85 : decode cX12_lampByEnd 85 = .ok (.istore 8, 2) := by decide +kernel
theorem dX12_lampByEnd_87 : decode cX12_lampByEnd 87 = .ok (.iload 7, 2) := by decide +kernel
theorem dX12_lampByEnd_89 : decode cX12_lampByEnd 89 = .ok (.ifCond .gt 25, 3) := by decide +kernel
theorem dX12_lampByEnd_92 : decode cX12_lampByEnd 92 = .ok (.iload 7, 2) := by decide +kernel
theorem dX12_lampByEnd_94 : decode cX12_lampByEnd 94 = .ok (.ifCond .ne 24, 3) := by decide +kernel
theorem dX12_lampByEnd_97 : decode cX12_lampByEnd 97 = .ok (.iload 8, 2) := by decide +kernel
theorem dX12_lampByEnd_99 : decode cX12_lampByEnd 99 = .ok (.ifCond .gt 15, 3) := by decide +kernel
theorem dX12_lampByEnd_102 : decode cX12_lampByEnd 102 = .ok (.iload 8, 2) := by decide +kernel
theorem dX12_lampByEnd_104 : decode cX12_lampByEnd 104 = .ok (.ifCond .ne 14, 3) := by decide +kernel
theorem dX12_lampByEnd_107 : decode cX12_lampByEnd 107 = .ok (.iload 6, 2) := by decide +kernel
theorem dX12_lampByEnd_109 : decode cX12_lampByEnd 109 = .ok (.iload 4, 2) := by decide +kernel
theorem dX12_lampByEnd_111 : decode cX12_lampByEnd 111 = .ok (.if_icmp .ge 7, 3) := by decide +kernel
theorem dX12_lampByEnd_114 : decode cX12_lampByEnd 114 = .ok (.iconst 1, 1) := by decide +kernel
theorem dX12_lampByEnd_115 : decode cX12_lampByEnd 115 = .ok (.goto 4, 3) := by decide +kernel
theorem dX12_lampByEnd_118 : decode cX12_lampByEnd 118 = .ok (.iconst 0, 1) := by decide +kernel
theorem dX12_lampByEnd_119 : decode cX12_lampByEnd 119 = .ok (.istore 9, 2) := by decide +kernel
theorem dX12_lampByEnd_121 : decode cX12_lampByEnd 121 = .ok (.iload 5, 2) := by decide +kernel
theorem dX12_lampByEnd_123 : decode cX12_lampByEnd 123 = .ok (.aload_n 0, 1) := by decide +kernel
theorem dX12_lampByEnd_124 : decode cX12_lampByEnd 124 = .ok (.iload 6, 2) := by decide +kernel
theorem dX12_lampByEnd_126 : decode cX12_lampByEnd 126 = .ok (.invokevirtual 96, 3) := by decide +kernel
theorem dX12_lampByEnd_129 : decode cX12_lampByEnd 129 = .ok (.ifCond .eq 12, 3) := by decide +kernel
theorem dX12_lampByEnd_132 : decode cX12_lampByEnd 132 = .ok (.iload 9, 2) := by decide +kernel
theorem dX12_lampByEnd_134 : decode cX12_lampByEnd 134 = .ok (.ifCond .eq 7, 3) := by decide +kernel
theorem dX12_lampByEnd_137 : decode cX12_lampByEnd 137 = .ok (.iconst 1, 1) := by decide +kernel
theorem dX12_lampByEnd_138 : decode cX12_lampByEnd 138 = .ok (.goto 4, 3) := by decide +kernel
theorem dX12_lampByEnd_141 : decode cX12_lampByEnd 141 = .ok (.iconst 0, 1) := by decide +kernel
theorem dX12_lampByEnd_142 : decode cX12_lampByEnd 142 = .ok (.iadd, 1) := by decide +kernel
theorem dX12_lampByEnd_143 : decode cX12_lampByEnd 143 = .ok (.istore 5, 2) := by decide +kernel
theorem dX12_lampByEnd_145 : decode cX12_lampByEnd 145 = .ok (.iinc 6 1, 3) := by decide +kernel
theorem dX12_lampByEnd_148 : decode cX12_lampByEnd 148 = .ok (.goto (-106), 3) := by decide +kernel
theorem dX12_lampByEnd_151 : decode cX12_lampByEnd 151 = .ok (.aload_n 0, 1) := by decide +kernel
theorem dX12_lampByEnd_152 : decode cX12_lampByEnd 152 = .ok (.iload 4, 2) := by decide +kernel
theorem dX12_lampByEnd_154 : decode cX12_lampByEnd 154 = .ok (.invokevirtual 96, 3) := by decide +kernel
theorem dX12_lampByEnd_157 : decode cX12_lampByEnd 157 = .ok (.ifCond .eq 14, 3) := by decide +kernel
theorem dX12_lampByEnd_160 : decode cX12_lampByEnd 160 = .ok (.iload 5, 2) := by decide +kernel
theorem dX12_lampByEnd_162 : decode cX12_lampByEnd 162 = .ok (.iload_n 1, 1) := by decide +kernel
theorem dX12_lampByEnd_163 : decode cX12_lampByEnd 163 = .ok (.if_icmp .ne 8, 3) := by decide +kernel
theorem dX12_lampByEnd_166 : decode cX12_lampByEnd 166 = .ok (.iload 4, 2) := by decide +kernel
theorem dX12_lampByEnd_168 : decode cX12_lampByEnd 168 = .ok (.goto 4, 3) := by decide +kernel
theorem dX12_lampByEnd_171 : decode cX12_lampByEnd 171 = .ok (.iload_n 2, 1) := by decide +kernel
theorem dX12_lampByEnd_172 : decode cX12_lampByEnd 172 = .ok (.istore_n 2, 1) := by decide +kernel
theorem dX12_lampByEnd_173 : decode cX12_lampByEnd 173 = .ok (.iinc 4 1, 3) := by decide +kernel
theorem dX12_lampByEnd_176 : decode cX12_lampByEnd 176 = .ok (.goto (-155), 3) := by decide +kernel
theorem dX12_lampByEnd_179 : decode cX12_lampByEnd 179 = .ok (.iload_n 2, 1) := by decide +kernel
theorem dX12_lampByEnd_180 : decode cX12_lampByEnd 180 = .ok (.ireturn, 1) := by decide +kernel
theorem dX12_meanCoins_0 : decode cX12_meanCoins 0 = .ok (.aload_n 0, 1) := by decide +kernel
theorem dX12_meanCoins_1 : decode cX12_meanCoins 1 = .ok (.getfield 9, 3) := by decide +kernel
theorem dX12_meanCoins_4 : decode cX12_meanCoins 4 = .ok (.iconst 0, 1) := by decide +kernel
theorem dX12_meanCoins_5 : decode cX12_meanCoins 5 = .ok (.iaload, 1) := by decide +kernel
theorem dX12_meanCoins_6 : decode cX12_meanCoins 6 = .ok (.istore_n 1, 1) := by decide +kernel
theorem dX12_meanCoins_7 : decode cX12_meanCoins 7 = .ok (.iconst 0, 1) := by decide +kernel
theorem dX12_meanCoins_8 : decode cX12_meanCoins 8 = .ok (.istore_n 2, 1) := by decide +kernel
theorem dX12_meanCoins_9 : decode cX12_meanCoins 9 = .ok (.iconst 0, 1) := by decide +kernel
theorem dX12_meanCoins_10 : decode cX12_meanCoins 10 = .ok (.istore_n 3, 1) := by decide +kernel
theorem dX12_meanCoins_11 : decode cX12_meanCoins 11 = .ok (.iload_n 3, 1) := by decide +kernel
theorem dX12_meanCoins_12 : decode cX12_meanCoins 12 = .ok (.iload_n 1, 1) := by decide +kernel
theorem dX12_meanCoins_13 : decode cX12_meanCoins 13 = .ok (.if_icmp .ge 18, 3) := by decide +kernel
theorem dX12_meanCoins_16 : decode cX12_meanCoins 16 = .ok (.iload_n 2, 1) := by decide +kernel
theorem dX12_meanCoins_17 : decode cX12_meanCoins 17 = .ok (.aload_n 0, 1) := by decide +kernel
theorem dX12_meanCoins_18 : decode cX12_meanCoins 18 = .ok (.iload_n 3, 1) := by decide +kernel
theorem dX12_meanCoins_19 : decode cX12_meanCoins 19 = .ok (.iconst 0, 1) := by decide +kernel
theorem dX12_meanCoins_20 : decode cX12_meanCoins 20 = .ok (.invokevirtual 99, 3) := by decide +kernel
theorem dX12_meanCoins_23 : decode cX12_meanCoins 23 = .ok (.iadd, 1) := by decide +kernel
theorem dX12_meanCoins_24 : decode cX12_meanCoins 24 = .ok (.istore_n 2, 1) := by decide +kernel
theorem dX12_meanCoins_25 : decode cX12_meanCoins 25 = .ok (.iinc 3 1, 3) := by decide +kernel
theorem dX12_meanCoins_28 : decode cX12_meanCoins 28 = .ok (.goto (-17), 3) := by decide +kernel
theorem dX12_meanCoins_31 : decode cX12_meanCoins 31 = .ok (.aload_n 0, 1) := by decide +kernel
theorem dX12_meanCoins_32 : decode cX12_meanCoins 32 = .ok (.iload_n 1, 1) := by decide +kernel
theorem dX12_meanCoins_33 : decode cX12_meanCoins 33 = .ok (.ifCond .le 7, 3) := by decide +kernel
theorem dX12_meanCoins_36 : decode cX12_meanCoins 36 = .ok (.iconst 1, 1) := by decide +kernel
theorem dX12_meanCoins_37 : decode cX12_meanCoins 37 = .ok (.goto 4, 3) := by decide +kernel
theorem dX12_meanCoins_40 : decode cX12_meanCoins 40 = .ok (.iconst 0, 1) := by decide +kernel
theorem dX12_meanCoins_41 : decode cX12_meanCoins 41 = .ok (.invokevirtual 144, 3) := by decide +kernel
theorem dX12_meanCoins_44 : decode cX12_meanCoins 44 = .ok (.ifCond .eq 11, 3) := by decide +kernel
theorem dX12_meanCoins_47 : decode cX12_meanCoins 47 = .ok (.iload_n 2, 1) := by decide +kernel
theorem dX12_meanCoins_48 : decode cX12_meanCoins 48 = .ok (.i2d, 1) := by decide +kernel
theorem dX12_meanCoins_49 : decode cX12_meanCoins 49 = .ok (.iload_n 1, 1) := by decide +kernel
theorem dX12_meanCoins_50 : decode cX12_meanCoins 50 = .ok (.i2d, 1) := by decide +kernel
theorem dX12_meanCoins_51 : decode cX12_meanCoins 51 = .ok (.ddiv, 1) := by decide +kernel
theorem dX12_meanCoins_52 : decode cX12_meanCoins 52 = .ok (.goto 4, 3) := by decide +kernel
theorem dX12_meanCoins_55 : decode cX12_meanCoins 55 = .ok (.dconst 0, 1) := by decide +kernel
theorem dX12_meanCoins_56 : decode cX12_meanCoins 56 = .ok (.dreturn, 1) := by decide +kernel
theorem dX12_leasedShare_0 : decode cX12_leasedShare 0 = .ok (.aload_n 0, 1) := by decide +kernel
theorem dX12_leasedShare_1 : decode cX12_leasedShare 1 = .ok (.getfield 9, 3) := by decide +kernel
theorem dX12_leasedShare_4 : decode cX12_leasedShare 4 = .ok (.iconst 1, 1) := by decide +kernel
theorem dX12_leasedShare_5 : decode cX12_leasedShare 5 = .ok (.iaload, 1) := by decide +kernel
theorem dX12_leasedShare_6 : decode cX12_leasedShare 6 = .ok (.istore_n 1, 1) := by decide +kernel
theorem dX12_leasedShare_7 : decode cX12_leasedShare 7 = .ok (.aload_n 0, 1) := by decide +kernel
theorem dX12_leasedShare_8 : decode cX12_leasedShare 8 = .ok (.iload_n 1, 1) := by decide +kernel
theorem dX12_leasedShare_9 : decode cX12_leasedShare 9 = .ok (.ifCond .le 7, 3) := by decide +kernel
theorem dX12_leasedShare_12 : decode cX12_leasedShare 12 = .ok (.iconst 1, 1) := by decide +kernel
theorem dX12_leasedShare_13 : decode cX12_leasedShare 13 = .ok (.goto 4, 3) := by decide +kernel
theorem dX12_leasedShare_16 : decode cX12_leasedShare 16 = .ok (.iconst 0, 1) := by decide +kernel
theorem dX12_leasedShare_17 : decode cX12_leasedShare 17 = .ok (.invokevirtual 144, 3) := by decide +kernel
theorem dX12_leasedShare_20 : decode cX12_leasedShare 20 = .ok (.ifCond .eq 14, 3) := by decide +kernel
theorem dX12_leasedShare_23 : decode cX12_leasedShare 23 = .ok (.aload_n 0, 1) := by decide +kernel
theorem dX12_leasedShare_24 : decode cX12_leasedShare 24 = .ok (.invokevirtual 151, 3) := by decide +kernel
theorem dX12_leasedShare_27 : decode cX12_leasedShare 27 = .ok (.i2f, 1) := by decide +kernel
theorem dX12_leasedShare_28 : decode cX12_leasedShare 28 = .ok (.iload_n 1, 1) := by decide +kernel
theorem dX12_leasedShare_29 : decode cX12_leasedShare 29 = .ok (.i2f, 1) := by decide +kernel
theorem dX12_leasedShare_30 : decode cX12_leasedShare 30 = .ok (.fdiv, 1) := by decide +kernel
theorem dX12_leasedShare_31 : decode cX12_leasedShare 31 = .ok (.goto 4, 3) := by decide +kernel
theorem dX12_leasedShare_34 : decode cX12_leasedShare 34 = .ok (.fconst 0, 1) := by decide +kernel
theorem dX12_leasedShare_35 : decode cX12_leasedShare 35 = .ok (.freturn, 1) := by decide +kernel
theorem dX12_isConsistent_0 : decode cX12_isConsistent 0 = .ok (.aload_n 0, 1) := by decide +kernel
theorem dX12_isConsistent_1 : decode cX12_isConsistent 1 = .ok (.iconst 0, 1) := by decide +kernel
theorem dX12_isConsistent_2 : decode cX12_isConsistent 2 = .ok (.putfield 42, 3) := by decide +kernel
theorem dX12_isConsistent_5 : decode cX12_isConsistent 5 = .ok (.iconst 1, 1) := by decide +kernel
theorem dX12_isConsistent_6 : decode cX12_isConsistent 6 = .ok (.ireturn, 1) := by decide +kernel
theorem dX12_says_0 : decode cX12_says 0 = .ok (.aload_n 0, 1) := by decide +kernel
theorem dX12_says_1 : decode cX12_says 1 = .ok (.getfield 25, 3) := by decide +kernel
theorem dX12_says_4 : decode cX12_says 4 = .ok (.aload_n 0, 1) := by decide +kernel
theorem dX12_says_5 : decode cX12_says 5 = .ok (.getfield 172, 3) := by decide +kernel
theorem dX12_says_8 : decode cX12_says 8 = .ok (.iload_n 1, 1) := by decide +kernel
theorem dX12_says_9 : decode cX12_says 9 = .ok (.castore, 1) := by decide +kernel
theorem dX12_says_10 : decode cX12_says 10 = .ok (.aload_n 0, 1) := by decide +kernel
theorem dX12_says_11 : decode cX12_says 11 = .ok (.dup, 1) := by decide +kernel
theorem dX12_says_12 : decode cX12_says 12 = .ok (.getfield 172, 3) := by decide +kernel
theorem dX12_says_15 : decode cX12_says 15 = .ok (.iconst 1, 1) := by decide +kernel
theorem dX12_says_16 : decode cX12_says 16 = .ok (.iadd, 1) := by decide +kernel
theorem dX12_says_17 : decode cX12_says 17 = .ok (.putfield 172, 3) := by decide +kernel
theorem dX12_says_20 : decode cX12_says 20 = .ok (.return_, 1) := by decide +kernel
theorem dX12_saysNumber_0 : decode cX12_saysNumber 0 = .ok (.iload_n 1, 1) := by decide +kernel
theorem dX12_saysNumber_1 : decode cX12_saysNumber 1 = .ok (.bipush 9, 2) := by decide +kernel
theorem dX12_saysNumber_3 : decode cX12_saysNumber 3 = .ok (.if_icmp .le 11, 3) := by decide +kernel
theorem dX12_saysNumber_6 : decode cX12_saysNumber 6 = .ok (.aload_n 0, 1) := by decide +kernel
theorem dX12_saysNumber_7 : decode cX12_saysNumber 7 = .ok (.iload_n 1, 1) := by decide +kernel
theorem dX12_saysNumber_8 : decode cX12_saysNumber 8 = .ok (.bipush 10, 2) := by decide +kernel
theorem dX12_saysNumber_10 : decode cX12_saysNumber 10 = .ok (.idiv, 1) := by decide +kernel
theorem dX12_saysNumber_11 : decode cX12_saysNumber 11 = .ok (.invokevirtual 175, 3) := by decide +kernel
theorem dX12_saysNumber_14 : decode cX12_saysNumber 14 = .ok (.aload_n 0, 1) := by decide +kernel
theorem dX12_saysNumber_15 : decode cX12_saysNumber 15 = .ok (.bipush 48, 2) := by decide +kernel
theorem dX12_saysNumber_17 : decode cX12_saysNumber 17 = .ok (.iload_n 1, 1) := by decide +kernel
theorem dX12_saysNumber_18 : decode cX12_saysNumber 18 = .ok (.bipush 10, 2) := by decide +kernel
theorem dX12_saysNumber_20 : decode cX12_saysNumber 20 = .ok (.irem, 1) := by decide +kernel
theorem dX12_saysNumber_21 : decode cX12_saysNumber 21 = .ok (.iadd, 1) := by decide +kernel
theorem dX12_saysNumber_22 : decode cX12_saysNumber 22 = .ok (.i2c, 1) := by decide +kernel
theorem dX12_saysNumber_23 : decode cX12_saysNumber 23 = .ok (.invokevirtual 178, 3) := by decide +kernel
theorem dX12_saysNumber_26 : decode cX12_saysNumber 26 = .ok (.return_, 1) := by decide +kernel
theorem dX12_writeLamps_0 : decode cX12_writeLamps 0 = .ok (.aload_n 0, 1) := by decide +kernel
theorem dX12_writeLamps_1 : decode cX12_writeLamps 1 = .ok (.iconst 0, 1) := by decide +kernel
theorem dX12_writeLamps_2 : decode cX12_writeLamps 2 = .ok (.putfield 42, 3) := by decide +kernel
theorem dX12_writeLamps_5 : decode cX12_writeLamps 5 = .ok (.aload_n 0, 1) := by decide +kernel
theorem dX12_writeLamps_6 : decode cX12_writeLamps 6 = .ok (.iconst 0, 1) := by decide +kernel
theorem dX12_writeLamps_7 : decode cX12_writeLamps 7 = .ok (.putfield 172, 3) := by decide +kernel
theorem dX12_writeLamps_10 : decode cX12_writeLamps 10 = .ok (.iconst 0, 1) := by decide +kernel
theorem dX12_writeLamps_11 : decode cX12_writeLamps 11 = .ok (.istore_n 1, 1) := by decide +kernel
theorem dX12_writeLamps_12 : decode cX12_writeLamps 12 = .ok (.iload_n 1, 1) := by decide +kernel
theorem dX12_writeLamps_13 : decode cX12_writeLamps 13 = .ok (.aload_n 0, 1) := by decide +kernel
theorem dX12_writeLamps_14 : decode cX12_writeLamps 14 = .ok (.getfield 9, 3) := by decide +kernel
theorem dX12_writeLamps_17 : decode cX12_writeLamps 17 = .ok (.iconst 1, 1) := by decide +kernel
theorem dX12_writeLamps_18 : decode cX12_writeLamps 18 = .ok (.iaload, 1) := by decide +kernel
theorem dX12_writeLamps_19 : decode cX12_writeLamps 19 = .ok (.if_icmp .ge 85, 3) := by decide +kernel
theorem dX12_writeLamps_22 : decode cX12_writeLamps 22 = .ok (.iload_n 1, 1) := by decide +kernel
theorem dX12_writeLamps_23 : decode cX12_writeLamps 23 = .ok (.ifCond .le 9, 3) := by decide +kernel
theorem dX12_writeLamps_26 : decode cX12_writeLamps 26 = .ok (.aload_n 0, 1) := by decide +kernel
theorem dX12_writeLamps_27 : decode cX12_writeLamps 27 = .ok (.bipush 32, 2) := by decide +kernel
theorem dX12_writeLamps_29 : decode cX12_writeLamps 29 = .ok (.invokevirtual 178, 3) := by decide +kernel
theorem dX12_writeLamps_32 : decode cX12_writeLamps 32 = .ok (.aload_n 0, 1) := by decide +kernel
theorem dX12_writeLamps_33 : decode cX12_writeLamps 33 = .ok (.aload_n 0, 1) := by decide +kernel
theorem dX12_writeLamps_34 : decode cX12_writeLamps 34 = .ok (.iload_n 1, 1) := by decide +kernel
theorem dX12_writeLamps_35 : decode cX12_writeLamps 35 = .ok (.iconst 0, 1) := by decide +kernel
theorem dX12_writeLamps_36 : decode cX12_writeLamps 36 = .ok (.invokevirtual 58, 3) := by decide +kernel
theorem dX12_writeLamps_39 : decode cX12_writeLamps 39 = .ok (.invokevirtual 175, 3) := by decide +kernel
theorem dX12_writeLamps_42 : decode cX12_writeLamps 42 = .ok (.aload_n 0, 1) := by decide +kernel
theorem dX12_writeLamps_43 : decode cX12_writeLamps 43 = .ok (.iload_n 1, 1) := by decide +kernel
theorem dX12_writeLamps_44 : decode cX12_writeLamps 44 = .ok (.invokevirtual 96, 3) := by decide +kernel
theorem dX12_writeLamps_47 : decode cX12_writeLamps 47 = .ok (.ifCond .eq 37, 3) := by decide +kernel
theorem dX12_writeLamps_50 : decode cX12_writeLamps 50 = .ok (.aload_n 0, 1) := by decide +kernel
theorem dX12_writeLamps_51 : decode cX12_writeLamps 51 = .ok (.bipush 115, 2) := by decide +kernel
theorem dX12_writeLamps_53 : decode cX12_writeLamps 53 = .ok (.invokevirtual 178, 3) := by decide +kernel
theorem dX12_writeLamps_56 : decode cX12_writeLamps 56 = .ok (.aload_n 0, 1) := by decide +kernel
theorem dX12_writeLamps_57 : decode cX12_writeLamps 57 = .ok (.aload_n 0, 1) := by decide +kernel
theorem dX12_writeLamps_58 : decode cX12_writeLamps 58 = .ok (.iload_n 1, 1) := by decide +kernel
theorem dX12_writeLamps_59 : decode cX12_writeLamps 59 = .ok (.iconst 1, 1) := by decide +kernel
theorem dX12_writeLamps_60 : decode cX12_writeLamps 60 = .ok (.invokevirtual 58, 3) := by decide +kernel
theorem dX12_writeLamps_63 : decode cX12_writeLamps 63 = .ok (.iconst 1, 1) := by decide +kernel
theorem dX12_writeLamps_64 : decode cX12_writeLamps 64 = .ok (.isub, 1) := by decide +kernel
theorem dX12_writeLamps_65 : decode cX12_writeLamps 65 = .ok (.invokevirtual 175, 3) := by decide +kernel
theorem dX12_writeLamps_68 : decode cX12_writeLamps 68 = .ok (.aload_n 0, 1) := by decide +kernel
theorem dX12_writeLamps_69 : decode cX12_writeLamps 69 = .ok (.bipush 101, 2) := by decide +kernel
theorem dX12_writeLamps_71 : decode cX12_writeLamps 71 = .ok (.invokevirtual 178, 3) := by decide +kernel
theorem dX12_writeLamps_74 : decode cX12_writeLamps 74 = .ok (.aload_n 0, 1) := by decide +kernel
theorem dX12_writeLamps_75 : decode cX12_writeLamps 75 = .ok (.aload_n 0, 1) := by decide +kernel
theorem dX12_writeLamps_76 : decode cX12_writeLamps 76 = .ok (.iload_n 1, 1) := by decide +kernel
theorem dX12_writeLamps_77 : decode cX12_writeLamps 77 = .ok (.iconst 2, 1) := by decide +kernel
theorem dX12_writeLamps_78 : decode cX12_writeLamps 78 = .ok (.invokevirtual 58, 3) := by decide +kernel
theorem dX12_writeLamps_81 : decode cX12_writeLamps 81 = .ok (.invokevirtual 175, 3) := by decide +kernel
theorem dX12_writeLamps_84 : decode cX12_writeLamps 84 = .ok (.aload_n 0, 1) := by decide +kernel
theorem dX12_writeLamps_85 : decode cX12_writeLamps 85 = .ok (.iload_n 1, 1) := by decide +kernel
theorem dX12_writeLamps_86 : decode cX12_writeLamps 86 = .ok (.invokevirtual 62, 3) := by decide +kernel
theorem dX12_writeLamps_89 : decode cX12_writeLamps 89 = .ok (.ifCond .lt 9, 3) := by decide +kernel
theorem dX12_writeLamps_92 : decode cX12_writeLamps 92 = .ok (.aload_n 0, 1) := by decide +kernel
theorem dX12_writeLamps_93 : decode cX12_writeLamps 93 = .ok (.bipush 114, 2) := by decide +kernel
theorem dX12_writeLamps_95 : decode cX12_writeLamps 95 = .ok (.invokevirtual 178, 3) := by decide +kernel
theorem dX12_writeLamps_98 : decode cX12_writeLamps 98 = .ok (.iinc 1 1, 3) := by decide +kernel
theorem dX12_writeLamps_101 : decode cX12_writeLamps 101 = .ok (.goto (-89), 3) := by decide +kernel
theorem dX12_writeLamps_104 : decode cX12_writeLamps 104 = .ok (.aload_n 0, 1) := by decide +kernel
theorem dX12_writeLamps_105 : decode cX12_writeLamps 105 = .ok (.getfield 172, 3) := by decide +kernel
theorem dX12_writeLamps_108 : decode cX12_writeLamps 108 = .ok (.ireturn, 1) := by decide +kernel
theorem dX12_outputChar_0 : decode cX12_outputChar 0 = .ok (.aload_n 0, 1) := by decide +kernel
theorem dX12_outputChar_1 : decode cX12_outputChar 1 = .ok (.iload_n 1, 1) := by decide +kernel
theorem dX12_outputChar_2 : decode cX12_outputChar 2 = .ok (.iconst 0, 1) := by decide +kernel
theorem dX12_outputChar_3 : decode cX12_outputChar 3 = .ok (.aload_n 0, 1) := by decide +kernel
theorem dX12_outputChar_4 : decode cX12_outputChar 4 = .ok (.getfield 172, 3) := by decide +kernel
theorem dX12_outputChar_7 : decode cX12_outputChar 7 = .ok (.iconst 1, 1) := by decide +kernel
theorem dX12_outputChar_8 : decode cX12_outputChar 8 = .ok (.isub, 1) := by decide +kernel
theorem dX12_outputChar_9 : decode cX12_outputChar 9 = .ok (.invokestatic 54, 3) := by decide +kernel
theorem dX12_outputChar_12 : decode cX12_outputChar 12 = .ok (.invokevirtual 144, 3) := by decide +kernel
theorem dX12_outputChar_15 : decode cX12_outputChar 15 = .ok (.ifCond .eq 12, 3) := by decide +kernel
theorem dX12_outputChar_18 : decode cX12_outputChar 18 = .ok (.aload_n 0, 1) := by decide +kernel
theorem dX12_outputChar_19 : decode cX12_outputChar 19 = .ok (.getfield 25, 3) := by decide +kernel
theorem dX12_outputChar_22 : decode cX12_outputChar 22 = .ok (.iload_n 1, 1) := by decide +kernel
theorem dX12_outputChar_23 : decode cX12_outputChar 23 = .ok (.caload, 1) := by decide +kernel
theorem dX12_outputChar_24 : decode cX12_outputChar 24 = .ok (.goto 5, 3) := by decide +kernel
theorem dX12_outputChar_27 : decode cX12_outputChar 27 = .ok (.bipush 32, 2) := by decide +kernel
theorem dX12_outputChar_29 : decode cX12_outputChar 29 = .ok (.ireturn, 1) := by decide +kernel
theorem dX12_feed_0 : decode cX12_feed 0 = .ok (.aload_n 0, 1) := by decide +kernel
theorem dX12_feed_1 : decode cX12_feed 1 = .ok (.aload_n 0, 1) := by decide +kernel
theorem dX12_feed_2 : decode cX12_feed 2 = .ok (.getfield 182, 3) := by decide +kernel
theorem dX12_feed_5 : decode cX12_feed 5 = .ok (.bipush 60, 2) := by decide +kernel
theorem dX12_feed_7 : decode cX12_feed 7 = .ok (.if_icmp .ne 7, 3) := by decide +kernel
theorem dX12_feed_10 : decode cX12_feed 10 = .ok (.iconst 1, 1) := by decide +kernel
theorem dX12_feed_11 : decode cX12_feed 11 = .ok (.goto 4, 3) := by decide +kernel
theorem dX12_feed_14 : decode cX12_feed 14 = .ok (.iconst 0, 1) := by decide +kernel
theorem dX12_feed_15 : decode cX12_feed 15 = .ok (.putfield 42, 3) := by decide +kernel
theorem dX12_feed_18 : decode cX12_feed 18 = .ok (.aload_n 0, 1) := by decide +kernel
theorem dX12_feed_19 : decode cX12_feed 19 = .ok (.getfield 42, 3) := by decide +kernel
theorem dX12_feed_22 : decode cX12_feed 22 = .ok (.ifCond .le 5, 3) := by decide +kernel
theorem dX12_feed_25 : decode cX12_feed 25 = .ok (.iconst 0, 1) := by decide +kernel
theorem dX12_feed_26 : decode cX12_feed 26 = .ok (.ireturn, 1) := by decide +kernel
theorem dX12_feed_27 : decode cX12_feed 27 = .ok (.aload_n 0, 1) := by decide +kernel
theorem dX12_feed_28 : decode cX12_feed 28 = .ok (.getfield 29, 3) := by decide +kernel
theorem dX12_feed_31 : decode cX12_feed 31 = .ok (.aload_n 0, 1) := by decide +kernel
theorem dX12_feed_32 : decode cX12_feed 32 = .ok (.getfield 182, 3) := by decide +kernel
theorem dX12_feed_35 : decode cX12_feed 35 = .ok (.iload_n 1, 1) := by decide +kernel
theorem dX12_feed_36 : decode cX12_feed 36 = .ok (.castore, 1) := by decide +kernel
theorem dX12_feed_37 : decode cX12_feed 37 = .ok (.aload_n 0, 1) := by decide +kernel
theorem dX12_feed_38 : decode cX12_feed 38 = .ok (.dup, 1) := by decide +kernel
theorem dX12_feed_39 : decode cX12_feed 39 = .ok (.getfield 182, 3) := by decide +kernel
theorem dX12_feed_42 : decode cX12_feed 42 = .ok (.iconst 1, 1) := by decide +kernel
theorem dX12_feed_43 : decode cX12_feed 43 = .ok (.iadd, 1) := by decide +kernel
theorem dX12_feed_44 : decode cX12_feed 44 = .ok (.putfield 182, 3) := by decide +kernel
theorem dX12_feed_47 : decode cX12_feed 47 = .ok (.aload_n 0, 1) := by decide +kernel
theorem dX12_feed_48 : decode cX12_feed 48 = .ok (.getfield 182, 3) := by decide +kernel
theorem dX12_feed_51 : decode cX12_feed 51 = .ok (.ireturn, 1) := by decide +kernel
theorem dX12_behind_0 : decode cX12_behind 0 = .ok (.aload_n 0, 1) := by decide +kernel
theorem dX12_behind_1 : decode cX12_behind 1 = .ok (.getfield 185, 3) := by decide +kernel
theorem dX12_behind_4 : decode cX12_behind 4 = .ok (.iload_n 1, 1) := by decide +kernel
theorem dX12_behind_5 : decode cX12_behind 5 = .ok (.iadd, 1) := by decide +kernel
theorem dX12_behind_6 : decode cX12_behind 6 = .ok (.aload_n 0, 1) := by decide +kernel
theorem dX12_behind_7 : decode cX12_behind 7 = .ok (.getfield 182, 3) := by decide +kernel
theorem dX12_behind_10 : decode cX12_behind 10 = .ok (.if_icmp .ge 17, 3) := by decide +kernel
theorem dX12_behind_13 : decode cX12_behind 13 = .ok (.aload_n 0, 1) := by decide +kernel
theorem dX12_behind_14 : decode cX12_behind 14 = .ok (.getfield 29, 3) := by decide +kernel
theorem dX12_behind_17 : decode cX12_behind 17 = .ok (.aload_n 0, 1) := by decide +kernel
theorem dX12_behind_18 : decode cX12_behind 18 = .ok (.getfield 185, 3) := by decide +kernel
theorem dX12_behind_21 : decode cX12_behind 21 = .ok (.iload_n 1, 1) := by decide +kernel
theorem dX12_behind_22 : decode cX12_behind 22 = .ok (.iadd, 1) := by decide +kernel
theorem dX12_behind_23 : decode cX12_behind 23 = .ok (.caload, 1) := by decide +kernel
theorem dX12_behind_24 : decode cX12_behind 24 = .ok (.goto 4, 3) := by decide +kernel
theorem dX12_behind_27 : decode cX12_behind 27 = .ok (.iconst (-1), 1) := by decide +kernel
theorem dX12_behind_28 : decode cX12_behind 28 = .ok (.ireturn, 1) := by decide +kernel
theorem dX12_skip_0 : decode cX12_skip 0 = .ok (.iconst 0, 1) := by decide +kernel
theorem dX12_skip_1 : decode cX12_skip 1 = .ok (.istore_n 2, 1) := by decide +kernel
theorem dX12_skip_2 : decode cX12_skip 2 = .ok (.iload_n 2, 1) := by decide +kernel
theorem dX12_skip_3 : decode cX12_skip 3 = .ok (.aload_n 1, 1) := by decide +kernel
theorem dX12_skip_4 : decode cX12_skip 4 = .ok (.invokevirtual 188, 3) := by decide +kernel
theorem dX12_skip_7 : decode cX12_skip 7 = .ok (.if_icmp .ge 59, 3) := by decide +kernel
theorem dX12_skip_10 : decode cX12_skip 10 = .ok (.aload_n 0, 1) := by decide +kernel
theorem dX12_skip_11 : decode cX12_skip 11 = .ok (.getfield 192, 3) := by decide +kernel
theorem dX12_skip_14 : decode cX12_skip 14 = .ok (.ifCond .ne 52, 3) := by decide +kernel
theorem dX12_skip_17 : decode cX12_skip 17 = .ok (.aload_n 0, 1) := by decide +kernel
theorem dX12_skip_18 : decode cX12_skip 18 = .ok (.aload_n 0, 1) := by decide +kernel
theorem dX12_skip_19 : decode cX12_skip 19 = .ok (.iconst 0, 1) := by decide +kernel
theorem dX12_skip_20 : decode cX12_skip 20 = .ok (.invokevirtual 196, 3) := by decide +kernel
theorem dX12_skip_23 : decode cX12_skip 23 = .ok (.aload_n 1, 1) := by decide +kernel
theorem dX12_skip_24 : decode cX12_skip 24 = .ok (.iload_n 2, 1) := by decide +kernel
theorem dX12_skip_25 : decode cX12_skip 25 = .ok (.invokevirtual 199, 3) := by decide +kernel
theorem dX12_skip_28 : decode cX12_skip 28 = .ok (.if_icmp .eq 7, 3) := by decide +kernel
theorem dX12_skip_31 : decode cX12_skip 31 = .ok (.iconst 1, 1) := by decide +kernel
theorem dX12_skip_32 : decode cX12_skip 32 = .ok (.goto 4, 3) := by decide +kernel
theorem dX12_skip_35 : decode cX12_skip 35 = .ok (.iconst 0, 1) := by decide +kernel
theorem dX12_skip_36 : decode cX12_skip 36 = .ok (.putfield 192, 3) := by decide +kernel
theorem dX12_skip_39 : decode cX12_skip 39 = .ok (.aload_n 0, 1) := by decide +kernel
theorem dX12_skip_40 : decode cX12_skip 40 = .ok (.dup, 1) := by decide +kernel
theorem dX12_skip_41 : decode cX12_skip 41 = .ok (.getfield 185, 3) := by decide +kernel
theorem dX12_skip_44 : decode cX12_skip 44 = .ok (.aload_n 0, 1) := by decide +kernel
theorem dX12_skip_45 : decode cX12_skip 45 = .ok (.getfield 192, 3) := by decide +kernel
theorem dX12_skip_48 : decode cX12_skip 48 = .ok (.ifCond .eq 7, 3) := by decide +kernel
theorem dX12_skip_51 : decode cX12_skip 51 = .ok (.iconst 0, 1) := by decide +kernel
theorem dX12_skip_52 : decode cX12_skip 52 = .ok (.goto 4, 3) := by decide +kernel
theorem dX12_skip_55 : decode cX12_skip 55 = .ok (.iconst 1, 1) := by decide +kernel
theorem dX12_skip_56 : decode cX12_skip 56 = .ok (.iadd, 1) := by decide +kernel
theorem dX12_skip_57 : decode cX12_skip 57 = .ok (.putfield 185, 3) := by decide +kernel
theorem dX12_skip_60 : decode cX12_skip 60 = .ok (.iinc 2 1, 3) := by decide +kernel
theorem dX12_skip_63 : decode cX12_skip 63 = .ok (.goto (-61), 3) := by decide +kernel
theorem dX12_skip_66 : decode cX12_skip 66 = .ok (.return_, 1) := by decide +kernel
theorem dX12_isDigit_0 : decode cX12_isDigit 0 = .ok (.aload_n 0, 1) := by decide +kernel
theorem dX12_isDigit_1 : decode cX12_isDigit 1 = .ok (.getfield 192, 3) := by decide +kernel
theorem dX12_isDigit_4 : decode cX12_isDigit 4 = .ok (.ifCond .ne 22, 3) := by decide +kernel
theorem dX12_isDigit_7 : decode cX12_isDigit 7 = .ok (.aload_n 0, 1) := by decide +kernel
theorem dX12_isDigit_8 : decode cX12_isDigit 8 = .ok (.iconst 0, 1) := by decide +kernel
theorem dX12_isDigit_9 : decode cX12_isDigit 9 = .ok (.invokevirtual 196, 3) := by decide +kernel
theorem dX12_isDigit_12 : decode cX12_isDigit 12 = .ok (.bipush 48, 2) := by decide +kernel
theorem dX12_isDigit_14 : decode cX12_isDigit 14 = .ok (.bipush 57, 2) := by decide +kernel
theorem dX12_isDigit_16 : decode cX12_isDigit 16 = .ok (.invokestatic 54, 3) := by decide +kernel
theorem dX12_isDigit_19 : decode cX12_isDigit 19 = .ok (.ifCond .eq 7, 3) := by decide +kernel
theorem dX12_isDigit_22 : decode cX12_isDigit 22 = .ok (.iconst 1, 1) := by decide +kernel
theorem dX12_isDigit_23 : decode cX12_isDigit 23 = .ok (.goto 4, 3) := by decide +kernel
theorem dX12_isDigit_26 : decode cX12_isDigit 26 = .ok (.iconst 0, 1) := by decide +kernel
theorem dX12_isDigit_27 : decode cX12_isDigit 27 = .ok (.ireturn, 1) := by decide +kernel
theorem dX12_readNumber_0 : decode cX12_readNumber 0 = .ok (.aload_n 0, 1) := by decide +kernel
theorem dX12_readNumber_1 : decode cX12_readNumber 1 = .ok (.ldc 203, 2) := by decide +kernel
theorem dX12_readNumber_3 : decode cX12_readNumber 3 = .ok (.invokevirtual 205, 3) := by decide +kernel
theorem dX12_readNumber_6 : decode cX12_readNumber 6 = .ok (.aload_n 0, 1) := by decide +kernel
theorem dX12_readNumber_7 : decode cX12_readNumber 7 = .ok (.aload_n 0, 1) := by decide +kernel
theorem dX12_readNumber_8 : decode cX12_readNumber 8 = .ok (.getfield 192, 3) := by decide +kernel
theorem dX12_readNumber_11 : decode cX12_readNumber 11 = .ok (.ifCond .ne 10, 3) := by decide +kernel
theorem dX12_readNumber_14 : decode cX12_readNumber 14 = .ok (.aload_n 0, 1) := by decide +kernel
theorem dX12_readNumber_15 : decode cX12_readNumber 15 = .ok (.invokevirtual 209, 3) := by decide +kernel
theorem dX12_readNumber_18 : decode cX12_readNumber 18 = .ok (.ifCond .ne 7, 3) := by decide +kernel
theorem dX12_readNumber_21 : decode cX12_readNumber 21 = .ok (.iconst 1, 1) := by decide +kernel
theorem dX12_readNumber_22 : decode cX12_readNumber 22 = .ok (.goto 4, 3) := by decide +kernel
theorem dX12_readNumber_25 : decode cX12_readNumber 25 = .ok (.iconst 0, 1) := by decide +kernel
theorem dX12_readNumber_26 : decode cX12_readNumber 26 = .ok (.putfield 192, 3) := by decide +kernel
theorem dX12_readNumber_29 : decode cX12_readNumber 29 = .ok (.iconst 0, 1) := by decide +kernel
theorem dX12_readNumber_30 : decode cX12_readNumber 30 = .ok (.istore_n 2, 1) := by decide +kernel
theorem dX12_readNumber_31 : decode cX12_readNumber 31 = .ok (.iconst 0, 1) := by decide +kernel
theorem dX12_readNumber_32 : decode cX12_readNumber 32 = .ok (.istore_n 3, 1) := by decide +kernel
theorem dX12_readNumber_33 : decode cX12_readNumber 33 = .ok (.iload_n 3, 1) := by decide +kernel
theorem dX12_readNumber_34 : decode cX12_readNumber 34 = .ok (.iload_n 1, 1) := by decide +kernel
theorem dX12_readNumber_35 : decode cX12_readNumber 35 = .ok (.if_icmp .ge 44, 3) := by decide +kernel
theorem dX12_readNumber_38 : decode cX12_readNumber 38 = .ok (.aload_n 0, 1) := by decide +kernel
theorem dX12_readNumber_39 : decode cX12_readNumber 39 = .ok (.invokevirtual 209, 3) := by decide +kernel
theorem dX12_readNumber_42 : decode cX12_readNumber 42 = .ok (.ifCond .eq 37, 3) := by decide +kernel
theorem dX12_readNumber_45 : decode cX12_readNumber 45 = .ok (.bipush 10, 2) := by decide +kernel
theorem dX12_readNumber_47 : decode cX12_readNumber 47 = .ok (.iload_n 2, 1) := by decide +kernel
theorem dX12_readNumber_48 : decode cX12_readNumber 48 = .ok (.imul, 1) := by decide +kernel
theorem dX12_readNumber_49 : decode cX12_readNumber 49 = .ok (.aload_n 0, 1) := by decide +kernel
theorem dX12_readNumber_50 : decode cX12_readNumber 50 = .ok (.getfield 29, 3) := by decide +kernel
theorem dX12_readNumber_53 : decode cX12_readNumber 53 = .ok (.aload_n 0, 1) := by decide +kernel
theorem dX12_readNumber_54 : decode cX12_readNumber 54 = .ok (.getfield 185, 3) := by decide +kernel
theorem dX12_readNumber_57 : decode cX12_readNumber 57 = .ok (.caload, 1) := by decide +kernel
theorem dX12_readNumber_58 : decode cX12_readNumber 58 = .ok (.iadd, 1) := by decide +kernel
theorem dX12_readNumber_59 : decode cX12_readNumber 59 = .ok (.bipush 48, 2) := by decide +kernel
theorem dX12_readNumber_61 : decode cX12_readNumber 61 = .ok (.isub, 1) := by decide +kernel
theorem dX12_readNumber_62 : decode cX12_readNumber 62 = .ok (.istore_n 2, 1) := by decide +kernel
theorem dX12_readNumber_63 : decode cX12_readNumber 63 = .ok (.aload_n 0, 1) := by decide +kernel
theorem dX12_readNumber_64 : decode cX12_readNumber 64 = .ok (.dup, 1) := by decide +kernel
theorem dX12_readNumber_65 : decode cX12_readNumber 65 = .ok (.getfield 185, 3) := by decide +kernel
theorem dX12_readNumber_68 : decode cX12_readNumber 68 = .ok (.iconst 1, 1) := by decide +kernel
theorem dX12_readNumber_69 : decode cX12_readNumber 69 = .ok (.iadd, 1) := by decide +kernel
theorem dX12_readNumber_70 : decode cX12_readNumber 70 = .ok (.putfield 185, 3) := by decide +kernel
theorem dX12_readNumber_73 : decode cX12_readNumber 73 = .ok (.iinc 3 1, 3) := by decide +kernel
theorem dX12_readNumber_76 : decode cX12_readNumber 76 = .ok (.goto (-43), 3) := by decide +kernel
theorem dX12_readNumber_79 : decode cX12_readNumber 79 = .ok (.iload_n 2, 1) := by decide +kernel
theorem dX12_readNumber_80 : decode cX12_readNumber 80 = .ok (.ireturn, 1) := by decide +kernel
theorem dX12_readCommand_0 : decode cX12_readCommand 0 = .ok (.aload_n 0, 1) := by decide +kernel
theorem dX12_readCommand_1 : decode cX12_readCommand 1 = .ok (.getfield 192, 3) := by decide +kernel
theorem dX12_readCommand_4 : decode cX12_readCommand 4 = .ok (.ifCond .eq 4, 3) := by decide +kernel
theorem dX12_readCommand_7 : decode cX12_readCommand 7 = .ok (.return_, 1) := by decide +kernel
theorem dX12_readCommand_8 : decode cX12_readCommand 8 = .ok (.aload_n 0, 1) := by decide +kernel
theorem dX12_readCommand_9 : decode cX12_readCommand 9 = .ok (.iconst 0, 1) := by decide +kernel
theorem dX12_readCommand_10 : decode cX12_readCommand 10 = .ok (.invokevirtual 196, 3) := by decide +kernel
theorem dX12_readCommand_13 : decode cX12_readCommand 13 = .ok (.istore_n 1, 1) := by decide +kernel
theorem dX12_readCommand_14 : decode cX12_readCommand 14 = .ok (.iload_n 1, 1) := by decide +kernel
theorem dX12_readCommand_15 : decode cX12_readCommand 15 = .ok (.bipush 108, 2) := by decide +kernel
theorem dX12_readCommand_17 : decode cX12_readCommand 17 = .ok (.if_icmp .ne 18, 3) := by decide +kernel
theorem dX12_readCommand_20 : decode cX12_readCommand 20 = .ok (.aload_n 0, 1) := by decide +kernel
theorem dX12_readCommand_21 : decode cX12_readCommand 21 = .ok (.iconst 1, 1) := by decide +kernel
theorem dX12_readCommand_22 : decode cX12_readCommand 22 = .ok (.invokevirtual 196, 3) := by decide +kernel
theorem dX12_readCommand_25 : decode cX12_readCommand 25 = .ok (.bipush 97, 2) := by decide +kernel
theorem dX12_readCommand_27 : decode cX12_readCommand 27 = .ok (.if_icmp .ne 8, 3) := by decide +kernel
theorem dX12_readCommand_30 : decode cX12_readCommand 30 = .ok (.bipush 97, 2) := by decide +kernel
theorem dX12_readCommand_32 : decode cX12_readCommand 32 = .ok (.goto 4, 3) := by decide +kernel
theorem dX12_readCommand_35 : decode cX12_readCommand 35 = .ok (.iload_n 1, 1) := by decide +kernel
theorem dX12_readCommand_36 : decode cX12_readCommand 36 = .ok (.istore_n 2, 1) := by decide +kernel
theorem dX12_readCommand_37 : decode cX12_readCommand 37 = .ok (.iconst 4, 1) := by decide +kernel
theorem dX12_readCommand_38 : decode cX12_readCommand 38 = .ok (.aload_n 0, 1) := by decide +kernel
theorem dX12_readCommand_39 : decode cX12_readCommand 39 = .ok (.getfield 213, 3) := by decide +kernel
theorem dX12_readCommand_42 : decode cX12_readCommand 42 = .ok (.imul, 1) := by decide +kernel
theorem dX12_readCommand_43 : decode cX12_readCommand 43 = .ok (.istore_n 3, 1) := by decide +kernel
theorem dX12_readCommand_44 : decode cX12_readCommand 44 = .ok (.aload_n 0, 1) := by decide +kernel
theorem dX12_readCommand_45 : decode cX12_readCommand 45 = .ok (.dup, 1) := by decide +kernel
theorem dX12_readCommand_46 : decode cX12_readCommand 46 = .ok (.getfield 213, 3) := by decide +kernel
theorem dX12_readCommand_49 : decode cX12_readCommand 49 = .ok (.iconst 1, 1) := by decide +kernel
theorem dX12_readCommand_50 : decode cX12_readCommand 50 = .ok (.iadd, 1) := by decide +kernel
theorem dX12_readCommand_51 : decode cX12_readCommand 51 = .ok (.putfield 213, 3) := by decide +kernel
theorem dX12_readCommand_54 : decode cX12_readCommand 54 = .ok (.aload_n 0, 1) := by decide +kernel
theorem dX12_readCommand_55 : decode cX12_readCommand 55 = .ok (.getfield 39, 3) := by decide +kernel
theorem dX12_readCommand_58 : decode cX12_readCommand 58 = .ok (.iload_n 3, 1) := by decide +kernel
theorem dX12_readCommand_59 : decode cX12_readCommand 59 = .ok (.iload_n 2, 1) := by decide +kernel
theorem dX12_readCommand_60 : decode cX12_readCommand 60 = .ok (.iastore, 1) := by decide +kernel
theorem dX12_readCommand_61 : decode cX12_readCommand 61 = .ok (.iload_n 2, 1) := by decide +kernel
theorem dX12_readCommand_62 : decode cX12_readCommand 62 = .ok (.lookupswitch 261 #[(97, 58), (100, 196), (108, 113), (111, 91), (114, 161), (119, 218)], 58) := by decide +kernel
theorem dX12_readCommand_120 : decode cX12_readCommand 120 = .ok (.aload_n 0, 1) := by decide +kernel
theorem dX12_readCommand_121 : decode cX12_readCommand 121 = .ok (.iload_n 1, 1) := by decide +kernel
theorem dX12_readCommand_122 : decode cX12_readCommand 122 = .ok (.bipush 108, 2) := by decide +kernel
theorem dX12_readCommand_124 : decode cX12_readCommand 124 = .ok (.if_icmp .ne 8, 3) := by decide +kernel
theorem dX12_readCommand_127 : decode cX12_readCommand 127 = .ok (.ldc 216, 2) := by decide +kernel
theorem dX12_readCommand_129 : decode cX12_readCommand 129 = .ok (.goto 5, 3) := by decide +kernel
theorem dX12_readCommand_132 : decode cX12_readCommand 132 = .ok (.ldc 218, 2) := by decide +kernel
theorem dX12_readCommand_134 : decode cX12_readCommand 134 = .ok (.invokevirtual 205, 3) := by decide +kernel
theorem dX12_readCommand_137 : decode cX12_readCommand 137 = .ok (.aload_n 0, 1) := by decide +kernel
theorem dX12_readCommand_138 : decode cX12_readCommand 138 = .ok (.getfield 39, 3) := by decide +kernel
theorem dX12_readCommand_141 : decode cX12_readCommand 141 = .ok (.iload_n 3, 1) := by decide +kernel
theorem dX12_readCommand_142 : decode cX12_readCommand 142 = .ok (.iconst 1, 1) := by decide +kernel
theorem dX12_readCommand_143 : decode cX12_readCommand 143 = .ok (.iadd, 1) := by decide +kernel
theorem dX12_readCommand_144 : decode cX12_readCommand 144 = .ok (.aload_n 0, 1) := by decide +kernel
theorem dX12_readCommand_145 : decode cX12_readCommand 145 = .ok (.iconst 1, 1) := by decide +kernel
theorem dX12_readCommand_146 : decode cX12_readCommand 146 = .ok (.invokevirtual 220, 3) := by decide +kernel
theorem dX12_readCommand_149 : decode cX12_readCommand 149 = .ok (.iastore, 1) := by decide +kernel
theorem dX12_readCommand_150 : decode cX12_readCommand 150 = .ok (.goto 179, 3) := by decide +kernel
theorem dX12_readCommand_153 : decode cX12_readCommand 153 = .ok (.aload_n 0, 1) := by decide +kernel
theorem dX12_readCommand_154 : decode cX12_readCommand 154 = .ok (.ldc 223, 2) := by decide +kernel
theorem dX12_readCommand_156 : decode cX12_readCommand 156 = .ok (.invokevirtual 205, 3) := by decide +kernel
theorem dX12_readCommand_159 : decode cX12_readCommand 159 = .ok (.aload_n 0, 1) := by decide +kernel
theorem dX12_readCommand_160 : decode cX12_readCommand 160 = .ok (.getfield 39, 3) := by decide +kernel
theorem dX12_readCommand_163 : decode cX12_readCommand 163 = .ok (.iload_n 3, 1) := by decide +kernel
theorem dX12_readCommand_164 : decode cX12_readCommand 164 = .ok (.iconst 1, 1) := by decide +kernel
theorem dX12_readCommand_165 : decode cX12_readCommand 165 = .ok (.iadd, 1) := by decide +kernel
theorem dX12_readCommand_166 : decode cX12_readCommand 166 = .ok (.aload_n 0, 1) := by decide +kernel
theorem dX12_readCommand_167 : decode cX12_readCommand 167 = .ok (.iconst 3, 1) := by decide +kernel
theorem dX12_readCommand_168 : decode cX12_readCommand 168 = .ok (.invokevirtual 220, 3) := by decide +kernel
theorem dX12_readCommand_171 : decode cX12_readCommand 171 = .ok (.iastore, 1) := by decide +kernel
theorem dX12_readCommand_172 : decode cX12_readCommand 172 = .ok (.goto 157, 3) := by decide +kernel
theorem dX12_readCommand_175 : decode cX12_readCommand 175 = .ok (.aload_n 0, 1) := by decide +kernel
theorem dX12_readCommand_176 : decode cX12_readCommand 176 = .ok (.ldc 225, 2) := by decide +kernel
theorem dX12_readCommand_178 : decode cX12_readCommand 178 = .ok (.invokevirtual 205, 3) := by decide +kernel
theorem dX12_readCommand_181 : decode cX12_readCommand 181 = .ok (.aload_n 0, 1) := by decide +kernel
theorem dX12_readCommand_182 : decode cX12_readCommand 182 = .ok (.getfield 39, 3) := by decide +kernel
theorem dX12_readCommand_185 : decode cX12_readCommand 185 = .ok (.iload_n 3, 1) := by decide +kernel
theorem dX12_readCommand_186 : decode cX12_readCommand 186 = .ok (.iconst 1, 1) := by decide +kernel
theorem dX12_readCommand_187 : decode cX12_readCommand 187 = .ok (.iadd, 1) := by decide +kernel
theorem dX12_readCommand_188 : decode cX12_readCommand 188 = .ok (.aload_n 0, 1) := by decide +kernel
theorem dX12_readCommand_189 : decode cX12_readCommand 189 = .ok (.iconst 1, 1) := by decide +kernel
theorem dX12_readCommand_190 : decode cX12_readCommand 190 = .ok (.invokevirtual 220, 3) := by decide +kernel
theorem dX12_readCommand_193 : decode cX12_readCommand 193 = .ok (.iastore, 1) := by decide +kernel
theorem dX12_readCommand_194 : decode cX12_readCommand 194 = .ok (.aload_n 0, 1) := by decide +kernel
theorem dX12_readCommand_195 : decode cX12_readCommand 195 = .ok (.getfield 39, 3) := by decide +kernel
theorem dX12_readCommand_198 : decode cX12_readCommand 198 = .ok (.iload_n 3, 1) := by decide +kernel
theorem dX12_readCommand_199 : decode cX12_readCommand 199 = .ok (.iconst 2, 1) := by decide +kernel
theorem dX12_readCommand_200 : decode cX12_readCommand 200 = .ok (.iadd, 1) := by decide +kernel
theorem dX12_readCommand_201 : decode cX12_readCommand 201 = .ok (.aload_n 0, 1) := by decide +kernel
theorem dX12_readCommand_202 : decode cX12_readCommand 202 = .ok (.iconst 1, 1) := by decide +kernel
theorem dX12_readCommand_203 : decode cX12_readCommand 203 = .ok (.invokevirtual 220, 3) := by decide +kernel
theorem dX12_readCommand_206 : decode cX12_readCommand 206 = .ok (.iastore, 1) := by decide +kernel
theorem dX12_readCommand_207 : decode cX12_readCommand 207 = .ok (.aload_n 0, 1) := by decide +kernel
theorem dX12_readCommand_208 : decode cX12_readCommand 208 = .ok (.getfield 39, 3) := by decide +kernel
theorem dX12_readCommand_211 : decode cX12_readCommand 211 = .ok (.iload_n 3, 1) := by decide +kernel
theorem dX12_readCommand_212 : decode cX12_readCommand 212 = .ok (.iconst 3, 1) := by decide +kernel
theorem dX12_readCommand_213 : decode cX12_readCommand 213 = .ok (.iadd, 1) := by decide +kernel
theorem dX12_readCommand_214 : decode cX12_readCommand 214 = .ok (.aload_n 0, 1) := by decide +kernel
theorem dX12_readCommand_215 : decode cX12_readCommand 215 = .ok (.iconst 2, 1) := by decide +kernel
theorem dX12_readCommand_216 : decode cX12_readCommand 216 = .ok (.invokevirtual 220, 3) := by decide +kernel
theorem dX12_readCommand_219 : decode cX12_readCommand 219 = .ok (.iastore, 1) := by decide +kernel
theorem dX12_readCommand_220 : decode cX12_readCommand 220 = .ok (.goto 109, 3) := by decide +kernel
theorem dX12_readCommand_223 : decode cX12_readCommand 223 = .ok (.aload_n 0, 1) := by decide +kernel
theorem dX12_readCommand_224 : decode cX12_readCommand 224 = .ok (.ldc 227, 2) := by decide +kernel
theorem dX12_readCommand_226 : decode cX12_readCommand 226 = .ok (.invokevirtual 205, 3) := by decide +kernel
theorem dX12_readCommand_229 : decode cX12_readCommand 229 = .ok (.aload_n 0, 1) := by decide +kernel
theorem dX12_readCommand_230 : decode cX12_readCommand 230 = .ok (.getfield 39, 3) := by decide +kernel
theorem dX12_readCommand_233 : decode cX12_readCommand 233 = .ok (.iload_n 3, 1) := by decide +kernel
theorem dX12_readCommand_234 : decode cX12_readCommand 234 = .ok (.iconst 1, 1) := by decide +kernel
theorem dX12_readCommand_235 : decode cX12_readCommand 235 = .ok (.iadd, 1) := by decide +kernel
theorem dX12_readCommand_236 : decode cX12_readCommand 236 = .ok (.aload_n 0, 1) := by decide +kernel
theorem dX12_readCommand_237 : decode cX12_readCommand 237 = .ok (.iconst 1, 1) := by decide +kernel
theorem dX12_readCommand_238 : decode cX12_readCommand 238 = .ok (.invokevirtual 220, 3) := by decide +kernel
theorem dX12_readCommand_241 : decode cX12_readCommand 241 = .ok (.iastore, 1) := by decide +kernel
theorem dX12_readCommand_242 : decode cX12_readCommand 242 = .ok (.aload_n 0, 1) := by decide +kernel
theorem dX12_readCommand_243 : decode cX12_readCommand 243 = .ok (.getfield 39, 3) := by decide +kernel
theorem dX12_readCommand_246 : decode cX12_readCommand 246 = .ok (.iload_n 3, 1) := by decide +kernel
theorem dX12_readCommand_247 : decode cX12_readCommand 247 = .ok (.iconst 2, 1) := by decide +kernel
theorem dX12_readCommand_248 : decode cX12_readCommand 248 = .ok (.iadd, 1) := by decide +kernel
theorem dX12_readCommand_249 : decode cX12_readCommand 249 = .ok (.aload_n 0, 1) := by decide +kernel
theorem dX12_readCommand_250 : decode cX12_readCommand 250 = .ok (.iconst 2, 1) := by decide +kernel
theorem dX12_readCommand_251 : decode cX12_readCommand 251 = .ok (.invokevirtual 220, 3) := by decide +kernel
theorem dX12_readCommand_254 : decode cX12_readCommand 254 = .ok (.iastore, 1) := by decide +kernel
theorem dX12_readCommand_255 : decode cX12_readCommand 255 = .ok (.goto 74, 3) := by decide +kernel
theorem dX12_readCommand_258 : decode cX12_readCommand 258 = .ok (.aload_n 0, 1) := by decide +kernel
theorem dX12_readCommand_259 : decode cX12_readCommand 259 = .ok (.ldc 229, 2) := by decide +kernel
theorem dX12_readCommand_261 : decode cX12_readCommand 261 = .ok (.invokevirtual 205, 3) := by decide +kernel
theorem dX12_readCommand_264 : decode cX12_readCommand 264 = .ok (.aload_n 0, 1) := by decide +kernel
theorem dX12_readCommand_265 : decode cX12_readCommand 265 = .ok (.getfield 39, 3) := by decide +kernel
theorem dX12_readCommand_268 : decode cX12_readCommand 268 = .ok (.iload_n 3, 1) := by decide +kernel
theorem dX12_readCommand_269 : decode cX12_readCommand 269 = .ok (.iconst 1, 1) := by decide +kernel
theorem dX12_readCommand_270 : decode cX12_readCommand 270 = .ok (.iadd, 1) := by decide +kernel
theorem dX12_readCommand_271 : decode cX12_readCommand 271 = .ok (.aload_n 0, 1) := by decide +kernel
theorem dX12_readCommand_272 : decode cX12_readCommand 272 = .ok (.iconst 1, 1) := by decide +kernel
theorem dX12_readCommand_273 : decode cX12_readCommand 273 = .ok (.invokevirtual 220, 3) := by decide +kernel
theorem dX12_readCommand_276 : decode cX12_readCommand 276 = .ok (.iastore, 1) := by decide +kernel
theorem dX12_readCommand_277 : decode cX12_readCommand 277 = .ok (.goto 52, 3) := by decide +kernel
theorem dX12_readCommand_280 : decode cX12_readCommand 280 = .ok (.aload_n 0, 1) := by decide +kernel
theorem dX12_readCommand_281 : decode cX12_readCommand 281 = .ok (.ldc 231, 2) := by decide +kernel
theorem dX12_readCommand_283 : decode cX12_readCommand 283 = .ok (.invokevirtual 205, 3) := by decide +kernel
theorem dX12_readCommand_286 : decode cX12_readCommand 286 = .ok (.aload_n 0, 1) := by decide +kernel
theorem dX12_readCommand_287 : decode cX12_readCommand 287 = .ok (.getfield 39, 3) := by decide +kernel
theorem dX12_readCommand_290 : decode cX12_readCommand 290 = .ok (.iload_n 3, 1) := by decide +kernel
theorem dX12_readCommand_291 : decode cX12_readCommand 291 = .ok (.iconst 1, 1) := by decide +kernel
theorem dX12_readCommand_292 : decode cX12_readCommand 292 = .ok (.iadd, 1) := by decide +kernel
theorem dX12_readCommand_293 : decode cX12_readCommand 293 = .ok (.aload_n 0, 1) := by decide +kernel
theorem dX12_readCommand_294 : decode cX12_readCommand 294 = .ok (.getfield 192, 3) := by decide +kernel
theorem dX12_readCommand_297 : decode cX12_readCommand 297 = .ok (.ifCond .ne 21, 3) := by decide +kernel
theorem dX12_readCommand_300 : decode cX12_readCommand 300 = .ok (.aload_n 0, 1) := by decide +kernel
theorem dX12_readCommand_301 : decode cX12_readCommand 301 = .ok (.iconst 0, 1) := by decide +kernel
theorem dX12_readCommand_302 : decode cX12_readCommand 302 = .ok (.invokevirtual 196, 3) := by decide +kernel
theorem dX12_readCommand_305 : decode cX12_readCommand 305 = .ok (.bipush 32, 2) := by decide +kernel
theorem dX12_readCommand_307 : decode cX12_readCommand 307 = .ok (.if_icmp .ne 11, 3) := by decide +kernel
theorem dX12_readCommand_310 : decode cX12_readCommand 310 = .ok (.aload_n 0, 1) := by decide +kernel
theorem dX12_readCommand_311 : decode cX12_readCommand 311 = .ok (.iconst 2, 1) := by decide +kernel
theorem dX12_readCommand_312 : decode cX12_readCommand 312 = .ok (.invokevirtual 220, 3) := by decide +kernel
theorem dX12_readCommand_315 : decode cX12_readCommand 315 = .ok (.goto 4, 3) := by decide +kernel
theorem dX12_readCommand_318 : decode cX12_readCommand 318 = .ok (.iconst 1, 1) := by decide +kernel
theorem dX12_readCommand_319 : decode cX12_readCommand 319 = .ok (.iastore, 1) := by decide +kernel
theorem dX12_readCommand_320 : decode cX12_readCommand 320 = .ok (.goto 9, 3) := by decide +kernel
theorem dX12_readCommand_323 : decode cX12_readCommand 323 = .ok (.aload_n 0, 1) := by decide +kernel
theorem dX12_readCommand_324 : decode cX12_readCommand 324 = .ok (.ldc 218, 2) := by decide +kernel
theorem dX12_readCommand_326 : decode cX12_readCommand 326 = .ok (.invokevirtual 205, 3) := by decide +kernel
theorem dX12_readCommand_329 : decode cX12_readCommand 329 = .ok (.return_, 1) := by decide +kernel
theorem dX12_does_0 : decode cX12_does 0 = .ok (.aload_n 0, 1) := by decide +kernel
theorem dX12_does_1 : decode cX12_does 1 = .ok (.getfield 39, 3) := by decide +kernel
theorem dX12_does_4 : decode cX12_does 4 = .ok (.iconst 4, 1) := by decide +kernel
theorem dX12_does_5 : decode cX12_does 5 = .ok (.iload_n 1, 1) := by decide +kernel
theorem dX12_does_6 : decode cX12_does 6 = .ok (.imul, 1) := by decide +kernel
theorem dX12_does_7 : decode cX12_does 7 = .ok (.iconst 1, 1) := by decide +kernel
theorem dX12_does_8 : decode cX12_does 8 = .ok (.iadd, 1) := by decide +kernel
theorem dX12_does_9 : decode cX12_does 9 = .ok (.iaload, 1) := by decide +kernel
theorem dX12_does_10 : decode cX12_does 10 = .ok (.istore_n 2, 1) := by decide +kernel
theorem dX12_does_11 : decode cX12_does 11 = .ok (.aload_n 0, 1) := by decide +kernel
theorem dX12_does_12 : decode cX12_does 12 = .ok (.getfield 39, 3) := by decide +kernel
theorem dX12_does_15 : decode cX12_does 15 = .ok (.iconst 4, 1) := by decide +kernel
theorem dX12_does_16 : decode cX12_does 16 = .ok (.iload_n 1, 1) := by decide +kernel
theorem dX12_does_17 : decode cX12_does 17 = .ok (.imul, 1) := by decide +kernel
theorem dX12_does_18 : decode cX12_does 18 = .ok (.iconst 2, 1) := by decide +kernel
theorem dX12_does_19 : decode cX12_does 19 = .ok (.iadd, 1) := by decide +kernel
theorem dX12_does_20 : decode cX12_does 20 = .ok (.iaload, 1) := by decide +kernel
theorem dX12_does_21 : decode cX12_does 21 = .ok (.istore_n 3, 1) := by decide +kernel
theorem dX12_does_22 : decode cX12_does 22 = .ok (.aload_n 0, 1) := by decide +kernel
theorem dX12_does_23 : decode cX12_does 23 = .ok (.getfield 39, 3) := by decide +kernel
theorem dX12_does_26 : decode cX12_does 26 = .ok (.iconst 4, 1) := by decide +kernel
theorem dX12_does_27 : decode cX12_does 27 = .ok (.iload_n 1, 1) := by decide +kernel
theorem dX12_does_28 : decode cX12_does 28 = .ok (.imul, 1) := by decide +kernel
theorem dX12_does_29 : decode cX12_does 29 = .ok (.iaload, 1) := by decide +kernel
theorem dX12_does_30 : decode cX12_does 30 = .ok (.lookupswitch 130 #[(97, 58), (100, 110), (108, 78), (111, 68), (114, 99), (119, 120)], 58) := by decide +kernel
theorem dX12_does_88 : decode cX12_does 88 = .ok (.aload_n 0, 1) := by decide +kernel
theorem dX12_does_89 : decode cX12_does 89 = .ok (.iload_n 2, 1) := by decide +kernel
theorem dX12_does_90 : decode cX12_does 90 = .ok (.invokevirtual 83, 3) := by decide +kernel
theorem dX12_does_93 : decode cX12_does 93 = .ok (.istore 4, 2) := by decide +kernel
theorem dX12_does_95 : decode cX12_does 95 = .ok (.ldc 233, 2) := by decide +kernel
theorem dX12_does_97 : decode cX12_does 97 = .ok (.areturn, 1) := by decide +kernel
theorem dX12_does_98 : decode cX12_does 98 = .ok (.aload_n 0, 1) := by decide +kernel
theorem dX12_does_99 : decode cX12_does 99 = .ok (.iload_n 2, 1) := by decide +kernel
theorem dX12_does_100 : decode cX12_does 100 = .ok (.invokevirtual 86, 3) := by decide +kernel
theorem dX12_does_103 : decode cX12_does 103 = .ok (.istore 4, 2) := by decide +kernel
theorem dX12_does_105 : decode cX12_does 105 = .ok (.ldc 233, 2) := by decide +kernel
theorem dX12_does_107 : decode cX12_does 107 = .ok (.areturn, 1) := by decide +kernel
theorem dX12_does_108 : decode cX12_does 108 = .ok (.aload_n 0, 1) := by decide +kernel
theorem dX12_does_109 : decode cX12_does 109 = .ok (.iload_n 2, 1) := by decide +kernel
theorem dX12_does_110 : decode cX12_does 110 = .ok (.iload_n 3, 1) := by decide +kernel
theorem dX12_does_111 : decode cX12_does 111 = .ok (.aload_n 0, 1) := by decide +kernel
theorem dX12_does_112 : decode cX12_does 112 = .ok (.getfield 39, 3) := by decide +kernel
theorem dX12_does_115 : decode cX12_does 115 = .ok (.iconst 4, 1) := by decide +kernel
theorem dX12_does_116 : decode cX12_does 116 = .ok (.iload_n 1, 1) := by decide +kernel
theorem dX12_does_117 : decode cX12_does 117 = .ok (.imul, 1) := by decide +kernel
theorem dX12_does_118 : decode cX12_does 118 = .ok (.iconst 3, 1) := by decide +kernel
theorem dX12_does_119 : decode cX12_does 119 = .ok (.iadd, 1) := by decide +kernel
theorem dX12_does_120 : decode cX12_does 120 = .ok (.iaload, 1) := by decide +kernel
theorem dX12_does_121 : decode cX12_does 121 = .ok (.invokevirtual 106, 3) := by decide +kernel
theorem dX12_does_124 : decode cX12_does 124 = .ok (.istore 4, 2) := by decide +kernel
theorem dX12_does_126 : decode cX12_does 126 = .ok (.ldc 235, 2) := by decide +kernel
theorem dX12_does_128 : decode cX12_does 128 = .ok (.areturn, 1) := by decide +kernel
theorem dX12_does_129 : decode cX12_does 129 = .ok (.aload_n 0, 1) := by decide +kernel
theorem dX12_does_130 : decode cX12_does 130 = .ok (.iload_n 2, 1) := by decide +kernel
theorem dX12_does_131 : decode cX12_does 131 = .ok (.iload_n 3, 1) := by decide +kernel
theorem dX12_does_132 : decode cX12_does 132 = .ok (.invokevirtual 110, 3) := by decide +kernel
theorem dX12_does_135 : decode cX12_does 135 = .ok (.istore 4, 2) := by decide +kernel
theorem dX12_does_137 : decode cX12_does 137 = .ok (.ldc 237, 2) := by decide +kernel
theorem dX12_does_139 : decode cX12_does 139 = .ok (.areturn, 1) := by decide +kernel
theorem dX12_does_140 : decode cX12_does 140 = .ok (.aload_n 0, 1) := by decide +kernel
theorem dX12_does_141 : decode cX12_does 141 = .ok (.iload_n 2, 1) := by decide +kernel
theorem dX12_does_142 : decode cX12_does 142 = .ok (.invokevirtual 117, 3) := by decide +kernel
theorem dX12_does_145 : decode cX12_does 145 = .ok (.istore 4, 2) := by decide +kernel
theorem dX12_does_147 : decode cX12_does 147 = .ok (.ldc 239, 2) := by decide +kernel
theorem dX12_does_149 : decode cX12_does 149 = .ok (.areturn, 1) := by decide +kernel
theorem dX12_does_150 : decode cX12_does 150 = .ok (.aload_n 0, 1) := by decide +kernel
theorem dX12_does_151 : decode cX12_does 151 = .ok (.iload_n 2, 1) := by decide +kernel
theorem dX12_does_152 : decode cX12_does 152 = .ok (.invokevirtual 141, 3) := by decide +kernel
theorem dX12_does_155 : decode cX12_does 155 = .ok (.istore 4, 2) := by decide +kernel
theorem dX12_does_157 : decode cX12_does 157 = .ok (.ldc 240, 2) := by decide +kernel
theorem dX12_does_159 : decode cX12_does 159 = .ok (.areturn, 1) := by decide +kernel
theorem dX12_does_160 : decode cX12_does 160 = .ok (.aload_n 0, 1) := by decide +kernel
theorem dX12_does_161 : decode cX12_does 161 = .ok (.invokevirtual 76, 3) := by decide +kernel
theorem dX12_does_164 : decode cX12_does 164 = .ok (.istore 4, 2) := by decide +kernel
theorem dX12_does_166 : decode cX12_does 166 = .ok (.ldc 242, 2) := by decide +kernel
theorem dX12_does_168 : decode cX12_does 168 = .ok (.areturn, 1) := by decide +kernel
theorem dX12_runCommands_0 : decode cX12_runCommands 0 = .ok (.aload_n 0, 1) := by decide +kernel
theorem dX12_runCommands_1 : decode cX12_runCommands 1 = .ok (.iconst 0, 1) := by decide +kernel
theorem dX12_runCommands_2 : decode cX12_runCommands 2 = .ok (.putfield 185, 3) := by decide +kernel
theorem dX12_runCommands_5 : decode cX12_runCommands 5 = .ok (.aload_n 0, 1) := by decide +kernel
theorem dX12_runCommands_6 : decode cX12_runCommands 6 = .ok (.iconst 0, 1) := by decide +kernel
theorem dX12_runCommands_7 : decode cX12_runCommands 7 = .ok (.putfield 192, 3) := by decide +kernel
theorem dX12_runCommands_10 : decode cX12_runCommands 10 = .ok (.aload_n 0, 1) := by decide +kernel
theorem dX12_runCommands_11 : decode cX12_runCommands 11 = .ok (.iconst 0, 1) := by decide +kernel
theorem dX12_runCommands_12 : decode cX12_runCommands 12 = .ok (.putfield 213, 3) := by decide +kernel
theorem dX12_runCommands_15 : decode cX12_runCommands 15 = .ok (.aload_n 0, 1) := by decide +kernel
theorem dX12_runCommands_16 : decode cX12_runCommands 16 = .ok (.invokevirtual 243, 3) := by decide +kernel
theorem dX12_runCommands_19 : decode cX12_runCommands 19 = .ok (.aload_n 0, 1) := by decide +kernel
theorem dX12_runCommands_20 : decode cX12_runCommands 20 = .ok (.getfield 192, 3) := by decide +kernel
theorem dX12_runCommands_23 : decode cX12_runCommands 23 = .ok (.ifCond .ne 30, 3) := by decide +kernel
theorem dX12_runCommands_26 : decode cX12_runCommands 26 = .ok (.aload_n 0, 1) := by decide +kernel
theorem dX12_runCommands_27 : decode cX12_runCommands 27 = .ok (.iconst 0, 1) := by decide +kernel
theorem dX12_runCommands_28 : decode cX12_runCommands 28 = .ok (.invokevirtual 196, 3) := by decide +kernel
theorem dX12_runCommands_31 : decode cX12_runCommands 31 = .ok (.bipush 59, 2) := by decide +kernel
theorem dX12_runCommands_33 : decode cX12_runCommands 33 = .ok (.if_icmp .ne 20, 3) := by decide +kernel
theorem dX12_runCommands_36 : decode cX12_runCommands 36 = .ok (.aload_n 0, 1) := by decide +kernel
theorem dX12_runCommands_37 : decode cX12_runCommands 37 = .ok (.dup, 1) := by decide +kernel
theorem dX12_runCommands_38 : decode cX12_runCommands 38 = .ok (.getfield 185, 3) := by decide +kernel
theorem dX12_runCommands_41 : decode cX12_runCommands 41 = .ok (.iconst 1, 1) := by decide +kernel
theorem dX12_runCommands_42 : decode cX12_runCommands 42 = .ok (.iadd, 1) := by decide +kernel
theorem dX12_runCommands_43 : decode cX12_runCommands 43 = .ok (.putfield 185, 3) := by decide +kernel
theorem dX12_runCommands_46 : decode cX12_runCommands 46 = .ok (.aload_n 0, 1) := by decide +kernel
theorem dX12_runCommands_47 : decode cX12_runCommands 47 = .ok (.invokevirtual 243, 3) := by decide +kernel
theorem dX12_runCommands_50 : decode cX12_runCommands 50 = .ok (.goto (-31), 3) := by decide +kernel
theorem dX12_runCommands_53 : decode cX12_runCommands 53 = .ok (.aload_n 0, 1) := by decide +kernel
theorem dX12_runCommands_54 : decode cX12_runCommands 54 = .ok (.aload_n 0, 1) := by decide +kernel
theorem dX12_runCommands_55 : decode cX12_runCommands 55 = .ok (.getfield 192, 3) := by decide +kernel
theorem dX12_runCommands_58 : decode cX12_runCommands 58 = .ok (.ifCond .ne 14, 3) := by decide +kernel
theorem dX12_runCommands_61 : decode cX12_runCommands 61 = .ok (.aload_n 0, 1) := by decide +kernel
theorem dX12_runCommands_62 : decode cX12_runCommands 62 = .ok (.getfield 185, 3) := by decide +kernel
theorem dX12_runCommands_65 : decode cX12_runCommands 65 = .ok (.aload_n 0, 1) := by decide +kernel
theorem dX12_runCommands_66 : decode cX12_runCommands 66 = .ok (.getfield 182, 3) := by decide +kernel
theorem dX12_runCommands_69 : decode cX12_runCommands 69 = .ok (.if_icmp .ge 7, 3) := by decide +kernel
theorem dX12_runCommands_72 : decode cX12_runCommands 72 = .ok (.iconst 1, 1) := by decide +kernel
theorem dX12_runCommands_73 : decode cX12_runCommands 73 = .ok (.goto 4, 3) := by decide +kernel
theorem dX12_runCommands_76 : decode cX12_runCommands 76 = .ok (.iconst 0, 1) := by decide +kernel
theorem dX12_runCommands_77 : decode cX12_runCommands 77 = .ok (.putfield 192, 3) := by decide +kernel
theorem dX12_runCommands_80 : decode cX12_runCommands 80 = .ok (.aload_n 0, 1) := by decide +kernel
theorem dX12_runCommands_81 : decode cX12_runCommands 81 = .ok (.aload_n 0, 1) := by decide +kernel
theorem dX12_runCommands_82 : decode cX12_runCommands 82 = .ok (.getfield 192, 3) := by decide +kernel
theorem dX12_runCommands_85 : decode cX12_runCommands 85 = .ok (.ifCond .eq 10, 3) := by decide +kernel
theorem dX12_runCommands_88 : decode cX12_runCommands 88 = .ok (.aload_n 0, 1) := by decide +kernel
theorem dX12_runCommands_89 : decode cX12_runCommands 89 = .ok (.getfield 185, 3) := by decide +kernel
theorem dX12_runCommands_92 : decode cX12_runCommands 92 = .ok (.goto 7, 3) := by decide +kernel
theorem dX12_runCommands_95 : decode cX12_runCommands 95 = .ok (.aload_n 0, 1) := by decide +kernel
theorem dX12_runCommands_96 : decode cX12_runCommands 96 = .ok (.getfield 32, 3) := by decide +kernel
theorem dX12_runCommands_99 : decode cX12_runCommands 99 = .ok (.putfield 32, 3) := by decide +kernel
theorem dX12_runCommands_102 : decode cX12_runCommands 102 = .ok (.aload_n 0, 1) := by decide +kernel
theorem dX12_runCommands_103 : decode cX12_runCommands 103 = .ok (.iconst 0, 1) := by decide +kernel
theorem dX12_runCommands_104 : decode cX12_runCommands 104 = .ok (.putfield 182, 3) := by decide +kernel
theorem dX12_runCommands_107 : decode cX12_runCommands 107 = .ok (.aload_n 0, 1) := by decide +kernel
theorem dX12_runCommands_108 : decode cX12_runCommands 108 = .ok (.getfield 192, 3) := by decide +kernel
theorem dX12_runCommands_111 : decode cX12_runCommands 111 = .ok (.ifCond .eq 9, 3) := by decide +kernel
theorem dX12_runCommands_114 : decode cX12_runCommands 114 = .ok (.aload_n 0, 1) := by decide +kernel
theorem dX12_runCommands_115 : decode cX12_runCommands 115 = .ok (.iconst 1, 1) := by decide +kernel
theorem dX12_runCommands_116 : decode cX12_runCommands 116 = .ok (.invokevirtual 70, 3) := by decide +kernel
theorem dX12_runCommands_119 : decode cX12_runCommands 119 = .ok (.ireturn, 1) := by decide +kernel
theorem dX12_runCommands_120 : decode cX12_runCommands 120 = .ok (.aload_n 0, 1) := by decide +kernel
theorem dX12_runCommands_121 : decode cX12_runCommands 121 = .ok (.invokevirtual 73, 3) := by decide +kernel
theorem dX12_runCommands_124 : decode cX12_runCommands 124 = .ok (.iconst 0, 1) := by decide +kernel
theorem dX12_runCommands_125 : decode cX12_runCommands 125 = .ok (.istore_n 1, 1) := by decide +kernel
theorem dX12_runCommands_126 : decode cX12_runCommands 126 = .ok (.iload_n 1, 1) := by decide +kernel
theorem dX12_runCommands_127 : decode cX12_runCommands 127 = .ok (.aload_n 0, 1) := by decide +kernel
theorem dX12_runCommands_128 : decode cX12_runCommands 128 = .ok (.getfield 213, 3) := by decide +kernel
theorem dX12_runCommands_131 : decode cX12_runCommands 131 = .ok (.if_icmp .ge 51, 3) := by decide +kernel
theorem dX12_runCommands_134 : decode cX12_runCommands 134 = .ok (.aload_n 0, 1) := by decide +kernel
theorem dX12_runCommands_135 : decode cX12_runCommands 135 = .ok (.iload_n 1, 1) := by decide +kernel
theorem dX12_runCommands_136 : decode cX12_runCommands 136 = .ok (.invokevirtual 246, 3) := by decide +kernel
theorem dX12_runCommands_139 : decode cX12_runCommands 139 = .ok (.astore_n 2, 1) := by decide +kernel
theorem dX12_runCommands_140 : decode cX12_runCommands 140 = .ok (.aload_n 0, 1) := by decide +kernel
theorem dX12_runCommands_141 : decode cX12_runCommands 141 = .ok (.getfield 42, 3) := by decide +kernel
theorem dX12_runCommands_144 : decode cX12_runCommands 144 = .ok (.ifCond .le 32, 3) := by decide +kernel
theorem dX12_runCommands_147 : decode cX12_runCommands 147 = .ok (.aload_n 0, 1) := by decide +kernel
theorem dX12_runCommands_148 : decode cX12_runCommands 148 = .ok (.iload_n 1, 1) := by decide +kernel
theorem dX12_runCommands_149 : decode cX12_runCommands 149 = .ok (.putfield 36, 3) := by decide +kernel
theorem dX12_runCommands_152 : decode cX12_runCommands 152 = .ok (.aload_n 0, 1) := by decide +kernel
theorem dX12_runCommands_153 : decode cX12_runCommands 153 = .ok (.aload_n 2, 1) := by decide +kernel
theorem dX12_runCommands_154 : decode cX12_runCommands 154 = .ok (.aload_n 0, 1) := by decide +kernel
theorem dX12_runCommands_155 : decode cX12_runCommands 155 = .ok (.getfield 42, 3) := by decide +kernel
theorem dX12_runCommands_158 : decode cX12_runCommands 158 = .ok (.iconst 1, 1) := by decide +kernel
theorem dX12_runCommands_159 : decode cX12_runCommands 159 = .ok (.isub, 1) := by decide +kernel
theorem dX12_runCommands_160 : decode cX12_runCommands 160 = .ok (.invokevirtual 199, 3) := by decide +kernel
theorem dX12_runCommands_163 : decode cX12_runCommands 163 = .ok (.putfield 250, 3) := by decide +kernel
theorem dX12_runCommands_166 : decode cX12_runCommands 166 = .ok (.aload_n 0, 1) := by decide +kernel
theorem dX12_runCommands_167 : decode cX12_runCommands 167 = .ok (.aload_n 0, 1) := by decide +kernel
theorem dX12_runCommands_168 : decode cX12_runCommands 168 = .ok (.iconst 2, 1) := by decide +kernel
theorem dX12_runCommands_169 : decode cX12_runCommands 169 = .ok (.invokevirtual 70, 3) := by decide +kernel
theorem dX12_runCommands_172 : decode cX12_runCommands 172 = .ok (.invokevirtual 80, 3) := by decide +kernel
theorem dX12_runCommands_175 : decode cX12_runCommands 175 = .ok (.ireturn, 1) := by decide +kernel
theorem dX12_runCommands_176 : decode cX12_runCommands 176 = .ok (.iinc 1 1, 3) := by decide +kernel
theorem dX12_runCommands_179 : decode cX12_runCommands 179 = .ok (.goto (-53), 3) := by decide +kernel
theorem dX12_runCommands_182 : decode cX12_runCommands 182 = .ok (.aload_n 0, 1) := by decide +kernel
theorem dX12_runCommands_183 : decode cX12_runCommands 183 = .ok (.aload_n 0, 1) := by decide +kernel
theorem dX12_runCommands_184 : decode cX12_runCommands 184 = .ok (.getfield 213, 3) := by decide +kernel
theorem dX12_runCommands_187 : decode cX12_runCommands 187 = .ok (.invokevirtual 80, 3) := by decide +kernel
theorem dX12_runCommands_190 : decode cX12_runCommands 190 = .ok (.ireturn, 1) := by decide +kernel
theorem dX12_errorPosition_0 : decode cX12_errorPosition 0 = .ok (.aload_n 0, 1) := by decide +kernel
theorem dX12_errorPosition_1 : decode cX12_errorPosition 1 = .ok (.aload_n 0, 1) := by decide +kernel
theorem dX12_errorPosition_2 : decode cX12_errorPosition 2 = .ok (.getfield 32, 3) := by decide +kernel
theorem dX12_errorPosition_5 : decode cX12_errorPosition 5 = .ok (.ifCond .lt 7, 3) := by decide +kernel
theorem dX12_errorPosition_8 : decode cX12_errorPosition 8 = .ok (.iconst 1, 1) := by decide +kernel
theorem dX12_errorPosition_9 : decode cX12_errorPosition 9 = .ok (.goto 4, 3) := by decide +kernel
theorem dX12_errorPosition_12 : decode cX12_errorPosition 12 = .ok (.iconst 0, 1) := by decide +kernel
theorem dX12_errorPosition_13 : decode cX12_errorPosition 13 = .ok (.invokevirtual 144, 3) := by decide +kernel
theorem dX12_errorPosition_16 : decode cX12_errorPosition 16 = .ok (.ifCond .eq 10, 3) := by decide +kernel
theorem dX12_errorPosition_19 : decode cX12_errorPosition 19 = .ok (.aload_n 0, 1) := by decide +kernel
theorem dX12_errorPosition_20 : decode cX12_errorPosition 20 = .ok (.getfield 32, 3) := by decide +kernel
theorem dX12_errorPosition_23 : decode cX12_errorPosition 23 = .ok (.goto 4, 3) := by decide +kernel
theorem dX12_errorPosition_26 : decode cX12_errorPosition 26 = .ok (.iconst 0, 1) := by decide +kernel
theorem dX12_errorPosition_27 : decode cX12_errorPosition 27 = .ok (.ireturn, 1) := by decide +kernel
theorem dX12_failedCommand_0 : decode cX12_failedCommand 0 = .ok (.aload_n 0, 1) := by decide +kernel
theorem dX12_failedCommand_1 : decode cX12_failedCommand 1 = .ok (.aload_n 0, 1) := by decide +kernel
theorem dX12_failedCommand_2 : decode cX12_failedCommand 2 = .ok (.getfield 36, 3) := by decide +kernel
theorem dX12_failedCommand_5 : decode cX12_failedCommand 5 = .ok (.ifCond .lt 7, 3) := by decide +kernel
theorem dX12_failedCommand_8 : decode cX12_failedCommand 8 = .ok (.iconst 1, 1) := by decide +kernel
theorem dX12_failedCommand_9 : decode cX12_failedCommand 9 = .ok (.goto 4, 3) := by decide +kernel
theorem dX12_failedCommand_12 : decode cX12_failedCommand 12 = .ok (.iconst 0, 1) := by decide +kernel
theorem dX12_failedCommand_13 : decode cX12_failedCommand 13 = .ok (.invokevirtual 144, 3) := by decide +kernel
theorem dX12_failedCommand_16 : decode cX12_failedCommand 16 = .ok (.ifCond .eq 10, 3) := by decide +kernel
theorem dX12_failedCommand_19 : decode cX12_failedCommand 19 = .ok (.aload_n 0, 1) := by decide +kernel
theorem dX12_failedCommand_20 : decode cX12_failedCommand 20 = .ok (.getfield 36, 3) := by decide +kernel
theorem dX12_failedCommand_23 : decode cX12_failedCommand 23 = .ok (.goto 4, 3) := by decide +kernel
theorem dX12_failedCommand_26 : decode cX12_failedCommand 26 = .ok (.iconst 0, 1) := by decide +kernel
theorem dX12_failedCommand_27 : decode cX12_failedCommand 27 = .ok (.ireturn, 1) := by decide +kernel
theorem dX12_failureReason_0 : decode cX12_failureReason 0 = .ok (.aload_n 0, 1) := by decide +kernel
theorem dX12_failureReason_1 : decode cX12_failureReason 1 = .ok (.aload_n 0, 1) := by decide +kernel
theorem dX12_failureReason_2 : decode cX12_failureReason 2 = .ok (.getfield 36, 3) := by decide +kernel
theorem dX12_failureReason_5 : decode cX12_failureReason 5 = .ok (.ifCond .lt 7, 3) := by decide +kernel
theorem dX12_failureReason_8 : decode cX12_failureReason 8 = .ok (.iconst 1, 1) := by decide +kernel
theorem dX12_failureReason_9 : decode cX12_failureReason 9 = .ok (.goto 4, 3) := by decide +kernel
theorem dX12_failureReason_12 : decode cX12_failureReason 12 = .ok (.iconst 0, 1) := by decide +kernel
theorem dX12_failureReason_13 : decode cX12_failureReason 13 = .ok (.invokevirtual 144, 3) := by decide +kernel
theorem dX12_failureReason_16 : decode cX12_failureReason 16 = .ok (.ifCond .eq 10, 3) := by decide +kernel
theorem dX12_failureReason_19 : decode cX12_failureReason 19 = .ok (.aload_n 0, 1) := by decide +kernel
theorem dX12_failureReason_20 : decode cX12_failureReason 20 = .ok (.getfield 250, 3) := by decide +kernel
theorem dX12_failureReason_23 : decode cX12_failureReason 23 = .ok (.goto 5, 3) := by decide +kernel
theorem dX12_failureReason_26 : decode cX12_failureReason 26 = .ok (.bipush 32, 2) := by decide +kernel
theorem dX12_failureReason_28 : decode cX12_failureReason 28 = .ok (.ireturn, 1) := by decide +kernel
theorem dX12_undoCount_0 : decode cX12_undoCount 0 = .ok (.aload_n 0, 1) := by decide +kernel
theorem dX12_undoCount_1 : decode cX12_undoCount 1 = .ok (.iconst 0, 1) := by decide +kernel
theorem dX12_undoCount_2 : decode cX12_undoCount 2 = .ok (.putfield 42, 3) := by decide +kernel
theorem dX12_undoCount_5 : decode cX12_undoCount 5 = .ok (.aload_n 0, 1) := by decide +kernel
theorem dX12_undoCount_6 : decode cX12_undoCount 6 = .ok (.getfield 51, 3) := by decide +kernel
theorem dX12_undoCount_9 : decode cX12_undoCount 9 = .ok (.ireturn, 1) := by decide +kernel
theorem dX12_undo_0 : decode cX12_undo 0 = .ok (.aload_n 0, 1) := by decide +kernel
theorem dX12_undo_1 : decode cX12_undo 1 = .ok (.aload_n 0, 1) := by decide +kernel
theorem dX12_undo_2 : decode cX12_undo 2 = .ok (.getfield 51, 3) := by decide +kernel
theorem dX12_undo_5 : decode cX12_undo 5 = .ok (.ifCond .ne 7, 3) := by decide +kernel
theorem dX12_undo_8 : decode cX12_undo 8 = .ok (.iconst 1, 1) := by decide +kernel
theorem dX12_undo_9 : decode cX12_undo 9 = .ok (.goto 4, 3) := by decide +kernel
theorem dX12_undo_12 : decode cX12_undo 12 = .ok (.iconst 0, 1) := by decide +kernel
theorem dX12_undo_13 : decode cX12_undo 13 = .ok (.putfield 42, 3) := by decide +kernel
theorem dX12_undo_16 : decode cX12_undo 16 = .ok (.aload_n 0, 1) := by decide +kernel
theorem dX12_undo_17 : decode cX12_undo 17 = .ok (.getfield 42, 3) := by decide +kernel
theorem dX12_undo_20 : decode cX12_undo 20 = .ok (.ifCond .le 5, 3) := by decide +kernel
theorem dX12_undo_23 : decode cX12_undo 23 = .ok (.iconst 0, 1) := by decide +kernel
theorem dX12_undo_24 : decode cX12_undo 24 = .ok (.ireturn, 1) := by decide +kernel
theorem dX12_undo_25 : decode cX12_undo 25 = .ok (.aload_n 0, 1) := by decide +kernel
theorem dX12_undo_26 : decode cX12_undo 26 = .ok (.dup, 1) := by decide +kernel
theorem dX12_undo_27 : decode cX12_undo 27 = .ok (.getfield 51, 3) := by decide +kernel
theorem dX12_undo_30 : decode cX12_undo 30 = .ok (.iconst 1, 1) := by decide +kernel
theorem dX12_undo_31 : decode cX12_undo 31 = .ok (.isub, 1) := by decide +kernel
theorem dX12_undo_32 : decode cX12_undo 32 = .ok (.putfield 51, 3) := by decide +kernel
theorem dX12_undo_35 : decode cX12_undo 35 = .ok (.aload_n 0, 1) := by decide +kernel
theorem dX12_undo_36 : decode cX12_undo 36 = .ok (.getfield 22, 3) := by decide +kernel
theorem dX12_undo_39 : decode cX12_undo 39 = .ok (.bipush 81, 2) := by decide +kernel
theorem dX12_undo_41 : decode cX12_undo 41 = .ok (.aload_n 0, 1) := by decide +kernel
theorem dX12_undo_42 : decode cX12_undo 42 = .ok (.getfield 51, 3) := by decide +kernel
theorem dX12_undo_45 : decode cX12_undo 45 = .ok (.imul, 1) := by decide +kernel
theorem dX12_undo_46 : decode cX12_undo 46 = .ok (.aload_n 0, 1) := by decide +kernel
theorem dX12_undo_47 : decode cX12_undo 47 = .ok (.getfield 9, 3) := by decide +kernel
theorem dX12_undo_50 : decode cX12_undo 50 = .ok (.iconst 0, 1) := by decide +kernel
theorem dX12_undo_51 : decode cX12_undo 51 = .ok (.bipush 81, 2) := by decide +kernel
theorem dX12_undo_53 : decode cX12_undo 53 = .ok (.invokestatic 45, 3) := by decide +kernel
theorem dX12_undo_56 : decode cX12_undo 56 = .ok (.aload_n 0, 1) := by decide +kernel
theorem dX12_undo_57 : decode cX12_undo 57 = .ok (.getfield 51, 3) := by decide +kernel
theorem dX12_undo_60 : decode cX12_undo 60 = .ok (.ireturn, 1) := by decide +kernel
theorem dX12_save_0 : decode cX12_save 0 = .ok (.aload_n 0, 1) := by decide +kernel
theorem dX12_save_1 : decode cX12_save 1 = .ok (.iconst 0, 1) := by decide +kernel
theorem dX12_save_2 : decode cX12_save 2 = .ok (.putfield 42, 3) := by decide +kernel
theorem dX12_save_5 : decode cX12_save 5 = .ok (.aload_n 0, 1) := by decide +kernel
theorem dX12_save_6 : decode cX12_save 6 = .ok (.getfield 9, 3) := by decide +kernel
theorem dX12_save_9 : decode cX12_save 9 = .ok (.iconst 0, 1) := by decide +kernel
theorem dX12_save_10 : decode cX12_save 10 = .ok (.aload_n 0, 1) := by decide +kernel
theorem dX12_save_11 : decode cX12_save 11 = .ok (.getfield 19, 3) := by decide +kernel
theorem dX12_save_14 : decode cX12_save 14 = .ok (.iconst 0, 1) := by decide +kernel
theorem dX12_save_15 : decode cX12_save 15 = .ok (.bipush 81, 2) := by decide +kernel
theorem dX12_save_17 : decode cX12_save 17 = .ok (.invokestatic 45, 3) := by decide +kernel
theorem dX12_save_20 : decode cX12_save 20 = .ok (.aload_n 0, 1) := by decide +kernel
theorem dX12_save_21 : decode cX12_save 21 = .ok (.iconst 1, 1) := by decide +kernel
theorem dX12_save_22 : decode cX12_save 22 = .ok (.putfield 254, 3) := by decide +kernel
theorem dX12_save_25 : decode cX12_save 25 = .ok (.aload_n 0, 1) := by decide +kernel
theorem dX12_save_26 : decode cX12_save 26 = .ok (.getfield 9, 3) := by decide +kernel
theorem dX12_save_29 : decode cX12_save 29 = .ok (.iconst 1, 1) := by decide +kernel
theorem dX12_save_30 : decode cX12_save 30 = .ok (.iaload, 1) := by decide +kernel
theorem dX12_save_31 : decode cX12_save 31 = .ok (.ireturn, 1) := by decide +kernel
theorem dX12_restore_0 : decode cX12_restore 0 = .ok (.aload_n 0, 1) := by decide +kernel
theorem dX12_restore_1 : decode cX12_restore 1 = .ok (.aload_n 0, 1) := by decide +kernel
theorem dX12_restore_2 : decode cX12_restore 2 = .ok (.getfield 254, 3) := by decide +kernel
theorem dX12_restore_5 : decode cX12_restore 5 = .ok (.ifCond .eq 7, 3) := by decide +kernel
theorem dX12_restore_8 : decode cX12_restore 8 = .ok (.iconst 0, 1) := by decide +kernel
theorem dX12_restore_9 : decode cX12_restore 9 = .ok (.goto 4, 3) := by decide +kernel
theorem dX12_restore_12 : decode cX12_restore 12 = .ok (.iconst 1, 1) := by decide +kernel
theorem dX12_restore_13 : decode cX12_restore 13 = .ok (.putfield 42, 3) := by decide +kernel
theorem dX12_restore_16 : decode cX12_restore 16 = .ok (.aload_n 0, 1) := by decide +kernel
theorem dX12_restore_17 : decode cX12_restore 17 = .ok (.getfield 42, 3) := by decide +kernel
theorem dX12_restore_20 : decode cX12_restore 20 = .ok (.ifCond .le 5, 3) := by decide +kernel
theorem dX12_restore_23 : decode cX12_restore 23 = .ok (.iconst 0, 1) := by decide +kernel
theorem dX12_restore_24 : decode cX12_restore 24 = .ok (.ireturn, 1) := by decide +kernel
theorem dX12_restore_25 : decode cX12_restore 25 = .ok (.aload_n 0, 1) := by decide +kernel
theorem dX12_restore_26 : decode cX12_restore 26 = .ok (.getfield 19, 3) := by decide +kernel
theorem dX12_restore_29 : decode cX12_restore 29 = .ok (.iconst 0, 1) := by decide +kernel
theorem dX12_restore_30 : decode cX12_restore 30 = .ok (.aload_n 0, 1) := by decide +kernel
theorem dX12_restore_31 : decode cX12_restore 31 = .ok (.getfield 9, 3) := by decide +kernel
theorem dX12_restore_34 : decode cX12_restore 34 = .ok (.iconst 0, 1) := by decide +kernel
theorem dX12_restore_35 : decode cX12_restore 35 = .ok (.bipush 81, 2) := by decide +kernel
theorem dX12_restore_37 : decode cX12_restore 37 = .ok (.invokestatic 45, 3) := by decide +kernel
theorem dX12_restore_40 : decode cX12_restore 40 = .ok (.aload_n 0, 1) := by decide +kernel
theorem dX12_restore_41 : decode cX12_restore 41 = .ok (.iconst 0, 1) := by decide +kernel
theorem dX12_restore_42 : decode cX12_restore 42 = .ok (.putfield 51, 3) := by decide +kernel
theorem dX12_restore_45 : decode cX12_restore 45 = .ok (.aload_n 0, 1) := by decide +kernel
theorem dX12_restore_46 : decode cX12_restore 46 = .ok (.getfield 9, 3) := by decide +kernel
theorem dX12_restore_49 : decode cX12_restore 49 = .ok (.iconst 1, 1) := by decide +kernel
theorem dX12_restore_50 : decode cX12_restore 50 = .ok (.iaload, 1) := by decide +kernel
theorem dX12_restore_51 : decode cX12_restore 51 = .ok (.ireturn, 1) := by decide +kernel
