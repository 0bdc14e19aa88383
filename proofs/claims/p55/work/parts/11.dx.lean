/-! the decoded instructions of the class -/
theorem dX1_init_0 : decode cX1_init 0 = .ok (.aload_n 0, 1) := by decide +kernel
theorem dX1_init_1 : decode cX1_init 1 = .ok (.invokespecial 3, 3) := by decide +kernel
theorem dX1_init_4 : decode cX1_init 4 = .ok (.aload_n 0, 1) := by decide +kernel
theorem dX1_init_5 : decode cX1_init 5 = .ok (.getstatic 9, 3) := by decide +kernel
theorem dX1_init_8 : decode cX1_init 8 = .ok (.putfield 15, 3) := by decide +kernel
theorem dX1_init_11 : decode cX1_init 11 = .ok (.aload_n 0, 1) := by decide +kernel
theorem dX1_init_12 : decode cX1_init 12 = .ok (.iconst 3, 1) := by decide +kernel
theorem dX1_init_13 : decode cX1_init 13 = .ok (.newarray .int, 2) := by decide +kernel
theorem dX1_init_15 : decode cX1_init 15 = .ok (.putfield 20, 3) := by decide +kernel
theorem dX1_init_18 : decode cX1_init 18 = .ok (.return_, 1) := by decide +kernel
theorem dX1_first_0 : decode cX1_first 0 = .ok (.aload_n 0, 1) := by decide +kernel
theorem dX1_first_1 : decode cX1_first 1 = .ok (.getfield 20, 3) := by decide +kernel
theorem dX1_first_4 : decode cX1_first 4 = .ok (.iconst 0, 1) := by decide +kernel
theorem dX1_first_5 : decode cX1_first 5 = .ok (.iaload, 1) := by decide +kernel
theorem dX1_first_6 : decode cX1_first 6 = .ok (.ireturn, 1) := by decide +kernel
theorem dX1_second_0 : decode cX1_second 0 = .ok (.aload_n 0, 1) := by decide +kernel
theorem dX1_second_1 : decode cX1_second 1 = .ok (.getfield 20, 3) := by decide +kernel
theorem dX1_second_4 : decode cX1_second 4 = .ok (.iconst 1, 1) := by decide +kernel
theorem dX1_second_5 : decode cX1_second 5 = .ok (.iaload, 1) := by decide +kernel
theorem dX1_second_6 : decode cX1_second 6 = .ok (.ireturn, 1) := by decide +kernel
theorem dX1_third_0 : decode cX1_third 0 = .ok (.aload_n 0, 1) := by decide +kernel
theorem dX1_third_1 : decode cX1_third 1 = .ok (.getfield 20, 3) := by decide +kernel
theorem dX1_third_4 : decode cX1_third 4 = .ok (.iconst 2, 1) := by decide +kernel
theorem dX1_third_5 : decode cX1_third 5 = .ok (.iaload, 1) := by decide +kernel
theorem dX1_third_6 : decode cX1_third 6 = .ok (.ireturn, 1) := by decide +kernel
theorem dX1_put_0 : decode cX1_put 0 = .ok (.iload_n 1, 1) := by decide +kernel
theorem dX1_put_1 : decode cX1_put 1 = .ok (.ifCond .lt 15, 3) := by decide +kernel
theorem dX1_put_4 : decode cX1_put 4 = .ok (.iload_n 1, 1) := by decide +kernel
theorem dX1_put_5 : decode cX1_put 5 = .ok (.iconst 3, 1) := by decide +kernel
theorem dX1_put_6 : decode cX1_put 6 = .ok (.if_icmp .ge 10, 3) := by decide +kernel
theorem dX1_put_9 : decode cX1_put 9 = .ok (.aload_n 0, 1) := by decide +kernel
theorem dX1_put_10 : decode cX1_put 10 = .ok (.getfield 20, 3) := by decide +kernel
theorem dX1_put_13 : decode cX1_put 13 = .ok (.iload_n 1, 1) := by decide +kernel
theorem dX1_put_14 : decode cX1_put 14 = .ok (.iload_n 2, 1) := by decide +kernel
theorem dX1_put_15 : decode cX1_put 15 = .ok (.iastore, 1) := by decide +kernel
theorem dX1_put_16 : decode cX1_put 16 = .ok (.return_, 1) := by decide +kernel
theorem dX2_init_0 : decode cX2_init 0 = .ok (.aload_n 0, 1) := by decide +kernel
theorem dX2_init_1 : decode cX2_init 1 = .ok (.invokespecial 3, 3) := by decide +kernel
theorem dX2_init_4 : decode cX2_init 4 = .ok (.aload_n 0, 1) := by decide +kernel
theorem dX2_init_5 : decode cX2_init 5 = .ok (.bipush 60, 2) := by decide +kernel
theorem dX2_init_7 : decode cX2_init 7 = .ok (.newarray .char, 2) := by decide +kernel
theorem dX2_init_9 : decode cX2_init 9 = .ok (.putfield 9, 3) := by decide +kernel
theorem dX2_init_12 : decode cX2_init 12 = .ok (.aload_n 0, 1) := by decide +kernel
theorem dX2_init_13 : decode cX2_init 13 = .ok (.bipush 12, 2) := by decide +kernel
theorem dX2_init_15 : decode cX2_init 15 = .ok (.anewarray 15, 3) := by decide +kernel
theorem dX2_init_18 : decode cX2_init 18 = .ok (.putfield 17, 3) := by decide +kernel
theorem dX2_init_21 : decode cX2_init 21 = .ok (.iconst 0, 1) := by decide +kernel
theorem dX2_init_22 : decode cX2_init 22 = .ok (.istore_n 1, 1) := by decide +kernel
theorem dX2_init_23 : decode cX2_init 23 = .ok (.iload_n 1, 1) := by decide +kernel
theorem dX2_init_24 : decode cX2_init 24 = .ok (.bipush 12, 2) := by decide +kernel
theorem dX2_init_26 : decode cX2_init 26 = .ok (.if_icmp .ge 22, 3) := by decide +kernel
theorem dX2_init_29 : decode cX2_init 29 = .ok (.aload_n 0, 1) := by decide +kernel
theorem dX2_init_30 : decode cX2_init 30 = .ok (.getfield 17, 3) := by decide +kernel
theorem dX2_init_33 : decode cX2_init 33 = .ok (.iload_n 1, 1) := by decide +kernel
theorem dX2_init_34 : decode cX2_init 34 = .ok (.new 15, 3) := by decide +kernel
theorem dX2_init_37 : decode cX2_init 37 = .ok (.dup, 1) := by decide +kernel
theorem dX2_init_38 : decode cX2_init 38 = .ok (.invokespecial 21, 3) := by decide +kernel
theorem dX2_init_41 : decode cX2_init 41 = .ok (.aastore, 1) := by decide +kernel
theorem dX2_init_42 : decode cX2_init 42 = .ok (.iinc 1 1, 3) := by decide +kernel
theorem dX2_init_45 : decode cX2_init 45 = .ok (.goto (-22), 3) := by decide +kernel
theorem dX2_init_48 : decode cX2_init 48 = .ok (.return_, 1) := by decide +kernel
theorem dX2_append_0 : decode cX2_append 0 = .ok (.aload_n 0, 1) := by decide +kernel
theorem dX2_append_1 : decode cX2_append 1 = .ok (.getfield 22, 3) := by decide +kernel
theorem dX2_append_4 : decode cX2_append 4 = .ok (.bipush 60, 2) := by decide +kernel
theorem dX2_append_6 : decode cX2_append 6 = .ok (.if_icmp .ge 23, 3) := by decide +kernel
theorem dX2_append_9 : decode cX2_append 9 = .ok (.aload_n 0, 1) := by decide +kernel
theorem dX2_append_10 : decode cX2_append 10 = .ok (.getfield 9, 3) := by decide +kernel
theorem dX2_append_13 : decode cX2_append 13 = .ok (.aload_n 0, 1) := by decide +kernel
theorem dX2_append_14 : decode cX2_append 14 = .ok (.getfield 22, 3) := by decide +kernel
theorem dX2_append_17 : decode cX2_append 17 = .ok (.iload_n 1, 1) := by decide +kernel
theorem dX2_append_18 : decode cX2_append 18 = .ok (.castore, 1) := by decide +kernel
theorem dX2_append_19 : decode cX2_append 19 = .ok (.aload_n 0, 1) := by decide +kernel
theorem dX2_append_20 : decode cX2_append 20 = .ok (.dup, 1) := by decide +kernel
theorem dX2_append_21 : decode cX2_append 21 = .ok (.getfield 22, 3) := by decide +kernel
theorem dX2_append_24 : decode cX2_append 24 = .ok (.iconst 1, 1) := by decide +kernel
theorem dX2_append_25 : decode cX2_append 25 = .ok (.iadd, 1) := by decide +kernel
theorem dX2_append_26 : decode cX2_append 26 = .ok (.putfield 22, 3) := by decide +kernel
theorem dX2_append_29 : decode cX2_append 29 = .ok (.aload_n 0, 1) := by decide +kernel
theorem dX2_append_30 : decode cX2_append 30 = .ok (.getfield 22, 3) := by decide +kernel
theorem dX2_append_33 : decode cX2_append 33 = .ok (.ireturn, 1) := by decide +kernel
theorem dX2_clear_0 : decode cX2_clear 0 = .ok (.aload_n 0, 1) := by decide +kernel
theorem dX2_clear_1 : decode cX2_clear 1 = .ok (.iconst 0, 1) := by decide +kernel
theorem dX2_clear_2 : decode cX2_clear 2 = .ok (.putfield 22, 3) := by decide +kernel
theorem dX2_clear_5 : decode cX2_clear 5 = .ok (.return_, 1) := by decide +kernel
theorem dX2_parse_0 : decode cX2_parse 0 = .ok (.aload_n 0, 1) := by decide +kernel
theorem dX2_parse_1 : decode cX2_parse 1 = .ok (.iconst 0, 1) := by decide +kernel
theorem dX2_parse_2 : decode cX2_parse 2 = .ok (.putfield 26, 3) := by decide +kernel
theorem dX2_parse_5 : decode cX2_parse 5 = .ok (.aload_n 0, 1) := by decide +kernel
theorem dX2_parse_6 : decode cX2_parse 6 = .ok (.iconst 0, 1) := by decide +kernel
theorem dX2_parse_7 : decode cX2_parse 7 = .ok (.putfield 29, 3) := by decide +kernel
theorem dX2_parse_10 : decode cX2_parse 10 = .ok (.iconst 0, 1) := by decide +kernel
theorem dX2_parse_11 : decode cX2_parse 11 = .ok (.istore_n 1, 1) := by decide +kernel
theorem dX2_parse_12 : decode cX2_parse 12 = .ok (.iload_n 1, 1) := by decide +kernel
theorem dX2_parse_13 : decode cX2_parse 13 = .ok (.bipush 12, 2) := by decide +kernel
theorem dX2_parse_15 : decode cX2_parse 15 = .ok (.if_icmp .ge 68, 3) := by decide +kernel
theorem dX2_parse_18 : decode cX2_parse 18 = .ok (.aload_n 0, 1) := by decide +kernel
theorem dX2_parse_19 : decode cX2_parse 19 = .ok (.aload_n 0, 1) := by decide +kernel
theorem dX2_parse_20 : decode cX2_parse 20 = .ok (.getfield 17, 3) := by decide +kernel
theorem dX2_parse_23 : decode cX2_parse 23 = .ok (.iload_n 1, 1) := by decide +kernel
theorem dX2_parse_24 : decode cX2_parse 24 = .ok (.aaload, 1) := by decide +kernel
theorem dX2_parse_25 : decode cX2_parse 25 = .ok (.invokevirtual 32, 3) := by decide +kernel
theorem dX2_parse_28 : decode cX2_parse 28 = .ok (.ifCond .ne 5, 3) := by decide +kernel
theorem dX2_parse_31 : decode cX2_parse 31 = .ok (.iconst 0, 1) := by decide +kernel
theorem dX2_parse_32 : decode cX2_parse 32 = .ok (.ireturn, 1) := by decide +kernel
theorem dX2_parse_33 : decode cX2_parse 33 = .ok (.aload_n 0, 1) := by decide +kernel
theorem dX2_parse_34 : decode cX2_parse 34 = .ok (.dup, 1) := by decide +kernel
theorem dX2_parse_35 : decode cX2_parse 35 = .ok (.getfield 29, 3) := by decide +kernel
theorem dX2_parse_38 : decode cX2_parse 38 = .ok (.iconst 1, 1) := by decide +kernel
theorem dX2_parse_39 : decode cX2_parse 39 = .ok (.iadd, 1) := by decide +kernel
theorem dX2_parse_40 : decode cX2_parse 40 = .ok (.putfield 29, 3) := by decide +kernel
theorem dX2_parse_43 : decode cX2_parse 43 = .ok (.aload_n 0, 1) := by decide +kernel
theorem dX2_parse_44 : decode cX2_parse 44 = .ok (.getfield 26, 3) := by decide +kernel
theorem dX2_parse_47 : decode cX2_parse 47 = .ok (.aload_n 0, 1) := by decide +kernel
theorem dX2_parse_48 : decode cX2_parse 48 = .ok (.getfield 22, 3) := by decide +kernel
theorem dX2_parse_51 : decode cX2_parse 51 = .ok (.if_icmp .lt 5, 3) := by decide +kernel
theorem dX2_parse_54 : decode cX2_parse 54 = .ok (.iconst 1, 1) := by decide +kernel
theorem dX2_parse_55 : decode cX2_parse 55 = .ok (.ireturn, 1) := by decide +kernel
theorem dX2_parse_56 : decode cX2_parse 56 = .ok (.aload_n 0, 1) := by decide +kernel
theorem dX2_parse_57 : decode cX2_parse 57 = .ok (.bipush 59, 2) := by decide +kernel
theorem dX2_parse_59 : decode cX2_parse 59 = .ok (.invokevirtual 36, 3) := by decide +kernel
theorem dX2_parse_62 : decode cX2_parse 62 = .ok (.ifCond .ne 5, 3) := by decide +kernel
theorem dX2_parse_65 : decode cX2_parse 65 = .ok (.iconst 0, 1) := by decide +kernel
theorem dX2_parse_66 : decode cX2_parse 66 = .ok (.ireturn, 1) := by decide +kernel
theorem dX2_parse_67 : decode cX2_parse 67 = .ok (.aload_n 0, 1) := by decide +kernel
theorem dX2_parse_68 : decode cX2_parse 68 = .ok (.dup, 1) := by decide +kernel
theorem dX2_parse_69 : decode cX2_parse 69 = .ok (.getfield 26, 3) := by decide +kernel
theorem dX2_parse_72 : decode cX2_parse 72 = .ok (.iconst 1, 1) := by decide +kernel
theorem dX2_parse_73 : decode cX2_parse 73 = .ok (.iadd, 1) := by decide +kernel
theorem dX2_parse_74 : decode cX2_parse 74 = .ok (.putfield 26, 3) := by decide +kernel
theorem dX2_parse_77 : decode cX2_parse 77 = .ok (.iinc 1 1, 3) := by decide +kernel
theorem dX2_parse_80 : decode cX2_parse 80 = .ok (.goto (-68), 3) := by decide +kernel
theorem dX2_parse_83 : decode cX2_parse 83 = .ok (.iconst 0, 1) := by decide +kernel
theorem dX2_parse_84 : decode cX2_parse 84 = .ok (.ireturn, 1) := by decide +kernel
theorem dX2_readCommand_0 : decode cX2_readCommand 0 = .ok (.aload_n 0, 1) := by decide +kernel
theorem dX2_readCommand_1 : decode cX2_readCommand 1 = .ok (.invokevirtual 40, 3) := by decide +kernel
theorem dX2_readCommand_4 : decode cX2_readCommand 4 = .ok (.astore_n 2, 1) := by decide +kernel
theorem dX2_readCommand_5 : decode cX2_readCommand 5 = .ok (.aload_n 2, 1) := by decide +kernel
theorem dX2_readCommand_6 : decode cX2_readCommand 6 = .ok (.ifnonnull 5, 3) := by decide +kernel
theorem dX2_readCommand_9 : decode cX2_readCommand 9 = .ok (.iconst 0, 1) := by decide +kernel
theorem dX2_readCommand_10 : decode cX2_readCommand 10 = .ok (.ireturn, 1) := by decide +kernel
theorem dX2_readCommand_11 : decode cX2_readCommand 11 = .ok (.aload_n 1, 1) := by decide +kernel
theorem dX2_readCommand_12 : decode cX2_readCommand 12 = .ok (.aload_n 2, 1) := by decide +kernel
theorem dX2_readCommand_13 : decode cX2_readCommand 13 = .ok (.putfield 44, 3) := by decide +kernel
theorem dX2_readCommand_16 : decode cX2_readCommand 16 = .ok (.aload_n 2, 1) := by decide +kernel
theorem dX2_readCommand_17 : decode cX2_readCommand 17 = .ok (.getfield 48, 3) := by decide +kernel
theorem dX2_readCommand_20 : decode cX2_readCommand 20 = .ok (.ifCond .eq 20, 3) := by decide +kernel
theorem dX2_readCommand_23 : decode cX2_readCommand 23 = .ok (.aload_n 0, 1) := by decide +kernel
theorem dX2_readCommand_24 : decode cX2_readCommand 24 = .ok (.bipush 32, 2) := by decide +kernel
theorem dX2_readCommand_26 : decode cX2_readCommand 26 = .ok (.invokevirtual 36, 3) := by decide +kernel
theorem dX2_readCommand_29 : decode cX2_readCommand 29 = .ok (.ifCond .ne 11, 3) := by decide +kernel
theorem dX2_readCommand_32 : decode cX2_readCommand 32 = .ok (.aload_n 1, 1) := by decide +kernel
theorem dX2_readCommand_33 : decode cX2_readCommand 33 = .ok (.iconst 0, 1) := by decide +kernel
theorem dX2_readCommand_34 : decode cX2_readCommand 34 = .ok (.iconst 1, 1) := by decide +kernel
theorem dX2_readCommand_35 : decode cX2_readCommand 35 = .ok (.invokevirtual 54, 3) := by decide +kernel
theorem dX2_readCommand_38 : decode cX2_readCommand 38 = .ok (.iconst 1, 1) := by decide +kernel
theorem dX2_readCommand_39 : decode cX2_readCommand 39 = .ok (.ireturn, 1) := by decide +kernel
theorem dX2_readCommand_40 : decode cX2_readCommand 40 = .ok (.iconst 0, 1) := by decide +kernel
theorem dX2_readCommand_41 : decode cX2_readCommand 41 = .ok (.istore_n 3, 1) := by decide +kernel
theorem dX2_readCommand_42 : decode cX2_readCommand 42 = .ok (.iload_n 3, 1) := by decide +kernel
theorem dX2_readCommand_43 : decode cX2_readCommand 43 = .ok (.aload_n 2, 1) := by decide +kernel
theorem dX2_readCommand_44 : decode cX2_readCommand 44 = .ok (.getfield 58, 3) := by decide +kernel
theorem dX2_readCommand_47 : decode cX2_readCommand 47 = .ok (.invokevirtual 62, 3) := by decide +kernel
theorem dX2_readCommand_50 : decode cX2_readCommand 50 = .ok (.if_icmp .ge 41, 3) := by decide +kernel
theorem dX2_readCommand_53 : decode cX2_readCommand 53 = .ok (.aload_n 0, 1) := by decide +kernel
theorem dX2_readCommand_54 : decode cX2_readCommand 54 = .ok (.aload_n 2, 1) := by decide +kernel
theorem dX2_readCommand_55 : decode cX2_readCommand 55 = .ok (.getfield 58, 3) := by decide +kernel
theorem dX2_readCommand_58 : decode cX2_readCommand 58 = .ok (.iload_n 3, 1) := by decide +kernel
theorem dX2_readCommand_59 : decode cX2_readCommand 59 = .ok (.invokevirtual 67, 3) := by decide +kernel
theorem dX2_readCommand_62 : decode cX2_readCommand 62 = .ok (.bipush 48, 2) := by decide +kernel
theorem dX2_readCommand_64 : decode cX2_readCommand 64 = .ok (.isub, 1) := by decide +kernel
theorem dX2_readCommand_65 : decode cX2_readCommand 65 = .ok (.invokevirtual 71, 3) := by decide +kernel
theorem dX2_readCommand_68 : decode cX2_readCommand 68 = .ok (.istore 4, 2) := by decide +kernel
theorem dX2_readCommand_70 : decode cX2_readCommand 70 = .ok (.iload 4, 2) := by decide +kernel
theorem dX2_readCommand_72 : decode cX2_readCommand 72 = .ok (.iconst (-1), 1) := by decide +kernel
theorem dX2_readCommand_73 : decode cX2_readCommand 73 = .ok (.if_icmp .ne 5, 3) := by decide +kernel
theorem dX2_readCommand_76 : decode cX2_readCommand 76 = .ok (.iconst 0, 1) := by decide +kernel
theorem dX2_readCommand_77 : decode cX2_readCommand 77 = .ok (.ireturn, 1) := by decide +kernel
theorem dX2_readCommand_78 : decode cX2_readCommand 78 = .ok (.aload_n 1, 1) := by decide +kernel
theorem dX2_readCommand_79 : decode cX2_readCommand 79 = .ok (.iload_n 3, 1) := by decide +kernel
theorem dX2_readCommand_80 : decode cX2_readCommand 80 = .ok (.iload 4, 2) := by decide +kernel
theorem dX2_readCommand_82 : decode cX2_readCommand 82 = .ok (.invokevirtual 54, 3) := by decide +kernel
theorem dX2_readCommand_85 : decode cX2_readCommand 85 = .ok (.iinc 3 1, 3) := by decide +kernel
theorem dX2_readCommand_88 : decode cX2_readCommand 88 = .ok (.goto (-46), 3) := by decide +kernel
theorem dX2_readCommand_91 : decode cX2_readCommand 91 = .ok (.iconst 1, 1) := by decide +kernel
theorem dX2_readCommand_92 : decode cX2_readCommand 92 = .ok (.ireturn, 1) := by decide +kernel
theorem dX2_readKeyword_0 : decode cX2_readKeyword 0 = .ok (.iconst 0, 1) := by decide +kernel
theorem dX2_readKeyword_1 : decode cX2_readKeyword 1 = .ok (.istore_n 1, 1) := by decide +kernel
theorem dX2_readKeyword_2 : decode cX2_readKeyword 2 = .ok (.iconst 0, 1) := by decide +kernel
theorem dX2_readKeyword_3 : decode cX2_readKeyword 3 = .ok (.istore_n 2, 1) := by decide +kernel
theorem dX2_readKeyword_4 : decode cX2_readKeyword 4 = .ok (.iload_n 2, 1) := by decide +kernel
theorem dX2_readKeyword_5 : decode cX2_readKeyword 5 = .ok (.getstatic 75, 3) := by decide +kernel
theorem dX2_readKeyword_8 : decode cX2_readKeyword 8 = .ok (.arraylength, 1) := by decide +kernel
theorem dX2_readKeyword_9 : decode cX2_readKeyword 9 = .ok (.if_icmp .ge 58, 3) := by decide +kernel
theorem dX2_readKeyword_12 : decode cX2_readKeyword 12 = .ok (.getstatic 75, 3) := by decide +kernel
theorem dX2_readKeyword_15 : decode cX2_readKeyword 15 = .ok (.iload_n 2, 1) := by decide +kernel
theorem dX2_readKeyword_16 : decode cX2_readKeyword 16 = .ok (.aaload, 1) := by decide +kernel
theorem dX2_readKeyword_17 : decode cX2_readKeyword 17 = .ok (.getfield 79, 3) := by decide +kernel
theorem dX2_readKeyword_20 : decode cX2_readKeyword 20 = .ok (.astore_n 3, 1) := by decide +kernel
theorem dX2_readKeyword_21 : decode cX2_readKeyword 21 = .ok (.aload_n 0, 1) := by decide +kernel
theorem dX2_readKeyword_22 : decode cX2_readKeyword 22 = .ok (.aload_n 3, 1) := by decide +kernel
theorem dX2_readKeyword_23 : decode cX2_readKeyword 23 = .ok (.invokevirtual 82, 3) := by decide +kernel
theorem dX2_readKeyword_26 : decode cX2_readKeyword 26 = .ok (.istore 4, 2) := by decide +kernel
theorem dX2_readKeyword_28 : decode cX2_readKeyword 28 = .ok (.iload 4, 2) := by decide +kernel
theorem dX2_readKeyword_30 : decode cX2_readKeyword 30 = .ok (.aload_n 3, 1) := by decide +kernel
theorem dX2_readKeyword_31 : decode cX2_readKeyword 31 = .ok (.invokevirtual 62, 3) := by decide +kernel
theorem dX2_readKeyword_34 : decode cX2_readKeyword 34 = .ok (.if_icmp .ne 20, 3) := by decide +kernel
theorem dX2_readKeyword_37 : decode cX2_readKeyword 37 = .ok (.aload_n 0, 1) := by decide +kernel
theorem dX2_readKeyword_38 : decode cX2_readKeyword 38 = .ok (.dup, 1) := by decide +kernel
theorem dX2_readKeyword_39 : decode cX2_readKeyword 39 = .ok (.getfield 26, 3) := by decide +kernel
theorem dX2_readKeyword_42 : decode cX2_readKeyword 42 = .ok (.iload 4, 2) := by decide +kernel
theorem dX2_readKeyword_44 : decode cX2_readKeyword 44 = .ok (.iadd, 1) := by decide +kernel
theorem dX2_readKeyword_45 : decode cX2_readKeyword 45 = .ok (.putfield 26, 3) := by decide +kernel
theorem dX2_readKeyword_48 : decode cX2_readKeyword 48 = .ok (.getstatic 75, 3) := by decide +kernel
theorem dX2_readKeyword_51 : decode cX2_readKeyword 51 = .ok (.iload_n 2, 1) := by decide +kernel
theorem dX2_readKeyword_52 : decode cX2_readKeyword 52 = .ok (.aaload, 1) := by decide +kernel
theorem dX2_readKeyword_53 : decode cX2_readKeyword 53 = .ok (.areturn, 1) := by decide +kernel
theorem dX2_readKeyword_54 : decode cX2_readKeyword 54 = .ok (.iload_n 1, 1) := by decide +kernel
theorem dX2_readKeyword_55 : decode cX2_readKeyword 55 = .ok (.iload 4, 2) := by decide +kernel
theorem dX2_readKeyword_57 : decode cX2_readKeyword 57 = .ok (.invokestatic 86, 3) := by decide +kernel
theorem dX2_readKeyword_60 : decode cX2_readKeyword 60 = .ok (.istore_n 1, 1) := by decide +kernel
theorem dX2_readKeyword_61 : decode cX2_readKeyword 61 = .ok (.iinc 2 1, 3) := by decide +kernel
theorem dX2_readKeyword_64 : decode cX2_readKeyword 64 = .ok (.goto (-60), 3) := by decide +kernel
theorem dX2_readKeyword_67 : decode cX2_readKeyword 67 = .ok (.aload_n 0, 1) := by decide +kernel
theorem dX2_readKeyword_68 : decode cX2_readKeyword 68 = .ok (.dup, 1) := by decide +kernel
theorem dX2_readKeyword_69 : decode cX2_readKeyword 69 = .ok (.getfield 26, 3) := by decide +kernel
theorem dX2_readKeyword_72 : decode cX2_readKeyword 72 = .ok (.iload_n 1, 1) := by decide +kernel
theorem dX2_readKeyword_73 : decode cX2_readKeyword 73 = .ok (.iadd, 1) := by decide +kernel
theorem dX2_readKeyword_74 : decode cX2_readKeyword 74 = .ok (.putfield 26, 3) := by decide +kernel
theorem dX2_readKeyword_77 : decode cX2_readKeyword 77 = .ok (.aconst_null, 1) := by decide +kernel
theorem dX2_readKeyword_78 : decode cX2_readKeyword 78 = .ok (.areturn, 1) := by decide +kernel
theorem dX2_commonLetters_0 : decode cX2_commonLetters 0 = .ok (.iconst 0, 1) := by decide +kernel
theorem dX2_commonLetters_1 : decode cX2_commonLetters 1 = .ok (.istore_n 2, 1) := by decide +kernel
theorem dX2_commonLetters_2 : decode cX2_commonLetters 2 = .ok (.iload_n 2, 1) := by decide +kernel
theorem dX2_commonLetters_3 : decode cX2_commonLetters 3 = .ok (.aload_n 1, 1) := by decide +kernel
theorem dX2_commonLetters_4 : decode cX2_commonLetters 4 = .ok (.invokevirtual 62, 3) := by decide +kernel
theorem dX2_commonLetters_7 : decode cX2_commonLetters 7 = .ok (.if_icmp .ge 41, 3) := by decide +kernel
theorem dX2_commonLetters_10 : decode cX2_commonLetters 10 = .ok (.aload_n 0, 1) := by decide +kernel
theorem dX2_commonLetters_11 : decode cX2_commonLetters 11 = .ok (.getfield 26, 3) := by decide +kernel
theorem dX2_commonLetters_14 : decode cX2_commonLetters 14 = .ok (.iload_n 2, 1) := by decide +kernel
theorem dX2_commonLetters_15 : decode cX2_commonLetters 15 = .ok (.iadd, 1) := by decide +kernel
theorem dX2_commonLetters_16 : decode cX2_commonLetters 16 = .ok (.aload_n 0, 1) := by decide +kernel
theorem dX2_commonLetters_17 : decode cX2_commonLetters 17 = .ok (.getfield 22, 3) := by decide +kernel
theorem dX2_commonLetters_20 : decode cX2_commonLetters 20 = .ok (.if_icmp .ge 28, 3) := by decide +kernel
theorem dX2_commonLetters_23 : decode cX2_commonLetters 23 = .ok (.aload_n 0, 1) := by decide +kernel
theorem dX2_commonLetters_24 : decode cX2_commonLetters 24 = .ok (.getfield 9, 3) := by decide +kernel
theorem dX2_commonLetters_27 : decode cX2_commonLetters 27 = .ok (.aload_n 0, 1) := by decide +kernel
theorem dX2_commonLetters_28 : decode cX2_commonLetters 28 = .ok (.getfield 26, 3) := by decide +kernel
theorem dX2_commonLetters_31 : decode cX2_commonLetters 31 = .ok (.iload_n 2, 1) := by decide +kernel
theorem dX2_commonLetters_32 : decode cX2_commonLetters 32 = .ok (.iadd, 1) := by decide +kernel
theorem dX2_commonLetters_33 : decode cX2_commonLetters 33 = .ok (.caload, 1) := by decide +kernel
theorem dX2_commonLetters_34 : decode cX2_commonLetters 34 = .ok (.aload_n 1, 1) := by decide +kernel
theorem dX2_commonLetters_35 : decode cX2_commonLetters 35 = .ok (.iload_n 2, 1) := by decide +kernel
theorem dX2_commonLetters_36 : decode cX2_commonLetters 36 = .ok (.invokevirtual 67, 3) := by decide +kernel
theorem dX2_commonLetters_39 : decode cX2_commonLetters 39 = .ok (.if_icmp .ne 9, 3) := by decide +kernel
theorem dX2_commonLetters_42 : decode cX2_commonLetters 42 = .ok (.iinc 2 1, 3) := by decide +kernel
theorem dX2_commonLetters_45 : decode cX2_commonLetters 45 = .ok (.goto (-43), 3) := by decide +kernel
theorem dX2_commonLetters_48 : decode cX2_commonLetters 48 = .ok (.iload_n 2, 1) := by decide +kernel
theorem dX2_commonLetters_49 : decode cX2_commonLetters 49 = .ok (.ireturn, 1) := by decide +kernel
theorem dX2_readBlankAndNumber_0 : decode cX2_readBlankAndNumber 0 = .ok (.aload_n 0, 1) := by decide +kernel
theorem dX2_readBlankAndNumber_1 : decode cX2_readBlankAndNumber 1 = .ok (.bipush 32, 2) := by decide +kernel
theorem dX2_readBlankAndNumber_3 : decode cX2_readBlankAndNumber 3 = .ok (.invokevirtual 36, 3) := by decide +kernel
theorem dX2_readBlankAndNumber_6 : decode cX2_readBlankAndNumber 6 = .ok (.ifCond .ne 5, 3) := by decide +kernel
theorem dX2_readBlankAndNumber_9 : decode cX2_readBlankAndNumber 9 = .ok (.iconst (-1), 1) := by decide +kernel
theorem dX2_readBlankAndNumber_10 : decode cX2_readBlankAndNumber 10 = .ok (.ireturn, 1) := by decide +kernel
theorem dX2_readBlankAndNumber_11 : decode cX2_readBlankAndNumber 11 = .ok (.aload_n 0, 1) := by decide +kernel
theorem dX2_readBlankAndNumber_12 : decode cX2_readBlankAndNumber 12 = .ok (.dup, 1) := by decide +kernel
theorem dX2_readBlankAndNumber_13 : decode cX2_readBlankAndNumber 13 = .ok (.getfield 26, 3) := by decide +kernel
theorem dX2_readBlankAndNumber_16 : decode cX2_readBlankAndNumber 16 = .ok (.iconst 1, 1) := by decide +kernel
theorem dX2_readBlankAndNumber_17 : decode cX2_readBlankAndNumber 17 = .ok (.iadd, 1) := by decide +kernel
theorem dX2_readBlankAndNumber_18 : decode cX2_readBlankAndNumber 18 = .ok (.putfield 26, 3) := by decide +kernel
theorem dX2_readBlankAndNumber_21 : decode cX2_readBlankAndNumber 21 = .ok (.aload_n 0, 1) := by decide +kernel
theorem dX2_readBlankAndNumber_22 : decode cX2_readBlankAndNumber 22 = .ok (.invokevirtual 92, 3) := by decide +kernel
theorem dX2_readBlankAndNumber_25 : decode cX2_readBlankAndNumber 25 = .ok (.ifCond .ne 5, 3) := by decide +kernel
theorem dX2_readBlankAndNumber_28 : decode cX2_readBlankAndNumber 28 = .ok (.iconst (-1), 1) := by decide +kernel
theorem dX2_readBlankAndNumber_29 : decode cX2_readBlankAndNumber 29 = .ok (.ireturn, 1) := by decide +kernel
theorem dX2_readBlankAndNumber_30 : decode cX2_readBlankAndNumber 30 = .ok (.iconst 0, 1) := by decide +kernel
theorem dX2_readBlankAndNumber_31 : decode cX2_readBlankAndNumber 31 = .ok (.istore_n 2, 1) := by decide +kernel
theorem dX2_readBlankAndNumber_32 : decode cX2_readBlankAndNumber 32 = .ok (.iconst 0, 1) := by decide +kernel
theorem dX2_readBlankAndNumber_33 : decode cX2_readBlankAndNumber 33 = .ok (.istore_n 3, 1) := by decide +kernel
theorem dX2_readBlankAndNumber_34 : decode cX2_readBlankAndNumber 34 = .ok (.iload_n 3, 1) := by decide +kernel
theorem dX2_readBlankAndNumber_35 : decode cX2_readBlankAndNumber 35 = .ok (.iload_n 1, 1) := by decide +kernel
theorem dX2_readBlankAndNumber_36 : decode cX2_readBlankAndNumber 36 = .ok (.if_icmp .ge 44, 3) := by decide +kernel
theorem dX2_readBlankAndNumber_39 : decode cX2_readBlankAndNumber 39 = .ok (.aload_n 0, 1) := by decide +kernel
theorem dX2_readBlankAndNumber_40 : decode cX2_readBlankAndNumber 40 = .ok (.invokevirtual 92, 3) := by decide +kernel
theorem dX2_readBlankAndNumber_43 : decode cX2_readBlankAndNumber 43 = .ok (.ifCond .eq 37, 3) := by decide +kernel
theorem dX2_readBlankAndNumber_46 : decode cX2_readBlankAndNumber 46 = .ok (.iload_n 2, 1) := by decide +kernel
theorem dX2_readBlankAndNumber_47 : decode cX2_readBlankAndNumber 47 = .ok (.bipush 10, 2) := by decide +kernel
theorem dX2_readBlankAndNumber_49 : decode cX2_readBlankAndNumber 49 = .ok (.imul, 1) := by decide +kernel
theorem dX2_readBlankAndNumber_50 : decode cX2_readBlankAndNumber 50 = .ok (.aload_n 0, 1) := by decide +kernel
theorem dX2_readBlankAndNumber_51 : decode cX2_readBlankAndNumber 51 = .ok (.getfield 9, 3) := by decide +kernel
theorem dX2_readBlankAndNumber_54 : decode cX2_readBlankAndNumber 54 = .ok (.aload_n 0, 1) := by decide +kernel
theorem dX2_readBlankAndNumber_55 : decode cX2_readBlankAndNumber 55 = .ok (.getfield 26, 3) := by decide +kernel
theorem dX2_readBlankAndNumber_58 : decode cX2_readBlankAndNumber 58 = .ok (.caload, 1) := by decide +kernel
theorem dX2_readBlankAndNumber_59 : decode cX2_readBlankAndNumber 59 = .ok (.bipush 48, 2) := by decide +kernel
theorem dX2_readBlankAndNumber_61 : decode cX2_readBlankAndNumber 61 = .ok (.isub, 1) := by decide +kernel
theorem dX2_readBlankAndNumber_62 : decode cX2_readBlankAndNumber 62 = .ok (.iadd, 1) := by decide +kernel
theorem dX2_readBlankAndNumber_63 : decode cX2_readBlankAndNumber 63 = .ok (.istore_n 2, 1) := by decide +kernel
theorem dX2_readBlankAndNumber_64 : decode cX2_readBlankAndNumber 64 = .ok (.aload_n 0, 1) := by decide +kernel
theorem dX2_readBlankAndNumber_65 : decode cX2_readBlankAndNumber 65 = .ok (.dup, 1) := by decide +kernel
theorem dX2_readBlankAndNumber_66 : decode cX2_readBlankAndNumber 66 = .ok (.getfield 26, 3) := by decide +kernel
theorem dX2_readBlankAndNumber_69 : decode cX2_readBlankAndNumber 69 = .ok (.iconst 1, 1) := by decide +kernel
theorem dX2_readBlankAndNumber_70 : decode cX2_readBlankAndNumber 70 = .ok (.iadd, 1) := by decide +kernel
theorem dX2_readBlankAndNumber_71 : decode cX2_readBlankAndNumber 71 = .ok (.putfield 26, 3) := by decide +kernel
theorem dX2_readBlankAndNumber_74 : decode cX2_readBlankAndNumber 74 = .ok (.iinc 3 1, 3) := by decide +kernel
theorem dX2_readBlankAndNumber_77 : decode cX2_readBlankAndNumber 77 = .ok (.goto (-43), 3) := by decide +kernel
theorem dX2_readBlankAndNumber_80 : decode cX2_readBlankAndNumber 80 = .ok (.iload_n 2, 1) := by decide +kernel
theorem dX2_readBlankAndNumber_81 : decode cX2_readBlankAndNumber 81 = .ok (.ireturn, 1) := by decide +kernel
theorem dX2_isAt_0 : decode cX2_isAt 0 = .ok (.aload_n 0, 1) := by decide +kernel
theorem dX2_isAt_1 : decode cX2_isAt 1 = .ok (.getfield 26, 3) := by decide +kernel
theorem dX2_isAt_4 : decode cX2_isAt 4 = .ok (.aload_n 0, 1) := by decide +kernel
theorem dX2_isAt_5 : decode cX2_isAt 5 = .ok (.getfield 22, 3) := by decide +kernel
theorem dX2_isAt_8 : decode cX2_isAt 8 = .ok (.if_icmp .ge 20, 3) := by decide +kernel
theorem dX2_isAt_11 : decode cX2_isAt 11 = .ok (.aload_n 0, 1) := by decide +kernel
theorem dX2_isAt_12 : decode cX2_isAt 12 = .ok (.getfield 9, 3) := by decide +kernel
theorem dX2_isAt_15 : decode cX2_isAt 15 = .ok (.aload_n 0, 1) := by decide +kernel
theorem dX2_isAt_16 : decode cX2_isAt 16 = .ok (.getfield 26, 3) := by decide +kernel
theorem dX2_isAt_19 : decode cX2_isAt 19 = .ok (.caload, 1) := by decide +kernel
theorem dX2_isAt_20 : decode cX2_isAt 20 = .ok (.iload_n 1, 1) := by decide +kernel
theorem dX2_isAt_21 : decode cX2_isAt 21 = .ok (.if_icmp .ne 7, 3) := by decide +kernel
theorem dX2_isAt_24 : decode cX2_isAt 24 = .ok (.iconst 1, 1) := by decide +kernel
theorem dX2_isAt_25 : decode cX2_isAt 25 = .ok (.goto 4, 3) := by decide +kernel
theorem dX2_isAt_28 : decode cX2_isAt 28 = .ok (.iconst 0, 1) := by decide +kernel
theorem dX2_isAt_29 : decode cX2_isAt 29 = .ok (.ireturn, 1) := by decide +kernel
theorem dX2_isAtDigit_0 : decode cX2_isAtDigit 0 = .ok (.aload_n 0, 1) := by decide +kernel
theorem dX2_isAtDigit_1 : decode cX2_isAtDigit 1 = .ok (.getfield 26, 3) := by decide +kernel
theorem dX2_isAtDigit_4 : decode cX2_isAtDigit 4 = .ok (.aload_n 0, 1) := by decide +kernel
theorem dX2_isAtDigit_5 : decode cX2_isAtDigit 5 = .ok (.getfield 22, 3) := by decide +kernel
theorem dX2_isAtDigit_8 : decode cX2_isAtDigit 8 = .ok (.if_icmp .ge 35, 3) := by decide +kernel
theorem dX2_isAtDigit_11 : decode cX2_isAtDigit 11 = .ok (.aload_n 0, 1) := by decide +kernel
theorem dX2_isAtDigit_12 : decode cX2_isAtDigit 12 = .ok (.getfield 9, 3) := by decide +kernel
theorem dX2_isAtDigit_15 : decode cX2_isAtDigit 15 = .ok (.aload_n 0, 1) := by decide +kernel
theorem dX2_isAtDigit_16 : decode cX2_isAtDigit 16 = .ok (.getfield 26, 3) := by decide +kernel
theorem dX2_isAtDigit_19 : decode cX2_isAtDigit 19 = .ok (.caload, 1) := by decide +kernel
theorem dX2_isAtDigit_20 : decode cX2_isAtDigit 20 = .ok (.bipush 48, 2) := by decide +kernel
theorem dX2_isAtDigit_22 : decode cX2_isAtDigit 22 = .ok (.if_icmp .lt 21, 3) := by decide +kernel
theorem dX2_isAtDigit_25 : decode cX2_isAtDigit 25 = .ok (.aload_n 0, 1) := by decide +kernel
theorem dX2_isAtDigit_26 : decode cX2_isAtDigit 26 = .ok (.getfield 9, 3) := by decide +kernel
theorem dX2_isAtDigit_29 : decode cX2_isAtDigit 29 = .ok (.aload_n 0, 1) := by decide +kernel
theorem dX2_isAtDigit_30 : decode cX2_isAtDigit 30 = .ok (.getfield 26, 3) := by decide +kernel
theorem dX2_isAtDigit_33 : decode cX2_isAtDigit 33 = .ok (.caload, 1) := by decide +kernel
theorem dX2_isAtDigit_34 : decode cX2_isAtDigit 34 = .ok (.bipush 57, 2) := by decide +kernel
theorem dX2_isAtDigit_36 : decode cX2_isAtDigit 36 = .ok (.if_icmp .gt 7, 3) := by decide +kernel
theorem dX2_isAtDigit_39 : decode cX2_isAtDigit 39 = .ok (.iconst 1, 1) := by decide +kernel
theorem dX2_isAtDigit_40 : decode cX2_isAtDigit 40 = .ok (.goto 4, 3) := by decide +kernel
theorem dX2_isAtDigit_43 : decode cX2_isAtDigit 43 = .ok (.iconst 0, 1) := by decide +kernel
theorem dX2_isAtDigit_44 : decode cX2_isAtDigit 44 = .ok (.ireturn, 1) := by decide +kernel
theorem dX3_init_0 : decode cX3_init 0 = .ok (.aload_n 0, 1) := by decide +kernel
theorem dX3_init_1 : decode cX3_init 1 = .ok (.invokespecial 3, 3) := by decide +kernel
theorem dX3_init_4 : decode cX3_init 4 = .ok (.aload_n 0, 1) := by decide +kernel
theorem dX3_init_5 : decode cX3_init 5 = .ok (.bipush 6, 2) := by decide +kernel
theorem dX3_init_7 : decode cX3_init 7 = .ok (.newarray .int, 2) := by decide +kernel
theorem dX3_init_9 : decode cX3_init 9 = .ok (.putfield 9, 3) := by decide +kernel
theorem dX3_init_12 : decode cX3_init 12 = .ok (.aload_n 0, 1) := by decide +kernel
theorem dX3_init_13 : decode cX3_init 13 = .ok (.bipush 6, 2) := by decide +kernel
theorem dX3_init_15 : decode cX3_init 15 = .ok (.newarray .int, 2) := by decide +kernel
theorem dX3_init_17 : decode cX3_init 17 = .ok (.putfield 15, 3) := by decide +kernel
theorem dX3_init_20 : decode cX3_init 20 = .ok (.aload_n 0, 1) := by decide +kernel
theorem dX3_init_21 : decode cX3_init 21 = .ok (.bipush 6, 2) := by decide +kernel
theorem dX3_init_23 : decode cX3_init 23 = .ok (.newarray .boolean, 2) := by decide +kernel
theorem dX3_init_25 : decode cX3_init 25 = .ok (.putfield 18, 3) := by decide +kernel
theorem dX3_init_28 : decode cX3_init 28 = .ok (.return_, 1) := by decide +kernel
theorem dX3_shareByGiving_0 : decode cX3_shareByGiving 0 = .ok (.aload_n 1, 1) := by decide +kernel
theorem dX3_shareByGiving_1 : decode cX3_shareByGiving 1 = .ok (.getfield 22, 3) := by decide +kernel
theorem dX3_shareByGiving_4 : decode cX3_shareByGiving 4 = .ok (.iload_n 2, 1) := by decide +kernel
theorem dX3_shareByGiving_5 : decode cX3_shareByGiving 5 = .ok (.invokevirtual 28, 3) := by decide +kernel
theorem dX3_shareByGiving_8 : decode cX3_shareByGiving 8 = .ok (.ifCond .ne 5, 3) := by decide +kernel
theorem dX3_shareByGiving_11 : decode cX3_shareByGiving 11 = .ok (.iconst 0, 1) := by decide +kernel
theorem dX3_shareByGiving_12 : decode cX3_shareByGiving 12 = .ok (.ireturn, 1) := by decide +kernel
theorem dX3_shareByGiving_13 : decode cX3_shareByGiving 13 = .ok (.aload_n 0, 1) := by decide +kernel
theorem dX3_shareByGiving_14 : decode cX3_shareByGiving 14 = .ok (.aload_n 1, 1) := by decide +kernel
theorem dX3_shareByGiving_15 : decode cX3_shareByGiving 15 = .ok (.invokevirtual 34, 3) := by decide +kernel
theorem dX3_shareByGiving_18 : decode cX3_shareByGiving 18 = .ok (.iconst 0, 1) := by decide +kernel
theorem dX3_shareByGiving_19 : decode cX3_shareByGiving 19 = .ok (.istore_n 3, 1) := by decide +kernel
theorem dX3_shareByGiving_20 : decode cX3_shareByGiving 20 = .ok (.iload_n 3, 1) := by decide +kernel
theorem dX3_shareByGiving_21 : decode cX3_shareByGiving 21 = .ok (.aload_n 0, 1) := by decide +kernel
theorem dX3_shareByGiving_22 : decode cX3_shareByGiving 22 = .ok (.getfield 38, 3) := by decide +kernel
theorem dX3_shareByGiving_25 : decode cX3_shareByGiving 25 = .ok (.if_icmp .ge 20, 3) := by decide +kernel
theorem dX3_shareByGiving_28 : decode cX3_shareByGiving 28 = .ok (.aload_n 0, 1) := by decide +kernel
theorem dX3_shareByGiving_29 : decode cX3_shareByGiving 29 = .ok (.aload_n 1, 1) := by decide +kernel
theorem dX3_shareByGiving_30 : decode cX3_shareByGiving 30 = .ok (.getfield 22, 3) := by decide +kernel
theorem dX3_shareByGiving_33 : decode cX3_shareByGiving 33 = .ok (.getfield 42, 3) := by decide +kernel
theorem dX3_shareByGiving_36 : decode cX3_shareByGiving 36 = .ok (.invokevirtual 45, 3) := by decide +kernel
theorem dX3_shareByGiving_39 : decode cX3_shareByGiving 39 = .ok (.iinc 3 1, 3) := by decide +kernel
theorem dX3_shareByGiving_42 : decode cX3_shareByGiving 42 = .ok (.goto (-22), 3) := by decide +kernel
theorem dX3_shareByGiving_45 : decode cX3_shareByGiving 45 = .ok (.aload_n 0, 1) := by decide +kernel
theorem dX3_shareByGiving_46 : decode cX3_shareByGiving 46 = .ok (.getfield 9, 3) := by decide +kernel
theorem dX3_shareByGiving_49 : decode cX3_shareByGiving 49 = .ok (.iload_n 2, 1) := by decide +kernel
theorem dX3_shareByGiving_50 : decode cX3_shareByGiving 50 = .ok (.iaload, 1) := by decide +kernel
theorem dX3_shareByGiving_51 : decode cX3_shareByGiving 51 = .ok (.ireturn, 1) := by decide +kernel
theorem dX3_shareByRemainderRank_0 : decode cX3_shareByRemainderRank 0 = .ok (.aload_n 1, 1) := by decide +kernel
theorem dX3_shareByRemainderRank_1 : decode cX3_shareByRemainderRank 1 = .ok (.getfield 22, 3) := by decide +kernel
theorem dX3_shareByRemainderRank_4 : decode cX3_shareByRemainderRank 4 = .ok (.iload_n 2, 1) := by decide +kernel
theorem dX3_shareByRemainderRank_5 : decode cX3_shareByRemainderRank 5 = .ok (.invokevirtual 28, 3) := by decide +kernel
theorem dX3_shareByRemainderRank_8 : decode cX3_shareByRemainderRank 8 = .ok (.ifCond .ne 5, 3) := by decide +kernel
theorem dX3_shareByRemainderRank_11 : decode cX3_shareByRemainderRank 11 = .ok (.iconst 0, 1) := by decide +kernel
theorem dX3_shareByRemainderRank_12 : decode cX3_shareByRemainderRank 12 = .ok (.ireturn, 1) := by decide +kernel
theorem dX3_shareByRemainderRank_13 : decode cX3_shareByRemainderRank 13 = .ok (.aload_n 0, 1) := by decide +kernel
theorem dX3_shareByRemainderRank_14 : decode cX3_shareByRemainderRank 14 = .ok (.aload_n 1, 1) := by decide +kernel
theorem dX3_shareByRemainderRank_15 : decode cX3_shareByRemainderRank 15 = .ok (.invokevirtual 34, 3) := by decide +kernel
theorem dX3_shareByRemainderRank_18 : decode cX3_shareByRemainderRank 18 = .ok (.aload_n 0, 1) := by decide +kernel
theorem dX3_shareByRemainderRank_19 : decode cX3_shareByRemainderRank 19 = .ok (.getfield 9, 3) := by decide +kernel
theorem dX3_shareByRemainderRank_22 : decode cX3_shareByRemainderRank 22 = .ok (.iload_n 2, 1) := by decide +kernel
theorem dX3_shareByRemainderRank_23 : decode cX3_shareByRemainderRank 23 = .ok (.iaload, 1) := by decide +kernel
theorem dX3_shareByRemainderRank_24 : decode cX3_shareByRemainderRank 24 = .ok (.aload_n 0, 1) := by decide +kernel
theorem dX3_shareByRemainderRank_25 : decode cX3_shareByRemainderRank 25 = .ok (.iload_n 2, 1) := by decide +kernel
theorem dX3_shareByRemainderRank_26 : decode cX3_shareByRemainderRank 26 = .ok (.aload_n 1, 1) := by decide +kernel
theorem dX3_shareByRemainderRank_27 : decode cX3_shareByRemainderRank 27 = .ok (.getfield 22, 3) := by decide +kernel
theorem dX3_shareByRemainderRank_30 : decode cX3_shareByRemainderRank 30 = .ok (.getfield 42, 3) := by decide +kernel
theorem dX3_shareByRemainderRank_33 : decode cX3_shareByRemainderRank 33 = .ok (.invokevirtual 49, 3) := by decide +kernel
theorem dX3_shareByRemainderRank_36 : decode cX3_shareByRemainderRank 36 = .ok (.aload_n 0, 1) := by decide +kernel
theorem dX3_shareByRemainderRank_37 : decode cX3_shareByRemainderRank 37 = .ok (.getfield 38, 3) := by decide +kernel
theorem dX3_shareByRemainderRank_40 : decode cX3_shareByRemainderRank 40 = .ok (.if_icmp .ge 7, 3) := by decide +kernel
theorem dX3_shareByRemainderRank_43 : decode cX3_shareByRemainderRank 43 = .ok (.iconst 1, 1) := by decide +kernel
theorem dX3_shareByRemainderRank_44 : decode cX3_shareByRemainderRank 44 = .ok (.goto 4, 3) := by decide +kernel
theorem dX3_shareByRemainderRank_47 : decode cX3_shareByRemainderRank 47 = .ok (.iconst 0, 1) := by decide +kernel
theorem dX3_shareByRemainderRank_48 : decode cX3_shareByRemainderRank 48 = .ok (.iadd, 1) := by decide +kernel
theorem dX3_shareByRemainderRank_49 : decode cX3_shareByRemainderRank 49 = .ok (.ireturn, 1) := by decide +kernel
theorem dX3_divideRoundedDown_0 : decode cX3_divideRoundedDown 0 = .ok (.aload_n 1, 1) := by decide +kernel
theorem dX3_divideRoundedDown_1 : decode cX3_divideRoundedDown 1 = .ok (.getfield 53, 3) := by decide +kernel
theorem dX3_divideRoundedDown_4 : decode cX3_divideRoundedDown 4 = .ok (.invokevirtual 57, 3) := by decide +kernel
theorem dX3_divideRoundedDown_7 : decode cX3_divideRoundedDown 7 = .ok (.istore_n 2, 1) := by decide +kernel
theorem dX3_divideRoundedDown_8 : decode cX3_divideRoundedDown 8 = .ok (.aload_n 0, 1) := by decide +kernel
theorem dX3_divideRoundedDown_9 : decode cX3_divideRoundedDown 9 = .ok (.iload_n 2, 1) := by decide +kernel
theorem dX3_divideRoundedDown_10 : decode cX3_divideRoundedDown 10 = .ok (.ifCond .le 10, 3) := by decide +kernel
theorem dX3_divideRoundedDown_13 : decode cX3_divideRoundedDown 13 = .ok (.aload_n 1, 1) := by decide +kernel
theorem dX3_divideRoundedDown_14 : decode cX3_divideRoundedDown 14 = .ok (.getfield 63, 3) := by decide +kernel
theorem dX3_divideRoundedDown_17 : decode cX3_divideRoundedDown 17 = .ok (.goto 4, 3) := by decide +kernel
theorem dX3_divideRoundedDown_20 : decode cX3_divideRoundedDown 20 = .ok (.iconst 0, 1) := by decide +kernel
theorem dX3_divideRoundedDown_21 : decode cX3_divideRoundedDown 21 = .ok (.putfield 38, 3) := by decide +kernel
theorem dX3_divideRoundedDown_24 : decode cX3_divideRoundedDown 24 = .ok (.iconst 0, 1) := by decide +kernel
theorem dX3_divideRoundedDown_25 : decode cX3_divideRoundedDown 25 = .ok (.istore_n 3, 1) := by decide +kernel
theorem dX3_divideRoundedDown_26 : decode cX3_divideRoundedDown 26 = .ok (.iload_n 3, 1) := by decide +kernel
theorem dX3_divideRoundedDown_27 : decode cX3_divideRoundedDown 27 = .ok (.aload_n 1, 1) := by decide +kernel
theorem dX3_divideRoundedDown_28 : decode cX3_divideRoundedDown 28 = .ok (.getfield 22, 3) := by decide +kernel
theorem dX3_divideRoundedDown_31 : decode cX3_divideRoundedDown 31 = .ok (.getfield 42, 3) := by decide +kernel
theorem dX3_divideRoundedDown_34 : decode cX3_divideRoundedDown 34 = .ok (.if_icmp .ge 82, 3) := by decide +kernel
theorem dX3_divideRoundedDown_37 : decode cX3_divideRoundedDown 37 = .ok (.aload_n 1, 1) := by decide +kernel
theorem dX3_divideRoundedDown_38 : decode cX3_divideRoundedDown 38 = .ok (.getfield 63, 3) := by decide +kernel
theorem dX3_divideRoundedDown_41 : decode cX3_divideRoundedDown 41 = .ok (.aload_n 1, 1) := by decide +kernel
theorem dX3_divideRoundedDown_42 : decode cX3_divideRoundedDown 42 = .ok (.getfield 53, 3) := by decide +kernel
theorem dX3_divideRoundedDown_45 : decode cX3_divideRoundedDown 45 = .ok (.iload_n 3, 1) := by decide +kernel
theorem dX3_divideRoundedDown_46 : decode cX3_divideRoundedDown 46 = .ok (.invokevirtual 66, 3) := by decide +kernel
theorem dX3_divideRoundedDown_49 : decode cX3_divideRoundedDown 49 = .ok (.imul, 1) := by decide +kernel
theorem dX3_divideRoundedDown_50 : decode cX3_divideRoundedDown 50 = .ok (.istore 4, 2) := by decide +kernel
theorem dX3_divideRoundedDown_52 : decode cX3_divideRoundedDown 52 = .ok (.aload_n 0, 1) := by decide +kernel
theorem dX3_divideRoundedDown_53 : decode cX3_divideRoundedDown 53 = .ok (.getfield 9, 3) := by decide +kernel
theorem dX3_divideRoundedDown_56 : decode cX3_divideRoundedDown 56 = .ok (.iload_n 3, 1) := by decide +kernel
theorem dX3_divideRoundedDown_57 : decode cX3_divideRoundedDown 57 = .ok (.iload_n 2, 1) := by decide +kernel
theorem dX3_divideRoundedDown_58 : decode cX3_divideRoundedDown 58 = .ok (.ifCond .le 10, 3) := by decide +kernel
theorem dX3_divideRoundedDown_61 : decode cX3_divideRoundedDown 61 = .ok (.iload 4, 2) := by decide +kernel
theorem dX3_divideRoundedDown_63 : decode cX3_divideRoundedDown 63 = .ok (.iload_n 2, 1) := by decide +kernel
theorem dX3_divideRoundedDown_64 : decode cX3_divideRoundedDown 64 = .ok (.idiv, 1) := by decide +kernel
theorem dX3_divideRoundedDown_65 : decode cX3_divideRoundedDown 65 = .ok (.goto 4, 3) := by decide +kernel
theorem dX3_divideRoundedDown_68 : decode cX3_divideRoundedDown 68 = .ok (.iconst 0, 1) := by decide +kernel
theorem dX3_divideRoundedDown_69 : decode cX3_divideRoundedDown 69 = .ok (.iastore, 1) := by decide +kernel
theorem dX3_divideRoundedDown_70 : decode cX3_divideRoundedDown 70 = .ok (.aload_n 0, 1) := by decide +kernel
theorem dX3_divideRoundedDown_71 : decode cX3_divideRoundedDown 71 = .ok (.getfield 15, 3) := by decide +kernel
theorem dX3_divideRoundedDown_74 : decode cX3_divideRoundedDown 74 = .ok (.iload_n 3, 1) := by decide +kernel
theorem dX3_divideRoundedDown_75 : decode cX3_divideRoundedDown 75 = .ok (.iload_n 2, 1) := by decide +kernel
theorem dX3_divideRoundedDown_76 : decode cX3_divideRoundedDown 76 = .ok (.ifCond .le 10, 3) := by decide +kernel
theorem dX3_divideRoundedDown_79 : decode cX3_divideRoundedDown 79 = .ok (.iload 4, 2) := by decide +kernel
theorem dX3_divideRoundedDown_81 : decode cX3_divideRoundedDown 81 = .ok (.iload_n 2, 1) := by decide +kernel
theorem dX3_divideRoundedDown_82 : decode cX3_divideRoundedDown 82 = .ok (.irem, 1) := by decide +kernel
theorem dX3_divideRoundedDown_83 : decode cX3_divideRoundedDown 83 = .ok (.goto 4, 3) := by decide +kernel
theorem dX3_divideRoundedDown_86 : decode cX3_divideRoundedDown 86 = .ok (.iconst 0, 1) := by decide +kernel
theorem dX3_divideRoundedDown_87 : decode cX3_divideRoundedDown 87 = .ok (.iastore, 1) := by decide +kernel
theorem dX3_divideRoundedDown_88 : decode cX3_divideRoundedDown 88 = .ok (.aload_n 0, 1) := by decide +kernel
theorem dX3_divideRoundedDown_89 : decode cX3_divideRoundedDown 89 = .ok (.getfield 18, 3) := by decide +kernel
theorem dX3_divideRoundedDown_92 : decode cX3_divideRoundedDown 92 = .ok (.iload_n 3, 1) := by decide +kernel
theorem dX3_divideRoundedDown_93 : decode cX3_divideRoundedDown 93 = .ok (.iconst 0, 1) := by decide +kernel
theorem dX3_divideRoundedDown_94 : decode cX3_divideRoundedDown 94 = .ok (.bastore, 1) := by decide +kernel
theorem dX3_divideRoundedDown_95 : decode cX3_divideRoundedDown 95 = .ok (.aload_n 0, 1) := by decide +kernel
theorem dX3_divideRoundedDown_96 : decode cX3_divideRoundedDown 96 = .ok (.dup, 1) := by decide +kernel
theorem dX3_divideRoundedDown_97 : decode cX3_divideRoundedDown 97 = .ok (.getfield 38, 3) := by decide +kernel
theorem dX3_divideRoundedDown_100 : decode cX3_divideRoundedDown 100 = .ok (.aload_n 0, 1) := by decide +kernel
theorem dX3_divideRoundedDown_101 : decode cX3_divideRoundedDown 101 = .ok (.getfield 9, 3) := by decide +kernel
theorem dX3_divideRoundedDown_104 : decode cX3_divideRoundedDown 104 = .ok (.iload_n 3, 1) := by decide +kernel
theorem dX3_divideRoundedDown_105 : decode cX3_divideRoundedDown 105 = .ok (.iaload, 1) := by decide +kernel
theorem dX3_divideRoundedDown_106 : decode cX3_divideRoundedDown 106 = .ok (.isub, 1) := by decide +kernel
theorem dX3_divideRoundedDown_107 : decode cX3_divideRoundedDown 107 = .ok (.putfield 38, 3) := by decide +kernel
theorem dX3_divideRoundedDown_110 : decode cX3_divideRoundedDown 110 = .ok (.iinc 3 1, 3) := by decide +kernel
theorem dX3_divideRoundedDown_113 : decode cX3_divideRoundedDown 113 = .ok (.goto (-87), 3) := by decide +kernel
theorem dX3_divideRoundedDown_116 : decode cX3_divideRoundedDown 116 = .ok (.return_, 1) := by decide +kernel
theorem dX3_giveOneUnit_0 : decode cX3_giveOneUnit 0 = .ok (.iconst (-1), 1) := by decide +kernel
theorem dX3_giveOneUnit_1 : decode cX3_giveOneUnit 1 = .ok (.istore_n 2, 1) := by decide +kernel
theorem dX3_giveOneUnit_2 : decode cX3_giveOneUnit 2 = .ok (.iconst 0, 1) := by decide +kernel
theorem dX3_giveOneUnit_3 : decode cX3_giveOneUnit 3 = .ok (.istore_n 3, 1) := by decide +kernel
theorem dX3_giveOneUnit_4 : decode cX3_giveOneUnit 4 = .ok (.iload_n 3, 1) := by decide +kernel
theorem dX3_giveOneUnit_5 : decode cX3_giveOneUnit 5 = .ok (.iload_n 1, 1) := by decide +kernel
theorem dX3_giveOneUnit_6 : decode cX3_giveOneUnit 6 = .ok (.if_icmp .ge 46, 3) := by decide +kernel
theorem dX3_giveOneUnit_9 : decode cX3_giveOneUnit 9 = .ok (.iload_n 3, 1) := by decide +kernel
theorem dX3_giveOneUnit_10 : decode cX3_giveOneUnit 10 = .ok (.bipush 6, 2) := by decide +kernel
theorem dX3_giveOneUnit_12 : decode cX3_giveOneUnit 12 = .ok (.if_icmp .ge 40, 3) := by decide +kernel
theorem dX3_giveOneUnit_15 : decode cX3_giveOneUnit 15 = .ok (.aload_n 0, 1) := by decide +kernel
theorem dX3_giveOneUnit_16 : decode cX3_giveOneUnit 16 = .ok (.getfield 18, 3) := by decide +kernel
theorem dX3_giveOneUnit_19 : decode cX3_giveOneUnit 19 = .ok (.iload_n 3, 1) := by decide +kernel
theorem dX3_giveOneUnit_20 : decode cX3_giveOneUnit 20 = .ok (.baload, 1) := by decide +kernel
theorem dX3_giveOneUnit_21 : decode cX3_giveOneUnit 21 = .ok (.ifCond .ne 25, 3) := by decide +kernel
theorem dX3_giveOneUnit_24 : decode cX3_giveOneUnit 24 = .ok (.iload_n 2, 1) := by decide +kernel
theorem dX3_giveOneUnit_25 : decode cX3_giveOneUnit 25 = .ok (.iconst (-1), 1) := by decide +kernel
theorem dX3_giveOneUnit_26 : decode cX3_giveOneUnit 26 = .ok (.if_icmp .eq 18, 3) := by decide +kernel
theorem dX3_giveOneUnit_29 : decode cX3_giveOneUnit 29 = .ok (.aload_n 0, 1) := by decide +kernel
theorem dX3_giveOneUnit_30 : decode cX3_giveOneUnit 30 = .ok (.getfield 15, 3) := by decide +kernel
theorem dX3_giveOneUnit_33 : decode cX3_giveOneUnit 33 = .ok (.iload_n 3, 1) := by decide +kernel
theorem dX3_giveOneUnit_34 : decode cX3_giveOneUnit 34 = .ok (.iaload, 1) := by decide +kernel
theorem dX3_giveOneUnit_35 : decode cX3_giveOneUnit 35 = .ok (.aload_n 0, 1) := by decide +kernel
theorem dX3_giveOneUnit_36 : decode cX3_giveOneUnit 36 = .ok (.getfield 15, 3) := by decide +kernel
theorem dX3_giveOneUnit_39 : decode cX3_giveOneUnit 39 = .ok (.iload_n 2, 1) := by decide +kernel
theorem dX3_giveOneUnit_40 : decode cX3_giveOneUnit 40 = .ok (.iaload, 1) := by decide +kernel
theorem dX3_giveOneUnit_41 : decode cX3_giveOneUnit 41 = .ok (.if_icmp .le 5, 3) := by decide +kernel
theorem dX3_giveOneUnit_44 : decode cX3_giveOneUnit 44 = .ok (.iload_n 3, 1) := by decide +kernel
theorem dX3_giveOneUnit_45 : decode cX3_giveOneUnit 45 = .ok (.istore_n 2, 1) := by decide +kernel
theorem dX3_giveOneUnit_46 : decode cX3_giveOneUnit 46 = .ok (.iinc 3 1, 3) := by decide +kernel
theorem dX3_giveOneUnit_49 : decode cX3_giveOneUnit 49 = .ok (.goto (-45), 3) := by decide +kernel
theorem dX3_giveOneUnit_52 : decode cX3_giveOneUnit 52 = .ok (.iload_n 2, 1) := by decide +kernel
theorem dX3_giveOneUnit_53 : decode cX3_giveOneUnit 53 = .ok (.iconst (-1), 1) := by decide +kernel
theorem dX3_giveOneUnit_54 : decode cX3_giveOneUnit 54 = .ok (.if_icmp .eq 20, 3) := by decide +kernel
theorem dX3_giveOneUnit_57 : decode cX3_giveOneUnit 57 = .ok (.aload_n 0, 1) := by decide +kernel
theorem dX3_giveOneUnit_58 : decode cX3_giveOneUnit 58 = .ok (.getfield 18, 3) := by decide +kernel
theorem dX3_giveOneUnit_61 : decode cX3_giveOneUnit 61 = .ok (.iload_n 2, 1) := by decide +kernel
theorem dX3_giveOneUnit_62 : decode cX3_giveOneUnit 62 = .ok (.iconst 1, 1) := by decide +kernel
theorem dX3_giveOneUnit_63 : decode cX3_giveOneUnit 63 = .ok (.bastore, 1) := by decide +kernel
theorem dX3_giveOneUnit_64 : decode cX3_giveOneUnit 64 = .ok (.aload_n 0, 1) := by decide +kernel
theorem dX3_giveOneUnit_65 : decode cX3_giveOneUnit 65 = .ok (.getfield 9, 3) := by decide +kernel
theorem dX3_giveOneUnit_68 : decode cX3_giveOneUnit 68 = .ok (.iload_n 2, 1) := by decide +kernel
theorem dX3_giveOneUnit_69 : decode cX3_giveOneUnit 69 = .ok (.dup2, 1) := by decide +kernel
theorem dX3_giveOneUnit_70 : decode cX3_giveOneUnit 70 = .ok (.iaload, 1) := by decide +kernel
theorem dX3_giveOneUnit_71 : decode cX3_giveOneUnit 71 = .ok (.iconst 1, 1) := by decide +kernel
theorem dX3_giveOneUnit_72 : decode cX3_giveOneUnit 72 = .ok (.iadd, 1) := by decide +kernel
theorem dX3_giveOneUnit_73 : decode cX3_giveOneUnit 73 = .ok (.iastore, 1) := by decide +kernel
theorem dX3_giveOneUnit_74 : decode cX3_giveOneUnit 74 = .ok (.return_, 1) := by decide +kernel
theorem dX3_rankOf_0 : decode cX3_rankOf 0 = .ok (.iconst 0, 1) := by decide +kernel
theorem dX3_rankOf_1 : decode cX3_rankOf 1 = .ok (.istore_n 3, 1) := by decide +kernel
theorem dX3_rankOf_2 : decode cX3_rankOf 2 = .ok (.iconst 0, 1) := by decide +kernel
theorem dX3_rankOf_3 : decode cX3_rankOf 3 = .ok (.istore 4, 2) := by decide +kernel
theorem dX3_rankOf_5 : decode cX3_rankOf 5 = .ok (.iload 4, 2) := by decide +kernel
theorem dX3_rankOf_7 : decode cX3_rankOf 7 = .ok (.iload_n 2, 1) := by decide +kernel
theorem dX3_rankOf_8 : decode cX3_rankOf 8 = .ok (.if_icmp .ge 57, 3) := by decide +kernel
theorem dX3_rankOf_11 : decode cX3_rankOf 11 = .ok (.iload 4, 2) := by decide +kernel
theorem dX3_rankOf_13 : decode cX3_rankOf 13 = .ok (.bipush 6, 2) := by decide +kernel
theorem dX3_rankOf_15 : decode cX3_rankOf 15 = .ok (.if_icmp .ge 50, 3) := by decide +kernel
theorem dX3_rankOf_18 : decode cX3_rankOf 18 = .ok (.aload_n 0, 1) := by decide +kernel
theorem dX3_rankOf_19 : decode cX3_rankOf 19 = .ok (.getfield 15, 3) := by decide +kernel
theorem dX3_rankOf_22 : decode cX3_rankOf 22 = .ok (.iload 4, 2) := by decide +kernel
theorem dX3_rankOf_24 : decode cX3_rankOf 24 = .ok (.iaload, 1) := by decide +kernel
theorem dX3_rankOf_25 : decode cX3_rankOf 25 = .ok (.aload_n 0, 1) := by decide +kernel
theorem dX3_rankOf_26 : decode cX3_rankOf 26 = .ok (.getfield 15, 3) := by decide +kernel
theorem dX3_rankOf_29 : decode cX3_rankOf 29 = .ok (.iload_n 1, 1) := by decide +kernel
theorem dX3_rankOf_30 : decode cX3_rankOf 30 = .ok (.iaload, 1) := by decide +kernel
theorem dX3_rankOf_31 : decode cX3_rankOf 31 = .ok (.if_icmp .gt 25, 3) := by decide +kernel
theorem dX3_rankOf_34 : decode cX3_rankOf 34 = .ok (.aload_n 0, 1) := by decide +kernel
theorem dX3_rankOf_35 : decode cX3_rankOf 35 = .ok (.getfield 15, 3) := by decide +kernel
theorem dX3_rankOf_38 : decode cX3_rankOf 38 = .ok (.iload 4, 2) := by decide +kernel
theorem dX3_rankOf_40 : decode cX3_rankOf 40 = .ok (.iaload, 1) := by decide +kernel
theorem dX3_rankOf_41 : decode cX3_rankOf 41 = .ok (.aload_n 0, 1) := by decide +kernel
theorem dX3_rankOf_42 : decode cX3_rankOf 42 = .ok (.getfield 15, 3) := by decide +kernel
theorem dX3_rankOf_45 : decode cX3_rankOf 45 = .ok (.iload_n 1, 1) := by decide +kernel
theorem dX3_rankOf_46 : decode cX3_rankOf 46 = .ok (.iaload, 1) := by decide +kernel
theorem dX3_rankOf_47 : decode cX3_rankOf 47 = .ok (.if_icmp .ne 12, 3) := by decide +kernel
theorem dX3_rankOf_50 : decode cX3_rankOf 50 = .ok (.iload 4, 2) := by decide +kernel
theorem dX3_rankOf_52 : decode cX3_rankOf 52 = .ok (.iload_n 1, 1) := by decide +kernel
theorem dX3_rankOf_53 : decode cX3_rankOf 53 = .ok (.if_icmp .ge 6, 3) := by decide +kernel
theorem dX3_rankOf_56 : decode cX3_rankOf 56 = .ok (.iinc 3 1, 3) := by decide +kernel
theorem dX3_rankOf_59 : decode cX3_rankOf 59 = .ok (.iinc 4 1, 3) := by decide +kernel
theorem dX3_rankOf_62 : decode cX3_rankOf 62 = .ok (.goto (-57), 3) := by decide +kernel
theorem dX3_rankOf_65 : decode cX3_rankOf 65 = .ok (.iload_n 3, 1) := by decide +kernel
theorem dX3_rankOf_66 : decode cX3_rankOf 66 = .ok (.ireturn, 1) := by decide +kernel
theorem dX4_init_0 : decode cX4_init 0 = .ok (.aload_n 0, 1) := by decide +kernel
theorem dX4_init_1 : decode cX4_init 1 = .ok (.invokespecial 3, 3) := by decide +kernel
theorem dX4_init_4 : decode cX4_init 4 = .ok (.aload_n 0, 1) := by decide +kernel
theorem dX4_init_5 : decode cX4_init 5 = .ok (.bipush 25, 2) := by decide +kernel
theorem dX4_init_7 : decode cX4_init 7 = .ok (.newarray .int, 2) := by decide +kernel
theorem dX4_init_9 : decode cX4_init 9 = .ok (.putfield 9, 3) := by decide +kernel
theorem dX4_init_12 : decode cX4_init 12 = .ok (.return_, 1) := by decide +kernel
theorem dX4_hoursByPassing_0 : decode cX4_hoursByPassing 0 = .ok (.aload_n 1, 1) := by decide +kernel
theorem dX4_hoursByPassing_1 : decode cX4_hoursByPassing 1 = .ok (.getfield 15, 3) := by decide +kernel
theorem dX4_hoursByPassing_4 : decode cX4_hoursByPassing 4 = .ok (.istore_n 2, 1) := by decide +kernel
theorem dX4_hoursByPassing_5 : decode cX4_hoursByPassing 5 = .ok (.iconst 0, 1) := by decide +kernel
theorem dX4_hoursByPassing_6 : decode cX4_hoursByPassing 6 = .ok (.istore_n 3, 1) := by decide +kernel
theorem dX4_hoursByPassing_7 : decode cX4_hoursByPassing 7 = .ok (.iload_n 3, 1) := by decide +kernel
theorem dX4_hoursByPassing_8 : decode cX4_hoursByPassing 8 = .ok (.sipush 500, 3) := by decide +kernel
theorem dX4_hoursByPassing_11 : decode cX4_hoursByPassing 11 = .ok (.if_icmp .gt 44, 3) := by decide +kernel
theorem dX4_hoursByPassing_14 : decode cX4_hoursByPassing 14 = .ok (.aload_n 1, 1) := by decide +kernel
theorem dX4_hoursByPassing_15 : decode cX4_hoursByPassing 15 = .ok (.getfield 21, 3) := by decide +kernel
theorem dX4_hoursByPassing_18 : decode cX4_hoursByPassing 18 = .ok (.aload_n 1, 1) := by decide +kernel
theorem dX4_hoursByPassing_19 : decode cX4_hoursByPassing 19 = .ok (.getfield 25, 3) := by decide +kernel
theorem dX4_hoursByPassing_22 : decode cX4_hoursByPassing 22 = .ok (.iload_n 3, 1) := by decide +kernel
theorem dX4_hoursByPassing_23 : decode cX4_hoursByPassing 23 = .ok (.iadd, 1) := by decide +kernel
theorem dX4_hoursByPassing_24 : decode cX4_hoursByPassing 24 = .ok (.invokevirtual 28, 3) := by decide +kernel
theorem dX4_hoursByPassing_27 : decode cX4_hoursByPassing 27 = .ok (.istore 4, 2) := by decide +kernel
theorem dX4_hoursByPassing_29 : decode cX4_hoursByPassing 29 = .ok (.iload 4, 2) := by decide +kernel
theorem dX4_hoursByPassing_31 : decode cX4_hoursByPassing 31 = .ok (.ifCond .ne 5, 3) := by decide +kernel
theorem dX4_hoursByPassing_34 : decode cX4_hoursByPassing 34 = .ok (.iconst (-1), 1) := by decide +kernel
theorem dX4_hoursByPassing_35 : decode cX4_hoursByPassing 35 = .ok (.ireturn, 1) := by decide +kernel
theorem dX4_hoursByPassing_36 : decode cX4_hoursByPassing 36 = .ok (.iload 4, 2) := by decide +kernel
theorem dX4_hoursByPassing_38 : decode cX4_hoursByPassing 38 = .ok (.iload_n 2, 1) := by decide +kernel
theorem dX4_hoursByPassing_39 : decode cX4_hoursByPassing 39 = .ok (.if_icmp .le 5, 3) := by decide +kernel
theorem dX4_hoursByPassing_42 : decode cX4_hoursByPassing 42 = .ok (.iload_n 3, 1) := by decide +kernel
theorem dX4_hoursByPassing_43 : decode cX4_hoursByPassing 43 = .ok (.ireturn, 1) := by decide +kernel
theorem dX4_hoursByPassing_44 : decode cX4_hoursByPassing 44 = .ok (.iload_n 2, 1) := by decide +kernel
theorem dX4_hoursByPassing_45 : decode cX4_hoursByPassing 45 = .ok (.iload 4, 2) := by decide +kernel
theorem dX4_hoursByPassing_47 : decode cX4_hoursByPassing 47 = .ok (.isub, 1) := by decide +kernel
theorem dX4_hoursByPassing_48 : decode cX4_hoursByPassing 48 = .ok (.istore_n 2, 1) := by decide +kernel
theorem dX4_hoursByPassing_49 : decode cX4_hoursByPassing 49 = .ok (.iinc 3 1, 3) := by decide +kernel
theorem dX4_hoursByPassing_52 : decode cX4_hoursByPassing 52 = .ok (.goto (-45), 3) := by decide +kernel
theorem dX4_hoursByPassing_55 : decode cX4_hoursByPassing 55 = .ok (.iconst (-1), 1) := by decide +kernel
theorem dX4_hoursByPassing_56 : decode cX4_hoursByPassing 56 = .ok (.ireturn, 1) := by decide +kernel
theorem dX4_hoursByEndHours_0 : decode cX4_hoursByEndHours 0 = .ok (.aload_n 1, 1) := by decide +kernel
theorem dX4_hoursByEndHours_1 : decode cX4_hoursByEndHours 1 = .ok (.getfield 15, 3) := by decide +kernel
theorem dX4_hoursByEndHours_4 : decode cX4_hoursByEndHours 4 = .ok (.istore_n 2, 1) := by decide +kernel
theorem dX4_hoursByEndHours_5 : decode cX4_hoursByEndHours 5 = .ok (.aload_n 1, 1) := by decide +kernel
theorem dX4_hoursByEndHours_6 : decode cX4_hoursByEndHours 6 = .ok (.getfield 25, 3) := by decide +kernel
theorem dX4_hoursByEndHours_9 : decode cX4_hoursByEndHours 9 = .ok (.istore_n 3, 1) := by decide +kernel
theorem dX4_hoursByEndHours_10 : decode cX4_hoursByEndHours 10 = .ok (.iconst 0, 1) := by decide +kernel
theorem dX4_hoursByEndHours_11 : decode cX4_hoursByEndHours 11 = .ok (.istore 4, 2) := by decide +kernel
theorem dX4_hoursByEndHours_13 : decode cX4_hoursByEndHours 13 = .ok (.iload 4, 2) := by decide +kernel
theorem dX4_hoursByEndHours_15 : decode cX4_hoursByEndHours 15 = .ok (.bipush 8, 2) := by decide +kernel
theorem dX4_hoursByEndHours_17 : decode cX4_hoursByEndHours 17 = .ok (.if_icmp .ge 78, 3) := by decide +kernel
theorem dX4_hoursByEndHours_20 : decode cX4_hoursByEndHours 20 = .ok (.aload_n 1, 1) := by decide +kernel
theorem dX4_hoursByEndHours_21 : decode cX4_hoursByEndHours 21 = .ok (.getfield 21, 3) := by decide +kernel
theorem dX4_hoursByEndHours_24 : decode cX4_hoursByEndHours 24 = .ok (.iload_n 3, 1) := by decide +kernel
theorem dX4_hoursByEndHours_25 : decode cX4_hoursByEndHours 25 = .ok (.invokevirtual 34, 3) := by decide +kernel
theorem dX4_hoursByEndHours_28 : decode cX4_hoursByEndHours 28 = .ok (.istore 5, 2) := by decide +kernel
theorem dX4_hoursByEndHours_30 : decode cX4_hoursByEndHours 30 = .ok (.aload_n 1, 1) := by decide +kernel
theorem dX4_hoursByEndHours_31 : decode cX4_hoursByEndHours 31 = .ok (.getfield 21, 3) := by decide +kernel
theorem dX4_hoursByEndHours_34 : decode cX4_hoursByEndHours 34 = .ok (.iload_n 3, 1) := by decide +kernel
theorem dX4_hoursByEndHours_35 : decode cX4_hoursByEndHours 35 = .ok (.invokevirtual 28, 3) := by decide +kernel
theorem dX4_hoursByEndHours_38 : decode cX4_hoursByEndHours 38 = .ok (.istore 6, 2) := by decide +kernel
theorem dX4_hoursByEndHours_40 : decode cX4_hoursByEndHours 40 = .ok (.iload 5, 2) := by decide +kernel
theorem dX4_hoursByEndHours_42 : decode cX4_hoursByEndHours 42 = .ok (.iconst (-1), 1) := by decide +kernel
theorem dX4_hoursByEndHours_43 : decode cX4_hoursByEndHours 43 = .ok (.if_icmp .eq 8, 3) := by decide +kernel
theorem dX4_hoursByEndHours_46 : decode cX4_hoursByEndHours 46 = .ok (.iload 6, 2) := by decide +kernel
theorem dX4_hoursByEndHours_48 : decode cX4_hoursByEndHours 48 = .ok (.ifCond .ne 5, 3) := by decide +kernel
theorem dX4_hoursByEndHours_51 : decode cX4_hoursByEndHours 51 = .ok (.iconst (-1), 1) := by decide +kernel
theorem dX4_hoursByEndHours_52 : decode cX4_hoursByEndHours 52 = .ok (.ireturn, 1) := by decide +kernel
theorem dX4_hoursByEndHours_53 : decode cX4_hoursByEndHours 53 = .ok (.iload 6, 2) := by decide +kernel
theorem dX4_hoursByEndHours_55 : decode cX4_hoursByEndHours 55 = .ok (.iload 5, 2) := by decide +kernel
theorem dX4_hoursByEndHours_57 : decode cX4_hoursByEndHours 57 = .ok (.iload_n 3, 1) := by decide +kernel
theorem dX4_hoursByEndHours_58 : decode cX4_hoursByEndHours 58 = .ok (.isub, 1) := by decide +kernel
theorem dX4_hoursByEndHours_59 : decode cX4_hoursByEndHours 59 = .ok (.imul, 1) := by decide +kernel
theorem dX4_hoursByEndHours_60 : decode cX4_hoursByEndHours 60 = .ok (.iload_n 2, 1) := by decide +kernel
theorem dX4_hoursByEndHours_61 : decode cX4_hoursByEndHours 61 = .ok (.if_icmp .le 15, 3) := by decide +kernel
theorem dX4_hoursByEndHours_64 : decode cX4_hoursByEndHours 64 = .ok (.iload_n 3, 1) := by decide +kernel
theorem dX4_hoursByEndHours_65 : decode cX4_hoursByEndHours 65 = .ok (.aload_n 1, 1) := by decide +kernel
theorem dX4_hoursByEndHours_66 : decode cX4_hoursByEndHours 66 = .ok (.getfield 25, 3) := by decide +kernel
theorem dX4_hoursByEndHours_69 : decode cX4_hoursByEndHours 69 = .ok (.isub, 1) := by decide +kernel
theorem dX4_hoursByEndHours_70 : decode cX4_hoursByEndHours 70 = .ok (.iload_n 2, 1) := by decide +kernel
theorem dX4_hoursByEndHours_71 : decode cX4_hoursByEndHours 71 = .ok (.iload 6, 2) := by decide +kernel
theorem dX4_hoursByEndHours_73 : decode cX4_hoursByEndHours 73 = .ok (.idiv, 1) := by decide +kernel
theorem dX4_hoursByEndHours_74 : decode cX4_hoursByEndHours 74 = .ok (.iadd, 1) := by decide +kernel
theorem dX4_hoursByEndHours_75 : decode cX4_hoursByEndHours 75 = .ok (.ireturn, 1) := by decide +kernel
theorem dX4_hoursByEndHours_76 : decode cX4_hoursByEndHours 76 = .ok (.iload_n 2, 1) := by decide +kernel
theorem dX4_hoursByEndHours_77 : decode cX4_hoursByEndHours 77 = .ok (.iload 6, 2) := by decide +kernel
theorem dX4_hoursByEndHours_79 : decode cX4_hoursByEndHours 79 = .ok (.iload 5, 2) := by decide +kernel
theorem dX4_hoursByEndHours_81 : decode cX4_hoursByEndHours 81 = .ok (.iload_n 3, 1) := by decide +kernel
theorem dX4_hoursByEndHours_82 : decode cX4_hoursByEndHours 82 = .ok (.isub, 1) := by decide +kernel
theorem dX4_hoursByEndHours_83 : decode cX4_hoursByEndHours 83 = .ok (.imul, 1) := by decide +kernel
theorem dX4_hoursByEndHours_84 : decode cX4_hoursByEndHours 84 = .ok (.isub, 1) := by decide +kernel
theorem dX4_hoursByEndHours_85 : decode cX4_hoursByEndHours 85 = .ok (.istore_n 2, 1) := by decide +kernel
theorem dX4_hoursByEndHours_86 : decode cX4_hoursByEndHours 86 = .ok (.iload 5, 2) := by decide +kernel
theorem dX4_hoursByEndHours_88 : decode cX4_hoursByEndHours 88 = .ok (.istore_n 3, 1) := by decide +kernel
theorem dX4_hoursByEndHours_89 : decode cX4_hoursByEndHours 89 = .ok (.iinc 4 1, 3) := by decide +kernel
theorem dX4_hoursByEndHours_92 : decode cX4_hoursByEndHours 92 = .ok (.goto (-79), 3) := by decide +kernel
theorem dX4_hoursByEndHours_95 : decode cX4_hoursByEndHours 95 = .ok (.iconst (-1), 1) := by decide +kernel
theorem dX4_hoursByEndHours_96 : decode cX4_hoursByEndHours 96 = .ok (.ireturn, 1) := by decide +kernel
theorem dX4_nextBrightLamps_0 : decode cX4_nextBrightLamps 0 = .ok (.aload_n 1, 1) := by decide +kernel
theorem dX4_nextBrightLamps_1 : decode cX4_nextBrightLamps 1 = .ok (.getfield 15, 3) := by decide +kernel
theorem dX4_nextBrightLamps_4 : decode cX4_nextBrightLamps 4 = .ok (.istore_n 2, 1) := by decide +kernel
theorem dX4_nextBrightLamps_5 : decode cX4_nextBrightLamps 5 = .ok (.iconst 0, 1) := by decide +kernel
theorem dX4_nextBrightLamps_6 : decode cX4_nextBrightLamps 6 = .ok (.istore_n 3, 1) := by decide +kernel
theorem dX4_nextBrightLamps_7 : decode cX4_nextBrightLamps 7 = .ok (.iconst 0, 1) := by decide +kernel
theorem dX4_nextBrightLamps_8 : decode cX4_nextBrightLamps 8 = .ok (.istore 4, 2) := by decide +kernel
theorem dX4_nextBrightLamps_10 : decode cX4_nextBrightLamps 10 = .ok (.iload 4, 2) := by decide +kernel
theorem dX4_nextBrightLamps_12 : decode cX4_nextBrightLamps 12 = .ok (.aload_n 1, 1) := by decide +kernel
theorem dX4_nextBrightLamps_13 : decode cX4_nextBrightLamps 13 = .ok (.getfield 21, 3) := by decide +kernel
theorem dX4_nextBrightLamps_16 : decode cX4_nextBrightLamps 16 = .ok (.getfield 37, 3) := by decide +kernel
theorem dX4_nextBrightLamps_19 : decode cX4_nextBrightLamps 19 = .ok (.if_icmp .ge 51, 3) := by decide +kernel
theorem dX4_nextBrightLamps_22 : decode cX4_nextBrightLamps 22 = .ok (.aload_n 1, 1) := by decide +kernel
theorem dX4_nextBrightLamps_23 : decode cX4_nextBrightLamps 23 = .ok (.getfield 21, 3) := by decide +kernel
theorem dX4_nextBrightLamps_26 : decode cX4_nextBrightLamps 26 = .ok (.iload 4, 2) := by decide +kernel
theorem dX4_nextBrightLamps_28 : decode cX4_nextBrightLamps 28 = .ok (.invokevirtual 40, 3) := by decide +kernel
theorem dX4_nextBrightLamps_31 : decode cX4_nextBrightLamps 31 = .ok (.ifCond .eq 33, 3) := by decide +kernel
theorem dX4_nextBrightLamps_34 : decode cX4_nextBrightLamps 34 = .ok (.aload_n 1, 1) := by decide +kernel
theorem dX4_nextBrightLamps_35 : decode cX4_nextBrightLamps 35 = .ok (.getfield 21, 3) := by decide +kernel
theorem dX4_nextBrightLamps_38 : decode cX4_nextBrightLamps 38 = .ok (.getfield 44, 3) := by decide +kernel
theorem dX4_nextBrightLamps_41 : decode cX4_nextBrightLamps 41 = .ok (.iload 4, 2) := by decide +kernel
theorem dX4_nextBrightLamps_43 : decode cX4_nextBrightLamps 43 = .ok (.iaload, 1) := by decide +kernel
theorem dX4_nextBrightLamps_44 : decode cX4_nextBrightLamps 44 = .ok (.iload_n 2, 1) := by decide +kernel
theorem dX4_nextBrightLamps_45 : decode cX4_nextBrightLamps 45 = .ok (.if_icmp .gt 19, 3) := by decide +kernel
theorem dX4_nextBrightLamps_48 : decode cX4_nextBrightLamps 48 = .ok (.iload_n 2, 1) := by decide +kernel
theorem dX4_nextBrightLamps_49 : decode cX4_nextBrightLamps 49 = .ok (.aload_n 1, 1) := by decide +kernel
theorem dX4_nextBrightLamps_50 : decode cX4_nextBrightLamps 50 = .ok (.getfield 21, 3) := by decide +kernel
theorem dX4_nextBrightLamps_53 : decode cX4_nextBrightLamps 53 = .ok (.getfield 44, 3) := by decide +kernel
theorem dX4_nextBrightLamps_56 : decode cX4_nextBrightLamps 56 = .ok (.iload 4, 2) := by decide +kernel
theorem dX4_nextBrightLamps_58 : decode cX4_nextBrightLamps 58 = .ok (.iaload, 1) := by decide +kernel
theorem dX4_nextBrightLamps_59 : decode cX4_nextBrightLamps 59 = .ok (.isub, 1) := by decide +kernel
theorem dX4_nextBrightLamps_60 : decode cX4_nextBrightLamps 60 = .ok (.istore_n 2, 1) := by decide +kernel
theorem dX4_nextBrightLamps_61 : decode cX4_nextBrightLamps 61 = .ok (.iinc 3 1, 3) := by decide +kernel
theorem dX4_nextBrightLamps_64 : decode cX4_nextBrightLamps 64 = .ok (.iinc 4 1, 3) := by decide +kernel
theorem dX4_nextBrightLamps_67 : decode cX4_nextBrightLamps 67 = .ok (.goto (-57), 3) := by decide +kernel
theorem dX4_nextBrightLamps_70 : decode cX4_nextBrightLamps 70 = .ok (.iload_n 3, 1) := by decide +kernel
theorem dX4_nextBrightLamps_71 : decode cX4_nextBrightLamps 71 = .ok (.ireturn, 1) := by decide +kernel
theorem dX4_mostLampsByLevels_0 : decode cX4_mostLampsByLevels 0 = .ok (.aload_n 1, 1) := by decide +kernel
theorem dX4_mostLampsByLevels_1 : decode cX4_mostLampsByLevels 1 = .ok (.getfield 15, 3) := by decide +kernel
theorem dX4_mostLampsByLevels_4 : decode cX4_mostLampsByLevels 4 = .ok (.istore_n 2, 1) := by decide +kernel
theorem dX4_mostLampsByLevels_5 : decode cX4_mostLampsByLevels 5 = .ok (.iconst 0, 1) := by decide +kernel
theorem dX4_mostLampsByLevels_6 : decode cX4_mostLampsByLevels 6 = .ok (.istore_n 3, 1) := by decide +kernel
theorem dX4_mostLampsByLevels_7 : decode cX4_mostLampsByLevels 7 = .ok (.iconst 1, 1) := by decide +kernel
theorem dX4_mostLampsByLevels_8 : decode cX4_mostLampsByLevels 8 = .ok (.istore 4, 2) := by decide +kernel
theorem dX4_mostLampsByLevels_10 : decode cX4_mostLampsByLevels 10 = .ok (.iload 4, 2) := by decide +kernel
theorem dX4_mostLampsByLevels_12 : decode cX4_mostLampsByLevels 12 = .ok (.iconst 3, 1) := by decide +kernel
theorem dX4_mostLampsByLevels_13 : decode cX4_mostLampsByLevels 13 = .ok (.if_icmp .gt 71, 3) := by decide +kernel
theorem dX4_mostLampsByLevels_16 : decode cX4_mostLampsByLevels 16 = .ok (.iconst 0, 1) := by decide +kernel
theorem dX4_mostLampsByLevels_17 : decode cX4_mostLampsByLevels 17 = .ok (.istore 5, 2) := by decide +kernel
theorem dX4_mostLampsByLevels_19 : decode cX4_mostLampsByLevels 19 = .ok (.iload 5, 2) := by decide +kernel
theorem dX4_mostLampsByLevels_21 : decode cX4_mostLampsByLevels 21 = .ok (.aload_n 1, 1) := by decide +kernel
theorem dX4_mostLampsByLevels_22 : decode cX4_mostLampsByLevels 22 = .ok (.getfield 21, 3) := by decide +kernel
theorem dX4_mostLampsByLevels_25 : decode cX4_mostLampsByLevels 25 = .ok (.getfield 37, 3) := by decide +kernel
theorem dX4_mostLampsByLevels_28 : decode cX4_mostLampsByLevels 28 = .ok (.if_icmp .ge 50, 3) := by decide +kernel
theorem dX4_mostLampsByLevels_31 : decode cX4_mostLampsByLevels 31 = .ok (.aload_n 1, 1) := by decide +kernel
theorem dX4_mostLampsByLevels_32 : decode cX4_mostLampsByLevels 32 = .ok (.getfield 21, 3) := by decide +kernel
theorem dX4_mostLampsByLevels_35 : decode cX4_mostLampsByLevels 35 = .ok (.iload 5, 2) := by decide +kernel
theorem dX4_mostLampsByLevels_37 : decode cX4_mostLampsByLevels 37 = .ok (.invokevirtual 40, 3) := by decide +kernel
theorem dX4_mostLampsByLevels_40 : decode cX4_mostLampsByLevels 40 = .ok (.ifCond .eq 32, 3) := by decide +kernel
theorem dX4_mostLampsByLevels_43 : decode cX4_mostLampsByLevels 43 = .ok (.aload_n 1, 1) := by decide +kernel
theorem dX4_mostLampsByLevels_44 : decode cX4_mostLampsByLevels 44 = .ok (.getfield 21, 3) := by decide +kernel
theorem dX4_mostLampsByLevels_47 : decode cX4_mostLampsByLevels 47 = .ok (.getfield 44, 3) := by decide +kernel
theorem dX4_mostLampsByLevels_50 : decode cX4_mostLampsByLevels 50 = .ok (.iload 5, 2) := by decide +kernel
theorem dX4_mostLampsByLevels_52 : decode cX4_mostLampsByLevels 52 = .ok (.iaload, 1) := by decide +kernel
theorem dX4_mostLampsByLevels_53 : decode cX4_mostLampsByLevels 53 = .ok (.iload 4, 2) := by decide +kernel
theorem dX4_mostLampsByLevels_55 : decode cX4_mostLampsByLevels 55 = .ok (.if_icmp .ne 17, 3) := by decide +kernel
theorem dX4_mostLampsByLevels_58 : decode cX4_mostLampsByLevels 58 = .ok (.iload 4, 2) := by decide +kernel
theorem dX4_mostLampsByLevels_60 : decode cX4_mostLampsByLevels 60 = .ok (.iload_n 2, 1) := by decide +kernel
theorem dX4_mostLampsByLevels_61 : decode cX4_mostLampsByLevels 61 = .ok (.if_icmp .gt 11, 3) := by decide +kernel
theorem dX4_mostLampsByLevels_64 : decode cX4_mostLampsByLevels 64 = .ok (.iload_n 2, 1) := by decide +kernel
theorem dX4_mostLampsByLevels_65 : decode cX4_mostLampsByLevels 65 = .ok (.iload 4, 2) := by decide +kernel
theorem dX4_mostLampsByLevels_67 : decode cX4_mostLampsByLevels 67 = .ok (.isub, 1) := by decide +kernel
theorem dX4_mostLampsByLevels_68 : decode cX4_mostLampsByLevels 68 = .ok (.istore_n 2, 1) := by decide +kernel
theorem dX4_mostLampsByLevels_69 : decode cX4_mostLampsByLevels 69 = .ok (.iinc 3 1, 3) := by decide +kernel
theorem dX4_mostLampsByLevels_72 : decode cX4_mostLampsByLevels 72 = .ok (.iinc 5 1, 3) := by decide +kernel
theorem dX4_mostLampsByLevels_75 : decode cX4_mostLampsByLevels 75 = .ok (.goto (-56), 3) := by decide +kernel
theorem dX4_mostLampsByLevels_78 : decode cX4_mostLampsByLevels 78 = .ok (.iinc 4 1, 3) := by decide +kernel
theorem dX4_mostLampsByLevels_81 : decode cX4_mostLampsByLevels 81 = .ok (.goto (-71), 3) := by decide +kernel
theorem dX4_mostLampsByLevels_84 : decode cX4_mostLampsByLevels 84 = .ok (.iload_n 3, 1) := by decide +kernel
theorem dX4_mostLampsByLevels_85 : decode cX4_mostLampsByLevels 85 = .ok (.ireturn, 1) := by decide +kernel
theorem dX4_mostLampsByTable_0 : decode cX4_mostLampsByTable 0 = .ok (.aload_n 0, 1) := by decide +kernel
theorem dX4_mostLampsByTable_1 : decode cX4_mostLampsByTable 1 = .ok (.invokevirtual 47, 3) := by decide +kernel
theorem dX4_mostLampsByTable_4 : decode cX4_mostLampsByTable 4 = .ok (.iconst 0, 1) := by decide +kernel
theorem dX4_mostLampsByTable_5 : decode cX4_mostLampsByTable 5 = .ok (.istore_n 2, 1) := by decide +kernel
theorem dX4_mostLampsByTable_6 : decode cX4_mostLampsByTable 6 = .ok (.iload_n 2, 1) := by decide +kernel
theorem dX4_mostLampsByTable_7 : decode cX4_mostLampsByTable 7 = .ok (.aload_n 1, 1) := by decide +kernel
theorem dX4_mostLampsByTable_8 : decode cX4_mostLampsByTable 8 = .ok (.getfield 21, 3) := by decide +kernel
theorem dX4_mostLampsByTable_11 : decode cX4_mostLampsByTable 11 = .ok (.getfield 37, 3) := by decide +kernel
theorem dX4_mostLampsByTable_14 : decode cX4_mostLampsByTable 14 = .ok (.if_icmp .ge 33, 3) := by decide +kernel
theorem dX4_mostLampsByTable_17 : decode cX4_mostLampsByTable 17 = .ok (.aload_n 1, 1) := by decide +kernel
theorem dX4_mostLampsByTable_18 : decode cX4_mostLampsByTable 18 = .ok (.getfield 21, 3) := by decide +kernel
theorem dX4_mostLampsByTable_21 : decode cX4_mostLampsByTable 21 = .ok (.iload_n 2, 1) := by decide +kernel
theorem dX4_mostLampsByTable_22 : decode cX4_mostLampsByTable 22 = .ok (.invokevirtual 40, 3) := by decide +kernel
theorem dX4_mostLampsByTable_25 : decode cX4_mostLampsByTable 25 = .ok (.ifCond .eq 16, 3) := by decide +kernel
theorem dX4_mostLampsByTable_28 : decode cX4_mostLampsByTable 28 = .ok (.aload_n 0, 1) := by decide +kernel
theorem dX4_mostLampsByTable_29 : decode cX4_mostLampsByTable 29 = .ok (.aload_n 1, 1) := by decide +kernel
theorem dX4_mostLampsByTable_30 : decode cX4_mostLampsByTable 30 = .ok (.getfield 21, 3) := by decide +kernel
theorem dX4_mostLampsByTable_33 : decode cX4_mostLampsByTable 33 = .ok (.getfield 44, 3) := by decide +kernel
theorem dX4_mostLampsByTable_36 : decode cX4_mostLampsByTable 36 = .ok (.iload_n 2, 1) := by decide +kernel
theorem dX4_mostLampsByTable_37 : decode cX4_mostLampsByTable 37 = .ok (.iaload, 1) := by decide +kernel
theorem dX4_mostLampsByTable_38 : decode cX4_mostLampsByTable 38 = .ok (.invokevirtual 50, 3) := by decide +kernel
theorem dX4_mostLampsByTable_41 : decode cX4_mostLampsByTable 41 = .ok (.iinc 2 1, 3) := by decide +kernel
theorem dX4_mostLampsByTable_44 : decode cX4_mostLampsByTable 44 = .ok (.goto (-38), 3) := by decide +kernel
theorem dX4_mostLampsByTable_47 : decode cX4_mostLampsByTable 47 = .ok (.iconst 0, 1) := by decide +kernel
theorem dX4_mostLampsByTable_48 : decode cX4_mostLampsByTable 48 = .ok (.istore_n 2, 1) := by decide +kernel
theorem dX4_mostLampsByTable_49 : decode cX4_mostLampsByTable 49 = .ok (.iconst 0, 1) := by decide +kernel
theorem dX4_mostLampsByTable_50 : decode cX4_mostLampsByTable 50 = .ok (.istore_n 3, 1) := by decide +kernel
theorem dX4_mostLampsByTable_51 : decode cX4_mostLampsByTable 51 = .ok (.iload_n 3, 1) := by decide +kernel
theorem dX4_mostLampsByTable_52 : decode cX4_mostLampsByTable 52 = .ok (.aload_n 0, 1) := by decide +kernel
theorem dX4_mostLampsByTable_53 : decode cX4_mostLampsByTable 53 = .ok (.getfield 9, 3) := by decide +kernel
theorem dX4_mostLampsByTable_56 : decode cX4_mostLampsByTable 56 = .ok (.arraylength, 1) := by decide +kernel
theorem dX4_mostLampsByTable_57 : decode cX4_mostLampsByTable 57 = .ok (.if_icmp .ge 28, 3) := by decide +kernel
theorem dX4_mostLampsByTable_60 : decode cX4_mostLampsByTable 60 = .ok (.iload_n 3, 1) := by decide +kernel
theorem dX4_mostLampsByTable_61 : decode cX4_mostLampsByTable 61 = .ok (.aload_n 1, 1) := by decide +kernel
theorem dX4_mostLampsByTable_62 : decode cX4_mostLampsByTable 62 = .ok (.getfield 15, 3) := by decide +kernel
theorem dX4_mostLampsByTable_65 : decode cX4_mostLampsByTable 65 = .ok (.if_icmp .gt 20, 3) := by decide +kernel
theorem dX4_mostLampsByTable_68 : decode cX4_mostLampsByTable 68 = .ok (.iload_n 2, 1) := by decide +kernel
theorem dX4_mostLampsByTable_69 : decode cX4_mostLampsByTable 69 = .ok (.aload_n 0, 1) := by decide +kernel
theorem dX4_mostLampsByTable_70 : decode cX4_mostLampsByTable 70 = .ok (.getfield 9, 3) := by decide +kernel
theorem dX4_mostLampsByTable_73 : decode cX4_mostLampsByTable 73 = .ok (.iload_n 3, 1) := by decide +kernel
theorem dX4_mostLampsByTable_74 : decode cX4_mostLampsByTable 74 = .ok (.iaload, 1) := by decide +kernel
theorem dX4_mostLampsByTable_75 : decode cX4_mostLampsByTable 75 = .ok (.invokestatic 54, 3) := by decide +kernel
theorem dX4_mostLampsByTable_78 : decode cX4_mostLampsByTable 78 = .ok (.istore_n 2, 1) := by decide +kernel
theorem dX4_mostLampsByTable_79 : decode cX4_mostLampsByTable 79 = .ok (.iinc 3 1, 3) := by decide +kernel
theorem dX4_mostLampsByTable_82 : decode cX4_mostLampsByTable 82 = .ok (.goto (-31), 3) := by decide +kernel
theorem dX4_mostLampsByTable_85 : decode cX4_mostLampsByTable 85 = .ok (.iload_n 2, 1) := by decide +kernel
theorem dX4_mostLampsByTable_86 : decode cX4_mostLampsByTable 86 = .ok (.ireturn, 1) := by decide +kernel
theorem dX4_clearTable_0 : decode cX4_clearTable 0 = .ok (.aload_n 0, 1) := by decide +kernel
theorem dX4_clearTable_1 : decode cX4_clearTable 1 = .ok (.getfield 9, 3) := by decide +kernel
theorem dX4_clearTable_4 : decode cX4_clearTable 4 = .ok (.iconst 0, 1) := by decide +kernel
theorem dX4_clearTable_5 : decode cX4_clearTable 5 = .ok (.iconst 0, 1) := by decide +kernel
theorem dX4_clearTable_6 : decode cX4_clearTable 6 = .ok (.iastore, 1) := by decide +kernel
theorem dX4_clearTable_7 : decode cX4_clearTable 7 = .ok (.iconst 1, 1) := by decide +kernel
theorem dX4_clearTable_8 : decode cX4_clearTable 8 = .ok (.istore_n 1, 1) := by decide +kernel
theorem dX4_clearTable_9 : decode cX4_clearTable 9 = .ok (.iload_n 1, 1) := by decide +kernel
theorem dX4_clearTable_10 : decode cX4_clearTable 10 = .ok (.aload_n 0, 1) := by decide +kernel
theorem dX4_clearTable_11 : decode cX4_clearTable 11 = .ok (.getfield 9, 3) := by decide +kernel
theorem dX4_clearTable_14 : decode cX4_clearTable 14 = .ok (.arraylength, 1) := by decide +kernel
theorem dX4_clearTable_15 : decode cX4_clearTable 15 = .ok (.if_icmp .ge 16, 3) := by decide +kernel
theorem dX4_clearTable_18 : decode cX4_clearTable 18 = .ok (.aload_n 0, 1) := by decide +kernel
theorem dX4_clearTable_19 : decode cX4_clearTable 19 = .ok (.getfield 9, 3) := by decide +kernel
theorem dX4_clearTable_22 : decode cX4_clearTable 22 = .ok (.iload_n 1, 1) := by decide +kernel
theorem dX4_clearTable_23 : decode cX4_clearTable 23 = .ok (.iconst (-1), 1) := by decide +kernel
theorem dX4_clearTable_24 : decode cX4_clearTable 24 = .ok (.iastore, 1) := by decide +kernel
theorem dX4_clearTable_25 : decode cX4_clearTable 25 = .ok (.iinc 1 1, 3) := by decide +kernel
theorem dX4_clearTable_28 : decode cX4_clearTable 28 = .ok (.goto (-19), 3) := by decide +kernel
theorem dX4_clearTable_31 : decode cX4_clearTable 31 = .ok (.return_, 1) := by decide +kernel
theorem dX4_enterInTable_0 : decode cX4_enterInTable 0 = .ok (.aload_n 0, 1) := by decide +kernel
theorem dX4_enterInTable_1 : decode cX4_enterInTable 1 = .ok (.getfield 9, 3) := by decide +kernel
theorem dX4_enterInTable_4 : decode cX4_enterInTable 4 = .ok (.arraylength, 1) := by decide +kernel
theorem dX4_enterInTable_5 : decode cX4_enterInTable 5 = .ok (.iconst 1, 1) := by decide +kernel
theorem dX4_enterInTable_6 : decode cX4_enterInTable 6 = .ok (.isub, 1) := by decide +kernel
theorem dX4_enterInTable_7 : decode cX4_enterInTable 7 = .ok (.istore_n 2, 1) := by decide +kernel
theorem dX4_enterInTable_8 : decode cX4_enterInTable 8 = .ok (.iload_n 2, 1) := by decide +kernel
theorem dX4_enterInTable_9 : decode cX4_enterInTable 9 = .ok (.iload_n 1, 1) := by decide +kernel
theorem dX4_enterInTable_10 : decode cX4_enterInTable 10 = .ok (.if_icmp .lt 55, 3) := by decide +kernel
theorem dX4_enterInTable_13 : decode cX4_enterInTable 13 = .ok (.iload_n 2, 1) := by decide +kernel
theorem dX4_enterInTable_14 : decode cX4_enterInTable 14 = .ok (.ifCond .lt 51, 3) := by decide +kernel
theorem dX4_enterInTable_17 : decode cX4_enterInTable 17 = .ok (.iload_n 2, 1) := by decide +kernel
theorem dX4_enterInTable_18 : decode cX4_enterInTable 18 = .ok (.iload_n 1, 1) := by decide +kernel
theorem dX4_enterInTable_19 : decode cX4_enterInTable 19 = .ok (.isub, 1) := by decide +kernel
theorem dX4_enterInTable_20 : decode cX4_enterInTable 20 = .ok (.istore_n 3, 1) := by decide +kernel
theorem dX4_enterInTable_21 : decode cX4_enterInTable 21 = .ok (.iload_n 3, 1) := by decide +kernel
theorem dX4_enterInTable_22 : decode cX4_enterInTable 22 = .ok (.iload_n 2, 1) := by decide +kernel
theorem dX4_enterInTable_23 : decode cX4_enterInTable 23 = .ok (.if_icmp .ge 36, 3) := by decide +kernel
theorem dX4_enterInTable_26 : decode cX4_enterInTable 26 = .ok (.aload_n 0, 1) := by decide +kernel
theorem dX4_enterInTable_27 : decode cX4_enterInTable 27 = .ok (.getfield 9, 3) := by decide +kernel
theorem dX4_enterInTable_30 : decode cX4_enterInTable 30 = .ok (.iload_n 3, 1) := by decide +kernel
theorem dX4_enterInTable_31 : decode cX4_enterInTable 31 = .ok (.iaload, 1) := by decide +kernel
theorem dX4_enterInTable_32 : decode cX4_enterInTable 32 = .ok (.iconst (-1), 1) := by decide +kernel
theorem dX4_enterInTable_33 : decode cX4_enterInTable 33 = .ok (.if_icmp .eq 26, 3) := by decide +kernel
theorem dX4_enterInTable_36 : decode cX4_enterInTable 36 = .ok (.aload_n 0, 1) := by decide +kernel
theorem dX4_enterInTable_37 : decode cX4_enterInTable 37 = .ok (.getfield 9, 3) := by decide +kernel
theorem dX4_enterInTable_40 : decode cX4_enterInTable 40 = .ok (.iload_n 2, 1) := by decide +kernel
theorem dX4_enterInTable_41 : decode cX4_enterInTable 41 = .ok (.aload_n 0, 1) := by decide +kernel
theorem dX4_enterInTable_42 : decode cX4_enterInTable 42 = .ok (.getfield 9, 3) := by decide +kernel
theorem dX4_enterInTable_45 : decode cX4_enterInTable 45 = .ok (.iload_n 2, 1) := by decide +kernel
theorem dX4_enterInTable_46 : decode cX4_enterInTable 46 = .ok (.iaload, 1) := by decide +kernel
theorem dX4_enterInTable_47 : decode cX4_enterInTable 47 = .ok (.aload_n 0, 1) := by decide +kernel
theorem dX4_enterInTable_48 : decode cX4_enterInTable 48 = .ok (.getfield 9, 3) := by decide +kernel
theorem dX4_enterInTable_51 : decode cX4_enterInTable 51 = .ok (.iload_n 3, 1) := by decide +kernel
theorem dX4_enterInTable_52 : decode cX4_enterInTable 52 = .ok (.iaload, 1) := by decide +kernel
theorem dX4_enterInTable_53 : decode cX4_enterInTable 53 = .ok (.iconst 1, 1) := by decide +kernel
theorem dX4_enterInTable_54 : decode cX4_enterInTable 54 = .ok (.iadd, 1) := by decide +kernel
theorem dX4_enterInTable_55 : decode cX4_enterInTable 55 = .ok (.invokestatic 54, 3) := by decide +kernel
theorem dX4_enterInTable_58 : decode cX4_enterInTable 58 = .ok (.iastore, 1) := by decide +kernel
theorem dX4_enterInTable_59 : decode cX4_enterInTable 59 = .ok (.iinc 2 (-1), 3) := by decide +kernel
theorem dX4_enterInTable_62 : decode cX4_enterInTable 62 = .ok (.goto (-54), 3) := by decide +kernel
theorem dX4_enterInTable_65 : decode cX4_enterInTable 65 = .ok (.return_, 1) := by decide +kernel
theorem dX5_init_0 : decode cX5_init 0 = .ok (.aload_n 0, 1) := by decide +kernel
theorem dX5_init_1 : decode cX5_init 1 = .ok (.invokespecial 3, 3) := by decide +kernel
theorem dX5_init_4 : decode cX5_init 4 = .ok (.aload_n 0, 1) := by decide +kernel
theorem dX5_init_5 : decode cX5_init 5 = .ok (.bipush 8, 2) := by decide +kernel
theorem dX5_init_7 : decode cX5_init 7 = .ok (.anewarray 9, 3) := by decide +kernel
theorem dX5_init_10 : decode cX5_init 10 = .ok (.putfield 11, 3) := by decide +kernel
theorem dX5_init_13 : decode cX5_init 13 = .ok (.iconst 0, 1) := by decide +kernel
theorem dX5_init_14 : decode cX5_init 14 = .ok (.istore_n 1, 1) := by decide +kernel
theorem dX5_init_15 : decode cX5_init 15 = .ok (.iload_n 1, 1) := by decide +kernel
theorem dX5_init_16 : decode cX5_init 16 = .ok (.bipush 8, 2) := by decide +kernel
theorem dX5_init_18 : decode cX5_init 18 = .ok (.if_icmp .ge 22, 3) := by decide +kernel
theorem dX5_init_21 : decode cX5_init 21 = .ok (.aload_n 0, 1) := by decide +kernel
theorem dX5_init_22 : decode cX5_init 22 = .ok (.getfield 11, 3) := by decide +kernel
theorem dX5_init_25 : decode cX5_init 25 = .ok (.iload_n 1, 1) := by decide +kernel
theorem dX5_init_26 : decode cX5_init 26 = .ok (.new 9, 3) := by decide +kernel
theorem dX5_init_29 : decode cX5_init 29 = .ok (.dup, 1) := by decide +kernel
theorem dX5_init_30 : decode cX5_init 30 = .ok (.invokespecial 17, 3) := by decide +kernel
theorem dX5_init_33 : decode cX5_init 33 = .ok (.aastore, 1) := by decide +kernel
theorem dX5_init_34 : decode cX5_init 34 = .ok (.iinc 1 1, 3) := by decide +kernel
theorem dX5_init_37 : decode cX5_init 37 = .ok (.goto (-22), 3) := by decide +kernel
theorem dX5_init_40 : decode cX5_init 40 = .ok (.return_, 1) := by decide +kernel
theorem dX5_push_0 : decode cX5_push 0 = .ok (.aload_n 0, 1) := by decide +kernel
theorem dX5_push_1 : decode cX5_push 1 = .ok (.getfield 11, 3) := by decide +kernel
theorem dX5_push_4 : decode cX5_push 4 = .ok (.aload_n 0, 1) := by decide +kernel
theorem dX5_push_5 : decode cX5_push 5 = .ok (.getfield 18, 3) := by decide +kernel
theorem dX5_push_8 : decode cX5_push 8 = .ok (.aload_n 0, 1) := by decide +kernel
theorem dX5_push_9 : decode cX5_push 9 = .ok (.getfield 22, 3) := by decide +kernel
theorem dX5_push_12 : decode cX5_push 12 = .ok (.iadd, 1) := by decide +kernel
theorem dX5_push_13 : decode cX5_push 13 = .ok (.bipush 8, 2) := by decide +kernel
theorem dX5_push_15 : decode cX5_push 15 = .ok (.irem, 1) := by decide +kernel
theorem dX5_push_16 : decode cX5_push 16 = .ok (.aaload, 1) := by decide +kernel
theorem dX5_push_17 : decode cX5_push 17 = .ok (.aload_n 1, 1) := by decide +kernel
theorem dX5_push_18 : decode cX5_push 18 = .ok (.invokevirtual 25, 3) := by decide +kernel
theorem dX5_push_21 : decode cX5_push 21 = .ok (.aload_n 0, 1) := by decide +kernel
theorem dX5_push_22 : decode cX5_push 22 = .ok (.getfield 22, 3) := by decide +kernel
theorem dX5_push_25 : decode cX5_push 25 = .ok (.bipush 8, 2) := by decide +kernel
theorem dX5_push_27 : decode cX5_push 27 = .ok (.if_icmp .ge 16, 3) := by decide +kernel
theorem dX5_push_30 : decode cX5_push 30 = .ok (.aload_n 0, 1) := by decide +kernel
theorem dX5_push_31 : decode cX5_push 31 = .ok (.dup, 1) := by decide +kernel
theorem dX5_push_32 : decode cX5_push 32 = .ok (.getfield 22, 3) := by decide +kernel
theorem dX5_push_35 : decode cX5_push 35 = .ok (.iconst 1, 1) := by decide +kernel
theorem dX5_push_36 : decode cX5_push 36 = .ok (.iadd, 1) := by decide +kernel
theorem dX5_push_37 : decode cX5_push 37 = .ok (.putfield 22, 3) := by decide +kernel
theorem dX5_push_40 : decode cX5_push 40 = .ok (.goto 16, 3) := by decide +kernel
theorem dX5_push_43 : decode cX5_push 43 = .ok (.aload_n 0, 1) := by decide +kernel
theorem dX5_push_44 : decode cX5_push 44 = .ok (.aload_n 0, 1) := by decide +kernel
theorem dX5_push_45 : decode cX5_push 45 = .ok (.getfield 18, 3) := by decide +kernel
theorem dX5_push_48 : decode cX5_push 48 = .ok (.iconst 1, 1) := by decide +kernel
theorem dX5_push_49 : decode cX5_push 49 = .ok (.iadd, 1) := by decide +kernel
theorem dX5_push_50 : decode cX5_push 50 = .ok (.bipush 8, 2) := by decide +kernel
theorem dX5_push_52 : decode cX5_push 52 = .ok (.irem, 1) := by decide +kernel
theorem dX5_push_53 : decode cX5_push 53 = .ok (.putfield 18, 3) := by decide +kernel
theorem dX5_push_56 : decode cX5_push 56 = .ok (.return_, 1) := by decide +kernel
theorem dX5_popInto_0 : decode cX5_popInto 0 = .ok (.aload_n 0, 1) := by decide +kernel
theorem dX5_popInto_1 : decode cX5_popInto 1 = .ok (.getfield 22, 3) := by decide +kernel
theorem dX5_popInto_4 : decode cX5_popInto 4 = .ok (.ifCond .le 34, 3) := by decide +kernel
theorem dX5_popInto_7 : decode cX5_popInto 7 = .ok (.aload_n 0, 1) := by decide +kernel
theorem dX5_popInto_8 : decode cX5_popInto 8 = .ok (.dup, 1) := by decide +kernel
theorem dX5_popInto_9 : decode cX5_popInto 9 = .ok (.getfield 22, 3) := by decide +kernel
theorem dX5_popInto_12 : decode cX5_popInto 12 = .ok (.iconst 1, 1) := by decide +kernel
theorem dX5_popInto_13 : decode cX5_popInto 13 = .ok (.isub, 1) := by decide +kernel
theorem dX5_popInto_14 : decode cX5_popInto 14 = .ok (.putfield 22, 3) := by decide +kernel
theorem dX5_popInto_17 : decode cX5_popInto 17 = .ok (.aload_n 1, 1) := by decide +kernel
theorem dX5_popInto_18 : decode cX5_popInto 18 = .ok (.aload_n 0, 1) := by decide +kernel
theorem dX5_popInto_19 : decode cX5_popInto 19 = .ok (.getfield 11, 3) := by decide +kernel
theorem dX5_popInto_22 : decode cX5_popInto 22 = .ok (.aload_n 0, 1) := by decide +kernel
theorem dX5_popInto_23 : decode cX5_popInto 23 = .ok (.getfield 18, 3) := by decide +kernel
theorem dX5_popInto_26 : decode cX5_popInto 26 = .ok (.aload_n 0, 1) := by decide +kernel
theorem dX5_popInto_27 : decode cX5_popInto 27 = .ok (.getfield 22, 3) := by decide +kernel
theorem dX5_popInto_30 : decode cX5_popInto 30 = .ok (.iadd, 1) := by decide +kernel
theorem dX5_popInto_31 : decode cX5_popInto 31 = .ok (.bipush 8, 2) := by decide +kernel
theorem dX5_popInto_33 : decode cX5_popInto 33 = .ok (.irem, 1) := by decide +kernel
theorem dX5_popInto_34 : decode cX5_popInto 34 = .ok (.aaload, 1) := by decide +kernel
theorem dX5_popInto_35 : decode cX5_popInto 35 = .ok (.invokevirtual 25, 3) := by decide +kernel
theorem dX5_popInto_38 : decode cX5_popInto 38 = .ok (.return_, 1) := by decide +kernel
theorem dX7_init_0 : decode cX7_init 0 = .ok (.aload_n 0, 1) := by decide +kernel
theorem dX7_init_1 : decode cX7_init 1 = .ok (.invokespecial 3, 3) := by decide +kernel
theorem dX7_init_4 : decode cX7_init 4 = .ok (.aload_n 0, 1) := by decide +kernel
theorem dX7_init_5 : decode cX7_init 5 = .ok (.bipush 8, 2) := by decide +kernel
theorem dX7_init_7 : decode cX7_init 7 = .ok (.newarray .int, 2) := by decide +kernel
theorem dX7_init_9 : decode cX7_init 9 = .ok (.putfield 9, 3) := by decide +kernel
theorem dX7_init_12 : decode cX7_init 12 = .ok (.aload_n 0, 1) := by decide +kernel
theorem dX7_init_13 : decode cX7_init 13 = .ok (.bipush 8, 2) := by decide +kernel
theorem dX7_init_15 : decode cX7_init 15 = .ok (.newarray .int, 2) := by decide +kernel
theorem dX7_init_17 : decode cX7_init 17 = .ok (.putfield 15, 3) := by decide +kernel
theorem dX7_init_20 : decode cX7_init 20 = .ok (.aload_n 0, 1) := by decide +kernel
theorem dX7_init_21 : decode cX7_init 21 = .ok (.bipush 8, 2) := by decide +kernel
theorem dX7_init_23 : decode cX7_init 23 = .ok (.newarray .int, 2) := by decide +kernel
theorem dX7_init_25 : decode cX7_init 25 = .ok (.putfield 18, 3) := by decide +kernel
theorem dX7_init_28 : decode cX7_init 28 = .ok (.aload_n 0, 1) := by decide +kernel
theorem dX7_init_29 : decode cX7_init 29 = .ok (.bipush 8, 2) := by decide +kernel
theorem dX7_init_31 : decode cX7_init 31 = .ok (.newarray .int, 2) := by decide +kernel
theorem dX7_init_33 : decode cX7_init 33 = .ok (.putfield 21, 3) := by decide +kernel
theorem dX7_init_36 : decode cX7_init 36 = .ok (.aload_n 0, 1) := by decide +kernel
theorem dX7_init_37 : decode cX7_init 37 = .ok (.bipush 8, 2) := by decide +kernel
theorem dX7_init_39 : decode cX7_init 39 = .ok (.newarray .boolean, 2) := by decide +kernel
theorem dX7_init_41 : decode cX7_init 41 = .ok (.putfield 24, 3) := by decide +kernel
theorem dX7_init_44 : decode cX7_init 44 = .ok (.return_, 1) := by decide +kernel
theorem dX7_exists_0 : decode cX7_exists 0 = .ok (.iload_n 1, 1) := by decide +kernel
theorem dX7_exists_1 : decode cX7_exists 1 = .ok (.ifCond .lt 15, 3) := by decide +kernel
theorem dX7_exists_4 : decode cX7_exists 4 = .ok (.iload_n 1, 1) := by decide +kernel
theorem dX7_exists_5 : decode cX7_exists 5 = .ok (.aload_n 0, 1) := by decide +kernel
theorem dX7_exists_6 : decode cX7_exists 6 = .ok (.getfield 28, 3) := by decide +kernel
theorem dX7_exists_9 : decode cX7_exists 9 = .ok (.if_icmp .ge 7, 3) := by decide +kernel
theorem dX7_exists_12 : decode cX7_exists 12 = .ok (.iconst 1, 1) := by decide +kernel
theorem dX7_exists_13 : decode cX7_exists 13 = .ok (.goto 4, 3) := by decide +kernel
theorem dX7_exists_16 : decode cX7_exists 16 = .ok (.iconst 0, 1) := by decide +kernel
theorem dX7_exists_17 : decode cX7_exists 17 = .ok (.ireturn, 1) := by decide +kernel
theorem dX7_isTaken_0 : decode cX7_isTaken 0 = .ok (.iload_n 1, 1) := by decide +kernel
theorem dX7_isTaken_1 : decode cX7_isTaken 1 = .ok (.ifCond .lt 25, 3) := by decide +kernel
theorem dX7_isTaken_4 : decode cX7_isTaken 4 = .ok (.iload_n 1, 1) := by decide +kernel
theorem dX7_isTaken_5 : decode cX7_isTaken 5 = .ok (.aload_n 0, 1) := by decide +kernel
theorem dX7_isTaken_6 : decode cX7_isTaken 6 = .ok (.getfield 28, 3) := by decide +kernel
theorem dX7_isTaken_9 : decode cX7_isTaken 9 = .ok (.if_icmp .ge 17, 3) := by decide +kernel
theorem dX7_isTaken_12 : decode cX7_isTaken 12 = .ok (.aload_n 0, 1) := by decide +kernel
theorem dX7_isTaken_13 : decode cX7_isTaken 13 = .ok (.getfield 15, 3) := by decide +kernel
theorem dX7_isTaken_16 : decode cX7_isTaken 16 = .ok (.iload_n 1, 1) := by decide +kernel
theorem dX7_isTaken_17 : decode cX7_isTaken 17 = .ok (.iaload, 1) := by decide +kernel
theorem dX7_isTaken_18 : decode cX7_isTaken 18 = .ok (.iconst (-1), 1) := by decide +kernel
theorem dX7_isTaken_19 : decode cX7_isTaken 19 = .ok (.if_icmp .eq 7, 3) := by decide +kernel
theorem dX7_isTaken_22 : decode cX7_isTaken 22 = .ok (.iconst 1, 1) := by decide +kernel
theorem dX7_isTaken_23 : decode cX7_isTaken 23 = .ok (.goto 4, 3) := by decide +kernel
theorem dX7_isTaken_26 : decode cX7_isTaken 26 = .ok (.iconst 0, 1) := by decide +kernel
theorem dX7_isTaken_27 : decode cX7_isTaken 27 = .ok (.ireturn, 1) := by decide +kernel
theorem dX7_isTakenBy_0 : decode cX7_isTakenBy 0 = .ok (.iload_n 1, 1) := by decide +kernel
theorem dX7_isTakenBy_1 : decode cX7_isTakenBy 1 = .ok (.ifCond .lt 25, 3) := by decide +kernel
theorem dX7_isTakenBy_4 : decode cX7_isTakenBy 4 = .ok (.iload_n 1, 1) := by decide +kernel
theorem dX7_isTakenBy_5 : decode cX7_isTakenBy 5 = .ok (.aload_n 0, 1) := by decide +kernel
theorem dX7_isTakenBy_6 : decode cX7_isTakenBy 6 = .ok (.getfield 28, 3) := by decide +kernel
theorem dX7_isTakenBy_9 : decode cX7_isTakenBy 9 = .ok (.if_icmp .ge 17, 3) := by decide +kernel
theorem dX7_isTakenBy_12 : decode cX7_isTakenBy 12 = .ok (.aload_n 0, 1) := by decide +kernel
theorem dX7_isTakenBy_13 : decode cX7_isTakenBy 13 = .ok (.getfield 15, 3) := by decide +kernel
theorem dX7_isTakenBy_16 : decode cX7_isTakenBy 16 = .ok (.iload_n 1, 1) := by decide +kernel
theorem dX7_isTakenBy_17 : decode cX7_isTakenBy 17 = .ok (.iaload, 1) := by decide +kernel
theorem dX7_isTakenBy_18 : decode cX7_isTakenBy 18 = .ok (.iload_n 2, 1) := by decide +kernel
theorem dX7_isTakenBy_19 : decode cX7_isTakenBy 19 = .ok (.if_icmp .ne 7, 3) := by decide +kernel
theorem dX7_isTakenBy_22 : decode cX7_isTakenBy 22 = .ok (.iconst 1, 1) := by decide +kernel
theorem dX7_isTakenBy_23 : decode cX7_isTakenBy 23 = .ok (.goto 4, 3) := by decide +kernel
theorem dX7_isTakenBy_26 : decode cX7_isTakenBy 26 = .ok (.iconst 0, 1) := by decide +kernel
theorem dX7_isTakenBy_27 : decode cX7_isTakenBy 27 = .ok (.ireturn, 1) := by decide +kernel
theorem dX7_append_0 : decode cX7_append 0 = .ok (.aload_n 0, 1) := by decide +kernel
theorem dX7_append_1 : decode cX7_append 1 = .ok (.getfield 28, 3) := by decide +kernel
theorem dX7_append_4 : decode cX7_append 4 = .ok (.bipush 8, 2) := by decide +kernel
theorem dX7_append_6 : decode cX7_append 6 = .ok (.if_icmp .lt 5, 3) := by decide +kernel
theorem dX7_append_9 : decode cX7_append 9 = .ok (.iconst (-1), 1) := by decide +kernel
theorem dX7_append_10 : decode cX7_append 10 = .ok (.ireturn, 1) := by decide +kernel
theorem dX7_append_11 : decode cX7_append 11 = .ok (.aload_n 0, 1) := by decide +kernel
theorem dX7_append_12 : decode cX7_append 12 = .ok (.getfield 28, 3) := by decide +kernel
theorem dX7_append_15 : decode cX7_append 15 = .ok (.istore_n 2, 1) := by decide +kernel
theorem dX7_append_16 : decode cX7_append 16 = .ok (.aload_n 0, 1) := by decide +kernel
theorem dX7_append_17 : decode cX7_append 17 = .ok (.dup, 1) := by decide +kernel
theorem dX7_append_18 : decode cX7_append 18 = .ok (.getfield 28, 3) := by decide +kernel
theorem dX7_append_21 : decode cX7_append 21 = .ok (.iconst 1, 1) := by decide +kernel
theorem dX7_append_22 : decode cX7_append 22 = .ok (.iadd, 1) := by decide +kernel
theorem dX7_append_23 : decode cX7_append 23 = .ok (.putfield 28, 3) := by decide +kernel
theorem dX7_append_26 : decode cX7_append 26 = .ok (.aload_n 0, 1) := by decide +kernel
theorem dX7_append_27 : decode cX7_append 27 = .ok (.getfield 9, 3) := by decide +kernel
theorem dX7_append_30 : decode cX7_append 30 = .ok (.iload_n 2, 1) := by decide +kernel
theorem dX7_append_31 : decode cX7_append 31 = .ok (.iload_n 1, 1) := by decide +kernel
theorem dX7_append_32 : decode cX7_append 32 = .ok (.iastore, 1) := by decide +kernel
theorem dX7_append_33 : decode cX7_append 33 = .ok (.aload_n 0, 1) := by decide +kernel
theorem dX7_append_34 : decode cX7_append 34 = .ok (.getfield 15, 3) := by decide +kernel
theorem dX7_append_37 : decode cX7_append 37 = .ok (.iload_n 2, 1) := by decide +kernel
theorem dX7_append_38 : decode cX7_append 38 = .ok (.iconst (-1), 1) := by decide +kernel
theorem dX7_append_39 : decode cX7_append 39 = .ok (.iastore, 1) := by decide +kernel
theorem dX7_append_40 : decode cX7_append 40 = .ok (.aload_n 0, 1) := by decide +kernel
theorem dX7_append_41 : decode cX7_append 41 = .ok (.getfield 18, 3) := by decide +kernel
theorem dX7_append_44 : decode cX7_append 44 = .ok (.iload_n 2, 1) := by decide +kernel
theorem dX7_append_45 : decode cX7_append 45 = .ok (.iconst 0, 1) := by decide +kernel
theorem dX7_append_46 : decode cX7_append 46 = .ok (.iastore, 1) := by decide +kernel
theorem dX7_append_47 : decode cX7_append 47 = .ok (.aload_n 0, 1) := by decide +kernel
theorem dX7_append_48 : decode cX7_append 48 = .ok (.getfield 21, 3) := by decide +kernel
theorem dX7_append_51 : decode cX7_append 51 = .ok (.iload_n 2, 1) := by decide +kernel
theorem dX7_append_52 : decode cX7_append 52 = .ok (.iconst 0, 1) := by decide +kernel
theorem dX7_append_53 : decode cX7_append 53 = .ok (.iastore, 1) := by decide +kernel
theorem dX7_append_54 : decode cX7_append 54 = .ok (.aload_n 0, 1) := by decide +kernel
theorem dX7_append_55 : decode cX7_append 55 = .ok (.getfield 24, 3) := by decide +kernel
theorem dX7_append_58 : decode cX7_append 58 = .ok (.iload_n 2, 1) := by decide +kernel
theorem dX7_append_59 : decode cX7_append 59 = .ok (.iconst 0, 1) := by decide +kernel
theorem dX7_append_60 : decode cX7_append 60 = .ok (.bastore, 1) := by decide +kernel
theorem dX7_append_61 : decode cX7_append 61 = .ok (.iload_n 2, 1) := by decide +kernel
theorem dX7_append_62 : decode cX7_append 62 = .ok (.ireturn, 1) := by decide +kernel
theorem dX7_countTaken_0 : decode cX7_countTaken 0 = .ok (.iconst 0, 1) := by decide +kernel
theorem dX7_countTaken_1 : decode cX7_countTaken 1 = .ok (.istore_n 1, 1) := by decide +kernel
theorem dX7_countTaken_2 : decode cX7_countTaken 2 = .ok (.iconst 0, 1) := by decide +kernel
theorem dX7_countTaken_3 : decode cX7_countTaken 3 = .ok (.istore_n 2, 1) := by decide +kernel
theorem dX7_countTaken_4 : decode cX7_countTaken 4 = .ok (.iload_n 2, 1) := by decide +kernel
theorem dX7_countTaken_5 : decode cX7_countTaken 5 = .ok (.aload_n 0, 1) := by decide +kernel
theorem dX7_countTaken_6 : decode cX7_countTaken 6 = .ok (.getfield 28, 3) := by decide +kernel
theorem dX7_countTaken_9 : decode cX7_countTaken 9 = .ok (.if_icmp .ge 20, 3) := by decide +kernel
theorem dX7_countTaken_12 : decode cX7_countTaken 12 = .ok (.aload_n 0, 1) := by decide +kernel
theorem dX7_countTaken_13 : decode cX7_countTaken 13 = .ok (.iload_n 2, 1) := by decide +kernel
theorem dX7_countTaken_14 : decode cX7_countTaken 14 = .ok (.invokevirtual 32, 3) := by decide +kernel
theorem dX7_countTaken_17 : decode cX7_countTaken 17 = .ok (.ifCond .eq 6, 3) := by decide +kernel
theorem dX7_countTaken_20 : decode cX7_countTaken 20 = .ok (.iinc 1 1, 3) := by decide +kernel
theorem dX7_countTaken_23 : decode cX7_countTaken 23 = .ok (.iinc 2 1, 3) := by decide +kernel
theorem dX7_countTaken_26 : decode cX7_countTaken 26 = .ok (.goto (-22), 3) := by decide +kernel
theorem dX7_countTaken_29 : decode cX7_countTaken 29 = .ok (.iload_n 1, 1) := by decide +kernel
theorem dX7_countTaken_30 : decode cX7_countTaken 30 = .ok (.ireturn, 1) := by decide +kernel
theorem dX7_countOf_0 : decode cX7_countOf 0 = .ok (.iconst 0, 1) := by decide +kernel
theorem dX7_countOf_1 : decode cX7_countOf 1 = .ok (.istore_n 2, 1) := by decide +kernel
theorem dX7_countOf_2 : decode cX7_countOf 2 = .ok (.iconst 0, 1) := by decide +kernel
theorem dX7_countOf_3 : decode cX7_countOf 3 = .ok (.istore_n 3, 1) := by decide +kernel
theorem dX7_countOf_4 : decode cX7_countOf 4 = .ok (.iload_n 3, 1) := by decide +kernel
theorem dX7_countOf_5 : decode cX7_countOf 5 = .ok (.aload_n 0, 1) := by decide +kernel
theorem dX7_countOf_6 : decode cX7_countOf 6 = .ok (.getfield 28, 3) := by decide +kernel
theorem dX7_countOf_9 : decode cX7_countOf 9 = .ok (.if_icmp .ge 21, 3) := by decide +kernel
theorem dX7_countOf_12 : decode cX7_countOf 12 = .ok (.aload_n 0, 1) := by decide +kernel
theorem dX7_countOf_13 : decode cX7_countOf 13 = .ok (.iload_n 3, 1) := by decide +kernel
theorem dX7_countOf_14 : decode cX7_countOf 14 = .ok (.iload_n 1, 1) := by decide +kernel
theorem dX7_countOf_15 : decode cX7_countOf 15 = .ok (.invokevirtual 36, 3) := by decide +kernel
theorem dX7_countOf_18 : decode cX7_countOf 18 = .ok (.ifCond .eq 6, 3) := by decide +kernel
theorem dX7_countOf_21 : decode cX7_countOf 21 = .ok (.iinc 2 1, 3) := by decide +kernel
theorem dX7_countOf_24 : decode cX7_countOf 24 = .ok (.iinc 3 1, 3) := by decide +kernel
theorem dX7_countOf_27 : decode cX7_countOf 27 = .ok (.goto (-23), 3) := by decide +kernel
theorem dX7_countOf_30 : decode cX7_countOf 30 = .ok (.iload_n 2, 1) := by decide +kernel
theorem dX7_countOf_31 : decode cX7_countOf 31 = .ok (.ireturn, 1) := by decide +kernel
theorem dX7_anyBrightOf_0 : decode cX7_anyBrightOf 0 = .ok (.iconst 0, 1) := by decide +kernel
theorem dX7_anyBrightOf_1 : decode cX7_anyBrightOf 1 = .ok (.istore_n 2, 1) := by decide +kernel
theorem dX7_anyBrightOf_2 : decode cX7_anyBrightOf 2 = .ok (.iload_n 2, 1) := by decide +kernel
theorem dX7_anyBrightOf_3 : decode cX7_anyBrightOf 3 = .ok (.aload_n 0, 1) := by decide +kernel
theorem dX7_anyBrightOf_4 : decode cX7_anyBrightOf 4 = .ok (.getfield 28, 3) := by decide +kernel
theorem dX7_anyBrightOf_7 : decode cX7_anyBrightOf 7 = .ok (.if_icmp .ge 29, 3) := by decide +kernel
theorem dX7_anyBrightOf_10 : decode cX7_anyBrightOf 10 = .ok (.aload_n 0, 1) := by decide +kernel
theorem dX7_anyBrightOf_11 : decode cX7_anyBrightOf 11 = .ok (.iload_n 2, 1) := by decide +kernel
theorem dX7_anyBrightOf_12 : decode cX7_anyBrightOf 12 = .ok (.iload_n 1, 1) := by decide +kernel
theorem dX7_anyBrightOf_13 : decode cX7_anyBrightOf 13 = .ok (.invokevirtual 36, 3) := by decide +kernel
theorem dX7_anyBrightOf_16 : decode cX7_anyBrightOf 16 = .ok (.ifCond .eq 14, 3) := by decide +kernel
theorem dX7_anyBrightOf_19 : decode cX7_anyBrightOf 19 = .ok (.aload_n 0, 1) := by decide +kernel
theorem dX7_anyBrightOf_20 : decode cX7_anyBrightOf 20 = .ok (.getfield 24, 3) := by decide +kernel
theorem dX7_anyBrightOf_23 : decode cX7_anyBrightOf 23 = .ok (.iload_n 2, 1) := by decide +kernel
theorem dX7_anyBrightOf_24 : decode cX7_anyBrightOf 24 = .ok (.baload, 1) := by decide +kernel
theorem dX7_anyBrightOf_25 : decode cX7_anyBrightOf 25 = .ok (.ifCond .eq 5, 3) := by decide +kernel
theorem dX7_anyBrightOf_28 : decode cX7_anyBrightOf 28 = .ok (.iconst 1, 1) := by decide +kernel
theorem dX7_anyBrightOf_29 : decode cX7_anyBrightOf 29 = .ok (.ireturn, 1) := by decide +kernel
theorem dX7_anyBrightOf_30 : decode cX7_anyBrightOf 30 = .ok (.iinc 2 1, 3) := by decide +kernel
theorem dX7_anyBrightOf_33 : decode cX7_anyBrightOf 33 = .ok (.goto (-31), 3) := by decide +kernel
theorem dX7_anyBrightOf_36 : decode cX7_anyBrightOf 36 = .ok (.iconst 0, 1) := by decide +kernel
theorem dX7_anyBrightOf_37 : decode cX7_anyBrightOf 37 = .ok (.ireturn, 1) := by decide +kernel
theorem dX7_demandOf_0 : decode cX7_demandOf 0 = .ok (.iconst 0, 1) := by decide +kernel
theorem dX7_demandOf_1 : decode cX7_demandOf 1 = .ok (.istore_n 2, 1) := by decide +kernel
theorem dX7_demandOf_2 : decode cX7_demandOf 2 = .ok (.iconst 0, 1) := by decide +kernel
theorem dX7_demandOf_3 : decode cX7_demandOf 3 = .ok (.istore_n 3, 1) := by decide +kernel
theorem dX7_demandOf_4 : decode cX7_demandOf 4 = .ok (.iload_n 3, 1) := by decide +kernel
theorem dX7_demandOf_5 : decode cX7_demandOf 5 = .ok (.aload_n 0, 1) := by decide +kernel
theorem dX7_demandOf_6 : decode cX7_demandOf 6 = .ok (.getfield 28, 3) := by decide +kernel
theorem dX7_demandOf_9 : decode cX7_demandOf 9 = .ok (.if_icmp .ge 27, 3) := by decide +kernel
theorem dX7_demandOf_12 : decode cX7_demandOf 12 = .ok (.aload_n 0, 1) := by decide +kernel
theorem dX7_demandOf_13 : decode cX7_demandOf 13 = .ok (.iload_n 3, 1) := by decide +kernel
theorem dX7_demandOf_14 : decode cX7_demandOf 14 = .ok (.iload_n 1, 1) := by decide +kernel
theorem dX7_demandOf_15 : decode cX7_demandOf 15 = .ok (.invokevirtual 36, 3) := by decide +kernel
theorem dX7_demandOf_18 : decode cX7_demandOf 18 = .ok (.ifCond .eq 12, 3) := by decide +kernel
theorem dX7_demandOf_21 : decode cX7_demandOf 21 = .ok (.iload_n 2, 1) := by decide +kernel
theorem dX7_demandOf_22 : decode cX7_demandOf 22 = .ok (.aload_n 0, 1) := by decide +kernel
theorem dX7_demandOf_23 : decode cX7_demandOf 23 = .ok (.getfield 9, 3) := by decide +kernel
theorem dX7_demandOf_26 : decode cX7_demandOf 26 = .ok (.iload_n 3, 1) := by decide +kernel
theorem dX7_demandOf_27 : decode cX7_demandOf 27 = .ok (.iaload, 1) := by decide +kernel
theorem dX7_demandOf_28 : decode cX7_demandOf 28 = .ok (.iadd, 1) := by decide +kernel
theorem dX7_demandOf_29 : decode cX7_demandOf 29 = .ok (.istore_n 2, 1) := by decide +kernel
theorem dX7_demandOf_30 : decode cX7_demandOf 30 = .ok (.iinc 3 1, 3) := by decide +kernel
theorem dX7_demandOf_33 : decode cX7_demandOf 33 = .ok (.goto (-29), 3) := by decide +kernel
theorem dX7_demandOf_36 : decode cX7_demandOf 36 = .ok (.iload_n 2, 1) := by decide +kernel
theorem dX7_demandOf_37 : decode cX7_demandOf 37 = .ok (.ireturn, 1) := by decide +kernel
theorem dX7_demandOfAll_0 : decode cX7_demandOfAll 0 = .ok (.iconst 0, 1) := by decide +kernel
theorem dX7_demandOfAll_1 : decode cX7_demandOfAll 1 = .ok (.istore_n 1, 1) := by decide +kernel
theorem dX7_demandOfAll_2 : decode cX7_demandOfAll 2 = .ok (.iconst 0, 1) := by decide +kernel
theorem dX7_demandOfAll_3 : decode cX7_demandOfAll 3 = .ok (.istore_n 2, 1) := by decide +kernel
theorem dX7_demandOfAll_4 : decode cX7_demandOfAll 4 = .ok (.iload_n 2, 1) := by decide +kernel
theorem dX7_demandOfAll_5 : decode cX7_demandOfAll 5 = .ok (.aload_n 0, 1) := by decide +kernel
theorem dX7_demandOfAll_6 : decode cX7_demandOfAll 6 = .ok (.getfield 28, 3) := by decide +kernel
theorem dX7_demandOfAll_9 : decode cX7_demandOfAll 9 = .ok (.if_icmp .ge 26, 3) := by decide +kernel
theorem dX7_demandOfAll_12 : decode cX7_demandOfAll 12 = .ok (.aload_n 0, 1) := by decide +kernel
theorem dX7_demandOfAll_13 : decode cX7_demandOfAll 13 = .ok (.iload_n 2, 1) := by decide +kernel
theorem dX7_demandOfAll_14 : decode cX7_demandOfAll 14 = .ok (.invokevirtual 32, 3) := by decide +kernel
theorem dX7_demandOfAll_17 : decode cX7_demandOfAll 17 = .ok (.ifCond .eq 12, 3) := by decide +kernel
theorem dX7_demandOfAll_20 : decode cX7_demandOfAll 20 = .ok (.iload_n 1, 1) := by decide +kernel
theorem dX7_demandOfAll_21 : decode cX7_demandOfAll 21 = .ok (.aload_n 0, 1) := by decide +kernel
theorem dX7_demandOfAll_22 : decode cX7_demandOfAll 22 = .ok (.getfield 9, 3) := by decide +kernel
theorem dX7_demandOfAll_25 : decode cX7_demandOfAll 25 = .ok (.iload_n 2, 1) := by decide +kernel
theorem dX7_demandOfAll_26 : decode cX7_demandOfAll 26 = .ok (.iaload, 1) := by decide +kernel
theorem dX7_demandOfAll_27 : decode cX7_demandOfAll 27 = .ok (.iadd, 1) := by decide +kernel
theorem dX7_demandOfAll_28 : decode cX7_demandOfAll 28 = .ok (.istore_n 1, 1) := by decide +kernel
theorem dX7_demandOfAll_29 : decode cX7_demandOfAll 29 = .ok (.iinc 2 1, 3) := by decide +kernel
theorem dX7_demandOfAll_32 : decode cX7_demandOfAll 32 = .ok (.goto (-28), 3) := by decide +kernel
theorem dX7_demandOfAll_35 : decode cX7_demandOfAll 35 = .ok (.iload_n 1, 1) := by decide +kernel
theorem dX7_demandOfAll_36 : decode cX7_demandOfAll 36 = .ok (.ireturn, 1) := by decide +kernel
theorem dX7_demandAfter_0 : decode cX7_demandAfter 0 = .ok (.iconst 0, 1) := by decide +kernel
theorem dX7_demandAfter_1 : decode cX7_demandAfter 1 = .ok (.istore_n 2, 1) := by decide +kernel
theorem dX7_demandAfter_2 : decode cX7_demandAfter 2 = .ok (.iconst 0, 1) := by decide +kernel
theorem dX7_demandAfter_3 : decode cX7_demandAfter 3 = .ok (.istore_n 3, 1) := by decide +kernel
theorem dX7_demandAfter_4 : decode cX7_demandAfter 4 = .ok (.iload_n 3, 1) := by decide +kernel
theorem dX7_demandAfter_5 : decode cX7_demandAfter 5 = .ok (.aload_n 0, 1) := by decide +kernel
theorem dX7_demandAfter_6 : decode cX7_demandAfter 6 = .ok (.getfield 28, 3) := by decide +kernel
theorem dX7_demandAfter_9 : decode cX7_demandAfter 9 = .ok (.if_icmp .ge 36, 3) := by decide +kernel
theorem dX7_demandAfter_12 : decode cX7_demandAfter 12 = .ok (.aload_n 0, 1) := by decide +kernel
theorem dX7_demandAfter_13 : decode cX7_demandAfter 13 = .ok (.iload_n 3, 1) := by decide +kernel
theorem dX7_demandAfter_14 : decode cX7_demandAfter 14 = .ok (.invokevirtual 32, 3) := by decide +kernel
theorem dX7_demandAfter_17 : decode cX7_demandAfter 17 = .ok (.ifCond .eq 22, 3) := by decide +kernel
theorem dX7_demandAfter_20 : decode cX7_demandAfter 20 = .ok (.aload_n 0, 1) := by decide +kernel
theorem dX7_demandAfter_21 : decode cX7_demandAfter 21 = .ok (.getfield 18, 3) := by decide +kernel
theorem dX7_demandAfter_24 : decode cX7_demandAfter 24 = .ok (.iload_n 3, 1) := by decide +kernel
theorem dX7_demandAfter_25 : decode cX7_demandAfter 25 = .ok (.iaload, 1) := by decide +kernel
theorem dX7_demandAfter_26 : decode cX7_demandAfter 26 = .ok (.iload_n 1, 1) := by decide +kernel
theorem dX7_demandAfter_27 : decode cX7_demandAfter 27 = .ok (.if_icmp .le 12, 3) := by decide +kernel
theorem dX7_demandAfter_30 : decode cX7_demandAfter 30 = .ok (.iload_n 2, 1) := by decide +kernel
theorem dX7_demandAfter_31 : decode cX7_demandAfter 31 = .ok (.aload_n 0, 1) := by decide +kernel
theorem dX7_demandAfter_32 : decode cX7_demandAfter 32 = .ok (.getfield 9, 3) := by decide +kernel
theorem dX7_demandAfter_35 : decode cX7_demandAfter 35 = .ok (.iload_n 3, 1) := by decide +kernel
theorem dX7_demandAfter_36 : decode cX7_demandAfter 36 = .ok (.iaload, 1) := by decide +kernel
theorem dX7_demandAfter_37 : decode cX7_demandAfter 37 = .ok (.iadd, 1) := by decide +kernel
theorem dX7_demandAfter_38 : decode cX7_demandAfter 38 = .ok (.istore_n 2, 1) := by decide +kernel
theorem dX7_demandAfter_39 : decode cX7_demandAfter 39 = .ok (.iinc 3 1, 3) := by decide +kernel
theorem dX7_demandAfter_42 : decode cX7_demandAfter 42 = .ok (.goto (-38), 3) := by decide +kernel
theorem dX7_demandAfter_45 : decode cX7_demandAfter 45 = .ok (.iload_n 2, 1) := by decide +kernel
theorem dX7_demandAfter_46 : decode cX7_demandAfter 46 = .ok (.ireturn, 1) := by decide +kernel
theorem dX7_firstEndAfter_0 : decode cX7_firstEndAfter 0 = .ok (.iconst (-1), 1) := by decide +kernel
theorem dX7_firstEndAfter_1 : decode cX7_firstEndAfter 1 = .ok (.istore_n 2, 1) := by decide +kernel
theorem dX7_firstEndAfter_2 : decode cX7_firstEndAfter 2 = .ok (.iconst 0, 1) := by decide +kernel
theorem dX7_firstEndAfter_3 : decode cX7_firstEndAfter 3 = .ok (.istore_n 3, 1) := by decide +kernel
theorem dX7_firstEndAfter_4 : decode cX7_firstEndAfter 4 = .ok (.iload_n 3, 1) := by decide +kernel
theorem dX7_firstEndAfter_5 : decode cX7_firstEndAfter 5 = .ok (.aload_n 0, 1) := by decide +kernel
theorem dX7_firstEndAfter_6 : decode cX7_firstEndAfter 6 = .ok (.getfield 28, 3) := by decide +kernel
theorem dX7_firstEndAfter_9 : decode cX7_firstEndAfter 9 = .ok (.if_icmp .ge 49, 3) := by decide +kernel
theorem dX7_firstEndAfter_12 : decode cX7_firstEndAfter 12 = .ok (.aload_n 0, 1) := by decide +kernel
theorem dX7_firstEndAfter_13 : decode cX7_firstEndAfter 13 = .ok (.iload_n 3, 1) := by decide +kernel
theorem dX7_firstEndAfter_14 : decode cX7_firstEndAfter 14 = .ok (.invokevirtual 32, 3) := by decide +kernel
theorem dX7_firstEndAfter_17 : decode cX7_firstEndAfter 17 = .ok (.ifCond .eq 35, 3) := by decide +kernel
theorem dX7_firstEndAfter_20 : decode cX7_firstEndAfter 20 = .ok (.aload_n 0, 1) := by decide +kernel
theorem dX7_firstEndAfter_21 : decode cX7_firstEndAfter 21 = .ok (.getfield 18, 3) := by decide +kernel
theorem dX7_firstEndAfter_24 : decode cX7_firstEndAfter 24 = .ok (.iload_n 3, 1) := by decide +kernel
theorem dX7_firstEndAfter_25 : decode cX7_firstEndAfter 25 = .ok (.iaload, 1) := by decide +kernel
theorem dX7_firstEndAfter_26 : decode cX7_firstEndAfter 26 = .ok (.iload_n 1, 1) := by decide +kernel
theorem dX7_firstEndAfter_27 : decode cX7_firstEndAfter 27 = .ok (.if_icmp .le 25, 3) := by decide +kernel
theorem dX7_firstEndAfter_30 : decode cX7_firstEndAfter 30 = .ok (.iload_n 2, 1) := by decide +kernel
theorem dX7_firstEndAfter_31 : decode cX7_firstEndAfter 31 = .ok (.iconst (-1), 1) := by decide +kernel
theorem dX7_firstEndAfter_32 : decode cX7_firstEndAfter 32 = .ok (.if_icmp .eq 13, 3) := by decide +kernel
theorem dX7_firstEndAfter_35 : decode cX7_firstEndAfter 35 = .ok (.aload_n 0, 1) := by decide +kernel
theorem dX7_firstEndAfter_36 : decode cX7_firstEndAfter 36 = .ok (.getfield 18, 3) := by decide +kernel
theorem dX7_firstEndAfter_39 : decode cX7_firstEndAfter 39 = .ok (.iload_n 3, 1) := by decide +kernel
theorem dX7_firstEndAfter_40 : decode cX7_firstEndAfter 40 = .ok (.iaload, 1) := by decide +kernel
theorem dX7_firstEndAfter_41 : decode cX7_firstEndAfter 41 = .ok (.iload_n 2, 1) := by decide +kernel
theorem dX7_firstEndAfter_42 : decode cX7_firstEndAfter 42 = .ok (.if_icmp .ge 10, 3) := by decide +kernel
theorem dX7_firstEndAfter_45 : decode cX7_firstEndAfter 45 = .ok (.aload_n 0, 1) := by decide +kernel
theorem dX7_firstEndAfter_46 : decode cX7_firstEndAfter 46 = .ok (.getfield 18, 3) := by decide +kernel
theorem dX7_firstEndAfter_49 : decode cX7_firstEndAfter 49 = .ok (.iload_n 3, 1) := by decide +kernel
theorem dX7_firstEndAfter_50 : decode cX7_firstEndAfter 50 = .ok (.iaload, 1) := by decide +kernel
theorem dX7_firstEndAfter_51 : decode cX7_firstEndAfter 51 = .ok (.istore_n 2, 1) := by decide +kernel
theorem dX7_firstEndAfter_52 : decode cX7_firstEndAfter 52 = .ok (.iinc 3 1, 3) := by decide +kernel
theorem dX7_firstEndAfter_55 : decode cX7_firstEndAfter 55 = .ok (.goto (-51), 3) := by decide +kernel
theorem dX7_firstEndAfter_58 : decode cX7_firstEndAfter 58 = .ok (.iload_n 2, 1) := by decide +kernel
theorem dX7_firstEndAfter_59 : decode cX7_firstEndAfter 59 = .ok (.ireturn, 1) := by decide +kernel
theorem dX7_atRank_0 : decode cX7_atRank 0 = .ok (.iconst 0, 1) := by decide +kernel
theorem dX7_atRank_1 : decode cX7_atRank 1 = .ok (.istore_n 2, 1) := by decide +kernel
theorem dX7_atRank_2 : decode cX7_atRank 2 = .ok (.iload_n 2, 1) := by decide +kernel
theorem dX7_atRank_3 : decode cX7_atRank 3 = .ok (.aload_n 0, 1) := by decide +kernel
theorem dX7_atRank_4 : decode cX7_atRank 4 = .ok (.getfield 28, 3) := by decide +kernel
theorem dX7_atRank_7 : decode cX7_atRank 7 = .ok (.if_icmp .ge 28, 3) := by decide +kernel
theorem dX7_atRank_10 : decode cX7_atRank 10 = .ok (.aload_n 0, 1) := by decide +kernel
theorem dX7_atRank_11 : decode cX7_atRank 11 = .ok (.iload_n 2, 1) := by decide +kernel
theorem dX7_atRank_12 : decode cX7_atRank 12 = .ok (.invokevirtual 32, 3) := by decide +kernel
theorem dX7_atRank_15 : decode cX7_atRank 15 = .ok (.ifCond .eq 14, 3) := by decide +kernel
theorem dX7_atRank_18 : decode cX7_atRank 18 = .ok (.aload_n 0, 1) := by decide +kernel
theorem dX7_atRank_19 : decode cX7_atRank 19 = .ok (.iload_n 2, 1) := by decide +kernel
theorem dX7_atRank_20 : decode cX7_atRank 20 = .ok (.invokevirtual 40, 3) := by decide +kernel
theorem dX7_atRank_23 : decode cX7_atRank 23 = .ok (.iload_n 1, 1) := by decide +kernel
theorem dX7_atRank_24 : decode cX7_atRank 24 = .ok (.if_icmp .ne 5, 3) := by decide +kernel
theorem dX7_atRank_27 : decode cX7_atRank 27 = .ok (.iload_n 2, 1) := by decide +kernel
theorem dX7_atRank_28 : decode cX7_atRank 28 = .ok (.ireturn, 1) := by decide +kernel
theorem dX7_atRank_29 : decode cX7_atRank 29 = .ok (.iinc 2 1, 3) := by decide +kernel
theorem dX7_atRank_32 : decode cX7_atRank 32 = .ok (.goto (-30), 3) := by decide +kernel
theorem dX7_atRank_35 : decode cX7_atRank 35 = .ok (.iconst (-1), 1) := by decide +kernel
theorem dX7_atRank_36 : decode cX7_atRank 36 = .ok (.ireturn, 1) := by decide +kernel
theorem dX7_rankOf_0 : decode cX7_rankOf 0 = .ok (.iconst 0, 1) := by decide +kernel
theorem dX7_rankOf_1 : decode cX7_rankOf 1 = .ok (.istore_n 2, 1) := by decide +kernel
theorem dX7_rankOf_2 : decode cX7_rankOf 2 = .ok (.iconst 0, 1) := by decide +kernel
theorem dX7_rankOf_3 : decode cX7_rankOf 3 = .ok (.istore_n 3, 1) := by decide +kernel
theorem dX7_rankOf_4 : decode cX7_rankOf 4 = .ok (.iload_n 3, 1) := by decide +kernel
theorem dX7_rankOf_5 : decode cX7_rankOf 5 = .ok (.aload_n 0, 1) := by decide +kernel
theorem dX7_rankOf_6 : decode cX7_rankOf 6 = .ok (.getfield 28, 3) := by decide +kernel
theorem dX7_rankOf_9 : decode cX7_rankOf 9 = .ok (.if_icmp .ge 29, 3) := by decide +kernel
theorem dX7_rankOf_12 : decode cX7_rankOf 12 = .ok (.aload_n 0, 1) := by decide +kernel
theorem dX7_rankOf_13 : decode cX7_rankOf 13 = .ok (.iload_n 3, 1) := by decide +kernel
theorem dX7_rankOf_14 : decode cX7_rankOf 14 = .ok (.invokevirtual 32, 3) := by decide +kernel
theorem dX7_rankOf_17 : decode cX7_rankOf 17 = .ok (.ifCond .eq 15, 3) := by decide +kernel
theorem dX7_rankOf_20 : decode cX7_rankOf 20 = .ok (.aload_n 0, 1) := by decide +kernel
theorem dX7_rankOf_21 : decode cX7_rankOf 21 = .ok (.iload_n 3, 1) := by decide +kernel
theorem dX7_rankOf_22 : decode cX7_rankOf 22 = .ok (.iload_n 1, 1) := by decide +kernel
theorem dX7_rankOf_23 : decode cX7_rankOf 23 = .ok (.invokevirtual 44, 3) := by decide +kernel
theorem dX7_rankOf_26 : decode cX7_rankOf 26 = .ok (.ifCond .eq 6, 3) := by decide +kernel
theorem dX7_rankOf_29 : decode cX7_rankOf 29 = .ok (.iinc 2 1, 3) := by decide +kernel
theorem dX7_rankOf_32 : decode cX7_rankOf 32 = .ok (.iinc 3 1, 3) := by decide +kernel
theorem dX7_rankOf_35 : decode cX7_rankOf 35 = .ok (.goto (-31), 3) := by decide +kernel
theorem dX7_rankOf_38 : decode cX7_rankOf 38 = .ok (.iload_n 2, 1) := by decide +kernel
theorem dX7_rankOf_39 : decode cX7_rankOf 39 = .ok (.ireturn, 1) := by decide +kernel
theorem dX7_isBefore_0 : decode cX7_isBefore 0 = .ok (.aload_n 0, 1) := by decide +kernel
theorem dX7_isBefore_1 : decode cX7_isBefore 1 = .ok (.getfield 18, 3) := by decide +kernel
theorem dX7_isBefore_4 : decode cX7_isBefore 4 = .ok (.iload_n 1, 1) := by decide +kernel
theorem dX7_isBefore_5 : decode cX7_isBefore 5 = .ok (.iaload, 1) := by decide +kernel
theorem dX7_isBefore_6 : decode cX7_isBefore 6 = .ok (.aload_n 0, 1) := by decide +kernel
theorem dX7_isBefore_7 : decode cX7_isBefore 7 = .ok (.getfield 18, 3) := by decide +kernel
theorem dX7_isBefore_10 : decode cX7_isBefore 10 = .ok (.iload_n 2, 1) := by decide +kernel
theorem dX7_isBefore_11 : decode cX7_isBefore 11 = .ok (.iaload, 1) := by decide +kernel
theorem dX7_isBefore_12 : decode cX7_isBefore 12 = .ok (.if_icmp .eq 24, 3) := by decide +kernel
theorem dX7_isBefore_15 : decode cX7_isBefore 15 = .ok (.aload_n 0, 1) := by decide +kernel
theorem dX7_isBefore_16 : decode cX7_isBefore 16 = .ok (.getfield 18, 3) := by decide +kernel
theorem dX7_isBefore_19 : decode cX7_isBefore 19 = .ok (.iload_n 1, 1) := by decide +kernel
theorem dX7_isBefore_20 : decode cX7_isBefore 20 = .ok (.iaload, 1) := by decide +kernel
theorem dX7_isBefore_21 : decode cX7_isBefore 21 = .ok (.aload_n 0, 1) := by decide +kernel
theorem dX7_isBefore_22 : decode cX7_isBefore 22 = .ok (.getfield 18, 3) := by decide +kernel
theorem dX7_isBefore_25 : decode cX7_isBefore 25 = .ok (.iload_n 2, 1) := by decide +kernel
theorem dX7_isBefore_26 : decode cX7_isBefore 26 = .ok (.iaload, 1) := by decide +kernel
theorem dX7_isBefore_27 : decode cX7_isBefore 27 = .ok (.if_icmp .ge 7, 3) := by decide +kernel
theorem dX7_isBefore_30 : decode cX7_isBefore 30 = .ok (.iconst 1, 1) := by decide +kernel
theorem dX7_isBefore_31 : decode cX7_isBefore 31 = .ok (.goto 4, 3) := by decide +kernel
theorem dX7_isBefore_34 : decode cX7_isBefore 34 = .ok (.iconst 0, 1) := by decide +kernel
theorem dX7_isBefore_35 : decode cX7_isBefore 35 = .ok (.ireturn, 1) := by decide +kernel
theorem dX7_isBefore_36 : decode cX7_isBefore 36 = .ok (.aload_n 0, 1) := by decide +kernel
theorem dX7_isBefore_37 : decode cX7_isBefore 37 = .ok (.getfield 9, 3) := by decide +kernel
theorem dX7_isBefore_40 : decode cX7_isBefore 40 = .ok (.iload_n 1, 1) := by decide +kernel
theorem dX7_isBefore_41 : decode cX7_isBefore 41 = .ok (.iaload, 1) := by decide +kernel
theorem dX7_isBefore_42 : decode cX7_isBefore 42 = .ok (.aload_n 0, 1) := by decide +kernel
theorem dX7_isBefore_43 : decode cX7_isBefore 43 = .ok (.getfield 9, 3) := by decide +kernel
theorem dX7_isBefore_46 : decode cX7_isBefore 46 = .ok (.iload_n 2, 1) := by decide +kernel
theorem dX7_isBefore_47 : decode cX7_isBefore 47 = .ok (.iaload, 1) := by decide +kernel
theorem dX7_isBefore_48 : decode cX7_isBefore 48 = .ok (.if_icmp .eq 24, 3) := by decide +kernel
theorem dX7_isBefore_51 : decode cX7_isBefore 51 = .ok (.aload_n 0, 1) := by decide +kernel
theorem dX7_isBefore_52 : decode cX7_isBefore 52 = .ok (.getfield 9, 3) := by decide +kernel
theorem dX7_isBefore_55 : decode cX7_isBefore 55 = .ok (.iload_n 1, 1) := by decide +kernel
theorem dX7_isBefore_56 : decode cX7_isBefore 56 = .ok (.iaload, 1) := by decide +kernel
theorem dX7_isBefore_57 : decode cX7_isBefore 57 = .ok (.aload_n 0, 1) := by decide +kernel
theorem dX7_isBefore_58 : decode cX7_isBefore 58 = .ok (.getfield 9, 3) := by decide +kernel
theorem dX7_isBefore_61 : decode cX7_isBefore 61 = .ok (.iload_n 2, 1) := by decide +kernel
theorem dX7_isBefore_62 : decode cX7_isBefore 62 = .ok (.iaload, 1) := by decide +kernel
theorem dX7_isBefore_63 : decode cX7_isBefore 63 = .ok (.if_icmp .le 7, 3) := by decide +kernel
theorem dX7_isBefore_66 : decode cX7_isBefore 66 = .ok (.iconst 1, 1) := by decide +kernel
theorem dX7_isBefore_67 : decode cX7_isBefore 67 = .ok (.goto 4, 3) := by decide +kernel
theorem dX7_isBefore_70 : decode cX7_isBefore 70 = .ok (.iconst 0, 1) := by decide +kernel
theorem dX7_isBefore_71 : decode cX7_isBefore 71 = .ok (.ireturn, 1) := by decide +kernel
theorem dX7_isBefore_72 : decode cX7_isBefore 72 = .ok (.iload_n 1, 1) := by decide +kernel
theorem dX7_isBefore_73 : decode cX7_isBefore 73 = .ok (.iload_n 2, 1) := by decide +kernel
theorem dX7_isBefore_74 : decode cX7_isBefore 74 = .ok (.if_icmp .ge 7, 3) := by decide +kernel
theorem dX7_isBefore_77 : decode cX7_isBefore 77 = .ok (.iconst 1, 1) := by decide +kernel
theorem dX7_isBefore_78 : decode cX7_isBefore 78 = .ok (.goto 4, 3) := by decide +kernel
theorem dX7_isBefore_81 : decode cX7_isBefore 81 = .ok (.iconst 0, 1) := by decide +kernel
theorem dX7_isBefore_82 : decode cX7_isBefore 82 = .ok (.ireturn, 1) := by decide +kernel
theorem dX7_copyFrom_0 : decode cX7_copyFrom 0 = .ok (.aload_n 0, 1) := by decide +kernel
theorem dX7_copyFrom_1 : decode cX7_copyFrom 1 = .ok (.aload_n 1, 1) := by decide +kernel
theorem dX7_copyFrom_2 : decode cX7_copyFrom 2 = .ok (.getfield 28, 3) := by decide +kernel
theorem dX7_copyFrom_5 : decode cX7_copyFrom 5 = .ok (.putfield 28, 3) := by decide +kernel
theorem dX7_copyFrom_8 : decode cX7_copyFrom 8 = .ok (.iconst 0, 1) := by decide +kernel
theorem dX7_copyFrom_9 : decode cX7_copyFrom 9 = .ok (.istore_n 2, 1) := by decide +kernel
theorem dX7_copyFrom_10 : decode cX7_copyFrom 10 = .ok (.iload_n 2, 1) := by decide +kernel
theorem dX7_copyFrom_11 : decode cX7_copyFrom 11 = .ok (.bipush 8, 2) := by decide +kernel
theorem dX7_copyFrom_13 : decode cX7_copyFrom 13 = .ok (.if_icmp .ge 69, 3) := by decide +kernel
theorem dX7_copyFrom_16 : decode cX7_copyFrom 16 = .ok (.aload_n 0, 1) := by decide +kernel
theorem dX7_copyFrom_17 : decode cX7_copyFrom 17 = .ok (.getfield 9, 3) := by decide +kernel
theorem dX7_copyFrom_20 : decode cX7_copyFrom 20 = .ok (.iload_n 2, 1) := by decide +kernel
theorem dX7_copyFrom_21 : decode cX7_copyFrom 21 = .ok (.aload_n 1, 1) := by decide +kernel
theorem dX7_copyFrom_22 : decode cX7_copyFrom 22 = .ok (.getfield 9, 3) := by decide +kernel
theorem dX7_copyFrom_25 : decode cX7_copyFrom 25 = .ok (.iload_n 2, 1) := by decide +kernel
theorem dX7_copyFrom_26 : decode cX7_copyFrom 26 = .ok (.iaload, 1) := by decide +kernel
theorem dX7_copyFrom_27 : decode cX7_copyFrom 27 = .ok (.iastore, 1) := by decide +kernel
theorem dX7_copyFrom_28 : decode cX7_copyFrom 28 = .ok (.aload_n 0, 1) := by decide +kernel
theorem dX7_copyFrom_29 : decode cX7_copyFrom 29 = .ok (.getfield 15, 3) := by decide +kernel
theorem dX7_copyFrom_32 : decode cX7_copyFrom 32 = .ok (.iload_n 2, 1) := by decide +kernel
theorem dX7_copyFrom_33 : decode cX7_copyFrom 33 = .ok (.aload_n 1, 1) := by decide +kernel
theorem dX7_copyFrom_34 : decode cX7_copyFrom 34 = .ok (.getfield 15, 3) := by decide +kernel
theorem dX7_copyFrom_37 : decode cX7_copyFrom 37 = .ok (.iload_n 2, 1) := by decide +kernel
theorem dX7_copyFrom_38 : decode cX7_copyFrom 38 = .ok (.iaload, 1) := by decide +kernel
theorem dX7_copyFrom_39 : decode cX7_copyFrom 39 = .ok (.iastore, 1) := by decide +kernel
theorem dX7_copyFrom_40 : decode cX7_copyFrom 40 = .ok (.aload_n 0, 1) := by decide +kernel
theorem dX7_copyFrom_41 : decode cX7_copyFrom 41 = .ok (.getfield 18, 3) := by decide +kernel
theorem dX7_copyFrom_44 : decode cX7_copyFrom 44 = .ok (.iload_n 2, 1) := by decide +kernel
theorem dX7_copyFrom_45 : decode cX7_copyFrom 45 = .ok (.aload_n 1, 1) := by decide +kernel
theorem dX7_copyFrom_46 : decode cX7_copyFrom 46 = .ok (.getfield 18, 3) := by decide +kernel
theorem dX7_copyFrom_49 : decode cX7_copyFrom 49 = .ok (.iload_n 2, 1) := by decide +kernel
theorem dX7_copyFrom_50 : decode cX7_copyFrom 50 = .ok (.iaload, 1) := by decide +kernel
theorem dX7_copyFrom_51 : decode cX7_copyFrom 51 = .ok (.iastore, 1) := by decide +kernel
theorem dX7_copyFrom_52 : decode cX7_copyFrom 52 = .ok (.aload_n 0, 1) := by decide +kernel
theorem dX7_copyFrom_53 : decode cX7_copyFrom 53 = .ok (.getfield 21, 3) := by decide +kernel
theorem dX7_copyFrom_56 : decode cX7_copyFrom 56 = .ok (.iload_n 2, 1) := by decide +kernel
theorem dX7_copyFrom_57 : decode cX7_copyFrom 57 = .ok (.aload_n 1, 1) := by decide +kernel
theorem dX7_copyFrom_58 : decode cX7_copyFrom 58 = .ok (.getfield 21, 3) := by decide +kernel
theorem dX7_copyFrom_61 : decode cX7_copyFrom 61 = .ok (.iload_n 2, 1) := by decide +kernel
theorem dX7_copyFrom_62 : decode cX7_copyFrom 62 = .ok (.iaload, 1) := by decide +kernel
theorem dX7_copyFrom_63 : decode cX7_copyFrom 63 = .ok (.iastore, 1) := by decide +kernel
theorem dX7_copyFrom_64 : decode cX7_copyFrom 64 = .ok (.aload_n 0, 1) := by decide +kernel
theorem dX7_copyFrom_65 : decode cX7_copyFrom 65 = .ok (.getfield 24, 3) := by decide +kernel
theorem dX7_copyFrom_68 : decode cX7_copyFrom 68 = .ok (.iload_n 2, 1) := by decide +kernel
theorem dX7_copyFrom_69 : decode cX7_copyFrom 69 = .ok (.aload_n 1, 1) := by decide +kernel
theorem dX7_copyFrom_70 : decode cX7_copyFrom 70 = .ok (.getfield 24, 3) := by decide +kernel
theorem dX7_copyFrom_73 : decode cX7_copyFrom 73 = .ok (.iload_n 2, 1) := by decide +kernel
theorem dX7_copyFrom_74 : decode cX7_copyFrom 74 = .ok (.baload, 1) := by decide +kernel
theorem dX7_copyFrom_75 : decode cX7_copyFrom 75 = .ok (.bastore, 1) := by decide +kernel
theorem dX7_copyFrom_76 : decode cX7_copyFrom 76 = .ok (.iinc 2 1, 3) := by decide +kernel
theorem dX7_copyFrom_79 : decode cX7_copyFrom 79 = .ok (.goto (-69), 3) := by decide +kernel
theorem dX7_copyFrom_82 : decode cX7_copyFrom 82 = .ok (.return_, 1) := by decide +kernel
theorem dX8_init_0 : decode cX8_init 0 = .ok (.aload_n 0, 1) := by decide +kernel
theorem dX8_init_1 : decode cX8_init 1 = .ok (.invokespecial 3, 3) := by decide +kernel
theorem dX8_init_4 : decode cX8_init 4 = .ok (.aload_n 0, 1) := by decide +kernel
theorem dX8_init_5 : decode cX8_init 5 = .ok (.bipush 8, 2) := by decide +kernel
theorem dX8_init_7 : decode cX8_init 7 = .ok (.newarray .int, 2) := by decide +kernel
theorem dX8_init_9 : decode cX8_init 9 = .ok (.putfield 9, 3) := by decide +kernel
theorem dX8_init_12 : decode cX8_init 12 = .ok (.aload_n 0, 1) := by decide +kernel
theorem dX8_init_13 : decode cX8_init 13 = .ok (.bipush 8, 2) := by decide +kernel
theorem dX8_init_15 : decode cX8_init 15 = .ok (.newarray .int, 2) := by decide +kernel
theorem dX8_init_17 : decode cX8_init 17 = .ok (.putfield 15, 3) := by decide +kernel
theorem dX8_init_20 : decode cX8_init 20 = .ok (.return_, 1) := by decide +kernel
theorem dX8_positionOf_0 : decode cX8_positionOf 0 = .ok (.iconst 0, 1) := by decide +kernel
theorem dX8_positionOf_1 : decode cX8_positionOf 1 = .ok (.istore_n 2, 1) := by decide +kernel
theorem dX8_positionOf_2 : decode cX8_positionOf 2 = .ok (.iload_n 2, 1) := by decide +kernel
theorem dX8_positionOf_3 : decode cX8_positionOf 3 = .ok (.aload_n 0, 1) := by decide +kernel
theorem dX8_positionOf_4 : decode cX8_positionOf 4 = .ok (.getfield 18, 3) := by decide +kernel
theorem dX8_positionOf_7 : decode cX8_positionOf 7 = .ok (.if_icmp .ge 21, 3) := by decide +kernel
theorem dX8_positionOf_10 : decode cX8_positionOf 10 = .ok (.aload_n 0, 1) := by decide +kernel
theorem dX8_positionOf_11 : decode cX8_positionOf 11 = .ok (.getfield 9, 3) := by decide +kernel
theorem dX8_positionOf_14 : decode cX8_positionOf 14 = .ok (.iload_n 2, 1) := by decide +kernel
theorem dX8_positionOf_15 : decode cX8_positionOf 15 = .ok (.iaload, 1) := by decide +kernel
theorem dX8_positionOf_16 : decode cX8_positionOf 16 = .ok (.iload_n 1, 1) := by decide +kernel
theorem dX8_positionOf_17 : decode cX8_positionOf 17 = .ok (.if_icmp .ne 5, 3) := by decide +kernel
theorem dX8_positionOf_20 : decode cX8_positionOf 20 = .ok (.iload_n 2, 1) := by decide +kernel
theorem dX8_positionOf_21 : decode cX8_positionOf 21 = .ok (.ireturn, 1) := by decide +kernel
theorem dX8_positionOf_22 : decode cX8_positionOf 22 = .ok (.iinc 2 1, 3) := by decide +kernel
theorem dX8_positionOf_25 : decode cX8_positionOf 25 = .ok (.goto (-23), 3) := by decide +kernel
theorem dX8_positionOf_28 : decode cX8_positionOf 28 = .ok (.iconst (-1), 1) := by decide +kernel
theorem dX8_positionOf_29 : decode cX8_positionOf 29 = .ok (.ireturn, 1) := by decide +kernel
theorem dX8_append_0 : decode cX8_append 0 = .ok (.aload_n 0, 1) := by decide +kernel
theorem dX8_append_1 : decode cX8_append 1 = .ok (.getfield 18, 3) := by decide +kernel
theorem dX8_append_4 : decode cX8_append 4 = .ok (.bipush 8, 2) := by decide +kernel
theorem dX8_append_6 : decode cX8_append 6 = .ok (.if_icmp .lt 5, 3) := by decide +kernel
theorem dX8_append_9 : decode cX8_append 9 = .ok (.iconst (-1), 1) := by decide +kernel
theorem dX8_append_10 : decode cX8_append 10 = .ok (.ireturn, 1) := by decide +kernel
theorem dX8_append_11 : decode cX8_append 11 = .ok (.aload_n 0, 1) := by decide +kernel
theorem dX8_append_12 : decode cX8_append 12 = .ok (.getfield 18, 3) := by decide +kernel
theorem dX8_append_15 : decode cX8_append 15 = .ok (.istore_n 3, 1) := by decide +kernel
theorem dX8_append_16 : decode cX8_append 16 = .ok (.aload_n 0, 1) := by decide +kernel
theorem dX8_append_17 : decode cX8_append 17 = .ok (.dup, 1) := by decide +kernel
theorem dX8_append_18 : decode cX8_append 18 = .ok (.getfield 18, 3) := by decide +kernel
theorem dX8_append_21 : decode cX8_append 21 = .ok (.iconst 1, 1) := by decide +kernel
theorem dX8_append_22 : decode cX8_append 22 = .ok (.iadd, 1) := by decide +kernel
theorem dX8_append_23 : decode cX8_append 23 = .ok (.putfield 18, 3) := by decide +kernel
theorem dX8_append_26 : decode cX8_append 26 = .ok (.aload_n 0, 1) := by decide +kernel
theorem dX8_append_27 : decode cX8_append 27 = .ok (.getfield 9, 3) := by decide +kernel
theorem dX8_append_30 : decode cX8_append 30 = .ok (.iload_n 3, 1) := by decide +kernel
theorem dX8_append_31 : decode cX8_append 31 = .ok (.iload_n 1, 1) := by decide +kernel
theorem dX8_append_32 : decode cX8_append 32 = .ok (.iastore, 1) := by decide +kernel
theorem dX8_append_33 : decode cX8_append 33 = .ok (.aload_n 0, 1) := by decide +kernel
theorem dX8_append_34 : decode cX8_append 34 = .ok (.getfield 15, 3) := by decide +kernel
theorem dX8_append_37 : decode cX8_append 37 = .ok (.iload_n 3, 1) := by decide +kernel
theorem dX8_append_38 : decode cX8_append 38 = .ok (.iload_n 2, 1) := by decide +kernel
theorem dX8_append_39 : decode cX8_append 39 = .ok (.iastore, 1) := by decide +kernel
theorem dX8_append_40 : decode cX8_append 40 = .ok (.iload_n 3, 1) := by decide +kernel
theorem dX8_append_41 : decode cX8_append 41 = .ok (.ireturn, 1) := by decide +kernel
theorem dX8_removeFor_0 : decode cX8_removeFor 0 = .ok (.iconst 0, 1) := by decide +kernel
theorem dX8_removeFor_1 : decode cX8_removeFor 1 = .ok (.istore_n 2, 1) := by decide +kernel
theorem dX8_removeFor_2 : decode cX8_removeFor 2 = .ok (.iconst 0, 1) := by decide +kernel
theorem dX8_removeFor_3 : decode cX8_removeFor 3 = .ok (.istore_n 3, 1) := by decide +kernel
theorem dX8_removeFor_4 : decode cX8_removeFor 4 = .ok (.iload_n 3, 1) := by decide +kernel
theorem dX8_removeFor_5 : decode cX8_removeFor 5 = .ok (.aload_n 0, 1) := by decide +kernel
theorem dX8_removeFor_6 : decode cX8_removeFor 6 = .ok (.getfield 18, 3) := by decide +kernel
theorem dX8_removeFor_9 : decode cX8_removeFor 9 = .ok (.if_icmp .ge 46, 3) := by decide +kernel
theorem dX8_removeFor_12 : decode cX8_removeFor 12 = .ok (.aload_n 0, 1) := by decide +kernel
theorem dX8_removeFor_13 : decode cX8_removeFor 13 = .ok (.getfield 9, 3) := by decide +kernel
theorem dX8_removeFor_16 : decode cX8_removeFor 16 = .ok (.iload_n 3, 1) := by decide +kernel
theorem dX8_removeFor_17 : decode cX8_removeFor 17 = .ok (.iaload, 1) := by decide +kernel
theorem dX8_removeFor_18 : decode cX8_removeFor 18 = .ok (.iload_n 1, 1) := by decide +kernel
theorem dX8_removeFor_19 : decode cX8_removeFor 19 = .ok (.if_icmp .eq 30, 3) := by decide +kernel
theorem dX8_removeFor_22 : decode cX8_removeFor 22 = .ok (.aload_n 0, 1) := by decide +kernel
theorem dX8_removeFor_23 : decode cX8_removeFor 23 = .ok (.getfield 9, 3) := by decide +kernel
theorem dX8_removeFor_26 : decode cX8_removeFor 26 = .ok (.iload_n 2, 1) := by decide +kernel
theorem dX8_removeFor_27 : decode cX8_removeFor 27 = .ok (.aload_n 0, 1) := by decide +kernel
theorem dX8_removeFor_28 : decode cX8_removeFor 28 = .ok (.getfield 9, 3) := by decide +kernel
theorem dX8_removeFor_31 : decode cX8_removeFor 31 = .ok (.iload_n 3, 1) := by decide +kernel
theorem dX8_removeFor_32 : decode cX8_removeFor 32 = .ok (.iaload, 1) := by decide +kernel
theorem dX8_removeFor_33 : decode cX8_removeFor 33 = .ok (.iastore, 1) := by decide +kernel
theorem dX8_removeFor_34 : decode cX8_removeFor 34 = .ok (.aload_n 0, 1) := by decide +kernel
theorem dX8_removeFor_35 : decode cX8_removeFor 35 = .ok (.getfield 15, 3) := by decide +kernel
theorem dX8_removeFor_38 : decode cX8_removeFor 38 = .ok (.iload_n 2, 1) := by decide +kernel
theorem dX8_removeFor_39 : decode cX8_removeFor 39 = .ok (.aload_n 0, 1) := by decide +kernel
theorem dX8_removeFor_40 : decode cX8_removeFor 40 = .ok (.getfield 15, 3) := by decide +kernel
theorem dX8_removeFor_43 : decode cX8_removeFor 43 = .ok (.iload_n 3, 1) := by decide +kernel
theorem dX8_removeFor_44 : decode cX8_removeFor 44 = .ok (.iaload, 1) := by decide +kernel
theorem dX8_removeFor_45 : decode cX8_removeFor 45 = .ok (.iastore, 1) := by decide +kernel
theorem dX8_removeFor_46 : decode cX8_removeFor 46 = .ok (.iinc 2 1, 3) := by decide +kernel
theorem dX8_removeFor_49 : decode cX8_removeFor 49 = .ok (.iinc 3 1, 3) := by decide +kernel
theorem dX8_removeFor_52 : decode cX8_removeFor 52 = .ok (.goto (-48), 3) := by decide +kernel
theorem dX8_removeFor_55 : decode cX8_removeFor 55 = .ok (.aload_n 0, 1) := by decide +kernel
theorem dX8_removeFor_56 : decode cX8_removeFor 56 = .ok (.iload_n 2, 1) := by decide +kernel
theorem dX8_removeFor_57 : decode cX8_removeFor 57 = .ok (.putfield 18, 3) := by decide +kernel
theorem dX8_removeFor_60 : decode cX8_removeFor 60 = .ok (.return_, 1) := by decide +kernel
theorem dX8_clear_0 : decode cX8_clear 0 = .ok (.aload_n 0, 1) := by decide +kernel
theorem dX8_clear_1 : decode cX8_clear 1 = .ok (.iconst 0, 1) := by decide +kernel
theorem dX8_clear_2 : decode cX8_clear 2 = .ok (.putfield 18, 3) := by decide +kernel
theorem dX8_clear_5 : decode cX8_clear 5 = .ok (.return_, 1) := by decide +kernel
theorem dX8_copyFrom_0 : decode cX8_copyFrom 0 = .ok (.aload_n 0, 1) := by decide +kernel
theorem dX8_copyFrom_1 : decode cX8_copyFrom 1 = .ok (.aload_n 1, 1) := by decide +kernel
theorem dX8_copyFrom_2 : decode cX8_copyFrom 2 = .ok (.getfield 18, 3) := by decide +kernel
theorem dX8_copyFrom_5 : decode cX8_copyFrom 5 = .ok (.putfield 18, 3) := by decide +kernel
theorem dX8_copyFrom_8 : decode cX8_copyFrom 8 = .ok (.iconst 0, 1) := by decide +kernel
theorem dX8_copyFrom_9 : decode cX8_copyFrom 9 = .ok (.istore_n 2, 1) := by decide +kernel
theorem dX8_copyFrom_10 : decode cX8_copyFrom 10 = .ok (.iload_n 2, 1) := by decide +kernel
theorem dX8_copyFrom_11 : decode cX8_copyFrom 11 = .ok (.bipush 8, 2) := by decide +kernel
theorem dX8_copyFrom_13 : decode cX8_copyFrom 13 = .ok (.if_icmp .ge 33, 3) := by decide +kernel
theorem dX8_copyFrom_16 : decode cX8_copyFrom 16 = .ok (.aload_n 0, 1) := by decide +kernel
theorem dX8_copyFrom_17 : decode cX8_copyFrom 17 = .ok (.getfield 9, 3) := by decide +kernel
theorem dX8_copyFrom_20 : decode cX8_copyFrom 20 = .ok (.iload_n 2, 1) := by decide +kernel
theorem dX8_copyFrom_21 : decode cX8_copyFrom 21 = .ok (.aload_n 1, 1) := by decide +kernel
theorem dX8_copyFrom_22 : decode cX8_copyFrom 22 = .ok (.getfield 9, 3) := by decide +kernel
theorem dX8_copyFrom_25 : decode cX8_copyFrom 25 = .ok (.iload_n 2, 1) := by decide +kernel
theorem dX8_copyFrom_26 : decode cX8_copyFrom 26 = .ok (.iaload, 1) := by decide +kernel
theorem dX8_copyFrom_27 : decode cX8_copyFrom 27 = .ok (.iastore, 1) := by decide +kernel
theorem dX8_copyFrom_28 : decode cX8_copyFrom 28 = .ok (.aload_n 0, 1) := by decide +kernel
theorem dX8_copyFrom_29 : decode cX8_copyFrom 29 = .ok (.getfield 15, 3) := by decide +kernel
theorem dX8_copyFrom_32 : decode cX8_copyFrom 32 = .ok (.iload_n 2, 1) := by decide +kernel
theorem dX8_copyFrom_33 : decode cX8_copyFrom 33 = .ok (.aload_n 1, 1) := by decide +kernel
theorem dX8_copyFrom_34 : decode cX8_copyFrom 34 = .ok (.getfield 15, 3) := by decide +kernel
theorem dX8_copyFrom_37 : decode cX8_copyFrom 37 = .ok (.iload_n 2, 1) := by decide +kernel
theorem dX8_copyFrom_38 : decode cX8_copyFrom 38 = .ok (.iaload, 1) := by decide +kernel
theorem dX8_copyFrom_39 : decode cX8_copyFrom 39 = .ok (.iastore, 1) := by decide +kernel
theorem dX8_copyFrom_40 : decode cX8_copyFrom 40 = .ok (.iinc 2 1, 3) := by decide +kernel
theorem dX8_copyFrom_43 : decode cX8_copyFrom 43 = .ok (.goto (-33), 3) := by decide +kernel
theorem dX8_copyFrom_46 : decode cX8_copyFrom 46 = .ok (.return_, 1) := by decide +kernel
theorem dX9_init_0 : decode cX9_init 0 = .ok (.aload_n 0, 1) := by decide +kernel
theorem dX9_init_1 : decode cX9_init 1 = .ok (.invokespecial 3, 3) := by decide +kernel
theorem dX9_init_4 : decode cX9_init 4 = .ok (.aload_n 0, 1) := by decide +kernel
theorem dX9_init_5 : decode cX9_init 5 = .ok (.bipush 6, 2) := by decide +kernel
theorem dX9_init_7 : decode cX9_init 7 = .ok (.newarray .int, 2) := by decide +kernel
theorem dX9_init_9 : decode cX9_init 9 = .ok (.putfield 9, 3) := by decide +kernel
theorem dX9_init_12 : decode cX9_init 12 = .ok (.aload_n 0, 1) := by decide +kernel
theorem dX9_init_13 : decode cX9_init 13 = .ok (.bipush 6, 2) := by decide +kernel
theorem dX9_init_15 : decode cX9_init 15 = .ok (.newarray .int, 2) := by decide +kernel
theorem dX9_init_17 : decode cX9_init 17 = .ok (.putfield 15, 3) := by decide +kernel
theorem dX9_init_20 : decode cX9_init 20 = .ok (.aload_n 0, 1) := by decide +kernel
theorem dX9_init_21 : decode cX9_init 21 = .ok (.bipush 6, 2) := by decide +kernel
theorem dX9_init_23 : decode cX9_init 23 = .ok (.newarray .int, 2) := by decide +kernel
theorem dX9_init_25 : decode cX9_init 25 = .ok (.putfield 18, 3) := by decide +kernel
theorem dX9_init_28 : decode cX9_init 28 = .ok (.return_, 1) := by decide +kernel
theorem dX9_exists_0 : decode cX9_exists 0 = .ok (.iload_n 1, 1) := by decide +kernel
theorem dX9_exists_1 : decode cX9_exists 1 = .ok (.ifCond .lt 15, 3) := by decide +kernel
theorem dX9_exists_4 : decode cX9_exists 4 = .ok (.iload_n 1, 1) := by decide +kernel
theorem dX9_exists_5 : decode cX9_exists 5 = .ok (.aload_n 0, 1) := by decide +kernel
theorem dX9_exists_6 : decode cX9_exists 6 = .ok (.getfield 21, 3) := by decide +kernel
theorem dX9_exists_9 : decode cX9_exists 9 = .ok (.if_icmp .ge 7, 3) := by decide +kernel
theorem dX9_exists_12 : decode cX9_exists 12 = .ok (.iconst 1, 1) := by decide +kernel
theorem dX9_exists_13 : decode cX9_exists 13 = .ok (.goto 4, 3) := by decide +kernel
theorem dX9_exists_16 : decode cX9_exists 16 = .ok (.iconst 0, 1) := by decide +kernel
theorem dX9_exists_17 : decode cX9_exists 17 = .ok (.ireturn, 1) := by decide +kernel
theorem dX9_append_0 : decode cX9_append 0 = .ok (.aload_n 0, 1) := by decide +kernel
theorem dX9_append_1 : decode cX9_append 1 = .ok (.getfield 21, 3) := by decide +kernel
theorem dX9_append_4 : decode cX9_append 4 = .ok (.bipush 6, 2) := by decide +kernel
theorem dX9_append_6 : decode cX9_append 6 = .ok (.if_icmp .lt 5, 3) := by decide +kernel
theorem dX9_append_9 : decode cX9_append 9 = .ok (.iconst (-1), 1) := by decide +kernel
theorem dX9_append_10 : decode cX9_append 10 = .ok (.ireturn, 1) := by decide +kernel
theorem dX9_append_11 : decode cX9_append 11 = .ok (.aload_n 0, 1) := by decide +kernel
theorem dX9_append_12 : decode cX9_append 12 = .ok (.getfield 21, 3) := by decide +kernel
theorem dX9_append_15 : decode cX9_append 15 = .ok (.istore_n 1, 1) := by decide +kernel
theorem dX9_append_16 : decode cX9_append 16 = .ok (.aload_n 0, 1) := by decide +kernel
theorem dX9_append_17 : decode cX9_append 17 = .ok (.dup, 1) := by decide +kernel
theorem dX9_append_18 : decode cX9_append 18 = .ok (.getfield 21, 3) := by decide +kernel
theorem dX9_append_21 : decode cX9_append 21 = .ok (.iconst 1, 1) := by decide +kernel
theorem dX9_append_22 : decode cX9_append 22 = .ok (.iadd, 1) := by decide +kernel
theorem dX9_append_23 : decode cX9_append 23 = .ok (.putfield 21, 3) := by decide +kernel
theorem dX9_append_26 : decode cX9_append 26 = .ok (.aload_n 0, 1) := by decide +kernel
theorem dX9_append_27 : decode cX9_append 27 = .ok (.getfield 9, 3) := by decide +kernel
theorem dX9_append_30 : decode cX9_append 30 = .ok (.iload_n 1, 1) := by decide +kernel
theorem dX9_append_31 : decode cX9_append 31 = .ok (.bipush 100, 2) := by decide +kernel
theorem dX9_append_33 : decode cX9_append 33 = .ok (.iastore, 1) := by decide +kernel
theorem dX9_append_34 : decode cX9_append 34 = .ok (.aload_n 0, 1) := by decide +kernel
theorem dX9_append_35 : decode cX9_append 35 = .ok (.getfield 15, 3) := by decide +kernel
theorem dX9_append_38 : decode cX9_append 38 = .ok (.iload_n 1, 1) := by decide +kernel
theorem dX9_append_39 : decode cX9_append 39 = .ok (.iconst 0, 1) := by decide +kernel
theorem dX9_append_40 : decode cX9_append 40 = .ok (.iastore, 1) := by decide +kernel
theorem dX9_append_41 : decode cX9_append 41 = .ok (.aload_n 0, 1) := by decide +kernel
theorem dX9_append_42 : decode cX9_append 42 = .ok (.getfield 18, 3) := by decide +kernel
theorem dX9_append_45 : decode cX9_append 45 = .ok (.iload_n 1, 1) := by decide +kernel
theorem dX9_append_46 : decode cX9_append 46 = .ok (.iconst 0, 1) := by decide +kernel
theorem dX9_append_47 : decode cX9_append 47 = .ok (.iastore, 1) := by decide +kernel
theorem dX9_append_48 : decode cX9_append 48 = .ok (.iload_n 1, 1) := by decide +kernel
theorem dX9_append_49 : decode cX9_append 49 = .ok (.ireturn, 1) := by decide +kernel
theorem dX9_canPay_0 : decode cX9_canPay 0 = .ok (.iload_n 1, 1) := by decide +kernel
theorem dX9_canPay_1 : decode cX9_canPay 1 = .ok (.ifCond .lt 25, 3) := by decide +kernel
theorem dX9_canPay_4 : decode cX9_canPay 4 = .ok (.iload_n 1, 1) := by decide +kernel
theorem dX9_canPay_5 : decode cX9_canPay 5 = .ok (.aload_n 0, 1) := by decide +kernel
theorem dX9_canPay_6 : decode cX9_canPay 6 = .ok (.getfield 21, 3) := by decide +kernel
theorem dX9_canPay_9 : decode cX9_canPay 9 = .ok (.if_icmp .ge 17, 3) := by decide +kernel
theorem dX9_canPay_12 : decode cX9_canPay 12 = .ok (.aload_n 0, 1) := by decide +kernel
theorem dX9_canPay_13 : decode cX9_canPay 13 = .ok (.getfield 9, 3) := by decide +kernel
theorem dX9_canPay_16 : decode cX9_canPay 16 = .ok (.iload_n 1, 1) := by decide +kernel
theorem dX9_canPay_17 : decode cX9_canPay 17 = .ok (.iaload, 1) := by decide +kernel
theorem dX9_canPay_18 : decode cX9_canPay 18 = .ok (.iload_n 2, 1) := by decide +kernel
theorem dX9_canPay_19 : decode cX9_canPay 19 = .ok (.if_icmp .lt 7, 3) := by decide +kernel
theorem dX9_canPay_22 : decode cX9_canPay 22 = .ok (.iconst 1, 1) := by decide +kernel
theorem dX9_canPay_23 : decode cX9_canPay 23 = .ok (.goto 4, 3) := by decide +kernel
theorem dX9_canPay_26 : decode cX9_canPay 26 = .ok (.iconst 0, 1) := by decide +kernel
theorem dX9_canPay_27 : decode cX9_canPay 27 = .ok (.ireturn, 1) := by decide +kernel
theorem dX9_sumOfCoins_0 : decode cX9_sumOfCoins 0 = .ok (.iconst 0, 1) := by decide +kernel
theorem dX9_sumOfCoins_1 : decode cX9_sumOfCoins 1 = .ok (.istore_n 1, 1) := by decide +kernel
theorem dX9_sumOfCoins_2 : decode cX9_sumOfCoins 2 = .ok (.iconst 0, 1) := by decide +kernel
theorem dX9_sumOfCoins_3 : decode cX9_sumOfCoins 3 = .ok (.istore_n 2, 1) := by decide +kernel
theorem dX9_sumOfCoins_4 : decode cX9_sumOfCoins 4 = .ok (.iload_n 2, 1) := by decide +kernel
theorem dX9_sumOfCoins_5 : decode cX9_sumOfCoins 5 = .ok (.aload_n 0, 1) := by decide +kernel
theorem dX9_sumOfCoins_6 : decode cX9_sumOfCoins 6 = .ok (.getfield 21, 3) := by decide +kernel
theorem dX9_sumOfCoins_9 : decode cX9_sumOfCoins 9 = .ok (.if_icmp .ge 18, 3) := by decide +kernel
theorem dX9_sumOfCoins_12 : decode cX9_sumOfCoins 12 = .ok (.iload_n 1, 1) := by decide +kernel
theorem dX9_sumOfCoins_13 : decode cX9_sumOfCoins 13 = .ok (.aload_n 0, 1) := by decide +kernel
theorem dX9_sumOfCoins_14 : decode cX9_sumOfCoins 14 = .ok (.getfield 9, 3) := by decide +kernel
theorem dX9_sumOfCoins_17 : decode cX9_sumOfCoins 17 = .ok (.iload_n 2, 1) := by decide +kernel
theorem dX9_sumOfCoins_18 : decode cX9_sumOfCoins 18 = .ok (.iaload, 1) := by decide +kernel
theorem dX9_sumOfCoins_19 : decode cX9_sumOfCoins 19 = .ok (.iadd, 1) := by decide +kernel
theorem dX9_sumOfCoins_20 : decode cX9_sumOfCoins 20 = .ok (.istore_n 1, 1) := by decide +kernel
theorem dX9_sumOfCoins_21 : decode cX9_sumOfCoins 21 = .ok (.iinc 2 1, 3) := by decide +kernel
theorem dX9_sumOfCoins_24 : decode cX9_sumOfCoins 24 = .ok (.goto (-20), 3) := by decide +kernel
theorem dX9_sumOfCoins_27 : decode cX9_sumOfCoins 27 = .ok (.iload_n 1, 1) := by decide +kernel
theorem dX9_sumOfCoins_28 : decode cX9_sumOfCoins 28 = .ok (.ireturn, 1) := by decide +kernel
theorem dX9_atRank_0 : decode cX9_atRank 0 = .ok (.iconst 0, 1) := by decide +kernel
theorem dX9_atRank_1 : decode cX9_atRank 1 = .ok (.istore_n 2, 1) := by decide +kernel
theorem dX9_atRank_2 : decode cX9_atRank 2 = .ok (.iload_n 2, 1) := by decide +kernel
theorem dX9_atRank_3 : decode cX9_atRank 3 = .ok (.aload_n 0, 1) := by decide +kernel
theorem dX9_atRank_4 : decode cX9_atRank 4 = .ok (.getfield 21, 3) := by decide +kernel
theorem dX9_atRank_7 : decode cX9_atRank 7 = .ok (.if_icmp .ge 20, 3) := by decide +kernel
theorem dX9_atRank_10 : decode cX9_atRank 10 = .ok (.aload_n 0, 1) := by decide +kernel
theorem dX9_atRank_11 : decode cX9_atRank 11 = .ok (.iload_n 2, 1) := by decide +kernel
theorem dX9_atRank_12 : decode cX9_atRank 12 = .ok (.invokevirtual 25, 3) := by decide +kernel
theorem dX9_atRank_15 : decode cX9_atRank 15 = .ok (.iload_n 1, 1) := by decide +kernel
theorem dX9_atRank_16 : decode cX9_atRank 16 = .ok (.if_icmp .ne 5, 3) := by decide +kernel
theorem dX9_atRank_19 : decode cX9_atRank 19 = .ok (.iload_n 2, 1) := by decide +kernel
theorem dX9_atRank_20 : decode cX9_atRank 20 = .ok (.ireturn, 1) := by decide +kernel
theorem dX9_atRank_21 : decode cX9_atRank 21 = .ok (.iinc 2 1, 3) := by decide +kernel
theorem dX9_atRank_24 : decode cX9_atRank 24 = .ok (.goto (-22), 3) := by decide +kernel
theorem dX9_atRank_27 : decode cX9_atRank 27 = .ok (.iconst (-1), 1) := by decide +kernel
theorem dX9_atRank_28 : decode cX9_atRank 28 = .ok (.ireturn, 1) := by decide +kernel
theorem dX9_rankOf_0 : decode cX9_rankOf 0 = .ok (.iconst 0, 1) := by decide +kernel
theorem dX9_rankOf_1 : decode cX9_rankOf 1 = .ok (.istore_n 2, 1) := by decide +kernel
theorem dX9_rankOf_2 : decode cX9_rankOf 2 = .ok (.iconst 0, 1) := by decide +kernel
theorem dX9_rankOf_3 : decode cX9_rankOf 3 = .ok (.istore_n 3, 1) := by decide +kernel
theorem dX9_rankOf_4 : decode cX9_rankOf 4 = .ok (.iload_n 3, 1) := by decide +kernel
theorem dX9_rankOf_5 : decode cX9_rankOf 5 = .ok (.aload_n 0, 1) := by decide +kernel
theorem dX9_rankOf_6 : decode cX9_rankOf 6 = .ok (.getfield 21, 3) := by decide +kernel
theorem dX9_rankOf_9 : decode cX9_rankOf 9 = .ok (.if_icmp .ge 21, 3) := by decide +kernel
theorem dX9_rankOf_12 : decode cX9_rankOf 12 = .ok (.aload_n 0, 1) := by decide +kernel
theorem dX9_rankOf_13 : decode cX9_rankOf 13 = .ok (.iload_n 3, 1) := by decide +kernel
theorem dX9_rankOf_14 : decode cX9_rankOf 14 = .ok (.iload_n 1, 1) := by decide +kernel
theorem dX9_rankOf_15 : decode cX9_rankOf 15 = .ok (.invokevirtual 29, 3) := by decide +kernel
theorem dX9_rankOf_18 : decode cX9_rankOf 18 = .ok (.ifCond .eq 6, 3) := by decide +kernel
theorem dX9_rankOf_21 : decode cX9_rankOf 21 = .ok (.iinc 2 1, 3) := by decide +kernel
theorem dX9_rankOf_24 : decode cX9_rankOf 24 = .ok (.iinc 3 1, 3) := by decide +kernel
theorem dX9_rankOf_27 : decode cX9_rankOf 27 = .ok (.goto (-23), 3) := by decide +kernel
theorem dX9_rankOf_30 : decode cX9_rankOf 30 = .ok (.iload_n 2, 1) := by decide +kernel
theorem dX9_rankOf_31 : decode cX9_rankOf 31 = .ok (.ireturn, 1) := by decide +kernel
theorem dX9_isBefore_0 : decode cX9_isBefore 0 = .ok (.aload_n 0, 1) := by decide +kernel
theorem dX9_isBefore_1 : decode cX9_isBefore 1 = .ok (.getfield 15, 3) := by decide +kernel
theorem dX9_isBefore_4 : decode cX9_isBefore 4 = .ok (.iload_n 1, 1) := by decide +kernel
theorem dX9_isBefore_5 : decode cX9_isBefore 5 = .ok (.iaload, 1) := by decide +kernel
theorem dX9_isBefore_6 : decode cX9_isBefore 6 = .ok (.aload_n 0, 1) := by decide +kernel
theorem dX9_isBefore_7 : decode cX9_isBefore 7 = .ok (.getfield 15, 3) := by decide +kernel
theorem dX9_isBefore_10 : decode cX9_isBefore 10 = .ok (.iload_n 2, 1) := by decide +kernel
theorem dX9_isBefore_11 : decode cX9_isBefore 11 = .ok (.iaload, 1) := by decide +kernel
theorem dX9_isBefore_12 : decode cX9_isBefore 12 = .ok (.if_icmp .eq 24, 3) := by decide +kernel
theorem dX9_isBefore_15 : decode cX9_isBefore 15 = .ok (.aload_n 0, 1) := by decide +kernel
theorem dX9_isBefore_16 : decode cX9_isBefore 16 = .ok (.getfield 15, 3) := by decide +kernel
theorem dX9_isBefore_19 : decode cX9_isBefore 19 = .ok (.iload_n 1, 1) := by decide +kernel
theorem dX9_isBefore_20 : decode cX9_isBefore 20 = .ok (.iaload, 1) := by decide +kernel
theorem dX9_isBefore_21 : decode cX9_isBefore 21 = .ok (.aload_n 0, 1) := by decide +kernel
theorem dX9_isBefore_22 : decode cX9_isBefore 22 = .ok (.getfield 15, 3) := by decide +kernel
theorem dX9_isBefore_25 : decode cX9_isBefore 25 = .ok (.iload_n 2, 1) := by decide +kernel
theorem dX9_isBefore_26 : decode cX9_isBefore 26 = .ok (.iaload, 1) := by decide +kernel
theorem dX9_isBefore_27 : decode cX9_isBefore 27 = .ok (.if_icmp .le 7, 3) := by decide +kernel
theorem dX9_isBefore_30 : decode cX9_isBefore 30 = .ok (.iconst 1, 1) := by decide +kernel
theorem dX9_isBefore_31 : decode cX9_isBefore 31 = .ok (.goto 4, 3) := by decide +kernel
theorem dX9_isBefore_34 : decode cX9_isBefore 34 = .ok (.iconst 0, 1) := by decide +kernel
theorem dX9_isBefore_35 : decode cX9_isBefore 35 = .ok (.ireturn, 1) := by decide +kernel
theorem dX9_isBefore_36 : decode cX9_isBefore 36 = .ok (.aload_n 0, 1) := by decide +kernel
theorem dX9_isBefore_37 : decode cX9_isBefore 37 = .ok (.getfield 9, 3) := by decide +kernel
theorem dX9_isBefore_40 : decode cX9_isBefore 40 = .ok (.iload_n 1, 1) := by decide +kernel
theorem dX9_isBefore_41 : decode cX9_isBefore 41 = .ok (.iaload, 1) := by decide +kernel
theorem dX9_isBefore_42 : decode cX9_isBefore 42 = .ok (.aload_n 0, 1) := by decide +kernel
theorem dX9_isBefore_43 : decode cX9_isBefore 43 = .ok (.getfield 9, 3) := by decide +kernel
theorem dX9_isBefore_46 : decode cX9_isBefore 46 = .ok (.iload_n 2, 1) := by decide +kernel
theorem dX9_isBefore_47 : decode cX9_isBefore 47 = .ok (.iaload, 1) := by decide +kernel
theorem dX9_isBefore_48 : decode cX9_isBefore 48 = .ok (.if_icmp .eq 24, 3) := by decide +kernel
theorem dX9_isBefore_51 : decode cX9_isBefore 51 = .ok (.aload_n 0, 1) := by decide +kernel
theorem dX9_isBefore_52 : decode cX9_isBefore 52 = .ok (.getfield 9, 3) := by decide +kernel
theorem dX9_isBefore_55 : decode cX9_isBefore 55 = .ok (.iload_n 1, 1) := by decide +kernel
theorem dX9_isBefore_56 : decode cX9_isBefore 56 = .ok (.iaload, 1) := by decide +kernel
theorem dX9_isBefore_57 : decode cX9_isBefore 57 = .ok (.aload_n 0, 1) := by decide +kernel
theorem dX9_isBefore_58 : decode cX9_isBefore 58 = .ok (.getfield 9, 3) := by decide +kernel
theorem dX9_isBefore_61 : decode cX9_isBefore 61 = .ok (.iload_n 2, 1) := by decide +kernel
theorem dX9_isBefore_62 : decode cX9_isBefore 62 = .ok (.iaload, 1) := by decide +kernel
theorem dX9_isBefore_63 : decode cX9_isBefore 63 = .ok (.if_icmp .ge 7, 3) := by decide +kernel
theorem dX9_isBefore_66 : decode cX9_isBefore 66 = .ok (.iconst 1, 1) := by decide +kernel
theorem dX9_isBefore_67 : decode cX9_isBefore 67 = .ok (.goto 4, 3) := by decide +kernel
theorem dX9_isBefore_70 : decode cX9_isBefore 70 = .ok (.iconst 0, 1) := by decide +kernel
theorem dX9_isBefore_71 : decode cX9_isBefore 71 = .ok (.ireturn, 1) := by decide +kernel
theorem dX9_isBefore_72 : decode cX9_isBefore 72 = .ok (.iload_n 1, 1) := by decide +kernel
theorem dX9_isBefore_73 : decode cX9_isBefore 73 = .ok (.iload_n 2, 1) := by decide +kernel
theorem dX9_isBefore_74 : decode cX9_isBefore 74 = .ok (.if_icmp .ge 7, 3) := by decide +kernel
theorem dX9_isBefore_77 : decode cX9_isBefore 77 = .ok (.iconst 1, 1) := by decide +kernel
theorem dX9_isBefore_78 : decode cX9_isBefore 78 = .ok (.goto 4, 3) := by decide +kernel
theorem dX9_isBefore_81 : decode cX9_isBefore 81 = .ok (.iconst 0, 1) := by decide +kernel
theorem dX9_isBefore_82 : decode cX9_isBefore 82 = .ok (.ireturn, 1) := by decide +kernel
theorem dX9_copyFrom_0 : decode cX9_copyFrom 0 = .ok (.aload_n 0, 1) := by decide +kernel
theorem dX9_copyFrom_1 : decode cX9_copyFrom 1 = .ok (.aload_n 1, 1) := by decide +kernel
theorem dX9_copyFrom_2 : decode cX9_copyFrom 2 = .ok (.getfield 21, 3) := by decide +kernel
theorem dX9_copyFrom_5 : decode cX9_copyFrom 5 = .ok (.putfield 21, 3) := by decide +kernel
theorem dX9_copyFrom_8 : decode cX9_copyFrom 8 = .ok (.iconst 0, 1) := by decide +kernel
theorem dX9_copyFrom_9 : decode cX9_copyFrom 9 = .ok (.istore_n 2, 1) := by decide +kernel
theorem dX9_copyFrom_10 : decode cX9_copyFrom 10 = .ok (.iload_n 2, 1) := by decide +kernel
theorem dX9_copyFrom_11 : decode cX9_copyFrom 11 = .ok (.bipush 6, 2) := by decide +kernel
theorem dX9_copyFrom_13 : decode cX9_copyFrom 13 = .ok (.if_icmp .ge 45, 3) := by decide +kernel
theorem dX9_copyFrom_16 : decode cX9_copyFrom 16 = .ok (.aload_n 0, 1) := by decide +kernel
theorem dX9_copyFrom_17 : decode cX9_copyFrom 17 = .ok (.getfield 9, 3) := by decide +kernel
theorem dX9_copyFrom_20 : decode cX9_copyFrom 20 = .ok (.iload_n 2, 1) := by decide +kernel
theorem dX9_copyFrom_21 : decode cX9_copyFrom 21 = .ok (.aload_n 1, 1) := by decide +kernel
theorem dX9_copyFrom_22 : decode cX9_copyFrom 22 = .ok (.getfield 9, 3) := by decide +kernel
theorem dX9_copyFrom_25 : decode cX9_copyFrom 25 = .ok (.iload_n 2, 1) := by decide +kernel
theorem dX9_copyFrom_26 : decode cX9_copyFrom 26 = .ok (.iaload, 1) := by decide +kernel
theorem dX9_copyFrom_27 : decode cX9_copyFrom 27 = .ok (.iastore, 1) := by decide +kernel
theorem dX9_copyFrom_28 : decode cX9_copyFrom 28 = .ok (.aload_n 0, 1) := by decide +kernel
theorem dX9_copyFrom_29 : decode cX9_copyFrom 29 = .ok (.getfield 15, 3) := by decide +kernel
theorem dX9_copyFrom_32 : decode cX9_copyFrom 32 = .ok (.iload_n 2, 1) := by decide +kernel
theorem dX9_copyFrom_33 : decode cX9_copyFrom 33 = .ok (.aload_n 1, 1) := by decide +kernel
theorem dX9_copyFrom_34 : decode cX9_copyFrom 34 = .ok (.getfield 15, 3) := by decide +kernel
theorem dX9_copyFrom_37 : decode cX9_copyFrom 37 = .ok (.iload_n 2, 1) := by decide +kernel
theorem dX9_copyFrom_38 : decode cX9_copyFrom 38 = .ok (.iaload, 1) := by decide +kernel
theorem dX9_copyFrom_39 : decode cX9_copyFrom 39 = .ok (.iastore, 1) := by decide +kernel
theorem dX9_copyFrom_40 : decode cX9_copyFrom 40 = .ok (.aload_n 0, 1) := by decide +kernel
theorem dX9_copyFrom_41 : decode cX9_copyFrom 41 = .ok (.getfield 18, 3) := by decide +kernel
theorem dX9_copyFrom_44 : decode cX9_copyFrom 44 = .ok (.iload_n 2, 1) := by decide +kernel
theorem dX9_copyFrom_45 : decode cX9_copyFrom 45 = .ok (.aload_n 1, 1) := by decide +kernel
theorem dX9_copyFrom_46 : decode cX9_copyFrom 46 = .ok (.getfield 18, 3) := by decide +kernel
theorem dX9_copyFrom_49 : decode cX9_copyFrom 49 = .ok (.iload_n 2, 1) := by decide +kernel
theorem dX9_copyFrom_50 : decode cX9_copyFrom 50 = .ok (.iaload, 1) := by decide +kernel
theorem dX9_copyFrom_51 : decode cX9_copyFrom 51 = .ok (.iastore, 1) := by decide +kernel
theorem dX9_copyFrom_52 : decode cX9_copyFrom 52 = .ok (.iinc 2 1, 3) := by decide +kernel
theorem dX9_copyFrom_55 : decode cX9_copyFrom 55 = .ok (.goto (-45), 3) := by decide +kernel
theorem dX9_copyFrom_58 : decode cX9_copyFrom 58 = .ok (.return_, 1) := by decide +kernel
theorem dX10_init_0 : decode cX10_init 0 = .ok (.aload_n 0, 1) := by decide +kernel
theorem dX10_init_1 : decode cX10_init 1 = .ok (.invokespecial 3, 3) := by decide +kernel
theorem dX10_init_4 : decode cX10_init 4 = .ok (.aload_n 0, 1) := by decide +kernel
theorem dX10_init_5 : decode cX10_init 5 = .ok (.new 9, 3) := by decide +kernel
theorem dX10_init_8 : decode cX10_init 8 = .ok (.dup, 1) := by decide +kernel
theorem dX10_init_9 : decode cX10_init 9 = .ok (.invokespecial 11, 3) := by decide +kernel
theorem dX10_init_12 : decode cX10_init 12 = .ok (.putfield 12, 3) := by decide +kernel
theorem dX10_init_15 : decode cX10_init 15 = .ok (.aload_n 0, 1) := by decide +kernel
theorem dX10_init_16 : decode cX10_init 16 = .ok (.new 18, 3) := by decide +kernel
theorem dX10_init_19 : decode cX10_init 19 = .ok (.dup, 1) := by decide +kernel
theorem dX10_init_20 : decode cX10_init 20 = .ok (.invokespecial 20, 3) := by decide +kernel
theorem dX10_init_23 : decode cX10_init 23 = .ok (.putfield 21, 3) := by decide +kernel
theorem dX10_init_26 : decode cX10_init 26 = .ok (.aload_n 0, 1) := by decide +kernel
theorem dX10_init_27 : decode cX10_init 27 = .ok (.new 25, 3) := by decide +kernel
theorem dX10_init_30 : decode cX10_init 30 = .ok (.dup, 1) := by decide +kernel
theorem dX10_init_31 : decode cX10_init 31 = .ok (.invokespecial 27, 3) := by decide +kernel
theorem dX10_init_34 : decode cX10_init 34 = .ok (.putfield 28, 3) := by decide +kernel
theorem dX10_init_37 : decode cX10_init 37 = .ok (.return_, 1) := by decide +kernel
theorem dX10_faultOfNewShip_0 : decode cX10_faultOfNewShip 0 = .ok (.aload_n 0, 1) := by decide +kernel
theorem dX10_faultOfNewShip_1 : decode cX10_faultOfNewShip 1 = .ok (.getfield 12, 3) := by decide +kernel
theorem dX10_faultOfNewShip_4 : decode cX10_faultOfNewShip 4 = .ok (.getfield 32, 3) := by decide +kernel
theorem dX10_faultOfNewShip_7 : decode cX10_faultOfNewShip 7 = .ok (.bipush 6, 2) := by decide +kernel
theorem dX10_faultOfNewShip_9 : decode cX10_faultOfNewShip 9 = .ok (.if_icmp .lt 8, 3) := by decide +kernel
theorem dX10_faultOfNewShip_12 : decode cX10_faultOfNewShip 12 = .ok (.bipush 115, 2) := by decide +kernel
theorem dX10_faultOfNewShip_14 : decode cX10_faultOfNewShip 14 = .ok (.goto 5, 3) := by decide +kernel
theorem dX10_faultOfNewShip_17 : decode cX10_faultOfNewShip 17 = .ok (.bipush 32, 2) := by decide +kernel
theorem dX10_faultOfNewShip_19 : decode cX10_faultOfNewShip 19 = .ok (.ireturn, 1) := by decide +kernel
theorem dX10_faultOfNewLamp_0 : decode cX10_faultOfNewLamp 0 = .ok (.iload_n 1, 1) := by decide +kernel
theorem dX10_faultOfNewLamp_1 : decode cX10_faultOfNewLamp 1 = .ok (.iconst 1, 1) := by decide +kernel
theorem dX10_faultOfNewLamp_2 : decode cX10_faultOfNewLamp 2 = .ok (.if_icmp .lt 8, 3) := by decide +kernel
theorem dX10_faultOfNewLamp_5 : decode cX10_faultOfNewLamp 5 = .ok (.iload_n 1, 1) := by decide +kernel
theorem dX10_faultOfNewLamp_6 : decode cX10_faultOfNewLamp 6 = .ok (.iconst 3, 1) := by decide +kernel
theorem dX10_faultOfNewLamp_7 : decode cX10_faultOfNewLamp 7 = .ok (.if_icmp .le 6, 3) := by decide +kernel
theorem dX10_faultOfNewLamp_10 : decode cX10_faultOfNewLamp 10 = .ok (.bipush 97, 2) := by decide +kernel
theorem dX10_faultOfNewLamp_12 : decode cX10_faultOfNewLamp 12 = .ok (.ireturn, 1) := by decide +kernel
theorem dX10_faultOfNewLamp_13 : decode cX10_faultOfNewLamp 13 = .ok (.aload_n 0, 1) := by decide +kernel
theorem dX10_faultOfNewLamp_14 : decode cX10_faultOfNewLamp 14 = .ok (.getfield 21, 3) := by decide +kernel
theorem dX10_faultOfNewLamp_17 : decode cX10_faultOfNewLamp 17 = .ok (.getfield 36, 3) := by decide +kernel
theorem dX10_faultOfNewLamp_20 : decode cX10_faultOfNewLamp 20 = .ok (.bipush 8, 2) := by decide +kernel
theorem dX10_faultOfNewLamp_22 : decode cX10_faultOfNewLamp 22 = .ok (.if_icmp .lt 8, 3) := by decide +kernel
theorem dX10_faultOfNewLamp_25 : decode cX10_faultOfNewLamp 25 = .ok (.bipush 115, 2) := by decide +kernel
theorem dX10_faultOfNewLamp_27 : decode cX10_faultOfNewLamp 27 = .ok (.goto 5, 3) := by decide +kernel
theorem dX10_faultOfNewLamp_30 : decode cX10_faultOfNewLamp 30 = .ok (.bipush 32, 2) := by decide +kernel
theorem dX10_faultOfNewLamp_32 : decode cX10_faultOfNewLamp 32 = .ok (.ireturn, 1) := by decide +kernel
theorem dX10_faultOfNewOil_0 : decode cX10_faultOfNewOil 0 = .ok (.iload_n 1, 1) := by decide +kernel
theorem dX10_faultOfNewOil_1 : decode cX10_faultOfNewOil 1 = .ok (.iconst 1, 1) := by decide +kernel
theorem dX10_faultOfNewOil_2 : decode cX10_faultOfNewOil 2 = .ok (.if_icmp .lt 10, 3) := by decide +kernel
theorem dX10_faultOfNewOil_5 : decode cX10_faultOfNewOil 5 = .ok (.iload_n 1, 1) := by decide +kernel
theorem dX10_faultOfNewOil_6 : decode cX10_faultOfNewOil 6 = .ok (.sipush 200, 3) := by decide +kernel
theorem dX10_faultOfNewOil_9 : decode cX10_faultOfNewOil 9 = .ok (.if_icmp .le 6, 3) := by decide +kernel
theorem dX10_faultOfNewOil_12 : decode cX10_faultOfNewOil 12 = .ok (.bipush 97, 2) := by decide +kernel
theorem dX10_faultOfNewOil_14 : decode cX10_faultOfNewOil 14 = .ok (.ireturn, 1) := by decide +kernel
theorem dX10_faultOfNewOil_15 : decode cX10_faultOfNewOil 15 = .ok (.aload_n 0, 1) := by decide +kernel
theorem dX10_faultOfNewOil_16 : decode cX10_faultOfNewOil 16 = .ok (.getfield 37, 3) := by decide +kernel
theorem dX10_faultOfNewOil_19 : decode cX10_faultOfNewOil 19 = .ok (.iload_n 1, 1) := by decide +kernel
theorem dX10_faultOfNewOil_20 : decode cX10_faultOfNewOil 20 = .ok (.iadd, 1) := by decide +kernel
theorem dX10_faultOfNewOil_21 : decode cX10_faultOfNewOil 21 = .ok (.sipush 500, 3) := by decide +kernel
theorem dX10_faultOfNewOil_24 : decode cX10_faultOfNewOil 24 = .ok (.if_icmp .le 8, 3) := by decide +kernel
theorem dX10_faultOfNewOil_27 : decode cX10_faultOfNewOil 27 = .ok (.bipush 115, 2) := by decide +kernel
theorem dX10_faultOfNewOil_29 : decode cX10_faultOfNewOil 29 = .ok (.goto 5, 3) := by decide +kernel
theorem dX10_faultOfNewOil_32 : decode cX10_faultOfNewOil 32 = .ok (.bipush 32, 2) := by decide +kernel
theorem dX10_faultOfNewOil_34 : decode cX10_faultOfNewOil 34 = .ok (.ireturn, 1) := by decide +kernel
theorem dX10_faultOfLease_0 : decode cX10_faultOfLease 0 = .ok (.aload_n 0, 1) := by decide +kernel
theorem dX10_faultOfLease_1 : decode cX10_faultOfLease 1 = .ok (.getfield 12, 3) := by decide +kernel
theorem dX10_faultOfLease_4 : decode cX10_faultOfLease 4 = .ok (.iload_n 1, 1) := by decide +kernel
theorem dX10_faultOfLease_5 : decode cX10_faultOfLease 5 = .ok (.invokevirtual 40, 3) := by decide +kernel
theorem dX10_faultOfLease_8 : decode cX10_faultOfLease 8 = .ok (.ifCond .eq 14, 3) := by decide +kernel
theorem dX10_faultOfLease_11 : decode cX10_faultOfLease 11 = .ok (.aload_n 0, 1) := by decide +kernel
theorem dX10_faultOfLease_12 : decode cX10_faultOfLease 12 = .ok (.getfield 21, 3) := by decide +kernel
theorem dX10_faultOfLease_15 : decode cX10_faultOfLease 15 = .ok (.iload_n 2, 1) := by decide +kernel
theorem dX10_faultOfLease_16 : decode cX10_faultOfLease 16 = .ok (.invokevirtual 44, 3) := by decide +kernel
theorem dX10_faultOfLease_19 : decode cX10_faultOfLease 19 = .ok (.ifCond .ne 6, 3) := by decide +kernel
theorem dX10_faultOfLease_22 : decode cX10_faultOfLease 22 = .ok (.bipush 105, 2) := by decide +kernel
theorem dX10_faultOfLease_24 : decode cX10_faultOfLease 24 = .ok (.ireturn, 1) := by decide +kernel
theorem dX10_faultOfLease_25 : decode cX10_faultOfLease 25 = .ok (.iload_n 3, 1) := by decide +kernel
theorem dX10_faultOfLease_26 : decode cX10_faultOfLease 26 = .ok (.invokestatic 45, 3) := by decide +kernel
theorem dX10_faultOfLease_29 : decode cX10_faultOfLease 29 = .ok (.ifCond .eq 6, 3) := by decide +kernel
theorem dX10_faultOfLease_32 : decode cX10_faultOfLease 32 = .ok (.bipush 97, 2) := by decide +kernel
theorem dX10_faultOfLease_34 : decode cX10_faultOfLease 34 = .ok (.ireturn, 1) := by decide +kernel
theorem dX10_faultOfLease_35 : decode cX10_faultOfLease 35 = .ok (.aload_n 0, 1) := by decide +kernel
theorem dX10_faultOfLease_36 : decode cX10_faultOfLease 36 = .ok (.getfield 21, 3) := by decide +kernel
theorem dX10_faultOfLease_39 : decode cX10_faultOfLease 39 = .ok (.iload_n 2, 1) := by decide +kernel
theorem dX10_faultOfLease_40 : decode cX10_faultOfLease 40 = .ok (.invokevirtual 48, 3) := by decide +kernel
theorem dX10_faultOfLease_43 : decode cX10_faultOfLease 43 = .ok (.ifCond .eq 6, 3) := by decide +kernel
theorem dX10_faultOfLease_46 : decode cX10_faultOfLease 46 = .ok (.bipush 115, 2) := by decide +kernel
theorem dX10_faultOfLease_48 : decode cX10_faultOfLease 48 = .ok (.ireturn, 1) := by decide +kernel
theorem dX10_faultOfLease_49 : decode cX10_faultOfLease 49 = .ok (.aload_n 0, 1) := by decide +kernel
theorem dX10_faultOfLease_50 : decode cX10_faultOfLease 50 = .ok (.getfield 12, 3) := by decide +kernel
theorem dX10_faultOfLease_53 : decode cX10_faultOfLease 53 = .ok (.iload_n 1, 1) := by decide +kernel
theorem dX10_faultOfLease_54 : decode cX10_faultOfLease 54 = .ok (.aload_n 0, 1) := by decide +kernel
theorem dX10_faultOfLease_55 : decode cX10_faultOfLease 55 = .ok (.iload_n 2, 1) := by decide +kernel
theorem dX10_faultOfLease_56 : decode cX10_faultOfLease 56 = .ok (.iload_n 3, 1) := by decide +kernel
theorem dX10_faultOfLease_57 : decode cX10_faultOfLease 57 = .ok (.invokevirtual 51, 3) := by decide +kernel
theorem dX10_faultOfLease_60 : decode cX10_faultOfLease 60 = .ok (.invokevirtual 55, 3) := by decide +kernel
theorem dX10_faultOfLease_63 : decode cX10_faultOfLease 63 = .ok (.ifCond .eq 8, 3) := by decide +kernel
theorem dX10_faultOfLease_66 : decode cX10_faultOfLease 66 = .ok (.bipush 32, 2) := by decide +kernel
theorem dX10_faultOfLease_68 : decode cX10_faultOfLease 68 = .ok (.goto 5, 3) := by decide +kernel
theorem dX10_faultOfLease_71 : decode cX10_faultOfLease 71 = .ok (.bipush 117, 2) := by decide +kernel
theorem dX10_faultOfLease_73 : decode cX10_faultOfLease 73 = .ok (.ireturn, 1) := by decide +kernel
theorem dX10_faultOfRequest_0 : decode cX10_faultOfRequest 0 = .ok (.aload_n 0, 1) := by decide +kernel
theorem dX10_faultOfRequest_1 : decode cX10_faultOfRequest 1 = .ok (.getfield 21, 3) := by decide +kernel
theorem dX10_faultOfRequest_4 : decode cX10_faultOfRequest 4 = .ok (.iload_n 1, 1) := by decide +kernel
theorem dX10_faultOfRequest_5 : decode cX10_faultOfRequest 5 = .ok (.invokevirtual 44, 3) := by decide +kernel
theorem dX10_faultOfRequest_8 : decode cX10_faultOfRequest 8 = .ok (.ifCond .ne 6, 3) := by decide +kernel
theorem dX10_faultOfRequest_11 : decode cX10_faultOfRequest 11 = .ok (.bipush 105, 2) := by decide +kernel
theorem dX10_faultOfRequest_13 : decode cX10_faultOfRequest 13 = .ok (.ireturn, 1) := by decide +kernel
theorem dX10_faultOfRequest_14 : decode cX10_faultOfRequest 14 = .ok (.iload_n 2, 1) := by decide +kernel
theorem dX10_faultOfRequest_15 : decode cX10_faultOfRequest 15 = .ok (.invokestatic 45, 3) := by decide +kernel
theorem dX10_faultOfRequest_18 : decode cX10_faultOfRequest 18 = .ok (.ifCond .eq 6, 3) := by decide +kernel
theorem dX10_faultOfRequest_21 : decode cX10_faultOfRequest 21 = .ok (.bipush 97, 2) := by decide +kernel
theorem dX10_faultOfRequest_23 : decode cX10_faultOfRequest 23 = .ok (.ireturn, 1) := by decide +kernel
theorem dX10_faultOfRequest_24 : decode cX10_faultOfRequest 24 = .ok (.aload_n 0, 1) := by decide +kernel
theorem dX10_faultOfRequest_25 : decode cX10_faultOfRequest 25 = .ok (.getfield 21, 3) := by decide +kernel
theorem dX10_faultOfRequest_28 : decode cX10_faultOfRequest 28 = .ok (.iload_n 1, 1) := by decide +kernel
theorem dX10_faultOfRequest_29 : decode cX10_faultOfRequest 29 = .ok (.invokevirtual 48, 3) := by decide +kernel
theorem dX10_faultOfRequest_32 : decode cX10_faultOfRequest 32 = .ok (.ifCond .ne 6, 3) := by decide +kernel
theorem dX10_faultOfRequest_35 : decode cX10_faultOfRequest 35 = .ok (.bipush 110, 2) := by decide +kernel
theorem dX10_faultOfRequest_37 : decode cX10_faultOfRequest 37 = .ok (.ireturn, 1) := by decide +kernel
theorem dX10_faultOfRequest_38 : decode cX10_faultOfRequest 38 = .ok (.aload_n 0, 1) := by decide +kernel
theorem dX10_faultOfRequest_39 : decode cX10_faultOfRequest 39 = .ok (.getfield 28, 3) := by decide +kernel
theorem dX10_faultOfRequest_42 : decode cX10_faultOfRequest 42 = .ok (.iload_n 1, 1) := by decide +kernel
theorem dX10_faultOfRequest_43 : decode cX10_faultOfRequest 43 = .ok (.invokevirtual 59, 3) := by decide +kernel
theorem dX10_faultOfRequest_46 : decode cX10_faultOfRequest 46 = .ok (.iconst (-1), 1) := by decide +kernel
theorem dX10_faultOfRequest_47 : decode cX10_faultOfRequest 47 = .ok (.if_icmp .eq 8, 3) := by decide +kernel
theorem dX10_faultOfRequest_50 : decode cX10_faultOfRequest 50 = .ok (.bipush 115, 2) := by decide +kernel
theorem dX10_faultOfRequest_52 : decode cX10_faultOfRequest 52 = .ok (.goto 5, 3) := by decide +kernel
theorem dX10_faultOfRequest_55 : decode cX10_faultOfRequest 55 = .ok (.bipush 32, 2) := by decide +kernel
theorem dX10_faultOfRequest_57 : decode cX10_faultOfRequest 57 = .ok (.ireturn, 1) := by decide +kernel
theorem dX10_faultOfUnleased_0 : decode cX10_faultOfUnleased 0 = .ok (.aload_n 0, 1) := by decide +kernel
theorem dX10_faultOfUnleased_1 : decode cX10_faultOfUnleased 1 = .ok (.getfield 21, 3) := by decide +kernel
theorem dX10_faultOfUnleased_4 : decode cX10_faultOfUnleased 4 = .ok (.iload_n 1, 1) := by decide +kernel
theorem dX10_faultOfUnleased_5 : decode cX10_faultOfUnleased 5 = .ok (.invokevirtual 44, 3) := by decide +kernel
theorem dX10_faultOfUnleased_8 : decode cX10_faultOfUnleased 8 = .ok (.ifCond .ne 6, 3) := by decide +kernel
theorem dX10_faultOfUnleased_11 : decode cX10_faultOfUnleased 11 = .ok (.bipush 105, 2) := by decide +kernel
theorem dX10_faultOfUnleased_13 : decode cX10_faultOfUnleased 13 = .ok (.ireturn, 1) := by decide +kernel
theorem dX10_faultOfUnleased_14 : decode cX10_faultOfUnleased 14 = .ok (.aload_n 0, 1) := by decide +kernel
theorem dX10_faultOfUnleased_15 : decode cX10_faultOfUnleased 15 = .ok (.getfield 21, 3) := by decide +kernel
theorem dX10_faultOfUnleased_18 : decode cX10_faultOfUnleased 18 = .ok (.iload_n 1, 1) := by decide +kernel
theorem dX10_faultOfUnleased_19 : decode cX10_faultOfUnleased 19 = .ok (.invokevirtual 48, 3) := by decide +kernel
theorem dX10_faultOfUnleased_22 : decode cX10_faultOfUnleased 22 = .ok (.ifCond .eq 8, 3) := by decide +kernel
theorem dX10_faultOfUnleased_25 : decode cX10_faultOfUnleased 25 = .ok (.bipush 32, 2) := by decide +kernel
theorem dX10_faultOfUnleased_27 : decode cX10_faultOfUnleased 27 = .ok (.goto 5, 3) := by decide +kernel
theorem dX10_faultOfUnleased_30 : decode cX10_faultOfUnleased 30 = .ok (.bipush 110, 2) := by decide +kernel
theorem dX10_faultOfUnleased_32 : decode cX10_faultOfUnleased 32 = .ok (.ireturn, 1) := by decide +kernel
theorem dX10_faultOfWait_0 : decode cX10_faultOfWait 0 = .ok (.iload_n 1, 1) := by decide +kernel
theorem dX10_faultOfWait_1 : decode cX10_faultOfWait 1 = .ok (.iconst 1, 1) := by decide +kernel
theorem dX10_faultOfWait_2 : decode cX10_faultOfWait 2 = .ok (.if_icmp .lt 9, 3) := by decide +kernel
theorem dX10_faultOfWait_5 : decode cX10_faultOfWait 5 = .ok (.iload_n 1, 1) := by decide +kernel
theorem dX10_faultOfWait_6 : decode cX10_faultOfWait 6 = .ok (.bipush 48, 2) := by decide +kernel
theorem dX10_faultOfWait_8 : decode cX10_faultOfWait 8 = .ok (.if_icmp .le 8, 3) := by decide +kernel
theorem dX10_faultOfWait_11 : decode cX10_faultOfWait 11 = .ok (.bipush 97, 2) := by decide +kernel
theorem dX10_faultOfWait_13 : decode cX10_faultOfWait 13 = .ok (.goto 5, 3) := by decide +kernel
theorem dX10_faultOfWait_16 : decode cX10_faultOfWait 16 = .ok (.bipush 32, 2) := by decide +kernel
theorem dX10_faultOfWait_18 : decode cX10_faultOfWait 18 = .ok (.ireturn, 1) := by decide +kernel
theorem dX10_isNoLeaseTime_0 : decode cX10_isNoLeaseTime 0 = .ok (.iload_n 0, 1) := by decide +kernel
theorem dX10_isNoLeaseTime_1 : decode cX10_isNoLeaseTime 1 = .ok (.iconst 1, 1) := by decide +kernel
theorem dX10_isNoLeaseTime_2 : decode cX10_isNoLeaseTime 2 = .ok (.if_icmp .lt 9, 3) := by decide +kernel
theorem dX10_isNoLeaseTime_5 : decode cX10_isNoLeaseTime 5 = .ok (.iload_n 0, 1) := by decide +kernel
theorem dX10_isNoLeaseTime_6 : decode cX10_isNoLeaseTime 6 = .ok (.bipush 24, 2) := by decide +kernel
theorem dX10_isNoLeaseTime_8 : decode cX10_isNoLeaseTime 8 = .ok (.if_icmp .le 7, 3) := by decide +kernel
theorem dX10_isNoLeaseTime_11 : decode cX10_isNoLeaseTime 11 = .ok (.iconst 1, 1) := by decide +kernel
theorem dX10_isNoLeaseTime_12 : decode cX10_isNoLeaseTime 12 = .ok (.goto 4, 3) := by decide +kernel
theorem dX10_isNoLeaseTime_15 : decode cX10_isNoLeaseTime 15 = .ok (.iconst 0, 1) := by decide +kernel
theorem dX10_isNoLeaseTime_16 : decode cX10_isNoLeaseTime 16 = .ok (.ireturn, 1) := by decide +kernel
theorem dX10_price_0 : decode cX10_price 0 = .ok (.aload_n 0, 1) := by decide +kernel
theorem dX10_price_1 : decode cX10_price 1 = .ok (.getfield 21, 3) := by decide +kernel
theorem dX10_price_4 : decode cX10_price 4 = .ok (.iload_n 1, 1) := by decide +kernel
theorem dX10_price_5 : decode cX10_price 5 = .ok (.invokevirtual 44, 3) := by decide +kernel
theorem dX10_price_8 : decode cX10_price 8 = .ok (.ifCond .eq 17, 3) := by decide +kernel
theorem dX10_price_11 : decode cX10_price 11 = .ok (.aload_n 0, 1) := by decide +kernel
theorem dX10_price_12 : decode cX10_price 12 = .ok (.getfield 21, 3) := by decide +kernel
theorem dX10_price_15 : decode cX10_price 15 = .ok (.getfield 63, 3) := by decide +kernel
theorem dX10_price_18 : decode cX10_price 18 = .ok (.iload_n 1, 1) := by decide +kernel
theorem dX10_price_19 : decode cX10_price 19 = .ok (.iaload, 1) := by decide +kernel
theorem dX10_price_20 : decode cX10_price 20 = .ok (.iload_n 2, 1) := by decide +kernel
theorem dX10_price_21 : decode cX10_price 21 = .ok (.imul, 1) := by decide +kernel
theorem dX10_price_22 : decode cX10_price 22 = .ok (.goto 4, 3) := by decide +kernel
theorem dX10_price_25 : decode cX10_price 25 = .ok (.iconst 0, 1) := by decide +kernel
theorem dX10_price_26 : decode cX10_price 26 = .ok (.ireturn, 1) := by decide +kernel
theorem dX10_fillUp_0 : decode cX10_fillUp 0 = .ok (.aload_n 0, 1) := by decide +kernel
theorem dX10_fillUp_1 : decode cX10_fillUp 1 = .ok (.dup, 1) := by decide +kernel
theorem dX10_fillUp_2 : decode cX10_fillUp 2 = .ok (.getfield 37, 3) := by decide +kernel
theorem dX10_fillUp_5 : decode cX10_fillUp 5 = .ok (.iload_n 1, 1) := by decide +kernel
theorem dX10_fillUp_6 : decode cX10_fillUp 6 = .ok (.iadd, 1) := by decide +kernel
theorem dX10_fillUp_7 : decode cX10_fillUp 7 = .ok (.putfield 37, 3) := by decide +kernel
theorem dX10_fillUp_10 : decode cX10_fillUp 10 = .ok (.aload_n 0, 1) := by decide +kernel
theorem dX10_fillUp_11 : decode cX10_fillUp 11 = .ok (.getfield 37, 3) := by decide +kernel
theorem dX10_fillUp_14 : decode cX10_fillUp 14 = .ok (.ireturn, 1) := by decide +kernel
theorem dX10_leaseOut_0 : decode cX10_leaseOut 0 = .ok (.aload_n 0, 1) := by decide +kernel
theorem dX10_leaseOut_1 : decode cX10_leaseOut 1 = .ok (.getfield 21, 3) := by decide +kernel
theorem dX10_leaseOut_4 : decode cX10_leaseOut 4 = .ok (.iload_n 2, 1) := by decide +kernel
theorem dX10_leaseOut_5 : decode cX10_leaseOut 5 = .ok (.invokevirtual 44, 3) := by decide +kernel
theorem dX10_leaseOut_8 : decode cX10_leaseOut 8 = .ok (.ifCond .ne 5, 3) := by decide +kernel
theorem dX10_leaseOut_11 : decode cX10_leaseOut 11 = .ok (.iconst (-1), 1) := by decide +kernel
theorem dX10_leaseOut_12 : decode cX10_leaseOut 12 = .ok (.ireturn, 1) := by decide +kernel
theorem dX10_leaseOut_13 : decode cX10_leaseOut 13 = .ok (.aload_n 0, 1) := by decide +kernel
theorem dX10_leaseOut_14 : decode cX10_leaseOut 14 = .ok (.iload_n 1, 1) := by decide +kernel
theorem dX10_leaseOut_15 : decode cX10_leaseOut 15 = .ok (.aload_n 0, 1) := by decide +kernel
theorem dX10_leaseOut_16 : decode cX10_leaseOut 16 = .ok (.iload_n 2, 1) := by decide +kernel
theorem dX10_leaseOut_17 : decode cX10_leaseOut 17 = .ok (.iload_n 3, 1) := by decide +kernel
theorem dX10_leaseOut_18 : decode cX10_leaseOut 18 = .ok (.invokevirtual 51, 3) := by decide +kernel
theorem dX10_leaseOut_21 : decode cX10_leaseOut 21 = .ok (.invokevirtual 67, 3) := by decide +kernel
theorem dX10_leaseOut_24 : decode cX10_leaseOut 24 = .ok (.aload_n 0, 1) := by decide +kernel
theorem dX10_leaseOut_25 : decode cX10_leaseOut 25 = .ok (.getfield 21, 3) := by decide +kernel
theorem dX10_leaseOut_28 : decode cX10_leaseOut 28 = .ok (.getfield 71, 3) := by decide +kernel
theorem dX10_leaseOut_31 : decode cX10_leaseOut 31 = .ok (.iload_n 2, 1) := by decide +kernel
theorem dX10_leaseOut_32 : decode cX10_leaseOut 32 = .ok (.iload_n 1, 1) := by decide +kernel
theorem dX10_leaseOut_33 : decode cX10_leaseOut 33 = .ok (.iastore, 1) := by decide +kernel
theorem dX10_leaseOut_34 : decode cX10_leaseOut 34 = .ok (.aload_n 0, 1) := by decide +kernel
theorem dX10_leaseOut_35 : decode cX10_leaseOut 35 = .ok (.getfield 21, 3) := by decide +kernel
theorem dX10_leaseOut_38 : decode cX10_leaseOut 38 = .ok (.getfield 74, 3) := by decide +kernel
theorem dX10_leaseOut_41 : decode cX10_leaseOut 41 = .ok (.iload_n 2, 1) := by decide +kernel
theorem dX10_leaseOut_42 : decode cX10_leaseOut 42 = .ok (.aload_n 0, 1) := by decide +kernel
theorem dX10_leaseOut_43 : decode cX10_leaseOut 43 = .ok (.getfield 77, 3) := by decide +kernel
theorem dX10_leaseOut_46 : decode cX10_leaseOut 46 = .ok (.iload_n 3, 1) := by decide +kernel
theorem dX10_leaseOut_47 : decode cX10_leaseOut 47 = .ok (.iadd, 1) := by decide +kernel
theorem dX10_leaseOut_48 : decode cX10_leaseOut 48 = .ok (.iastore, 1) := by decide +kernel
theorem dX10_leaseOut_49 : decode cX10_leaseOut 49 = .ok (.aload_n 0, 1) := by decide +kernel
theorem dX10_leaseOut_50 : decode cX10_leaseOut 50 = .ok (.getfield 21, 3) := by decide +kernel
theorem dX10_leaseOut_53 : decode cX10_leaseOut 53 = .ok (.getfield 74, 3) := by decide +kernel
theorem dX10_leaseOut_56 : decode cX10_leaseOut 56 = .ok (.iload_n 2, 1) := by decide +kernel
theorem dX10_leaseOut_57 : decode cX10_leaseOut 57 = .ok (.iaload, 1) := by decide +kernel
theorem dX10_leaseOut_58 : decode cX10_leaseOut 58 = .ok (.ireturn, 1) := by decide +kernel
theorem dX10_payOffice_0 : decode cX10_payOffice 0 = .ok (.iload_n 1, 1) := by decide +kernel
theorem dX10_payOffice_1 : decode cX10_payOffice 1 = .ok (.ifCond .lt 37, 3) := by decide +kernel
theorem dX10_payOffice_4 : decode cX10_payOffice 4 = .ok (.iload_n 1, 1) := by decide +kernel
theorem dX10_payOffice_5 : decode cX10_payOffice 5 = .ok (.aload_n 0, 1) := by decide +kernel
theorem dX10_payOffice_6 : decode cX10_payOffice 6 = .ok (.getfield 12, 3) := by decide +kernel
theorem dX10_payOffice_9 : decode cX10_payOffice 9 = .ok (.getfield 32, 3) := by decide +kernel
theorem dX10_payOffice_12 : decode cX10_payOffice 12 = .ok (.if_icmp .ge 26, 3) := by decide +kernel
theorem dX10_payOffice_15 : decode cX10_payOffice 15 = .ok (.aload_n 0, 1) := by decide +kernel
theorem dX10_payOffice_16 : decode cX10_payOffice 16 = .ok (.getfield 12, 3) := by decide +kernel
theorem dX10_payOffice_19 : decode cX10_payOffice 19 = .ok (.getfield 80, 3) := by decide +kernel
theorem dX10_payOffice_22 : decode cX10_payOffice 22 = .ok (.iload_n 1, 1) := by decide +kernel
theorem dX10_payOffice_23 : decode cX10_payOffice 23 = .ok (.dup2, 1) := by decide +kernel
theorem dX10_payOffice_24 : decode cX10_payOffice 24 = .ok (.iaload, 1) := by decide +kernel
theorem dX10_payOffice_25 : decode cX10_payOffice 25 = .ok (.iload_n 2, 1) := by decide +kernel
theorem dX10_payOffice_26 : decode cX10_payOffice 26 = .ok (.isub, 1) := by decide +kernel
theorem dX10_payOffice_27 : decode cX10_payOffice 27 = .ok (.iastore, 1) := by decide +kernel
theorem dX10_payOffice_28 : decode cX10_payOffice 28 = .ok (.aload_n 0, 1) := by decide +kernel
theorem dX10_payOffice_29 : decode cX10_payOffice 29 = .ok (.dup, 1) := by decide +kernel
theorem dX10_payOffice_30 : decode cX10_payOffice 30 = .ok (.getfield 83, 3) := by decide +kernel
theorem dX10_payOffice_33 : decode cX10_payOffice 33 = .ok (.iload_n 2, 1) := by decide +kernel
theorem dX10_payOffice_34 : decode cX10_payOffice 34 = .ok (.iadd, 1) := by decide +kernel
theorem dX10_payOffice_35 : decode cX10_payOffice 35 = .ok (.putfield 83, 3) := by decide +kernel
theorem dX10_payOffice_38 : decode cX10_payOffice 38 = .ok (.return_, 1) := by decide +kernel
theorem dX10_takeBack_0 : decode cX10_takeBack 0 = .ok (.aload_n 0, 1) := by decide +kernel
theorem dX10_takeBack_1 : decode cX10_takeBack 1 = .ok (.getfield 21, 3) := by decide +kernel
theorem dX10_takeBack_4 : decode cX10_takeBack 4 = .ok (.iload_n 1, 1) := by decide +kernel
theorem dX10_takeBack_5 : decode cX10_takeBack 5 = .ok (.invokevirtual 44, 3) := by decide +kernel
theorem dX10_takeBack_8 : decode cX10_takeBack 8 = .ok (.ifCond .ne 5, 3) := by decide +kernel
theorem dX10_takeBack_11 : decode cX10_takeBack 11 = .ok (.iconst (-1), 1) := by decide +kernel
theorem dX10_takeBack_12 : decode cX10_takeBack 12 = .ok (.ireturn, 1) := by decide +kernel
theorem dX10_takeBack_13 : decode cX10_takeBack 13 = .ok (.aload_n 0, 1) := by decide +kernel
theorem dX10_takeBack_14 : decode cX10_takeBack 14 = .ok (.getfield 21, 3) := by decide +kernel
theorem dX10_takeBack_17 : decode cX10_takeBack 17 = .ok (.getfield 74, 3) := by decide +kernel
theorem dX10_takeBack_20 : decode cX10_takeBack 20 = .ok (.iload_n 1, 1) := by decide +kernel
theorem dX10_takeBack_21 : decode cX10_takeBack 21 = .ok (.iaload, 1) := by decide +kernel
theorem dX10_takeBack_22 : decode cX10_takeBack 22 = .ok (.aload_n 0, 1) := by decide +kernel
theorem dX10_takeBack_23 : decode cX10_takeBack 23 = .ok (.getfield 77, 3) := by decide +kernel
theorem dX10_takeBack_26 : decode cX10_takeBack 26 = .ok (.isub, 1) := by decide +kernel
theorem dX10_takeBack_27 : decode cX10_takeBack 27 = .ok (.istore_n 2, 1) := by decide +kernel
theorem dX10_takeBack_28 : decode cX10_takeBack 28 = .ok (.aload_n 0, 1) := by decide +kernel
theorem dX10_takeBack_29 : decode cX10_takeBack 29 = .ok (.getfield 21, 3) := by decide +kernel
theorem dX10_takeBack_32 : decode cX10_takeBack 32 = .ok (.getfield 71, 3) := by decide +kernel
theorem dX10_takeBack_35 : decode cX10_takeBack 35 = .ok (.iload_n 1, 1) := by decide +kernel
theorem dX10_takeBack_36 : decode cX10_takeBack 36 = .ok (.iconst (-1), 1) := by decide +kernel
theorem dX10_takeBack_37 : decode cX10_takeBack 37 = .ok (.iastore, 1) := by decide +kernel
theorem dX10_takeBack_38 : decode cX10_takeBack 38 = .ok (.aload_n 0, 1) := by decide +kernel
theorem dX10_takeBack_39 : decode cX10_takeBack 39 = .ok (.getfield 21, 3) := by decide +kernel
theorem dX10_takeBack_42 : decode cX10_takeBack 42 = .ok (.getfield 74, 3) := by decide +kernel
theorem dX10_takeBack_45 : decode cX10_takeBack 45 = .ok (.iload_n 1, 1) := by decide +kernel
theorem dX10_takeBack_46 : decode cX10_takeBack 46 = .ok (.iconst 0, 1) := by decide +kernel
theorem dX10_takeBack_47 : decode cX10_takeBack 47 = .ok (.iastore, 1) := by decide +kernel
theorem dX10_takeBack_48 : decode cX10_takeBack 48 = .ok (.aload_n 0, 1) := by decide +kernel
theorem dX10_takeBack_49 : decode cX10_takeBack 49 = .ok (.getfield 28, 3) := by decide +kernel
theorem dX10_takeBack_52 : decode cX10_takeBack 52 = .ok (.iload_n 1, 1) := by decide +kernel
theorem dX10_takeBack_53 : decode cX10_takeBack 53 = .ok (.invokevirtual 86, 3) := by decide +kernel
theorem dX10_takeBack_56 : decode cX10_takeBack 56 = .ok (.iload_n 2, 1) := by decide +kernel
theorem dX10_takeBack_57 : decode cX10_takeBack 57 = .ok (.ireturn, 1) := by decide +kernel
theorem dX10_letPass_0 : decode cX10_letPass 0 = .ok (.iconst 0, 1) := by decide +kernel
theorem dX10_letPass_1 : decode cX10_letPass 1 = .ok (.istore_n 2, 1) := by decide +kernel
theorem dX10_letPass_2 : decode cX10_letPass 2 = .ok (.iconst 0, 1) := by decide +kernel
theorem dX10_letPass_3 : decode cX10_letPass 3 = .ok (.istore_n 3, 1) := by decide +kernel
theorem dX10_letPass_4 : decode cX10_letPass 4 = .ok (.iload_n 3, 1) := by decide +kernel
theorem dX10_letPass_5 : decode cX10_letPass 5 = .ok (.iload_n 1, 1) := by decide +kernel
theorem dX10_letPass_6 : decode cX10_letPass 6 = .ok (.if_icmp .ge 16, 3) := by decide +kernel
theorem dX10_letPass_9 : decode cX10_letPass 9 = .ok (.iload_n 2, 1) := by decide +kernel
theorem dX10_letPass_10 : decode cX10_letPass 10 = .ok (.aload_n 0, 1) := by decide +kernel
theorem dX10_letPass_11 : decode cX10_letPass 11 = .ok (.invokevirtual 90, 3) := by decide +kernel
theorem dX10_letPass_14 : decode cX10_letPass 14 = .ok (.iadd, 1) := by decide +kernel
theorem dX10_letPass_15 : decode cX10_letPass 15 = .ok (.istore_n 2, 1) := by decide +kernel
theorem dX10_letPass_16 : decode cX10_letPass 16 = .ok (.iinc 3 1, 3) := by decide +kernel
theorem dX10_letPass_19 : decode cX10_letPass 19 = .ok (.goto (-15), 3) := by decide +kernel
theorem dX10_letPass_22 : decode cX10_letPass 22 = .ok (.iload_n 2, 1) := by decide +kernel
theorem dX10_letPass_23 : decode cX10_letPass 23 = .ok (.ireturn, 1) := by decide +kernel
theorem dX10_passOneHour_0 : decode cX10_passOneHour 0 = .ok (.aload_n 0, 1) := by decide +kernel
theorem dX10_passOneHour_1 : decode cX10_passOneHour 1 = .ok (.invokevirtual 94, 3) := by decide +kernel
theorem dX10_passOneHour_4 : decode cX10_passOneHour 4 = .ok (.aload_n 0, 1) := by decide +kernel
theorem dX10_passOneHour_5 : decode cX10_passOneHour 5 = .ok (.invokevirtual 97, 3) := by decide +kernel
theorem dX10_passOneHour_8 : decode cX10_passOneHour 8 = .ok (.aload_n 0, 1) := by decide +kernel
theorem dX10_passOneHour_9 : decode cX10_passOneHour 9 = .ok (.invokevirtual 100, 3) := by decide +kernel
theorem dX10_passOneHour_12 : decode cX10_passOneHour 12 = .ok (.aload_n 0, 1) := by decide +kernel
theorem dX10_passOneHour_13 : decode cX10_passOneHour 13 = .ok (.dup, 1) := by decide +kernel
theorem dX10_passOneHour_14 : decode cX10_passOneHour 14 = .ok (.getfield 77, 3) := by decide +kernel
theorem dX10_passOneHour_17 : decode cX10_passOneHour 17 = .ok (.iconst 1, 1) := by decide +kernel
theorem dX10_passOneHour_18 : decode cX10_passOneHour 18 = .ok (.iadd, 1) := by decide +kernel
theorem dX10_passOneHour_19 : decode cX10_passOneHour 19 = .ok (.putfield 77, 3) := by decide +kernel
theorem dX10_passOneHour_22 : decode cX10_passOneHour 22 = .ok (.aload_n 0, 1) := by decide +kernel
theorem dX10_passOneHour_23 : decode cX10_passOneHour 23 = .ok (.invokevirtual 103, 3) := by decide +kernel
theorem dX10_passOneHour_26 : decode cX10_passOneHour 26 = .ok (.ireturn, 1) := by decide +kernel
theorem dX10_processRequests_0 : decode cX10_processRequests 0 = .ok (.iconst 0, 1) := by decide +kernel
theorem dX10_processRequests_1 : decode cX10_processRequests 1 = .ok (.istore_n 1, 1) := by decide +kernel
theorem dX10_processRequests_2 : decode cX10_processRequests 2 = .ok (.iload_n 1, 1) := by decide +kernel
theorem dX10_processRequests_3 : decode cX10_processRequests 3 = .ok (.aload_n 0, 1) := by decide +kernel
theorem dX10_processRequests_4 : decode cX10_processRequests 4 = .ok (.getfield 28, 3) := by decide +kernel
theorem dX10_processRequests_7 : decode cX10_processRequests 7 = .ok (.getfield 106, 3) := by decide +kernel
theorem dX10_processRequests_10 : decode cX10_processRequests 10 = .ok (.if_icmp .ge 46, 3) := by decide +kernel
theorem dX10_processRequests_13 : decode cX10_processRequests 13 = .ok (.aload_n 0, 1) := by decide +kernel
theorem dX10_processRequests_14 : decode cX10_processRequests 14 = .ok (.getfield 28, 3) := by decide +kernel
theorem dX10_processRequests_17 : decode cX10_processRequests 17 = .ok (.getfield 107, 3) := by decide +kernel
theorem dX10_processRequests_20 : decode cX10_processRequests 20 = .ok (.iload_n 1, 1) := by decide +kernel
theorem dX10_processRequests_21 : decode cX10_processRequests 21 = .ok (.iaload, 1) := by decide +kernel
theorem dX10_processRequests_22 : decode cX10_processRequests 22 = .ok (.istore_n 2, 1) := by decide +kernel
theorem dX10_processRequests_23 : decode cX10_processRequests 23 = .ok (.aload_n 0, 1) := by decide +kernel
theorem dX10_processRequests_24 : decode cX10_processRequests 24 = .ok (.getfield 28, 3) := by decide +kernel
theorem dX10_processRequests_27 : decode cX10_processRequests 27 = .ok (.getfield 109, 3) := by decide +kernel
theorem dX10_processRequests_30 : decode cX10_processRequests 30 = .ok (.iload_n 1, 1) := by decide +kernel
theorem dX10_processRequests_31 : decode cX10_processRequests 31 = .ok (.iaload, 1) := by decide +kernel
theorem dX10_processRequests_32 : decode cX10_processRequests 32 = .ok (.istore_n 3, 1) := by decide +kernel
theorem dX10_processRequests_33 : decode cX10_processRequests 33 = .ok (.aload_n 0, 1) := by decide +kernel
theorem dX10_processRequests_34 : decode cX10_processRequests 34 = .ok (.getfield 21, 3) := by decide +kernel
theorem dX10_processRequests_37 : decode cX10_processRequests 37 = .ok (.iload_n 2, 1) := by decide +kernel
theorem dX10_processRequests_38 : decode cX10_processRequests 38 = .ok (.invokevirtual 48, 3) := by decide +kernel
theorem dX10_processRequests_41 : decode cX10_processRequests 41 = .ok (.ifCond .eq 9, 3) := by decide +kernel
theorem dX10_processRequests_44 : decode cX10_processRequests 44 = .ok (.aload_n 0, 1) := by decide +kernel
theorem dX10_processRequests_45 : decode cX10_processRequests 45 = .ok (.iload_n 2, 1) := by decide +kernel
theorem dX10_processRequests_46 : decode cX10_processRequests 46 = .ok (.iload_n 3, 1) := by decide +kernel
theorem dX10_processRequests_47 : decode cX10_processRequests 47 = .ok (.invokevirtual 112, 3) := by decide +kernel
theorem dX10_processRequests_50 : decode cX10_processRequests 50 = .ok (.iinc 1 1, 3) := by decide +kernel
theorem dX10_processRequests_53 : decode cX10_processRequests 53 = .ok (.goto (-51), 3) := by decide +kernel
theorem dX10_processRequests_56 : decode cX10_processRequests 56 = .ok (.aload_n 0, 1) := by decide +kernel
theorem dX10_processRequests_57 : decode cX10_processRequests 57 = .ok (.getfield 28, 3) := by decide +kernel
theorem dX10_processRequests_60 : decode cX10_processRequests 60 = .ok (.invokevirtual 115, 3) := by decide +kernel
theorem dX10_processRequests_63 : decode cX10_processRequests 63 = .ok (.return_, 1) := by decide +kernel
theorem dX10_renewOrRefuse_0 : decode cX10_renewOrRefuse 0 = .ok (.aload_n 0, 1) := by decide +kernel
theorem dX10_renewOrRefuse_1 : decode cX10_renewOrRefuse 1 = .ok (.getfield 21, 3) := by decide +kernel
theorem dX10_renewOrRefuse_4 : decode cX10_renewOrRefuse 4 = .ok (.getfield 71, 3) := by decide +kernel
theorem dX10_renewOrRefuse_7 : decode cX10_renewOrRefuse 7 = .ok (.iload_n 1, 1) := by decide +kernel
theorem dX10_renewOrRefuse_8 : decode cX10_renewOrRefuse 8 = .ok (.iaload, 1) := by decide +kernel
theorem dX10_renewOrRefuse_9 : decode cX10_renewOrRefuse 9 = .ok (.istore_n 3, 1) := by decide +kernel
theorem dX10_renewOrRefuse_10 : decode cX10_renewOrRefuse 10 = .ok (.aload_n 0, 1) := by decide +kernel
theorem dX10_renewOrRefuse_11 : decode cX10_renewOrRefuse 11 = .ok (.getfield 21, 3) := by decide +kernel
theorem dX10_renewOrRefuse_14 : decode cX10_renewOrRefuse 14 = .ok (.getfield 63, 3) := by decide +kernel
theorem dX10_renewOrRefuse_17 : decode cX10_renewOrRefuse 17 = .ok (.iload_n 1, 1) := by decide +kernel
theorem dX10_renewOrRefuse_18 : decode cX10_renewOrRefuse 18 = .ok (.iaload, 1) := by decide +kernel
theorem dX10_renewOrRefuse_19 : decode cX10_renewOrRefuse 19 = .ok (.iload_n 2, 1) := by decide +kernel
theorem dX10_renewOrRefuse_20 : decode cX10_renewOrRefuse 20 = .ok (.imul, 1) := by decide +kernel
theorem dX10_renewOrRefuse_21 : decode cX10_renewOrRefuse 21 = .ok (.istore 4, 2) := by decide +kernel
theorem dX10_renewOrRefuse_23 : decode cX10_renewOrRefuse 23 = .ok (.aload_n 0, 1) := by decide +kernel
theorem dX10_renewOrRefuse_24 : decode cX10_renewOrRefuse 24 = .ok (.getfield 12, 3) := by decide +kernel
theorem dX10_renewOrRefuse_27 : decode cX10_renewOrRefuse 27 = .ok (.iload_n 3, 1) := by decide +kernel
theorem dX10_renewOrRefuse_28 : decode cX10_renewOrRefuse 28 = .ok (.iload 4, 2) := by decide +kernel
theorem dX10_renewOrRefuse_30 : decode cX10_renewOrRefuse 30 = .ok (.invokevirtual 55, 3) := by decide +kernel
theorem dX10_renewOrRefuse_33 : decode cX10_renewOrRefuse 33 = .ok (.ifCond .eq 26, 3) := by decide +kernel
theorem dX10_renewOrRefuse_36 : decode cX10_renewOrRefuse 36 = .ok (.aload_n 0, 1) := by decide +kernel
theorem dX10_renewOrRefuse_37 : decode cX10_renewOrRefuse 37 = .ok (.iload_n 3, 1) := by decide +kernel
theorem dX10_renewOrRefuse_38 : decode cX10_renewOrRefuse 38 = .ok (.iload 4, 2) := by decide +kernel
theorem dX10_renewOrRefuse_40 : decode cX10_renewOrRefuse 40 = .ok (.invokevirtual 67, 3) := by decide +kernel
theorem dX10_renewOrRefuse_43 : decode cX10_renewOrRefuse 43 = .ok (.aload_n 0, 1) := by decide +kernel
theorem dX10_renewOrRefuse_44 : decode cX10_renewOrRefuse 44 = .ok (.getfield 21, 3) := by decide +kernel
theorem dX10_renewOrRefuse_47 : decode cX10_renewOrRefuse 47 = .ok (.getfield 74, 3) := by decide +kernel
theorem dX10_renewOrRefuse_50 : decode cX10_renewOrRefuse 50 = .ok (.iload_n 1, 1) := by decide +kernel
theorem dX10_renewOrRefuse_51 : decode cX10_renewOrRefuse 51 = .ok (.dup2, 1) := by decide +kernel
theorem dX10_renewOrRefuse_52 : decode cX10_renewOrRefuse 52 = .ok (.iaload, 1) := by decide +kernel
theorem dX10_renewOrRefuse_53 : decode cX10_renewOrRefuse 53 = .ok (.iload_n 2, 1) := by decide +kernel
theorem dX10_renewOrRefuse_54 : decode cX10_renewOrRefuse 54 = .ok (.iadd, 1) := by decide +kernel
theorem dX10_renewOrRefuse_55 : decode cX10_renewOrRefuse 55 = .ok (.iastore, 1) := by decide +kernel
theorem dX10_renewOrRefuse_56 : decode cX10_renewOrRefuse 56 = .ok (.goto 13, 3) := by decide +kernel
theorem dX10_renewOrRefuse_59 : decode cX10_renewOrRefuse 59 = .ok (.aload_n 0, 1) := by decide +kernel
theorem dX10_renewOrRefuse_60 : decode cX10_renewOrRefuse 60 = .ok (.dup, 1) := by decide +kernel
theorem dX10_renewOrRefuse_61 : decode cX10_renewOrRefuse 61 = .ok (.getfield 118, 3) := by decide +kernel
theorem dX10_renewOrRefuse_64 : decode cX10_renewOrRefuse 64 = .ok (.iconst 1, 1) := by decide +kernel
theorem dX10_renewOrRefuse_65 : decode cX10_renewOrRefuse 65 = .ok (.iadd, 1) := by decide +kernel
theorem dX10_renewOrRefuse_66 : decode cX10_renewOrRefuse 66 = .ok (.putfield 118, 3) := by decide +kernel
theorem dX10_renewOrRefuse_69 : decode cX10_renewOrRefuse 69 = .ok (.return_, 1) := by decide +kernel
theorem dX10_burn_0 : decode cX10_burn 0 = .ok (.iconst 0, 1) := by decide +kernel
theorem dX10_burn_1 : decode cX10_burn 1 = .ok (.istore_n 1, 1) := by decide +kernel
theorem dX10_burn_2 : decode cX10_burn 2 = .ok (.iload_n 1, 1) := by decide +kernel
theorem dX10_burn_3 : decode cX10_burn 3 = .ok (.aload_n 0, 1) := by decide +kernel
theorem dX10_burn_4 : decode cX10_burn 4 = .ok (.getfield 21, 3) := by decide +kernel
theorem dX10_burn_7 : decode cX10_burn 7 = .ok (.getfield 36, 3) := by decide +kernel
theorem dX10_burn_10 : decode cX10_burn 10 = .ok (.if_icmp .ge 93, 3) := by decide +kernel
theorem dX10_burn_13 : decode cX10_burn 13 = .ok (.aload_n 0, 1) := by decide +kernel
theorem dX10_burn_14 : decode cX10_burn 14 = .ok (.getfield 21, 3) := by decide +kernel
theorem dX10_burn_17 : decode cX10_burn 17 = .ok (.getfield 121, 3) := by decide +kernel
theorem dX10_burn_20 : decode cX10_burn 20 = .ok (.iload_n 1, 1) := by decide +kernel
theorem dX10_burn_21 : decode cX10_burn 21 = .ok (.aload_n 0, 1) := by decide +kernel
theorem dX10_burn_22 : decode cX10_burn 22 = .ok (.getfield 21, 3) := by decide +kernel
theorem dX10_burn_25 : decode cX10_burn 25 = .ok (.iload_n 1, 1) := by decide +kernel
theorem dX10_burn_26 : decode cX10_burn 26 = .ok (.invokevirtual 48, 3) := by decide +kernel
theorem dX10_burn_29 : decode cX10_burn 29 = .ok (.ifCond .eq 23, 3) := by decide +kernel
theorem dX10_burn_32 : decode cX10_burn 32 = .ok (.aload_n 0, 1) := by decide +kernel
theorem dX10_burn_33 : decode cX10_burn 33 = .ok (.getfield 21, 3) := by decide +kernel
theorem dX10_burn_36 : decode cX10_burn 36 = .ok (.getfield 63, 3) := by decide +kernel
theorem dX10_burn_39 : decode cX10_burn 39 = .ok (.iload_n 1, 1) := by decide +kernel
theorem dX10_burn_40 : decode cX10_burn 40 = .ok (.iaload, 1) := by decide +kernel
theorem dX10_burn_41 : decode cX10_burn 41 = .ok (.aload_n 0, 1) := by decide +kernel
theorem dX10_burn_42 : decode cX10_burn 42 = .ok (.getfield 37, 3) := by decide +kernel
theorem dX10_burn_45 : decode cX10_burn 45 = .ok (.if_icmp .gt 7, 3) := by decide +kernel
theorem dX10_burn_48 : decode cX10_burn 48 = .ok (.iconst 1, 1) := by decide +kernel
theorem dX10_burn_49 : decode cX10_burn 49 = .ok (.goto 4, 3) := by decide +kernel
theorem dX10_burn_52 : decode cX10_burn 52 = .ok (.iconst 0, 1) := by decide +kernel
theorem dX10_burn_53 : decode cX10_burn 53 = .ok (.bastore, 1) := by decide +kernel
theorem dX10_burn_54 : decode cX10_burn 54 = .ok (.aload_n 0, 1) := by decide +kernel
theorem dX10_burn_55 : decode cX10_burn 55 = .ok (.getfield 21, 3) := by decide +kernel
theorem dX10_burn_58 : decode cX10_burn 58 = .ok (.getfield 121, 3) := by decide +kernel
theorem dX10_burn_61 : decode cX10_burn 61 = .ok (.iload_n 1, 1) := by decide +kernel
theorem dX10_burn_62 : decode cX10_burn 62 = .ok (.baload, 1) := by decide +kernel
theorem dX10_burn_63 : decode cX10_burn 63 = .ok (.ifCond .eq 34, 3) := by decide +kernel
theorem dX10_burn_66 : decode cX10_burn 66 = .ok (.aload_n 0, 1) := by decide +kernel
theorem dX10_burn_67 : decode cX10_burn 67 = .ok (.dup, 1) := by decide +kernel
theorem dX10_burn_68 : decode cX10_burn 68 = .ok (.getfield 37, 3) := by decide +kernel
theorem dX10_burn_71 : decode cX10_burn 71 = .ok (.aload_n 0, 1) := by decide +kernel
theorem dX10_burn_72 : decode cX10_burn 72 = .ok (.getfield 21, 3) := by decide +kernel
theorem dX10_burn_75 : decode cX10_burn 75 = .ok (.getfield 63, 3) := by decide +kernel
theorem dX10_burn_78 : decode cX10_burn 78 = .ok (.iload_n 1, 1) := by decide +kernel
theorem dX10_burn_79 : decode cX10_burn 79 = .ok (.iaload, 1) := by decide +kernel
theorem dX10_burn_80 : decode cX10_burn 80 = .ok (.isub, 1) := by decide +kernel
theorem dX10_burn_81 : decode cX10_burn 81 = .ok (.putfield 37, 3) := by decide +kernel
theorem dX10_burn_84 : decode cX10_burn 84 = .ok (.aload_n 0, 1) := by decide +kernel
theorem dX10_burn_85 : decode cX10_burn 85 = .ok (.getfield 21, 3) := by decide +kernel
theorem dX10_burn_88 : decode cX10_burn 88 = .ok (.getfield 125, 3) := by decide +kernel
theorem dX10_burn_91 : decode cX10_burn 91 = .ok (.iload_n 1, 1) := by decide +kernel
theorem dX10_burn_92 : decode cX10_burn 92 = .ok (.dup2, 1) := by decide +kernel
theorem dX10_burn_93 : decode cX10_burn 93 = .ok (.iaload, 1) := by decide +kernel
theorem dX10_burn_94 : decode cX10_burn 94 = .ok (.iconst 1, 1) := by decide +kernel
theorem dX10_burn_95 : decode cX10_burn 95 = .ok (.iadd, 1) := by decide +kernel
theorem dX10_burn_96 : decode cX10_burn 96 = .ok (.iastore, 1) := by decide +kernel
theorem dX10_burn_97 : decode cX10_burn 97 = .ok (.iinc 1 1, 3) := by decide +kernel
theorem dX10_burn_100 : decode cX10_burn 100 = .ok (.goto (-98), 3) := by decide +kernel
theorem dX10_burn_103 : decode cX10_burn 103 = .ok (.return_, 1) := by decide +kernel
theorem dX10_fineDarkShips_0 : decode cX10_fineDarkShips 0 = .ok (.iconst 0, 1) := by decide +kernel
theorem dX10_fineDarkShips_1 : decode cX10_fineDarkShips 1 = .ok (.istore_n 1, 1) := by decide +kernel
theorem dX10_fineDarkShips_2 : decode cX10_fineDarkShips 2 = .ok (.iload_n 1, 1) := by decide +kernel
theorem dX10_fineDarkShips_3 : decode cX10_fineDarkShips 3 = .ok (.aload_n 0, 1) := by decide +kernel
theorem dX10_fineDarkShips_4 : decode cX10_fineDarkShips 4 = .ok (.getfield 12, 3) := by decide +kernel
theorem dX10_fineDarkShips_7 : decode cX10_fineDarkShips 7 = .ok (.getfield 32, 3) := by decide +kernel
theorem dX10_fineDarkShips_10 : decode cX10_fineDarkShips 10 = .ok (.if_icmp .ge 81, 3) := by decide +kernel
theorem dX10_fineDarkShips_13 : decode cX10_fineDarkShips 13 = .ok (.aload_n 0, 1) := by decide +kernel
theorem dX10_fineDarkShips_14 : decode cX10_fineDarkShips 14 = .ok (.getfield 21, 3) := by decide +kernel
theorem dX10_fineDarkShips_17 : decode cX10_fineDarkShips 17 = .ok (.iload_n 1, 1) := by decide +kernel
theorem dX10_fineDarkShips_18 : decode cX10_fineDarkShips 18 = .ok (.invokevirtual 128, 3) := by decide +kernel
theorem dX10_fineDarkShips_21 : decode cX10_fineDarkShips 21 = .ok (.istore_n 2, 1) := by decide +kernel
theorem dX10_fineDarkShips_22 : decode cX10_fineDarkShips 22 = .ok (.iload_n 2, 1) := by decide +kernel
theorem dX10_fineDarkShips_23 : decode cX10_fineDarkShips 23 = .ok (.ifCond .le 62, 3) := by decide +kernel
theorem dX10_fineDarkShips_26 : decode cX10_fineDarkShips 26 = .ok (.aload_n 0, 1) := by decide +kernel
theorem dX10_fineDarkShips_27 : decode cX10_fineDarkShips 27 = .ok (.getfield 21, 3) := by decide +kernel
theorem dX10_fineDarkShips_30 : decode cX10_fineDarkShips 30 = .ok (.iload_n 1, 1) := by decide +kernel
theorem dX10_fineDarkShips_31 : decode cX10_fineDarkShips 31 = .ok (.invokevirtual 131, 3) := by decide +kernel
theorem dX10_fineDarkShips_34 : decode cX10_fineDarkShips 34 = .ok (.ifCond .ne 51, 3) := by decide +kernel
theorem dX10_fineDarkShips_37 : decode cX10_fineDarkShips 37 = .ok (.iconst 2, 1) := by decide +kernel
theorem dX10_fineDarkShips_38 : decode cX10_fineDarkShips 38 = .ok (.iload_n 2, 1) := by decide +kernel
theorem dX10_fineDarkShips_39 : decode cX10_fineDarkShips 39 = .ok (.imul, 1) := by decide +kernel
theorem dX10_fineDarkShips_40 : decode cX10_fineDarkShips 40 = .ok (.aload_n 0, 1) := by decide +kernel
theorem dX10_fineDarkShips_41 : decode cX10_fineDarkShips 41 = .ok (.getfield 12, 3) := by decide +kernel
theorem dX10_fineDarkShips_44 : decode cX10_fineDarkShips 44 = .ok (.getfield 80, 3) := by decide +kernel
theorem dX10_fineDarkShips_47 : decode cX10_fineDarkShips 47 = .ok (.iload_n 1, 1) := by decide +kernel
theorem dX10_fineDarkShips_48 : decode cX10_fineDarkShips 48 = .ok (.iaload, 1) := by decide +kernel
theorem dX10_fineDarkShips_49 : decode cX10_fineDarkShips 49 = .ok (.invokestatic 134, 3) := by decide +kernel
theorem dX10_fineDarkShips_52 : decode cX10_fineDarkShips 52 = .ok (.istore_n 3, 1) := by decide +kernel
theorem dX10_fineDarkShips_53 : decode cX10_fineDarkShips 53 = .ok (.aload_n 0, 1) := by decide +kernel
theorem dX10_fineDarkShips_54 : decode cX10_fineDarkShips 54 = .ok (.iload_n 1, 1) := by decide +kernel
theorem dX10_fineDarkShips_55 : decode cX10_fineDarkShips 55 = .ok (.iload_n 3, 1) := by decide +kernel
theorem dX10_fineDarkShips_56 : decode cX10_fineDarkShips 56 = .ok (.invokevirtual 67, 3) := by decide +kernel
theorem dX10_fineDarkShips_59 : decode cX10_fineDarkShips 59 = .ok (.aload_n 0, 1) := by decide +kernel
theorem dX10_fineDarkShips_60 : decode cX10_fineDarkShips 60 = .ok (.getfield 12, 3) := by decide +kernel
theorem dX10_fineDarkShips_63 : decode cX10_fineDarkShips 63 = .ok (.getfield 139, 3) := by decide +kernel
theorem dX10_fineDarkShips_66 : decode cX10_fineDarkShips 66 = .ok (.iload_n 1, 1) := by decide +kernel
theorem dX10_fineDarkShips_67 : decode cX10_fineDarkShips 67 = .ok (.dup2, 1) := by decide +kernel
theorem dX10_fineDarkShips_68 : decode cX10_fineDarkShips 68 = .ok (.iaload, 1) := by decide +kernel
theorem dX10_fineDarkShips_69 : decode cX10_fineDarkShips 69 = .ok (.iload_n 3, 1) := by decide +kernel
theorem dX10_fineDarkShips_70 : decode cX10_fineDarkShips 70 = .ok (.iadd, 1) := by decide +kernel
theorem dX10_fineDarkShips_71 : decode cX10_fineDarkShips 71 = .ok (.iastore, 1) := by decide +kernel
theorem dX10_fineDarkShips_72 : decode cX10_fineDarkShips 72 = .ok (.aload_n 0, 1) := by decide +kernel
theorem dX10_fineDarkShips_73 : decode cX10_fineDarkShips 73 = .ok (.getfield 12, 3) := by decide +kernel
theorem dX10_fineDarkShips_76 : decode cX10_fineDarkShips 76 = .ok (.getfield 142, 3) := by decide +kernel
theorem dX10_fineDarkShips_79 : decode cX10_fineDarkShips 79 = .ok (.iload_n 1, 1) := by decide +kernel
theorem dX10_fineDarkShips_80 : decode cX10_fineDarkShips 80 = .ok (.dup2, 1) := by decide +kernel
theorem dX10_fineDarkShips_81 : decode cX10_fineDarkShips 81 = .ok (.iaload, 1) := by decide +kernel
theorem dX10_fineDarkShips_82 : decode cX10_fineDarkShips 82 = .ok (.iconst 1, 1) := by decide +kernel
theorem dX10_fineDarkShips_83 : decode cX10_fineDarkShips 83 = .ok (.iadd, 1) := by decide +kernel
theorem dX10_fineDarkShips_84 : decode cX10_fineDarkShips 84 = .ok (.iastore, 1) := by decide +kernel
theorem dX10_fineDarkShips_85 : decode cX10_fineDarkShips 85 = .ok (.iinc 1 1, 3) := by decide +kernel
theorem dX10_fineDarkShips_88 : decode cX10_fineDarkShips 88 = .ok (.goto (-86), 3) := by decide +kernel
theorem dX10_fineDarkShips_91 : decode cX10_fineDarkShips 91 = .ok (.return_, 1) := by decide +kernel
theorem dX10_endLeases_0 : decode cX10_endLeases 0 = .ok (.iconst 0, 1) := by decide +kernel
theorem dX10_endLeases_1 : decode cX10_endLeases 1 = .ok (.istore_n 1, 1) := by decide +kernel
theorem dX10_endLeases_2 : decode cX10_endLeases 2 = .ok (.iconst 0, 1) := by decide +kernel
theorem dX10_endLeases_3 : decode cX10_endLeases 3 = .ok (.istore_n 2, 1) := by decide +kernel
theorem dX10_endLeases_4 : decode cX10_endLeases 4 = .ok (.iload_n 2, 1) := by decide +kernel
theorem dX10_endLeases_5 : decode cX10_endLeases 5 = .ok (.aload_n 0, 1) := by decide +kernel
theorem dX10_endLeases_6 : decode cX10_endLeases 6 = .ok (.getfield 21, 3) := by decide +kernel
theorem dX10_endLeases_9 : decode cX10_endLeases 9 = .ok (.getfield 36, 3) := by decide +kernel
theorem dX10_endLeases_12 : decode cX10_endLeases 12 = .ok (.if_icmp .ge 45, 3) := by decide +kernel
theorem dX10_endLeases_15 : decode cX10_endLeases 15 = .ok (.aload_n 0, 1) := by decide +kernel
theorem dX10_endLeases_16 : decode cX10_endLeases 16 = .ok (.getfield 21, 3) := by decide +kernel
theorem dX10_endLeases_19 : decode cX10_endLeases 19 = .ok (.iload_n 2, 1) := by decide +kernel
theorem dX10_endLeases_20 : decode cX10_endLeases 20 = .ok (.invokevirtual 48, 3) := by decide +kernel
theorem dX10_endLeases_23 : decode cX10_endLeases 23 = .ok (.ifCond .eq 28, 3) := by decide +kernel
theorem dX10_endLeases_26 : decode cX10_endLeases 26 = .ok (.aload_n 0, 1) := by decide +kernel
theorem dX10_endLeases_27 : decode cX10_endLeases 27 = .ok (.getfield 21, 3) := by decide +kernel
theorem dX10_endLeases_30 : decode cX10_endLeases 30 = .ok (.getfield 74, 3) := by decide +kernel
theorem dX10_endLeases_33 : decode cX10_endLeases 33 = .ok (.iload_n 2, 1) := by decide +kernel
theorem dX10_endLeases_34 : decode cX10_endLeases 34 = .ok (.iaload, 1) := by decide +kernel
theorem dX10_endLeases_35 : decode cX10_endLeases 35 = .ok (.aload_n 0, 1) := by decide +kernel
theorem dX10_endLeases_36 : decode cX10_endLeases 36 = .ok (.getfield 77, 3) := by decide +kernel
theorem dX10_endLeases_39 : decode cX10_endLeases 39 = .ok (.if_icmp .ne 12, 3) := by decide +kernel
theorem dX10_endLeases_42 : decode cX10_endLeases 42 = .ok (.aload_n 0, 1) := by decide +kernel
theorem dX10_endLeases_43 : decode cX10_endLeases 43 = .ok (.iload_n 2, 1) := by decide +kernel
theorem dX10_endLeases_44 : decode cX10_endLeases 44 = .ok (.invokevirtual 145, 3) := by decide +kernel
theorem dX10_endLeases_47 : decode cX10_endLeases 47 = .ok (.pop, 1) := by decide +kernel
theorem dX10_endLeases_48 : decode cX10_endLeases 48 = .ok (.iinc 1 1, 3) := by decide +kernel
theorem dX10_endLeases_51 : decode cX10_endLeases 51 = .ok (.iinc 2 1, 3) := by decide +kernel
theorem dX10_endLeases_54 : decode cX10_endLeases 54 = .ok (.goto (-50), 3) := by decide +kernel
theorem dX10_endLeases_57 : decode cX10_endLeases 57 = .ok (.iload_n 1, 1) := by decide +kernel
theorem dX10_endLeases_58 : decode cX10_endLeases 58 = .ok (.ireturn, 1) := by decide +kernel
theorem dX10_copyFrom_0 : decode cX10_copyFrom 0 = .ok (.aload_n 0, 1) := by decide +kernel
theorem dX10_copyFrom_1 : decode cX10_copyFrom 1 = .ok (.getfield 12, 3) := by decide +kernel
theorem dX10_copyFrom_4 : decode cX10_copyFrom 4 = .ok (.aload_n 1, 1) := by decide +kernel
theorem dX10_copyFrom_5 : decode cX10_copyFrom 5 = .ok (.getfield 12, 3) := by decide +kernel
theorem dX10_copyFrom_8 : decode cX10_copyFrom 8 = .ok (.invokevirtual 148, 3) := by decide +kernel
theorem dX10_copyFrom_11 : decode cX10_copyFrom 11 = .ok (.aload_n 0, 1) := by decide +kernel
theorem dX10_copyFrom_12 : decode cX10_copyFrom 12 = .ok (.getfield 21, 3) := by decide +kernel
theorem dX10_copyFrom_15 : decode cX10_copyFrom 15 = .ok (.aload_n 1, 1) := by decide +kernel
theorem dX10_copyFrom_16 : decode cX10_copyFrom 16 = .ok (.getfield 21, 3) := by decide +kernel
theorem dX10_copyFrom_19 : decode cX10_copyFrom 19 = .ok (.invokevirtual 152, 3) := by decide +kernel
theorem dX10_copyFrom_22 : decode cX10_copyFrom 22 = .ok (.aload_n 0, 1) := by decide +kernel
theorem dX10_copyFrom_23 : decode cX10_copyFrom 23 = .ok (.getfield 28, 3) := by decide +kernel
theorem dX10_copyFrom_26 : decode cX10_copyFrom 26 = .ok (.aload_n 1, 1) := by decide +kernel
theorem dX10_copyFrom_27 : decode cX10_copyFrom 27 = .ok (.getfield 28, 3) := by decide +kernel
theorem dX10_copyFrom_30 : decode cX10_copyFrom 30 = .ok (.invokevirtual 155, 3) := by decide +kernel
theorem dX10_copyFrom_33 : decode cX10_copyFrom 33 = .ok (.aload_n 0, 1) := by decide +kernel
theorem dX10_copyFrom_34 : decode cX10_copyFrom 34 = .ok (.aload_n 1, 1) := by decide +kernel
theorem dX10_copyFrom_35 : decode cX10_copyFrom 35 = .ok (.getfield 37, 3) := by decide +kernel
theorem dX10_copyFrom_38 : decode cX10_copyFrom 38 = .ok (.putfield 37, 3) := by decide +kernel
theorem dX10_copyFrom_41 : decode cX10_copyFrom 41 = .ok (.aload_n 0, 1) := by decide +kernel
theorem dX10_copyFrom_42 : decode cX10_copyFrom 42 = .ok (.aload_n 1, 1) := by decide +kernel
theorem dX10_copyFrom_43 : decode cX10_copyFrom 43 = .ok (.getfield 77, 3) := by decide +kernel
theorem dX10_copyFrom_46 : decode cX10_copyFrom 46 = .ok (.putfield 77, 3) := by decide +kernel
theorem dX10_copyFrom_49 : decode cX10_copyFrom 49 = .ok (.aload_n 0, 1) := by decide +kernel
theorem dX10_copyFrom_50 : decode cX10_copyFrom 50 = .ok (.aload_n 1, 1) := by decide +kernel
theorem dX10_copyFrom_51 : decode cX10_copyFrom 51 = .ok (.getfield 83, 3) := by decide +kernel
theorem dX10_copyFrom_54 : decode cX10_copyFrom 54 = .ok (.putfield 83, 3) := by decide +kernel
theorem dX10_copyFrom_57 : decode cX10_copyFrom 57 = .ok (.aload_n 0, 1) := by decide +kernel
theorem dX10_copyFrom_58 : decode cX10_copyFrom 58 = .ok (.aload_n 1, 1) := by decide +kernel
theorem dX10_copyFrom_59 : decode cX10_copyFrom 59 = .ok (.getfield 118, 3) := by decide +kernel
theorem dX10_copyFrom_62 : decode cX10_copyFrom 62 = .ok (.putfield 118, 3) := by decide +kernel
theorem dX10_copyFrom_65 : decode cX10_copyFrom 65 = .ok (.return_, 1) := by decide +kernel
theorem dX11_init_0 : decode cX11_init 0 = .ok (.aload_n 0, 1) := by decide +kernel
theorem dX11_init_1 : decode cX11_init 1 = .ok (.invokespecial 3, 3) := by decide +kernel
theorem dX11_init_4 : decode cX11_init 4 = .ok (.aload_n 0, 1) := by decide +kernel
theorem dX11_init_5 : decode cX11_init 5 = .ok (.new 9, 3) := by decide +kernel
theorem dX11_init_8 : decode cX11_init 8 = .ok (.dup, 1) := by decide +kernel
theorem dX11_init_9 : decode cX11_init 9 = .ok (.invokespecial 11, 3) := by decide +kernel
theorem dX11_init_12 : decode cX11_init 12 = .ok (.putfield 12, 3) := by decide +kernel
theorem dX11_init_15 : decode cX11_init 15 = .ok (.aload_n 0, 1) := by decide +kernel
theorem dX11_init_16 : decode cX11_init 16 = .ok (.new 9, 3) := by decide +kernel
theorem dX11_init_19 : decode cX11_init 19 = .ok (.dup, 1) := by decide +kernel
theorem dX11_init_20 : decode cX11_init 20 = .ok (.invokespecial 11, 3) := by decide +kernel
theorem dX11_init_23 : decode cX11_init 23 = .ok (.putfield 16, 3) := by decide +kernel
theorem dX11_init_26 : decode cX11_init 26 = .ok (.aload_n 0, 1) := by decide +kernel
theorem dX11_init_27 : decode cX11_init 27 = .ok (.new 9, 3) := by decide +kernel
theorem dX11_init_30 : decode cX11_init 30 = .ok (.dup, 1) := by decide +kernel
theorem dX11_init_31 : decode cX11_init 31 = .ok (.invokespecial 11, 3) := by decide +kernel
theorem dX11_init_34 : decode cX11_init 34 = .ok (.putfield 19, 3) := by decide +kernel
theorem dX11_init_37 : decode cX11_init 37 = .ok (.aload_n 0, 1) := by decide +kernel
theorem dX11_init_38 : decode cX11_init 38 = .ok (.new 22, 3) := by decide +kernel
theorem dX11_init_41 : decode cX11_init 41 = .ok (.dup, 1) := by decide +kernel
theorem dX11_init_42 : decode cX11_init 42 = .ok (.invokespecial 24, 3) := by decide +kernel
theorem dX11_init_45 : decode cX11_init 45 = .ok (.putfield 25, 3) := by decide +kernel
theorem dX11_init_48 : decode cX11_init 48 = .ok (.aload_n 0, 1) := by decide +kernel
theorem dX11_init_49 : decode cX11_init 49 = .ok (.new 29, 3) := by decide +kernel
theorem dX11_init_52 : decode cX11_init 52 = .ok (.dup, 1) := by decide +kernel
theorem dX11_init_53 : decode cX11_init 53 = .ok (.invokespecial 31, 3) := by decide +kernel
theorem dX11_init_56 : decode cX11_init 56 = .ok (.putfield 32, 3) := by decide +kernel
theorem dX11_init_59 : decode cX11_init 59 = .ok (.aload_n 0, 1) := by decide +kernel
theorem dX11_init_60 : decode cX11_init 60 = .ok (.new 36, 3) := by decide +kernel
theorem dX11_init_63 : decode cX11_init 63 = .ok (.dup, 1) := by decide +kernel
theorem dX11_init_64 : decode cX11_init 64 = .ok (.invokespecial 38, 3) := by decide +kernel
theorem dX11_init_67 : decode cX11_init 67 = .ok (.putfield 39, 3) := by decide +kernel
theorem dX11_init_70 : decode cX11_init 70 = .ok (.aload_n 0, 1) := by decide +kernel
theorem dX11_init_71 : decode cX11_init 71 = .ok (.new 43, 3) := by decide +kernel
theorem dX11_init_74 : decode cX11_init 74 = .ok (.dup, 1) := by decide +kernel
theorem dX11_init_75 : decode cX11_init 75 = .ok (.invokespecial 45, 3) := by decide +kernel
theorem dX11_init_78 : decode cX11_init 78 = .ok (.putfield 46, 3) := by decide +kernel
theorem dX11_init_81 : decode cX11_init 81 = .ok (.aload_n 0, 1) := by decide +kernel
theorem dX11_init_82 : decode cX11_init 82 = .ok (.new 50, 3) := by decide +kernel
theorem dX11_init_85 : decode cX11_init 85 = .ok (.dup, 1) := by decide +kernel
theorem dX11_init_86 : decode cX11_init 86 = .ok (.invokespecial 52, 3) := by decide +kernel
theorem dX11_init_89 : decode cX11_init 89 = .ok (.putfield 53, 3) := by decide +kernel
theorem dX11_init_92 : decode cX11_init 92 = .ok (.aload_n 0, 1) := by decide +kernel
theorem dX11_init_93 : decode cX11_init 93 = .ok (.iconst (-1), 1) := by decide +kernel
theorem dX11_init_94 : decode cX11_init 94 = .ok (.putfield 57, 3) := by decide +kernel
theorem dX11_init_97 : decode cX11_init 97 = .ok (.aload_n 0, 1) := by decide +kernel
theorem dX11_init_98 : decode cX11_init 98 = .ok (.iconst (-1), 1) := by decide +kernel
theorem dX11_init_99 : decode cX11_init 99 = .ok (.putfield 61, 3) := by decide +kernel
theorem dX11_init_102 : decode cX11_init 102 = .ok (.aload_n 0, 1) := by decide +kernel
theorem dX11_init_103 : decode cX11_init 103 = .ok (.bipush 32, 2) := by decide +kernel
theorem dX11_init_105 : decode cX11_init 105 = .ok (.putfield 64, 3) := by decide +kernel
theorem dX11_init_108 : decode cX11_init 108 = .ok (.return_, 1) := by decide +kernel
theorem dX11_addShip_0 : decode cX11_addShip 0 = .ok (.aload_n 0, 1) := by decide +kernel
theorem dX11_addShip_1 : decode cX11_addShip 1 = .ok (.getfield 12, 3) := by decide +kernel
theorem dX11_addShip_4 : decode cX11_addShip 4 = .ok (.invokevirtual 68, 3) := by decide +kernel
theorem dX11_addShip_7 : decode cX11_addShip 7 = .ok (.invokestatic 72, 3) := by decide +kernel
theorem dX11_addShip_10 : decode cX11_addShip 10 = .ok (.aload_n 0, 1) := by decide +kernel
theorem dX11_addShip_11 : decode cX11_addShip 11 = .ok (.getfield 25, 3) := by decide +kernel
theorem dX11_addShip_14 : decode cX11_addShip 14 = .ok (.aload_n 0, 1) := by decide +kernel
theorem dX11_addShip_15 : decode cX11_addShip 15 = .ok (.getfield 12, 3) := by decide +kernel
theorem dX11_addShip_18 : decode cX11_addShip 18 = .ok (.invokevirtual 76, 3) := by decide +kernel
theorem dX11_addShip_21 : decode cX11_addShip 21 = .ok (.aload_n 0, 1) := by decide +kernel
theorem dX11_addShip_22 : decode cX11_addShip 22 = .ok (.getfield 12, 3) := by decide +kernel
theorem dX11_addShip_25 : decode cX11_addShip 25 = .ok (.getfield 80, 3) := by decide +kernel
theorem dX11_addShip_28 : decode cX11_addShip 28 = .ok (.invokevirtual 84, 3) := by decide +kernel
theorem dX11_addShip_31 : decode cX11_addShip 31 = .ok (.ireturn, 1) := by decide +kernel
theorem dX11_addLamp_0 : decode cX11_addLamp 0 = .ok (.aload_n 0, 1) := by decide +kernel
theorem dX11_addLamp_1 : decode cX11_addLamp 1 = .ok (.getfield 12, 3) := by decide +kernel
theorem dX11_addLamp_4 : decode cX11_addLamp 4 = .ok (.iload_n 1, 1) := by decide +kernel
theorem dX11_addLamp_5 : decode cX11_addLamp 5 = .ok (.invokevirtual 90, 3) := by decide +kernel
theorem dX11_addLamp_8 : decode cX11_addLamp 8 = .ok (.invokestatic 72, 3) := by decide +kernel
theorem dX11_addLamp_11 : decode cX11_addLamp 11 = .ok (.aload_n 0, 1) := by decide +kernel
theorem dX11_addLamp_12 : decode cX11_addLamp 12 = .ok (.getfield 25, 3) := by decide +kernel
theorem dX11_addLamp_15 : decode cX11_addLamp 15 = .ok (.aload_n 0, 1) := by decide +kernel
theorem dX11_addLamp_16 : decode cX11_addLamp 16 = .ok (.getfield 12, 3) := by decide +kernel
theorem dX11_addLamp_19 : decode cX11_addLamp 19 = .ok (.invokevirtual 76, 3) := by decide +kernel
theorem dX11_addLamp_22 : decode cX11_addLamp 22 = .ok (.aload_n 0, 1) := by decide +kernel
theorem dX11_addLamp_23 : decode cX11_addLamp 23 = .ok (.getfield 12, 3) := by decide +kernel
theorem dX11_addLamp_26 : decode cX11_addLamp 26 = .ok (.getfield 94, 3) := by decide +kernel
theorem dX11_addLamp_29 : decode cX11_addLamp 29 = .ok (.iload_n 1, 1) := by decide +kernel
theorem dX11_addLamp_30 : decode cX11_addLamp 30 = .ok (.invokevirtual 98, 3) := by decide +kernel
theorem dX11_addLamp_33 : decode cX11_addLamp 33 = .ok (.ireturn, 1) := by decide +kernel
theorem dX11_addOil_0 : decode cX11_addOil 0 = .ok (.aload_n 0, 1) := by decide +kernel
theorem dX11_addOil_1 : decode cX11_addOil 1 = .ok (.getfield 12, 3) := by decide +kernel
theorem dX11_addOil_4 : decode cX11_addOil 4 = .ok (.iload_n 1, 1) := by decide +kernel
theorem dX11_addOil_5 : decode cX11_addOil 5 = .ok (.invokevirtual 103, 3) := by decide +kernel
theorem dX11_addOil_8 : decode cX11_addOil 8 = .ok (.invokestatic 72, 3) := by decide +kernel
theorem dX11_addOil_11 : decode cX11_addOil 11 = .ok (.aload_n 0, 1) := by decide +kernel
theorem dX11_addOil_12 : decode cX11_addOil 12 = .ok (.getfield 25, 3) := by decide +kernel
theorem dX11_addOil_15 : decode cX11_addOil 15 = .ok (.aload_n 0, 1) := by decide +kernel
theorem dX11_addOil_16 : decode cX11_addOil 16 = .ok (.getfield 12, 3) := by decide +kernel
theorem dX11_addOil_19 : decode cX11_addOil 19 = .ok (.invokevirtual 76, 3) := by decide +kernel
theorem dX11_addOil_22 : decode cX11_addOil 22 = .ok (.aload_n 0, 1) := by decide +kernel
theorem dX11_addOil_23 : decode cX11_addOil 23 = .ok (.getfield 12, 3) := by decide +kernel
theorem dX11_addOil_26 : decode cX11_addOil 26 = .ok (.iload_n 1, 1) := by decide +kernel
theorem dX11_addOil_27 : decode cX11_addOil 27 = .ok (.invokevirtual 106, 3) := by decide +kernel
theorem dX11_addOil_30 : decode cX11_addOil 30 = .ok (.ireturn, 1) := by decide +kernel
theorem dX11_lease_0 : decode cX11_lease 0 = .ok (.aload_n 0, 1) := by decide +kernel
theorem dX11_lease_1 : decode cX11_lease 1 = .ok (.getfield 12, 3) := by decide +kernel
theorem dX11_lease_4 : decode cX11_lease 4 = .ok (.iload_n 1, 1) := by decide +kernel
theorem dX11_lease_5 : decode cX11_lease 5 = .ok (.iload_n 2, 1) := by decide +kernel
theorem dX11_lease_6 : decode cX11_lease 6 = .ok (.iload_n 3, 1) := by decide +kernel
theorem dX11_lease_7 : decode cX11_lease 7 = .ok (.invokevirtual 109, 3) := by decide +kernel
theorem dX11_lease_10 : decode cX11_lease 10 = .ok (.invokestatic 72, 3) := by decide +kernel
theorem dX11_lease_13 : decode cX11_lease 13 = .ok (.aload_n 0, 1) := by decide +kernel
theorem dX11_lease_14 : decode cX11_lease 14 = .ok (.getfield 25, 3) := by decide +kernel
theorem dX11_lease_17 : decode cX11_lease 17 = .ok (.aload_n 0, 1) := by decide +kernel
theorem dX11_lease_18 : decode cX11_lease 18 = .ok (.getfield 12, 3) := by decide +kernel
theorem dX11_lease_21 : decode cX11_lease 21 = .ok (.invokevirtual 76, 3) := by decide +kernel
theorem dX11_lease_24 : decode cX11_lease 24 = .ok (.aload_n 0, 1) := by decide +kernel
theorem dX11_lease_25 : decode cX11_lease 25 = .ok (.getfield 12, 3) := by decide +kernel
theorem dX11_lease_28 : decode cX11_lease 28 = .ok (.iload_n 1, 1) := by decide +kernel
theorem dX11_lease_29 : decode cX11_lease 29 = .ok (.iload_n 2, 1) := by decide +kernel
theorem dX11_lease_30 : decode cX11_lease 30 = .ok (.iload_n 3, 1) := by decide +kernel
theorem dX11_lease_31 : decode cX11_lease 31 = .ok (.invokevirtual 113, 3) := by decide +kernel
theorem dX11_lease_34 : decode cX11_lease 34 = .ok (.ireturn, 1) := by decide +kernel
theorem dX11_requestRenewal_0 : decode cX11_requestRenewal 0 = .ok (.aload_n 0, 1) := by decide +kernel
theorem dX11_requestRenewal_1 : decode cX11_requestRenewal 1 = .ok (.getfield 12, 3) := by decide +kernel
theorem dX11_requestRenewal_4 : decode cX11_requestRenewal 4 = .ok (.iload_n 1, 1) := by decide +kernel
theorem dX11_requestRenewal_5 : decode cX11_requestRenewal 5 = .ok (.iload_n 2, 1) := by decide +kernel
theorem dX11_requestRenewal_6 : decode cX11_requestRenewal 6 = .ok (.invokevirtual 117, 3) := by decide +kernel
theorem dX11_requestRenewal_9 : decode cX11_requestRenewal 9 = .ok (.invokestatic 72, 3) := by decide +kernel
theorem dX11_requestRenewal_12 : decode cX11_requestRenewal 12 = .ok (.aload_n 0, 1) := by decide +kernel
theorem dX11_requestRenewal_13 : decode cX11_requestRenewal 13 = .ok (.getfield 25, 3) := by decide +kernel
theorem dX11_requestRenewal_16 : decode cX11_requestRenewal 16 = .ok (.aload_n 0, 1) := by decide +kernel
theorem dX11_requestRenewal_17 : decode cX11_requestRenewal 17 = .ok (.getfield 12, 3) := by decide +kernel
theorem dX11_requestRenewal_20 : decode cX11_requestRenewal 20 = .ok (.invokevirtual 76, 3) := by decide +kernel
theorem dX11_requestRenewal_23 : decode cX11_requestRenewal 23 = .ok (.aload_n 0, 1) := by decide +kernel
theorem dX11_requestRenewal_24 : decode cX11_requestRenewal 24 = .ok (.getfield 12, 3) := by decide +kernel
theorem dX11_requestRenewal_27 : decode cX11_requestRenewal 27 = .ok (.getfield 121, 3) := by decide +kernel
theorem dX11_requestRenewal_30 : decode cX11_requestRenewal 30 = .ok (.iload_n 1, 1) := by decide +kernel
theorem dX11_requestRenewal_31 : decode cX11_requestRenewal 31 = .ok (.iload_n 2, 1) := by decide +kernel
theorem dX11_requestRenewal_32 : decode cX11_requestRenewal 32 = .ok (.invokevirtual 125, 3) := by decide +kernel
theorem dX11_requestRenewal_35 : decode cX11_requestRenewal 35 = .ok (.ireturn, 1) := by decide +kernel
theorem dX11_giveUp_0 : decode cX11_giveUp 0 = .ok (.aload_n 0, 1) := by decide +kernel
theorem dX11_giveUp_1 : decode cX11_giveUp 1 = .ok (.getfield 12, 3) := by decide +kernel
theorem dX11_giveUp_4 : decode cX11_giveUp 4 = .ok (.iload_n 1, 1) := by decide +kernel
theorem dX11_giveUp_5 : decode cX11_giveUp 5 = .ok (.invokevirtual 130, 3) := by decide +kernel
theorem dX11_giveUp_8 : decode cX11_giveUp 8 = .ok (.invokestatic 72, 3) := by decide +kernel
theorem dX11_giveUp_11 : decode cX11_giveUp 11 = .ok (.aload_n 0, 1) := by decide +kernel
theorem dX11_giveUp_12 : decode cX11_giveUp 12 = .ok (.getfield 25, 3) := by decide +kernel
theorem dX11_giveUp_15 : decode cX11_giveUp 15 = .ok (.aload_n 0, 1) := by decide +kernel
theorem dX11_giveUp_16 : decode cX11_giveUp 16 = .ok (.getfield 12, 3) := by decide +kernel
theorem dX11_giveUp_19 : decode cX11_giveUp 19 = .ok (.invokevirtual 76, 3) := by decide +kernel
theorem dX11_giveUp_22 : decode cX11_giveUp 22 = .ok (.aload_n 0, 1) := by decide +kernel
theorem dX11_giveUp_23 : decode cX11_giveUp 23 = .ok (.getfield 12, 3) := by decide +kernel
theorem dX11_giveUp_26 : decode cX11_giveUp 26 = .ok (.iload_n 1, 1) := by decide +kernel
theorem dX11_giveUp_27 : decode cX11_giveUp 27 = .ok (.invokevirtual 133, 3) := by decide +kernel
theorem dX11_giveUp_30 : decode cX11_giveUp 30 = .ok (.ireturn, 1) := by decide +kernel
theorem dX11_passHours_0 : decode cX11_passHours 0 = .ok (.aload_n 0, 1) := by decide +kernel
theorem dX11_passHours_1 : decode cX11_passHours 1 = .ok (.getfield 12, 3) := by decide +kernel
theorem dX11_passHours_4 : decode cX11_passHours 4 = .ok (.iload_n 1, 1) := by decide +kernel
theorem dX11_passHours_5 : decode cX11_passHours 5 = .ok (.invokevirtual 136, 3) := by decide +kernel
theorem dX11_passHours_8 : decode cX11_passHours 8 = .ok (.invokestatic 72, 3) := by decide +kernel
theorem dX11_passHours_11 : decode cX11_passHours 11 = .ok (.aload_n 0, 1) := by decide +kernel
theorem dX11_passHours_12 : decode cX11_passHours 12 = .ok (.getfield 25, 3) := by decide +kernel
theorem dX11_passHours_15 : decode cX11_passHours 15 = .ok (.aload_n 0, 1) := by decide +kernel
theorem dX11_passHours_16 : decode cX11_passHours 16 = .ok (.getfield 12, 3) := by decide +kernel
theorem dX11_passHours_19 : decode cX11_passHours 19 = .ok (.invokevirtual 76, 3) := by decide +kernel
theorem dX11_passHours_22 : decode cX11_passHours 22 = .ok (.aload_n 0, 1) := by decide +kernel
theorem dX11_passHours_23 : decode cX11_passHours 23 = .ok (.getfield 12, 3) := by decide +kernel
theorem dX11_passHours_26 : decode cX11_passHours 26 = .ok (.iload_n 1, 1) := by decide +kernel
theorem dX11_passHours_27 : decode cX11_passHours 27 = .ok (.invokevirtual 139, 3) := by decide +kernel
theorem dX11_passHours_30 : decode cX11_passHours 30 = .ok (.ireturn, 1) := by decide +kernel
theorem dX11_hour_0 : decode cX11_hour 0 = .ok (.aload_n 0, 1) := by decide +kernel
theorem dX11_hour_1 : decode cX11_hour 1 = .ok (.getfield 12, 3) := by decide +kernel
theorem dX11_hour_4 : decode cX11_hour 4 = .ok (.getfield 142, 3) := by decide +kernel
theorem dX11_hour_7 : decode cX11_hour 7 = .ok (.ireturn, 1) := by decide +kernel
theorem dX11_shipCount_0 : decode cX11_shipCount 0 = .ok (.aload_n 0, 1) := by decide +kernel
theorem dX11_shipCount_1 : decode cX11_shipCount 1 = .ok (.getfield 12, 3) := by decide +kernel
theorem dX11_shipCount_4 : decode cX11_shipCount 4 = .ok (.getfield 80, 3) := by decide +kernel
theorem dX11_shipCount_7 : decode cX11_shipCount 7 = .ok (.getfield 145, 3) := by decide +kernel
theorem dX11_shipCount_10 : decode cX11_shipCount 10 = .ok (.ireturn, 1) := by decide +kernel
theorem dX11_coins_0 : decode cX11_coins 0 = .ok (.aload_n 0, 1) := by decide +kernel
theorem dX11_coins_1 : decode cX11_coins 1 = .ok (.iload_n 1, 1) := by decide +kernel
theorem dX11_coins_2 : decode cX11_coins 2 = .ok (.invokevirtual 148, 3) := by decide +kernel
theorem dX11_coins_5 : decode cX11_coins 5 = .ok (.aload_n 0, 1) := by decide +kernel
theorem dX11_coins_6 : decode cX11_coins 6 = .ok (.getfield 12, 3) := by decide +kernel
theorem dX11_coins_9 : decode cX11_coins 9 = .ok (.getfield 80, 3) := by decide +kernel
theorem dX11_coins_12 : decode cX11_coins 12 = .ok (.getfield 152, 3) := by decide +kernel
theorem dX11_coins_15 : decode cX11_coins 15 = .ok (.iload_n 1, 1) := by decide +kernel
theorem dX11_coins_16 : decode cX11_coins 16 = .ok (.iaload, 1) := by decide +kernel
theorem dX11_coins_17 : decode cX11_coins 17 = .ok (.ireturn, 1) := by decide +kernel
theorem dX11_finesPaid_0 : decode cX11_finesPaid 0 = .ok (.aload_n 0, 1) := by decide +kernel
theorem dX11_finesPaid_1 : decode cX11_finesPaid 1 = .ok (.iload_n 1, 1) := by decide +kernel
theorem dX11_finesPaid_2 : decode cX11_finesPaid 2 = .ok (.invokevirtual 148, 3) := by decide +kernel
theorem dX11_finesPaid_5 : decode cX11_finesPaid 5 = .ok (.aload_n 0, 1) := by decide +kernel
theorem dX11_finesPaid_6 : decode cX11_finesPaid 6 = .ok (.getfield 12, 3) := by decide +kernel
theorem dX11_finesPaid_9 : decode cX11_finesPaid 9 = .ok (.getfield 80, 3) := by decide +kernel
theorem dX11_finesPaid_12 : decode cX11_finesPaid 12 = .ok (.getfield 156, 3) := by decide +kernel
theorem dX11_finesPaid_15 : decode cX11_finesPaid 15 = .ok (.iload_n 1, 1) := by decide +kernel
theorem dX11_finesPaid_16 : decode cX11_finesPaid 16 = .ok (.iaload, 1) := by decide +kernel
theorem dX11_finesPaid_17 : decode cX11_finesPaid 17 = .ok (.ireturn, 1) := by decide +kernel
theorem dX11_darkHours_0 : decode cX11_darkHours 0 = .ok (.aload_n 0, 1) := by decide +kernel
theorem dX11_darkHours_1 : decode cX11_darkHours 1 = .ok (.iload_n 1, 1) := by decide +kernel
theorem dX11_darkHours_2 : decode cX11_darkHours 2 = .ok (.invokevirtual 148, 3) := by decide +kernel
theorem dX11_darkHours_5 : decode cX11_darkHours 5 = .ok (.aload_n 0, 1) := by decide +kernel
theorem dX11_darkHours_6 : decode cX11_darkHours 6 = .ok (.getfield 12, 3) := by decide +kernel
theorem dX11_darkHours_9 : decode cX11_darkHours 9 = .ok (.getfield 80, 3) := by decide +kernel
theorem dX11_darkHours_12 : decode cX11_darkHours 12 = .ok (.getfield 159, 3) := by decide +kernel
theorem dX11_darkHours_15 : decode cX11_darkHours 15 = .ok (.iload_n 1, 1) := by decide +kernel
theorem dX11_darkHours_16 : decode cX11_darkHours 16 = .ok (.iaload, 1) := by decide +kernel
theorem dX11_darkHours_17 : decode cX11_darkHours 17 = .ok (.ireturn, 1) := by decide +kernel
theorem dX11_demand_0 : decode cX11_demand 0 = .ok (.aload_n 0, 1) := by decide +kernel
theorem dX11_demand_1 : decode cX11_demand 1 = .ok (.iload_n 1, 1) := by decide +kernel
theorem dX11_demand_2 : decode cX11_demand 2 = .ok (.invokevirtual 148, 3) := by decide +kernel
theorem dX11_demand_5 : decode cX11_demand 5 = .ok (.aload_n 0, 1) := by decide +kernel
theorem dX11_demand_6 : decode cX11_demand 6 = .ok (.getfield 12, 3) := by decide +kernel
theorem dX11_demand_9 : decode cX11_demand 9 = .ok (.getfield 94, 3) := by decide +kernel
theorem dX11_demand_12 : decode cX11_demand 12 = .ok (.iload_n 1, 1) := by decide +kernel
theorem dX11_demand_13 : decode cX11_demand 13 = .ok (.invokevirtual 162, 3) := by decide +kernel
theorem dX11_demand_16 : decode cX11_demand 16 = .ok (.ireturn, 1) := by decide +kernel
theorem dX11_leasesOf_0 : decode cX11_leasesOf 0 = .ok (.aload_n 0, 1) := by decide +kernel
theorem dX11_leasesOf_1 : decode cX11_leasesOf 1 = .ok (.iload_n 1, 1) := by decide +kernel
theorem dX11_leasesOf_2 : decode cX11_leasesOf 2 = .ok (.invokevirtual 148, 3) := by decide +kernel
theorem dX11_leasesOf_5 : decode cX11_leasesOf 5 = .ok (.aload_n 0, 1) := by decide +kernel
theorem dX11_leasesOf_6 : decode cX11_leasesOf 6 = .ok (.getfield 12, 3) := by decide +kernel
theorem dX11_leasesOf_9 : decode cX11_leasesOf 9 = .ok (.getfield 94, 3) := by decide +kernel
theorem dX11_leasesOf_12 : decode cX11_leasesOf 12 = .ok (.iload_n 1, 1) := by decide +kernel
theorem dX11_leasesOf_13 : decode cX11_leasesOf 13 = .ok (.invokevirtual 165, 3) := by decide +kernel
theorem dX11_leasesOf_16 : decode cX11_leasesOf 16 = .ok (.ireturn, 1) := by decide +kernel
theorem dX11_lampCount_0 : decode cX11_lampCount 0 = .ok (.aload_n 0, 1) := by decide +kernel
theorem dX11_lampCount_1 : decode cX11_lampCount 1 = .ok (.getfield 12, 3) := by decide +kernel
theorem dX11_lampCount_4 : decode cX11_lampCount 4 = .ok (.getfield 94, 3) := by decide +kernel
theorem dX11_lampCount_7 : decode cX11_lampCount 7 = .ok (.getfield 168, 3) := by decide +kernel
theorem dX11_lampCount_10 : decode cX11_lampCount 10 = .ok (.ireturn, 1) := by decide +kernel
theorem dX11_level_0 : decode cX11_level 0 = .ok (.aload_n 0, 1) := by decide +kernel
theorem dX11_level_1 : decode cX11_level 1 = .ok (.iload_n 1, 1) := by decide +kernel
theorem dX11_level_2 : decode cX11_level 2 = .ok (.invokevirtual 169, 3) := by decide +kernel
theorem dX11_level_5 : decode cX11_level 5 = .ok (.aload_n 0, 1) := by decide +kernel
theorem dX11_level_6 : decode cX11_level 6 = .ok (.getfield 12, 3) := by decide +kernel
theorem dX11_level_9 : decode cX11_level 9 = .ok (.getfield 94, 3) := by decide +kernel
theorem dX11_level_12 : decode cX11_level 12 = .ok (.getfield 172, 3) := by decide +kernel
theorem dX11_level_15 : decode cX11_level 15 = .ok (.iload_n 1, 1) := by decide +kernel
theorem dX11_level_16 : decode cX11_level 16 = .ok (.iaload, 1) := by decide +kernel
theorem dX11_level_17 : decode cX11_level 17 = .ok (.ireturn, 1) := by decide +kernel
theorem dX11_isLeased_0 : decode cX11_isLeased 0 = .ok (.aload_n 0, 1) := by decide +kernel
theorem dX11_isLeased_1 : decode cX11_isLeased 1 = .ok (.iload_n 1, 1) := by decide +kernel
theorem dX11_isLeased_2 : decode cX11_isLeased 2 = .ok (.invokevirtual 169, 3) := by decide +kernel
theorem dX11_isLeased_5 : decode cX11_isLeased 5 = .ok (.aload_n 0, 1) := by decide +kernel
theorem dX11_isLeased_6 : decode cX11_isLeased 6 = .ok (.getfield 12, 3) := by decide +kernel
theorem dX11_isLeased_9 : decode cX11_isLeased 9 = .ok (.getfield 94, 3) := by decide +kernel
theorem dX11_isLeased_12 : decode cX11_isLeased 12 = .ok (.iload_n 1, 1) := by decide +kernel
theorem dX11_isLeased_13 : decode cX11_isLeased 13 = .ok (.invokevirtual 175, 3) := by decide +kernel
theorem dX11_isLeased_16 : decode cX11_isLeased 16 = .ok (.ireturn, 1) := by decide +kernel
theorem dX11_lessee_0 : decode cX11_lessee 0 = .ok (.aload_n 0, 1) := by decide +kernel
theorem dX11_lessee_1 : decode cX11_lessee 1 = .ok (.getfield 12, 3) := by decide +kernel
theorem dX11_lessee_4 : decode cX11_lessee 4 = .ok (.iload_n 1, 1) := by decide +kernel
theorem dX11_lessee_5 : decode cX11_lessee 5 = .ok (.invokevirtual 130, 3) := by decide +kernel
theorem dX11_lessee_8 : decode cX11_lessee 8 = .ok (.invokestatic 72, 3) := by decide +kernel
theorem dX11_lessee_11 : decode cX11_lessee 11 = .ok (.aload_n 0, 1) := by decide +kernel
theorem dX11_lessee_12 : decode cX11_lessee 12 = .ok (.getfield 12, 3) := by decide +kernel
theorem dX11_lessee_15 : decode cX11_lessee 15 = .ok (.getfield 94, 3) := by decide +kernel
theorem dX11_lessee_18 : decode cX11_lessee 18 = .ok (.getfield 179, 3) := by decide +kernel
theorem dX11_lessee_21 : decode cX11_lessee 21 = .ok (.iload_n 1, 1) := by decide +kernel
theorem dX11_lessee_22 : decode cX11_lessee 22 = .ok (.iaload, 1) := by decide +kernel
theorem dX11_lessee_23 : decode cX11_lessee 23 = .ok (.ireturn, 1) := by decide +kernel
theorem dX11_endHour_0 : decode cX11_endHour 0 = .ok (.aload_n 0, 1) := by decide +kernel
theorem dX11_endHour_1 : decode cX11_endHour 1 = .ok (.getfield 12, 3) := by decide +kernel
theorem dX11_endHour_4 : decode cX11_endHour 4 = .ok (.iload_n 1, 1) := by decide +kernel
theorem dX11_endHour_5 : decode cX11_endHour 5 = .ok (.invokevirtual 130, 3) := by decide +kernel
theorem dX11_endHour_8 : decode cX11_endHour 8 = .ok (.invokestatic 72, 3) := by decide +kernel
theorem dX11_endHour_11 : decode cX11_endHour 11 = .ok (.aload_n 0, 1) := by decide +kernel
theorem dX11_endHour_12 : decode cX11_endHour 12 = .ok (.getfield 12, 3) := by decide +kernel
theorem dX11_endHour_15 : decode cX11_endHour 15 = .ok (.getfield 94, 3) := by decide +kernel
theorem dX11_endHour_18 : decode cX11_endHour 18 = .ok (.getfield 182, 3) := by decide +kernel
theorem dX11_endHour_21 : decode cX11_endHour 21 = .ok (.iload_n 1, 1) := by decide +kernel
theorem dX11_endHour_22 : decode cX11_endHour 22 = .ok (.iaload, 1) := by decide +kernel
theorem dX11_endHour_23 : decode cX11_endHour 23 = .ok (.ireturn, 1) := by decide +kernel
theorem dX11_brightHours_0 : decode cX11_brightHours 0 = .ok (.aload_n 0, 1) := by decide +kernel
theorem dX11_brightHours_1 : decode cX11_brightHours 1 = .ok (.iload_n 1, 1) := by decide +kernel
theorem dX11_brightHours_2 : decode cX11_brightHours 2 = .ok (.invokevirtual 169, 3) := by decide +kernel
theorem dX11_brightHours_5 : decode cX11_brightHours 5 = .ok (.aload_n 0, 1) := by decide +kernel
theorem dX11_brightHours_6 : decode cX11_brightHours 6 = .ok (.getfield 12, 3) := by decide +kernel
theorem dX11_brightHours_9 : decode cX11_brightHours 9 = .ok (.getfield 94, 3) := by decide +kernel
theorem dX11_brightHours_12 : decode cX11_brightHours 12 = .ok (.getfield 185, 3) := by decide +kernel
theorem dX11_brightHours_15 : decode cX11_brightHours 15 = .ok (.iload_n 1, 1) := by decide +kernel
theorem dX11_brightHours_16 : decode cX11_brightHours 16 = .ok (.iaload, 1) := by decide +kernel
theorem dX11_brightHours_17 : decode cX11_brightHours 17 = .ok (.ireturn, 1) := by decide +kernel
theorem dX11_wasBright_0 : decode cX11_wasBright 0 = .ok (.aload_n 0, 1) := by decide +kernel
theorem dX11_wasBright_1 : decode cX11_wasBright 1 = .ok (.iload_n 1, 1) := by decide +kernel
theorem dX11_wasBright_2 : decode cX11_wasBright 2 = .ok (.invokevirtual 169, 3) := by decide +kernel
theorem dX11_wasBright_5 : decode cX11_wasBright 5 = .ok (.aload_n 0, 1) := by decide +kernel
theorem dX11_wasBright_6 : decode cX11_wasBright 6 = .ok (.getfield 12, 3) := by decide +kernel
theorem dX11_wasBright_9 : decode cX11_wasBright 9 = .ok (.getfield 94, 3) := by decide +kernel
theorem dX11_wasBright_12 : decode cX11_wasBright 12 = .ok (.getfield 188, 3) := by decide +kernel
theorem dX11_wasBright_15 : decode cX11_wasBright 15 = .ok (.iload_n 1, 1) := by decide +kernel
theorem dX11_wasBright_16 : decode cX11_wasBright 16 = .ok (.baload, 1) := by decide +kernel
theorem dX11_wasBright_17 : decode cX11_wasBright 17 = .ok (.ireturn, 1) := by decide +kernel
theorem dX11_leasedLamps_0 : decode cX11_leasedLamps 0 = .ok (.aload_n 0, 1) := by decide +kernel
theorem dX11_leasedLamps_1 : decode cX11_leasedLamps 1 = .ok (.getfield 12, 3) := by decide +kernel
theorem dX11_leasedLamps_4 : decode cX11_leasedLamps 4 = .ok (.getfield 94, 3) := by decide +kernel
theorem dX11_leasedLamps_7 : decode cX11_leasedLamps 7 = .ok (.invokevirtual 192, 3) := by decide +kernel
theorem dX11_leasedLamps_10 : decode cX11_leasedLamps 10 = .ok (.ireturn, 1) := by decide +kernel
theorem dX11_oil_0 : decode cX11_oil 0 = .ok (.aload_n 0, 1) := by decide +kernel
theorem dX11_oil_1 : decode cX11_oil 1 = .ok (.getfield 12, 3) := by decide +kernel
theorem dX11_oil_4 : decode cX11_oil 4 = .ok (.getfield 195, 3) := by decide +kernel
theorem dX11_oil_7 : decode cX11_oil 7 = .ok (.ireturn, 1) := by decide +kernel
theorem dX11_consumption_0 : decode cX11_consumption 0 = .ok (.aload_n 0, 1) := by decide +kernel
theorem dX11_consumption_1 : decode cX11_consumption 1 = .ok (.getfield 12, 3) := by decide +kernel
theorem dX11_consumption_4 : decode cX11_consumption 4 = .ok (.getfield 94, 3) := by decide +kernel
theorem dX11_consumption_7 : decode cX11_consumption 7 = .ok (.invokevirtual 198, 3) := by decide +kernel
theorem dX11_consumption_10 : decode cX11_consumption 10 = .ok (.ireturn, 1) := by decide +kernel
theorem dX11_hoursOfOil_0 : decode cX11_hoursOfOil 0 = .ok (.aload_n 0, 1) := by decide +kernel
theorem dX11_hoursOfOil_1 : decode cX11_hoursOfOil 1 = .ok (.getfield 32, 3) := by decide +kernel
theorem dX11_hoursOfOil_4 : decode cX11_hoursOfOil 4 = .ok (.aload_n 0, 1) := by decide +kernel
theorem dX11_hoursOfOil_5 : decode cX11_hoursOfOil 5 = .ok (.getfield 12, 3) := by decide +kernel
theorem dX11_hoursOfOil_8 : decode cX11_hoursOfOil 8 = .ok (.invokevirtual 201, 3) := by decide +kernel
theorem dX11_hoursOfOil_11 : decode cX11_hoursOfOil 11 = .ok (.istore_n 1, 1) := by decide +kernel
theorem dX11_hoursOfOil_12 : decode cX11_hoursOfOil 12 = .ok (.iload_n 1, 1) := by decide +kernel
theorem dX11_hoursOfOil_13 : decode cX11_hoursOfOil 13 = .ok (.invokestatic 205, 3) := by decide +kernel
theorem dX11_hoursOfOil_16 : decode cX11_hoursOfOil 16 = .ok (.iload_n 1, 1) := by decide +kernel
theorem dX11_hoursOfOil_17 : decode cX11_hoursOfOil 17 = .ok (.ireturn, 1) := by decide +kernel
theorem dX11_hoursOfOilByEnds_0 : decode cX11_hoursOfOilByEnds 0 = .ok (.aload_n 0, 1) := by decide +kernel
theorem dX11_hoursOfOilByEnds_1 : decode cX11_hoursOfOilByEnds 1 = .ok (.getfield 32, 3) := by decide +kernel
theorem dX11_hoursOfOilByEnds_4 : decode cX11_hoursOfOilByEnds 4 = .ok (.aload_n 0, 1) := by decide +kernel
theorem dX11_hoursOfOilByEnds_5 : decode cX11_hoursOfOilByEnds 5 = .ok (.getfield 12, 3) := by decide +kernel
theorem dX11_hoursOfOilByEnds_8 : decode cX11_hoursOfOilByEnds 8 = .ok (.invokevirtual 208, 3) := by decide +kernel
theorem dX11_hoursOfOilByEnds_11 : decode cX11_hoursOfOilByEnds 11 = .ok (.istore_n 1, 1) := by decide +kernel
theorem dX11_hoursOfOilByEnds_12 : decode cX11_hoursOfOilByEnds 12 = .ok (.iload_n 1, 1) := by decide +kernel
theorem dX11_hoursOfOilByEnds_13 : decode cX11_hoursOfOilByEnds 13 = .ok (.invokestatic 205, 3) := by decide +kernel
theorem dX11_hoursOfOilByEnds_16 : decode cX11_hoursOfOilByEnds 16 = .ok (.iload_n 1, 1) := by decide +kernel
theorem dX11_hoursOfOilByEnds_17 : decode cX11_hoursOfOilByEnds 17 = .ok (.ireturn, 1) := by decide +kernel
theorem dX11_brightNext_0 : decode cX11_brightNext 0 = .ok (.aload_n 0, 1) := by decide +kernel
theorem dX11_brightNext_1 : decode cX11_brightNext 1 = .ok (.getfield 32, 3) := by decide +kernel
theorem dX11_brightNext_4 : decode cX11_brightNext 4 = .ok (.aload_n 0, 1) := by decide +kernel
theorem dX11_brightNext_5 : decode cX11_brightNext 5 = .ok (.getfield 12, 3) := by decide +kernel
theorem dX11_brightNext_8 : decode cX11_brightNext 8 = .ok (.invokevirtual 211, 3) := by decide +kernel
theorem dX11_brightNext_11 : decode cX11_brightNext 11 = .ok (.ireturn, 1) := by decide +kernel
theorem dX11_mostBright_0 : decode cX11_mostBright 0 = .ok (.aload_n 0, 1) := by decide +kernel
theorem dX11_mostBright_1 : decode cX11_mostBright 1 = .ok (.getfield 32, 3) := by decide +kernel
theorem dX11_mostBright_4 : decode cX11_mostBright 4 = .ok (.aload_n 0, 1) := by decide +kernel
theorem dX11_mostBright_5 : decode cX11_mostBright 5 = .ok (.getfield 12, 3) := by decide +kernel
theorem dX11_mostBright_8 : decode cX11_mostBright 8 = .ok (.invokevirtual 214, 3) := by decide +kernel
theorem dX11_mostBright_11 : decode cX11_mostBright 11 = .ok (.ireturn, 1) := by decide +kernel
theorem dX11_mostBrightBySums_0 : decode cX11_mostBrightBySums 0 = .ok (.aload_n 0, 1) := by decide +kernel
theorem dX11_mostBrightBySums_1 : decode cX11_mostBrightBySums 1 = .ok (.getfield 32, 3) := by decide +kernel
theorem dX11_mostBrightBySums_4 : decode cX11_mostBrightBySums 4 = .ok (.aload_n 0, 1) := by decide +kernel
theorem dX11_mostBrightBySums_5 : decode cX11_mostBrightBySums 5 = .ok (.getfield 12, 3) := by decide +kernel
theorem dX11_mostBrightBySums_8 : decode cX11_mostBrightBySums 8 = .ok (.invokevirtual 217, 3) := by decide +kernel
theorem dX11_mostBrightBySums_11 : decode cX11_mostBrightBySums 11 = .ok (.ireturn, 1) := by decide +kernel
theorem dX11_share_0 : decode cX11_share 0 = .ok (.aload_n 0, 1) := by decide +kernel
theorem dX11_share_1 : decode cX11_share 1 = .ok (.iload_n 1, 1) := by decide +kernel
theorem dX11_share_2 : decode cX11_share 2 = .ok (.invokevirtual 148, 3) := by decide +kernel
theorem dX11_share_5 : decode cX11_share 5 = .ok (.aload_n 0, 1) := by decide +kernel
theorem dX11_share_6 : decode cX11_share 6 = .ok (.getfield 39, 3) := by decide +kernel
theorem dX11_share_9 : decode cX11_share 9 = .ok (.aload_n 0, 1) := by decide +kernel
theorem dX11_share_10 : decode cX11_share 10 = .ok (.getfield 12, 3) := by decide +kernel
theorem dX11_share_13 : decode cX11_share 13 = .ok (.iload_n 1, 1) := by decide +kernel
theorem dX11_share_14 : decode cX11_share 14 = .ok (.invokevirtual 220, 3) := by decide +kernel
theorem dX11_share_17 : decode cX11_share 17 = .ok (.ireturn, 1) := by decide +kernel
theorem dX11_shareByRank_0 : decode cX11_shareByRank 0 = .ok (.aload_n 0, 1) := by decide +kernel
theorem dX11_shareByRank_1 : decode cX11_shareByRank 1 = .ok (.iload_n 1, 1) := by decide +kernel
theorem dX11_shareByRank_2 : decode cX11_shareByRank 2 = .ok (.invokevirtual 148, 3) := by decide +kernel
theorem dX11_shareByRank_5 : decode cX11_shareByRank 5 = .ok (.aload_n 0, 1) := by decide +kernel
theorem dX11_shareByRank_6 : decode cX11_shareByRank 6 = .ok (.getfield 39, 3) := by decide +kernel
theorem dX11_shareByRank_9 : decode cX11_shareByRank 9 = .ok (.aload_n 0, 1) := by decide +kernel
theorem dX11_shareByRank_10 : decode cX11_shareByRank 10 = .ok (.getfield 12, 3) := by decide +kernel
theorem dX11_shareByRank_13 : decode cX11_shareByRank 13 = .ok (.iload_n 1, 1) := by decide +kernel
theorem dX11_shareByRank_14 : decode cX11_shareByRank 14 = .ok (.invokevirtual 224, 3) := by decide +kernel
theorem dX11_shareByRank_17 : decode cX11_shareByRank 17 = .ok (.ireturn, 1) := by decide +kernel
theorem dX11_requestCount_0 : decode cX11_requestCount 0 = .ok (.aload_n 0, 1) := by decide +kernel
theorem dX11_requestCount_1 : decode cX11_requestCount 1 = .ok (.getfield 12, 3) := by decide +kernel
theorem dX11_requestCount_4 : decode cX11_requestCount 4 = .ok (.getfield 121, 3) := by decide +kernel
theorem dX11_requestCount_7 : decode cX11_requestCount 7 = .ok (.getfield 227, 3) := by decide +kernel
theorem dX11_requestCount_10 : decode cX11_requestCount 10 = .ok (.ireturn, 1) := by decide +kernel
theorem dX11_requestedLamp_0 : decode cX11_requestedLamp 0 = .ok (.aload_n 0, 1) := by decide +kernel
theorem dX11_requestedLamp_1 : decode cX11_requestedLamp 1 = .ok (.iload_n 1, 1) := by decide +kernel
theorem dX11_requestedLamp_2 : decode cX11_requestedLamp 2 = .ok (.invokevirtual 228, 3) := by decide +kernel
theorem dX11_requestedLamp_5 : decode cX11_requestedLamp 5 = .ok (.aload_n 0, 1) := by decide +kernel
theorem dX11_requestedLamp_6 : decode cX11_requestedLamp 6 = .ok (.getfield 12, 3) := by decide +kernel
theorem dX11_requestedLamp_9 : decode cX11_requestedLamp 9 = .ok (.getfield 121, 3) := by decide +kernel
theorem dX11_requestedLamp_12 : decode cX11_requestedLamp 12 = .ok (.getfield 231, 3) := by decide +kernel
theorem dX11_requestedLamp_15 : decode cX11_requestedLamp 15 = .ok (.iload_n 1, 1) := by decide +kernel
theorem dX11_requestedLamp_16 : decode cX11_requestedLamp 16 = .ok (.iaload, 1) := by decide +kernel
theorem dX11_requestedLamp_17 : decode cX11_requestedLamp 17 = .ok (.ireturn, 1) := by decide +kernel
theorem dX11_requestedHours_0 : decode cX11_requestedHours 0 = .ok (.aload_n 0, 1) := by decide +kernel
theorem dX11_requestedHours_1 : decode cX11_requestedHours 1 = .ok (.iload_n 1, 1) := by decide +kernel
theorem dX11_requestedHours_2 : decode cX11_requestedHours 2 = .ok (.invokevirtual 228, 3) := by decide +kernel
theorem dX11_requestedHours_5 : decode cX11_requestedHours 5 = .ok (.aload_n 0, 1) := by decide +kernel
theorem dX11_requestedHours_6 : decode cX11_requestedHours 6 = .ok (.getfield 12, 3) := by decide +kernel
theorem dX11_requestedHours_9 : decode cX11_requestedHours 9 = .ok (.getfield 121, 3) := by decide +kernel
theorem dX11_requestedHours_12 : decode cX11_requestedHours 12 = .ok (.getfield 233, 3) := by decide +kernel
theorem dX11_requestedHours_15 : decode cX11_requestedHours 15 = .ok (.iload_n 1, 1) := by decide +kernel
theorem dX11_requestedHours_16 : decode cX11_requestedHours 16 = .ok (.iaload, 1) := by decide +kernel
theorem dX11_requestedHours_17 : decode cX11_requestedHours 17 = .ok (.ireturn, 1) := by decide +kernel
theorem dX11_refusedRenewals_0 : decode cX11_refusedRenewals 0 = .ok (.aload_n 0, 1) := by decide +kernel
theorem dX11_refusedRenewals_1 : decode cX11_refusedRenewals 1 = .ok (.getfield 12, 3) := by decide +kernel
theorem dX11_refusedRenewals_4 : decode cX11_refusedRenewals 4 = .ok (.getfield 236, 3) := by decide +kernel
theorem dX11_refusedRenewals_7 : decode cX11_refusedRenewals 7 = .ok (.ireturn, 1) := by decide +kernel
theorem dX11_officeCoins_0 : decode cX11_officeCoins 0 = .ok (.aload_n 0, 1) := by decide +kernel
theorem dX11_officeCoins_1 : decode cX11_officeCoins 1 = .ok (.getfield 12, 3) := by decide +kernel
theorem dX11_officeCoins_4 : decode cX11_officeCoins 4 = .ok (.getfield 239, 3) := by decide +kernel
theorem dX11_officeCoins_7 : decode cX11_officeCoins 7 = .ok (.ireturn, 1) := by decide +kernel
theorem dX11_shipByFines_0 : decode cX11_shipByFines 0 = .ok (.aload_n 0, 1) := by decide +kernel
theorem dX11_shipByFines_1 : decode cX11_shipByFines 1 = .ok (.getfield 12, 3) := by decide +kernel
theorem dX11_shipByFines_4 : decode cX11_shipByFines 4 = .ok (.getfield 80, 3) := by decide +kernel
theorem dX11_shipByFines_7 : decode cX11_shipByFines 7 = .ok (.iload_n 1, 1) := by decide +kernel
theorem dX11_shipByFines_8 : decode cX11_shipByFines 8 = .ok (.invokevirtual 242, 3) := by decide +kernel
theorem dX11_shipByFines_11 : decode cX11_shipByFines 11 = .ok (.istore_n 2, 1) := by decide +kernel
theorem dX11_shipByFines_12 : decode cX11_shipByFines 12 = .ok (.iload_n 2, 1) := by decide +kernel
theorem dX11_shipByFines_13 : decode cX11_shipByFines 13 = .ok (.invokestatic 205, 3) := by decide +kernel
theorem dX11_shipByFines_16 : decode cX11_shipByFines 16 = .ok (.iload_n 2, 1) := by decide +kernel
theorem dX11_shipByFines_17 : decode cX11_shipByFines 17 = .ok (.ireturn, 1) := by decide +kernel
theorem dX11_lampByEnd_0 : decode cX11_lampByEnd 0 = .ok (.aload_n 0, 1) := by decide +kernel
theorem dX11_lampByEnd_1 : decode cX11_lampByEnd 1 = .ok (.getfield 12, 3) := by decide +kernel
theorem dX11_lampByEnd_4 : decode cX11_lampByEnd 4 = .ok (.getfield 94, 3) := by decide +kernel
theorem dX11_lampByEnd_7 : decode cX11_lampByEnd 7 = .ok (.iload_n 1, 1) := by decide +kernel
theorem dX11_lampByEnd_8 : decode cX11_lampByEnd 8 = .ok (.invokevirtual 245, 3) := by decide +kernel
theorem dX11_lampByEnd_11 : decode cX11_lampByEnd 11 = .ok (.istore_n 2, 1) := by decide +kernel
theorem dX11_lampByEnd_12 : decode cX11_lampByEnd 12 = .ok (.iload_n 2, 1) := by decide +kernel
theorem dX11_lampByEnd_13 : decode cX11_lampByEnd 13 = .ok (.invokestatic 205, 3) := by decide +kernel
theorem dX11_lampByEnd_16 : decode cX11_lampByEnd 16 = .ok (.iload_n 2, 1) := by decide +kernel
theorem dX11_lampByEnd_17 : decode cX11_lampByEnd 17 = .ok (.ireturn, 1) := by decide +kernel
theorem dX11_meanCoins_0 : decode cX11_meanCoins 0 = .ok (.aload_n 0, 1) := by decide +kernel
theorem dX11_meanCoins_1 : decode cX11_meanCoins 1 = .ok (.getfield 12, 3) := by decide +kernel
theorem dX11_meanCoins_4 : decode cX11_meanCoins 4 = .ok (.getfield 80, 3) := by decide +kernel
theorem dX11_meanCoins_7 : decode cX11_meanCoins 7 = .ok (.getfield 145, 3) := by decide +kernel
theorem dX11_meanCoins_10 : decode cX11_meanCoins 10 = .ok (.istore_n 1, 1) := by decide +kernel
theorem dX11_meanCoins_11 : decode cX11_meanCoins 11 = .ok (.iload_n 1, 1) := by decide +kernel
theorem dX11_meanCoins_12 : decode cX11_meanCoins 12 = .ok (.ifCond .ne 13, 3) := by decide +kernel
theorem dX11_meanCoins_15 : decode cX11_meanCoins 15 = .ok (.new 246, 3) := by decide +kernel
theorem dX11_meanCoins_18 : decode cX11_meanCoins 18 = .ok (.dup, 1) := by decide +kernel
theorem dX11_meanCoins_19 : decode cX11_meanCoins 19 = .ok (.ldc 248, 2) := by decide +kernel
theorem dX11_meanCoins_21 : decode cX11_meanCoins 21 = .ok (.invokespecial 250, 3) := by decide +kernel
theorem dX11_meanCoins_24 : decode cX11_meanCoins 24 = .ok (.athrow, 1) := by decide +kernel
theorem dX11_meanCoins_25 : decode cX11_meanCoins 25 = .ok (.aload_n 0, 1) := by decide +kernel
theorem dX11_meanCoins_26 : decode cX11_meanCoins 26 = .ok (.getfield 12, 3) := by decide +kernel
theorem dX11_meanCoins_29 : decode cX11_meanCoins 29 = .ok (.getfield 80, 3) := by decide +kernel
theorem dX11_meanCoins_32 : decode cX11_meanCoins 32 = .ok (.invokevirtual 253, 3) := by decide +kernel
theorem dX11_meanCoins_35 : decode cX11_meanCoins 35 = .ok (.i2d, 1) := by decide +kernel
theorem dX11_meanCoins_36 : decode cX11_meanCoins 36 = .ok (.iload_n 1, 1) := by decide +kernel
theorem dX11_meanCoins_37 : decode cX11_meanCoins 37 = .ok (.i2d, 1) := by decide +kernel
theorem dX11_meanCoins_38 : decode cX11_meanCoins 38 = .ok (.ddiv, 1) := by decide +kernel
theorem dX11_meanCoins_39 : decode cX11_meanCoins 39 = .ok (.dreturn, 1) := by decide +kernel
theorem dX11_leasedShare_0 : decode cX11_leasedShare 0 = .ok (.aload_n 0, 1) := by decide +kernel
theorem dX11_leasedShare_1 : decode cX11_leasedShare 1 = .ok (.getfield 12, 3) := by decide +kernel
theorem dX11_leasedShare_4 : decode cX11_leasedShare 4 = .ok (.getfield 94, 3) := by decide +kernel
theorem dX11_leasedShare_7 : decode cX11_leasedShare 7 = .ok (.getfield 168, 3) := by decide +kernel
theorem dX11_leasedShare_10 : decode cX11_leasedShare 10 = .ok (.istore_n 1, 1) := by decide +kernel
theorem dX11_leasedShare_11 : decode cX11_leasedShare 11 = .ok (.iload_n 1, 1) := by decide +kernel
theorem dX11_leasedShare_12 : decode cX11_leasedShare 12 = .ok (.ifCond .ne 14, 3) := by decide +kernel
theorem dX11_leasedShare_15 : decode cX11_leasedShare 15 = .ok (.new 246, 3) := by decide +kernel
theorem dX11_leasedShare_18 : decode cX11_leasedShare 18 = .ok (.dup, 1) := by decide +kernel
theorem dX11_leasedShare_19 : decode cX11_leasedShare 19 = .ok (.ldc_w 256, 3) := by decide +kernel
theorem dX11_leasedShare_22 : decode cX11_leasedShare 22 = .ok (.invokespecial 250, 3) := by decide +kernel
theorem dX11_leasedShare_25 : decode cX11_leasedShare 25 = .ok (.athrow, 1) := by decide +kernel
theorem dX11_leasedShare_26 : decode cX11_leasedShare 26 = .ok (.aload_n 0, 1) := by decide +kernel
theorem dX11_leasedShare_27 : decode cX11_leasedShare 27 = .ok (.getfield 12, 3) := by decide +kernel
theorem dX11_leasedShare_30 : decode cX11_leasedShare 30 = .ok (.getfield 94, 3) := by decide +kernel
theorem dX11_leasedShare_33 : decode cX11_leasedShare 33 = .ok (.invokevirtual 192, 3) := by decide +kernel
theorem dX11_leasedShare_36 : decode cX11_leasedShare 36 = .ok (.i2f, 1) := by decide +kernel
theorem dX11_leasedShare_37 : decode cX11_leasedShare 37 = .ok (.iload_n 1, 1) := by decide +kernel
theorem dX11_leasedShare_38 : decode cX11_leasedShare 38 = .ok (.i2f, 1) := by decide +kernel
theorem dX11_leasedShare_39 : decode cX11_leasedShare 39 = .ok (.fdiv, 1) := by decide +kernel
theorem dX11_leasedShare_40 : decode cX11_leasedShare 40 = .ok (.freturn, 1) := by decide +kernel
theorem dX11_isConsistent_0 : decode cX11_isConsistent 0 = .ok (.aload_n 0, 1) := by decide +kernel
theorem dX11_isConsistent_1 : decode cX11_isConsistent 1 = .ok (.invokevirtual 258, 3) := by decide +kernel
theorem dX11_isConsistent_4 : decode cX11_isConsistent 4 = .ok (.ifCond .eq 35, 3) := by decide +kernel
theorem dX11_isConsistent_7 : decode cX11_isConsistent 7 = .ok (.aload_n 0, 1) := by decide +kernel
theorem dX11_isConsistent_8 : decode cX11_isConsistent 8 = .ok (.invokevirtual 262, 3) := by decide +kernel
theorem dX11_isConsistent_11 : decode cX11_isConsistent 11 = .ok (.ifCond .eq 28, 3) := by decide +kernel
theorem dX11_isConsistent_14 : decode cX11_isConsistent 14 = .ok (.aload_n 0, 1) := by decide +kernel
theorem dX11_isConsistent_15 : decode cX11_isConsistent 15 = .ok (.invokevirtual 265, 3) := by decide +kernel
theorem dX11_isConsistent_18 : decode cX11_isConsistent 18 = .ok (.ifCond .eq 21, 3) := by decide +kernel
theorem dX11_isConsistent_21 : decode cX11_isConsistent 21 = .ok (.aload_n 0, 1) := by decide +kernel
theorem dX11_isConsistent_22 : decode cX11_isConsistent 22 = .ok (.invokevirtual 268, 3) := by decide +kernel
theorem dX11_isConsistent_25 : decode cX11_isConsistent 25 = .ok (.ifCond .eq 14, 3) := by decide +kernel
theorem dX11_isConsistent_28 : decode cX11_isConsistent 28 = .ok (.aload_n 0, 1) := by decide +kernel
theorem dX11_isConsistent_29 : decode cX11_isConsistent 29 = .ok (.invokevirtual 271, 3) := by decide +kernel
theorem dX11_isConsistent_32 : decode cX11_isConsistent 32 = .ok (.ifCond .eq 7, 3) := by decide +kernel
theorem dX11_isConsistent_35 : decode cX11_isConsistent 35 = .ok (.iconst 1, 1) := by decide +kernel
theorem dX11_isConsistent_36 : decode cX11_isConsistent 36 = .ok (.goto 4, 3) := by decide +kernel
theorem dX11_isConsistent_39 : decode cX11_isConsistent 39 = .ok (.iconst 0, 1) := by decide +kernel
theorem dX11_isConsistent_40 : decode cX11_isConsistent 40 = .ok (.ireturn, 1) := by decide +kernel
theorem dX11_coinsAddUp_0 : decode cX11_coinsAddUp 0 = .ok (.aload_n 0, 1) := by decide +kernel
theorem dX11_coinsAddUp_1 : decode cX11_coinsAddUp 1 = .ok (.getfield 12, 3) := by decide +kernel
theorem dX11_coinsAddUp_4 : decode cX11_coinsAddUp 4 = .ok (.getfield 80, 3) := by decide +kernel
theorem dX11_coinsAddUp_7 : decode cX11_coinsAddUp 7 = .ok (.invokevirtual 253, 3) := by decide +kernel
theorem dX11_coinsAddUp_10 : decode cX11_coinsAddUp 10 = .ok (.aload_n 0, 1) := by decide +kernel
theorem dX11_coinsAddUp_11 : decode cX11_coinsAddUp 11 = .ok (.getfield 12, 3) := by decide +kernel
theorem dX11_coinsAddUp_14 : decode cX11_coinsAddUp 14 = .ok (.getfield 239, 3) := by decide +kernel
theorem dX11_coinsAddUp_17 : decode cX11_coinsAddUp 17 = .ok (.iadd, 1) := by decide +kernel
theorem dX11_coinsAddUp_18 : decode cX11_coinsAddUp 18 = .ok (.bipush 100, 2) := by decide +kernel
theorem dX11_coinsAddUp_20 : decode cX11_coinsAddUp 20 = .ok (.aload_n 0, 1) := by decide +kernel
theorem dX11_coinsAddUp_21 : decode cX11_coinsAddUp 21 = .ok (.getfield 12, 3) := by decide +kernel
theorem dX11_coinsAddUp_24 : decode cX11_coinsAddUp 24 = .ok (.getfield 80, 3) := by decide +kernel
theorem dX11_coinsAddUp_27 : decode cX11_coinsAddUp 27 = .ok (.getfield 145, 3) := by decide +kernel
theorem dX11_coinsAddUp_30 : decode cX11_coinsAddUp 30 = .ok (.imul, 1) := by decide +kernel
theorem dX11_coinsAddUp_31 : decode cX11_coinsAddUp 31 = .ok (.if_icmp .ne 7, 3) := by decide +kernel
theorem dX11_coinsAddUp_34 : decode cX11_coinsAddUp 34 = .ok (.iconst 1, 1) := by decide +kernel
theorem dX11_coinsAddUp_35 : decode cX11_coinsAddUp 35 = .ok (.goto 4, 3) := by decide +kernel
theorem dX11_coinsAddUp_38 : decode cX11_coinsAddUp 38 = .ok (.iconst 0, 1) := by decide +kernel
theorem dX11_coinsAddUp_39 : decode cX11_coinsAddUp 39 = .ok (.ireturn, 1) := by decide +kernel
theorem dX11_sharesAgree_0 : decode cX11_sharesAgree 0 = .ok (.iconst 0, 1) := by decide +kernel
theorem dX11_sharesAgree_1 : decode cX11_sharesAgree 1 = .ok (.istore_n 1, 1) := by decide +kernel
theorem dX11_sharesAgree_2 : decode cX11_sharesAgree 2 = .ok (.iload_n 1, 1) := by decide +kernel
theorem dX11_sharesAgree_3 : decode cX11_sharesAgree 3 = .ok (.aload_n 0, 1) := by decide +kernel
theorem dX11_sharesAgree_4 : decode cX11_sharesAgree 4 = .ok (.getfield 12, 3) := by decide +kernel
theorem dX11_sharesAgree_7 : decode cX11_sharesAgree 7 = .ok (.getfield 80, 3) := by decide +kernel
theorem dX11_sharesAgree_10 : decode cX11_sharesAgree 10 = .ok (.getfield 145, 3) := by decide +kernel
theorem dX11_sharesAgree_13 : decode cX11_sharesAgree 13 = .ok (.if_icmp .ge 38, 3) := by decide +kernel
theorem dX11_sharesAgree_16 : decode cX11_sharesAgree 16 = .ok (.aload_n 0, 1) := by decide +kernel
theorem dX11_sharesAgree_17 : decode cX11_sharesAgree 17 = .ok (.getfield 39, 3) := by decide +kernel
theorem dX11_sharesAgree_20 : decode cX11_sharesAgree 20 = .ok (.aload_n 0, 1) := by decide +kernel
theorem dX11_sharesAgree_21 : decode cX11_sharesAgree 21 = .ok (.getfield 12, 3) := by decide +kernel
theorem dX11_sharesAgree_24 : decode cX11_sharesAgree 24 = .ok (.iload_n 1, 1) := by decide +kernel
theorem dX11_sharesAgree_25 : decode cX11_sharesAgree 25 = .ok (.invokevirtual 220, 3) := by decide +kernel
theorem dX11_sharesAgree_28 : decode cX11_sharesAgree 28 = .ok (.aload_n 0, 1) := by decide +kernel
theorem dX11_sharesAgree_29 : decode cX11_sharesAgree 29 = .ok (.getfield 39, 3) := by decide +kernel
theorem dX11_sharesAgree_32 : decode cX11_sharesAgree 32 = .ok (.aload_n 0, 1) := by decide +kernel
theorem dX11_sharesAgree_33 : decode cX11_sharesAgree 33 = .ok (.getfield 12, 3) := by decide +kernel
theorem dX11_sharesAgree_36 : decode cX11_sharesAgree 36 = .ok (.iload_n 1, 1) := by decide +kernel
theorem dX11_sharesAgree_37 : decode cX11_sharesAgree 37 = .ok (.invokevirtual 224, 3) := by decide +kernel
theorem dX11_sharesAgree_40 : decode cX11_sharesAgree 40 = .ok (.if_icmp .eq 5, 3) := by decide +kernel
theorem dX11_sharesAgree_43 : decode cX11_sharesAgree 43 = .ok (.iconst 0, 1) := by decide +kernel
theorem dX11_sharesAgree_44 : decode cX11_sharesAgree 44 = .ok (.ireturn, 1) := by decide +kernel
theorem dX11_sharesAgree_45 : decode cX11_sharesAgree 45 = .ok (.iinc 1 1, 3) := by decide +kernel
theorem dX11_sharesAgree_48 : decode cX11_sharesAgree 48 = .ok (.goto (-46), 3) := by decide +kernel
theorem dX11_sharesAgree_51 : decode cX11_sharesAgree 51 = .ok (.iconst 1, 1) := by decide +kernel
theorem dX11_sharesAgree_52 : decode cX11_sharesAgree 52 = .ok (.ireturn, 1) := by decide +kernel
theorem dX11_sharesAddUp_0 : decode cX11_sharesAddUp 0 = .ok (.iconst 0, 1) := by decide +kernel
theorem dX11_sharesAddUp_1 : decode cX11_sharesAddUp 1 = .ok (.istore_n 1, 1) := by decide +kernel
theorem dX11_sharesAddUp_2 : decode cX11_sharesAddUp 2 = .ok (.iconst 0, 1) := by decide +kernel
theorem dX11_sharesAddUp_3 : decode cX11_sharesAddUp 3 = .ok (.istore_n 2, 1) := by decide +kernel
theorem dX11_sharesAddUp_4 : decode cX11_sharesAddUp 4 = .ok (.iload_n 2, 1) := by decide +kernel
theorem dX11_sharesAddUp_5 : decode cX11_sharesAddUp 5 = .ok (.aload_n 0, 1) := by decide +kernel
theorem dX11_sharesAddUp_6 : decode cX11_sharesAddUp 6 = .ok (.getfield 12, 3) := by decide +kernel
theorem dX11_sharesAddUp_9 : decode cX11_sharesAddUp 9 = .ok (.getfield 80, 3) := by decide +kernel
theorem dX11_sharesAddUp_12 : decode cX11_sharesAddUp 12 = .ok (.getfield 145, 3) := by decide +kernel
theorem dX11_sharesAddUp_15 : decode cX11_sharesAddUp 15 = .ok (.if_icmp .ge 24, 3) := by decide +kernel
theorem dX11_sharesAddUp_18 : decode cX11_sharesAddUp 18 = .ok (.iload_n 1, 1) := by decide +kernel
theorem dX11_sharesAddUp_19 : decode cX11_sharesAddUp 19 = .ok (.aload_n 0, 1) := by decide +kernel
theorem dX11_sharesAddUp_20 : decode cX11_sharesAddUp 20 = .ok (.getfield 39, 3) := by decide +kernel
theorem dX11_sharesAddUp_23 : decode cX11_sharesAddUp 23 = .ok (.aload_n 0, 1) := by decide +kernel
theorem dX11_sharesAddUp_24 : decode cX11_sharesAddUp 24 = .ok (.getfield 12, 3) := by decide +kernel
theorem dX11_sharesAddUp_27 : decode cX11_sharesAddUp 27 = .ok (.iload_n 2, 1) := by decide +kernel
theorem dX11_sharesAddUp_28 : decode cX11_sharesAddUp 28 = .ok (.invokevirtual 220, 3) := by decide +kernel
theorem dX11_sharesAddUp_31 : decode cX11_sharesAddUp 31 = .ok (.iadd, 1) := by decide +kernel
theorem dX11_sharesAddUp_32 : decode cX11_sharesAddUp 32 = .ok (.istore_n 1, 1) := by decide +kernel
theorem dX11_sharesAddUp_33 : decode cX11_sharesAddUp 33 = .ok (.iinc 2 1, 3) := by decide +kernel
theorem dX11_sharesAddUp_36 : decode cX11_sharesAddUp 36 = .ok (.goto (-32), 3) := by decide +kernel
theorem dX11_sharesAddUp_39 : decode cX11_sharesAddUp 39 = .ok (.iload_n 1, 1) := by decide +kernel
theorem dX11_sharesAddUp_40 : decode cX11_sharesAddUp 40 = .ok (.aload_n 0, 1) := by decide +kernel
theorem dX11_sharesAddUp_41 : decode cX11_sharesAddUp 41 = .ok (.getfield 12, 3) := by decide +kernel
theorem dX11_sharesAddUp_44 : decode cX11_sharesAddUp 44 = .ok (.getfield 94, 3) := by decide +kernel
theorem dX11_sharesAddUp_47 : decode cX11_sharesAddUp 47 = .ok (.invokevirtual 198, 3) := by decide +kernel
theorem dX11_sharesAddUp_50 : decode cX11_sharesAddUp 50 = .ok (.ifCond .le 13, 3) := by decide +kernel
theorem dX11_sharesAddUp_53 : decode cX11_sharesAddUp 53 = .ok (.aload_n 0, 1) := by decide +kernel
theorem dX11_sharesAddUp_54 : decode cX11_sharesAddUp 54 = .ok (.getfield 12, 3) := by decide +kernel
theorem dX11_sharesAddUp_57 : decode cX11_sharesAddUp 57 = .ok (.getfield 195, 3) := by decide +kernel
theorem dX11_sharesAddUp_60 : decode cX11_sharesAddUp 60 = .ok (.goto 4, 3) := by decide +kernel
theorem dX11_sharesAddUp_63 : decode cX11_sharesAddUp 63 = .ok (.iconst 0, 1) := by decide +kernel
theorem dX11_sharesAddUp_64 : decode cX11_sharesAddUp 64 = .ok (.if_icmp .ne 7, 3) := by decide +kernel
theorem dX11_sharesAddUp_67 : decode cX11_sharesAddUp 67 = .ok (.iconst 1, 1) := by decide +kernel
theorem dX11_sharesAddUp_68 : decode cX11_sharesAddUp 68 = .ok (.goto 4, 3) := by decide +kernel
theorem dX11_sharesAddUp_71 : decode cX11_sharesAddUp 71 = .ok (.iconst 0, 1) := by decide +kernel
theorem dX11_sharesAddUp_72 : decode cX11_sharesAddUp 72 = .ok (.ireturn, 1) := by decide +kernel
theorem dX11_brightnessAgrees_0 : decode cX11_brightnessAgrees 0 = .ok (.aload_n 0, 1) := by decide +kernel
theorem dX11_brightnessAgrees_1 : decode cX11_brightnessAgrees 1 = .ok (.getfield 32, 3) := by decide +kernel
theorem dX11_brightnessAgrees_4 : decode cX11_brightnessAgrees 4 = .ok (.aload_n 0, 1) := by decide +kernel
theorem dX11_brightnessAgrees_5 : decode cX11_brightnessAgrees 5 = .ok (.getfield 12, 3) := by decide +kernel
theorem dX11_brightnessAgrees_8 : decode cX11_brightnessAgrees 8 = .ok (.invokevirtual 214, 3) := by decide +kernel
theorem dX11_brightnessAgrees_11 : decode cX11_brightnessAgrees 11 = .ok (.aload_n 0, 1) := by decide +kernel
theorem dX11_brightnessAgrees_12 : decode cX11_brightnessAgrees 12 = .ok (.getfield 32, 3) := by decide +kernel
theorem dX11_brightnessAgrees_15 : decode cX11_brightnessAgrees 15 = .ok (.aload_n 0, 1) := by decide +kernel
theorem dX11_brightnessAgrees_16 : decode cX11_brightnessAgrees 16 = .ok (.getfield 12, 3) := by decide +kernel
theorem dX11_brightnessAgrees_19 : decode cX11_brightnessAgrees 19 = .ok (.invokevirtual 217, 3) := by decide +kernel
theorem dX11_brightnessAgrees_22 : decode cX11_brightnessAgrees 22 = .ok (.if_icmp .ne 7, 3) := by decide +kernel
theorem dX11_brightnessAgrees_25 : decode cX11_brightnessAgrees 25 = .ok (.iconst 1, 1) := by decide +kernel
theorem dX11_brightnessAgrees_26 : decode cX11_brightnessAgrees 26 = .ok (.goto 4, 3) := by decide +kernel
theorem dX11_brightnessAgrees_29 : decode cX11_brightnessAgrees 29 = .ok (.iconst 0, 1) := by decide +kernel
theorem dX11_brightnessAgrees_30 : decode cX11_brightnessAgrees 30 = .ok (.ireturn, 1) := by decide +kernel
theorem dX11_requestsAreForLeasedLamps_0 : decode cX11_requestsAreForLeasedLamps 0 = .ok (.iconst 0, 1) := by decide +kernel
theorem dX11_requestsAreForLeasedLamps_1 : decode cX11_requestsAreForLeasedLamps 1 = .ok (.istore_n 1, 1) := by decide +kernel
theorem dX11_requestsAreForLeasedLamps_2 : decode cX11_requestsAreForLeasedLamps 2 = .ok (.iload_n 1, 1) := by decide +kernel
theorem dX11_requestsAreForLeasedLamps_3 : decode cX11_requestsAreForLeasedLamps 3 = .ok (.aload_n 0, 1) := by decide +kernel
theorem dX11_requestsAreForLeasedLamps_4 : decode cX11_requestsAreForLeasedLamps 4 = .ok (.getfield 12, 3) := by decide +kernel
theorem dX11_requestsAreForLeasedLamps_7 : decode cX11_requestsAreForLeasedLamps 7 = .ok (.getfield 121, 3) := by decide +kernel
theorem dX11_requestsAreForLeasedLamps_10 : decode cX11_requestsAreForLeasedLamps 10 = .ok (.getfield 227, 3) := by decide +kernel
theorem dX11_requestsAreForLeasedLamps_13 : decode cX11_requestsAreForLeasedLamps 13 = .ok (.if_icmp .ge 36, 3) := by decide +kernel
theorem dX11_requestsAreForLeasedLamps_16 : decode cX11_requestsAreForLeasedLamps 16 = .ok (.aload_n 0, 1) := by decide +kernel
theorem dX11_requestsAreForLeasedLamps_17 : decode cX11_requestsAreForLeasedLamps 17 = .ok (.getfield 12, 3) := by decide +kernel
theorem dX11_requestsAreForLeasedLamps_20 : decode cX11_requestsAreForLeasedLamps 20 = .ok (.getfield 94, 3) := by decide +kernel
theorem dX11_requestsAreForLeasedLamps_23 : decode cX11_requestsAreForLeasedLamps 23 = .ok (.aload_n 0, 1) := by decide +kernel
theorem dX11_requestsAreForLeasedLamps_24 : decode cX11_requestsAreForLeasedLamps 24 = .ok (.getfield 12, 3) := by decide +kernel
theorem dX11_requestsAreForLeasedLamps_27 : decode cX11_requestsAreForLeasedLamps 27 = .ok (.getfield 121, 3) := by decide +kernel
theorem dX11_requestsAreForLeasedLamps_30 : decode cX11_requestsAreForLeasedLamps 30 = .ok (.getfield 231, 3) := by decide +kernel
theorem dX11_requestsAreForLeasedLamps_33 : decode cX11_requestsAreForLeasedLamps 33 = .ok (.iload_n 1, 1) := by decide +kernel
theorem dX11_requestsAreForLeasedLamps_34 : decode cX11_requestsAreForLeasedLamps 34 = .ok (.iaload, 1) := by decide +kernel
theorem dX11_requestsAreForLeasedLamps_35 : decode cX11_requestsAreForLeasedLamps 35 = .ok (.invokevirtual 175, 3) := by decide +kernel
theorem dX11_requestsAreForLeasedLamps_38 : decode cX11_requestsAreForLeasedLamps 38 = .ok (.ifCond .ne 5, 3) := by decide +kernel
theorem dX11_requestsAreForLeasedLamps_41 : decode cX11_requestsAreForLeasedLamps 41 = .ok (.iconst 0, 1) := by decide +kernel
theorem dX11_requestsAreForLeasedLamps_42 : decode cX11_requestsAreForLeasedLamps 42 = .ok (.ireturn, 1) := by decide +kernel
theorem dX11_requestsAreForLeasedLamps_43 : decode cX11_requestsAreForLeasedLamps 43 = .ok (.iinc 1 1, 3) := by decide +kernel
theorem dX11_requestsAreForLeasedLamps_46 : decode cX11_requestsAreForLeasedLamps 46 = .ok (.goto (-44), 3) := by decide +kernel
theorem dX11_requestsAreForLeasedLamps_49 : decode cX11_requestsAreForLeasedLamps 49 = .ok (.iconst 1, 1) := by decide +kernel
theorem dX11_requestsAreForLeasedLamps_50 : decode cX11_requestsAreForLeasedLamps 50 = .ok (.ireturn, 1) := by decide +kernel
theorem dX11_feed_0 : decode cX11_feed 0 = .ok (.aload_n 0, 1) := by decide +kernel
theorem dX11_feed_1 : decode cX11_feed 1 = .ok (.getfield 46, 3) := by decide +kernel
theorem dX11_feed_4 : decode cX11_feed 4 = .ok (.getfield 274, 3) := by decide +kernel
theorem dX11_feed_7 : decode cX11_feed 7 = .ok (.bipush 60, 2) := by decide +kernel
theorem dX11_feed_9 : decode cX11_feed 9 = .ok (.if_icmp .lt 14, 3) := by decide +kernel
theorem dX11_feed_12 : decode cX11_feed 12 = .ok (.new 277, 3) := by decide +kernel
theorem dX11_feed_15 : decode cX11_feed 15 = .ok (.dup, 1) := by decide +kernel
theorem dX11_feed_16 : decode cX11_feed 16 = .ok (.ldc_w 279, 3) := by decide +kernel
theorem dX11_feed_19 : decode cX11_feed 19 = .ok (.invokespecial 281, 3) := by decide +kernel
theorem dX11_feed_22 : decode cX11_feed 22 = .ok (.athrow, 1) := by decide +kernel
theorem dX11_feed_23 : decode cX11_feed 23 = .ok (.aload_n 0, 1) := by decide +kernel
theorem dX11_feed_24 : decode cX11_feed 24 = .ok (.getfield 46, 3) := by decide +kernel
theorem dX11_feed_27 : decode cX11_feed 27 = .ok (.iload_n 1, 1) := by decide +kernel
theorem dX11_feed_28 : decode cX11_feed 28 = .ok (.invokevirtual 282, 3) := by decide +kernel
theorem dX11_feed_31 : decode cX11_feed 31 = .ok (.ireturn, 1) := by decide +kernel
theorem dX11_runCommands_0 : decode cX11_runCommands 0 = .ok (.aload_n 0, 1) := by decide +kernel
theorem dX11_runCommands_1 : decode cX11_runCommands 1 = .ok (.getfield 46, 3) := by decide +kernel
theorem dX11_runCommands_4 : decode cX11_runCommands 4 = .ok (.invokevirtual 285, 3) := by decide +kernel
theorem dX11_runCommands_7 : decode cX11_runCommands 7 = .ok (.istore_n 1, 1) := by decide +kernel
theorem dX11_runCommands_8 : decode cX11_runCommands 8 = .ok (.aload_n 0, 1) := by decide +kernel
theorem dX11_runCommands_9 : decode cX11_runCommands 9 = .ok (.getfield 46, 3) := by decide +kernel
theorem dX11_runCommands_12 : decode cX11_runCommands 12 = .ok (.invokevirtual 288, 3) := by decide +kernel
theorem dX11_runCommands_15 : decode cX11_runCommands 15 = .ok (.iload_n 1, 1) := by decide +kernel
theorem dX11_runCommands_16 : decode cX11_runCommands 16 = .ok (.ifCond .ne 25, 3) := by decide +kernel
theorem dX11_runCommands_19 : decode cX11_runCommands 19 = .ok (.aload_n 0, 1) := by decide +kernel
theorem dX11_runCommands_20 : decode cX11_runCommands 20 = .ok (.aload_n 0, 1) := by decide +kernel
theorem dX11_runCommands_21 : decode cX11_runCommands 21 = .ok (.getfield 46, 3) := by decide +kernel
theorem dX11_runCommands_24 : decode cX11_runCommands 24 = .ok (.getfield 291, 3) := by decide +kernel
theorem dX11_runCommands_27 : decode cX11_runCommands 27 = .ok (.putfield 57, 3) := by decide +kernel
theorem dX11_runCommands_30 : decode cX11_runCommands 30 = .ok (.new 294, 3) := by decide +kernel
theorem dX11_runCommands_33 : decode cX11_runCommands 33 = .ok (.dup, 1) := by decide +kernel
theorem dX11_runCommands_34 : decode cX11_runCommands 34 = .ok (.ldc_w 296, 3) := by decide +kernel
theorem dX11_runCommands_37 : decode cX11_runCommands 37 = .ok (.invokespecial 298, 3) := by decide +kernel
theorem dX11_runCommands_40 : decode cX11_runCommands 40 = .ok (.athrow, 1) := by decide +kernel
theorem dX11_runCommands_41 : decode cX11_runCommands 41 = .ok (.aload_n 0, 1) := by decide +kernel
theorem dX11_runCommands_42 : decode cX11_runCommands 42 = .ok (.getfield 16, 3) := by decide +kernel
theorem dX11_runCommands_45 : decode cX11_runCommands 45 = .ok (.aload_n 0, 1) := by decide +kernel
theorem dX11_runCommands_46 : decode cX11_runCommands 46 = .ok (.getfield 12, 3) := by decide +kernel
theorem dX11_runCommands_49 : decode cX11_runCommands 49 = .ok (.invokevirtual 299, 3) := by decide +kernel
theorem dX11_runCommands_52 : decode cX11_runCommands 52 = .ok (.iconst 0, 1) := by decide +kernel
theorem dX11_runCommands_53 : decode cX11_runCommands 53 = .ok (.istore_n 2, 1) := by decide +kernel
theorem dX11_runCommands_54 : decode cX11_runCommands 54 = .ok (.iload_n 2, 1) := by decide +kernel
theorem dX11_runCommands_55 : decode cX11_runCommands 55 = .ok (.aload_n 0, 1) := by decide +kernel
theorem dX11_runCommands_56 : decode cX11_runCommands 56 = .ok (.getfield 46, 3) := by decide +kernel
theorem dX11_runCommands_59 : decode cX11_runCommands 59 = .ok (.getfield 302, 3) := by decide +kernel
theorem dX11_runCommands_62 : decode cX11_runCommands 62 = .ok (.if_icmp .ge 74, 3) := by decide +kernel
theorem dX11_runCommands_65 : decode cX11_runCommands 65 = .ok (.aload_n 0, 1) := by decide +kernel
theorem dX11_runCommands_66 : decode cX11_runCommands 66 = .ok (.aload_n 0, 1) := by decide +kernel
theorem dX11_runCommands_67 : decode cX11_runCommands 67 = .ok (.getfield 46, 3) := by decide +kernel
theorem dX11_runCommands_70 : decode cX11_runCommands 70 = .ok (.getfield 305, 3) := by decide +kernel
theorem dX11_runCommands_73 : decode cX11_runCommands 73 = .ok (.iload_n 2, 1) := by decide +kernel
theorem dX11_runCommands_74 : decode cX11_runCommands 74 = .ok (.aaload, 1) := by decide +kernel
theorem dX11_runCommands_75 : decode cX11_runCommands 75 = .ok (.invokevirtual 309, 3) := by decide +kernel
theorem dX11_runCommands_78 : decode cX11_runCommands 78 = .ok (.istore_n 3, 1) := by decide +kernel
theorem dX11_runCommands_79 : decode cX11_runCommands 79 = .ok (.iload_n 3, 1) := by decide +kernel
theorem dX11_runCommands_80 : decode cX11_runCommands 80 = .ok (.bipush 32, 2) := by decide +kernel
theorem dX11_runCommands_82 : decode cX11_runCommands 82 = .ok (.if_icmp .eq 35, 3) := by decide +kernel
theorem dX11_runCommands_85 : decode cX11_runCommands 85 = .ok (.aload_n 0, 1) := by decide +kernel
theorem dX11_runCommands_86 : decode cX11_runCommands 86 = .ok (.getfield 12, 3) := by decide +kernel
theorem dX11_runCommands_89 : decode cX11_runCommands 89 = .ok (.aload_n 0, 1) := by decide +kernel
theorem dX11_runCommands_90 : decode cX11_runCommands 90 = .ok (.getfield 16, 3) := by decide +kernel
theorem dX11_runCommands_93 : decode cX11_runCommands 93 = .ok (.invokevirtual 299, 3) := by decide +kernel
theorem dX11_runCommands_96 : decode cX11_runCommands 96 = .ok (.aload_n 0, 1) := by decide +kernel
theorem dX11_runCommands_97 : decode cX11_runCommands 97 = .ok (.iload_n 2, 1) := by decide +kernel
theorem dX11_runCommands_98 : decode cX11_runCommands 98 = .ok (.putfield 61, 3) := by decide +kernel
theorem dX11_runCommands_101 : decode cX11_runCommands 101 = .ok (.aload_n 0, 1) := by decide +kernel
theorem dX11_runCommands_102 : decode cX11_runCommands 102 = .ok (.iload_n 3, 1) := by decide +kernel
theorem dX11_runCommands_103 : decode cX11_runCommands 103 = .ok (.putfield 64, 3) := by decide +kernel
theorem dX11_runCommands_106 : decode cX11_runCommands 106 = .ok (.new 313, 3) := by decide +kernel
theorem dX11_runCommands_109 : decode cX11_runCommands 109 = .ok (.dup, 1) := by decide +kernel
theorem dX11_runCommands_110 : decode cX11_runCommands 110 = .ok (.ldc_w 315, 3) := by decide +kernel
theorem dX11_runCommands_113 : decode cX11_runCommands 113 = .ok (.invokespecial 317, 3) := by decide +kernel
theorem dX11_runCommands_116 : decode cX11_runCommands 116 = .ok (.athrow, 1) := by decide +kernel
theorem dX11_runCommands_117 : decode cX11_runCommands 117 = .ok (.aload_n 0, 1) := by decide +kernel
theorem dX11_runCommands_118 : decode cX11_runCommands 118 = .ok (.aload_n 0, 1) := by decide +kernel
theorem dX11_runCommands_119 : decode cX11_runCommands 119 = .ok (.getfield 46, 3) := by decide +kernel
theorem dX11_runCommands_122 : decode cX11_runCommands 122 = .ok (.getfield 305, 3) := by decide +kernel
theorem dX11_runCommands_125 : decode cX11_runCommands 125 = .ok (.iload_n 2, 1) := by decide +kernel
theorem dX11_runCommands_126 : decode cX11_runCommands 126 = .ok (.aaload, 1) := by decide +kernel
theorem dX11_runCommands_127 : decode cX11_runCommands 127 = .ok (.invokevirtual 318, 3) := by decide +kernel
theorem dX11_runCommands_130 : decode cX11_runCommands 130 = .ok (.iinc 2 1, 3) := by decide +kernel
theorem dX11_runCommands_133 : decode cX11_runCommands 133 = .ok (.goto (-79), 3) := by decide +kernel
theorem dX11_runCommands_136 : decode cX11_runCommands 136 = .ok (.aload_n 0, 1) := by decide +kernel
theorem dX11_runCommands_137 : decode cX11_runCommands 137 = .ok (.getfield 25, 3) := by decide +kernel
theorem dX11_runCommands_140 : decode cX11_runCommands 140 = .ok (.aload_n 0, 1) := by decide +kernel
theorem dX11_runCommands_141 : decode cX11_runCommands 141 = .ok (.getfield 16, 3) := by decide +kernel
theorem dX11_runCommands_144 : decode cX11_runCommands 144 = .ok (.invokevirtual 76, 3) := by decide +kernel
theorem dX11_runCommands_147 : decode cX11_runCommands 147 = .ok (.aload_n 0, 1) := by decide +kernel
theorem dX11_runCommands_148 : decode cX11_runCommands 148 = .ok (.getfield 46, 3) := by decide +kernel
theorem dX11_runCommands_151 : decode cX11_runCommands 151 = .ok (.getfield 302, 3) := by decide +kernel
theorem dX11_runCommands_154 : decode cX11_runCommands 154 = .ok (.ireturn, 1) := by decide +kernel
theorem dX11_faultOf_0 : decode cX11_faultOf 0 = .ok (.getstatic 322, 3) := by decide +kernel
theorem dX11_faultOf_3 : decode cX11_faultOf 3 = .ok (.aload_n 1, 1) := by decide +kernel
theorem dX11_faultOf_4 : decode cX11_faultOf 4 = .ok (.getfield 327, 3) := by decide +kernel
theorem dX11_faultOf_7 : decode cX11_faultOf 7 = .ok (.invokevirtual 333, 3) := by decide +kernel
theorem dX11_faultOf_10 : decode cX11_faultOf 10 = .ok (.iaload, 1) := by decide +kernel
theorem dX11_faultOf_11 : decode cX11_faultOf 11 = .ok (.tableswitch 117 1 6 #[37, 45, 57, 69, 89, 105], 37) := by decide +kernel
theorem dX11_faultOf_48 : decode cX11_faultOf 48 = .ok (.aload_n 0, 1) := by decide +kernel
theorem dX11_faultOf_49 : decode cX11_faultOf 49 = .ok (.getfield 12, 3) := by decide +kernel
theorem dX11_faultOf_52 : decode cX11_faultOf 52 = .ok (.invokevirtual 68, 3) := by decide +kernel
theorem dX11_faultOf_55 : decode cX11_faultOf 55 = .ok (.ireturn, 1) := by decide +kernel
theorem dX11_faultOf_56 : decode cX11_faultOf 56 = .ok (.aload_n 0, 1) := by decide +kernel
theorem dX11_faultOf_57 : decode cX11_faultOf 57 = .ok (.getfield 12, 3) := by decide +kernel
theorem dX11_faultOf_60 : decode cX11_faultOf 60 = .ok (.aload_n 1, 1) := by decide +kernel
theorem dX11_faultOf_61 : decode cX11_faultOf 61 = .ok (.invokevirtual 338, 3) := by decide +kernel
theorem dX11_faultOf_64 : decode cX11_faultOf 64 = .ok (.invokevirtual 90, 3) := by decide +kernel
theorem dX11_faultOf_67 : decode cX11_faultOf 67 = .ok (.ireturn, 1) := by decide +kernel
theorem dX11_faultOf_68 : decode cX11_faultOf 68 = .ok (.aload_n 0, 1) := by decide +kernel
theorem dX11_faultOf_69 : decode cX11_faultOf 69 = .ok (.getfield 12, 3) := by decide +kernel
theorem dX11_faultOf_72 : decode cX11_faultOf 72 = .ok (.aload_n 1, 1) := by decide +kernel
theorem dX11_faultOf_73 : decode cX11_faultOf 73 = .ok (.invokevirtual 338, 3) := by decide +kernel
theorem dX11_faultOf_76 : decode cX11_faultOf 76 = .ok (.invokevirtual 103, 3) := by decide +kernel
theorem dX11_faultOf_79 : decode cX11_faultOf 79 = .ok (.ireturn, 1) := by decide +kernel
theorem dX11_faultOf_80 : decode cX11_faultOf 80 = .ok (.aload_n 0, 1) := by decide +kernel
theorem dX11_faultOf_81 : decode cX11_faultOf 81 = .ok (.getfield 12, 3) := by decide +kernel
theorem dX11_faultOf_84 : decode cX11_faultOf 84 = .ok (.aload_n 1, 1) := by decide +kernel
theorem dX11_faultOf_85 : decode cX11_faultOf 85 = .ok (.invokevirtual 338, 3) := by decide +kernel
theorem dX11_faultOf_88 : decode cX11_faultOf 88 = .ok (.aload_n 1, 1) := by decide +kernel
theorem dX11_faultOf_89 : decode cX11_faultOf 89 = .ok (.invokevirtual 341, 3) := by decide +kernel
theorem dX11_faultOf_92 : decode cX11_faultOf 92 = .ok (.aload_n 1, 1) := by decide +kernel
theorem dX11_faultOf_93 : decode cX11_faultOf 93 = .ok (.invokevirtual 344, 3) := by decide +kernel
theorem dX11_faultOf_96 : decode cX11_faultOf 96 = .ok (.invokevirtual 109, 3) := by decide +kernel
theorem dX11_faultOf_99 : decode cX11_faultOf 99 = .ok (.ireturn, 1) := by decide +kernel
theorem dX11_faultOf_100 : decode cX11_faultOf 100 = .ok (.aload_n 0, 1) := by decide +kernel
theorem dX11_faultOf_101 : decode cX11_faultOf 101 = .ok (.getfield 12, 3) := by decide +kernel
theorem dX11_faultOf_104 : decode cX11_faultOf 104 = .ok (.aload_n 1, 1) := by decide +kernel
theorem dX11_faultOf_105 : decode cX11_faultOf 105 = .ok (.invokevirtual 338, 3) := by decide +kernel
theorem dX11_faultOf_108 : decode cX11_faultOf 108 = .ok (.aload_n 1, 1) := by decide +kernel
theorem dX11_faultOf_109 : decode cX11_faultOf 109 = .ok (.invokevirtual 341, 3) := by decide +kernel
theorem dX11_faultOf_112 : decode cX11_faultOf 112 = .ok (.invokevirtual 117, 3) := by decide +kernel
theorem dX11_faultOf_115 : decode cX11_faultOf 115 = .ok (.ireturn, 1) := by decide +kernel
theorem dX11_faultOf_116 : decode cX11_faultOf 116 = .ok (.aload_n 0, 1) := by decide +kernel
theorem dX11_faultOf_117 : decode cX11_faultOf 117 = .ok (.getfield 12, 3) := by decide +kernel
theorem dX11_faultOf_120 : decode cX11_faultOf 120 = .ok (.aload_n 1, 1) := by decide +kernel
theorem dX11_faultOf_121 : decode cX11_faultOf 121 = .ok (.invokevirtual 338, 3) := by decide +kernel
theorem dX11_faultOf_124 : decode cX11_faultOf 124 = .ok (.invokevirtual 130, 3) := by decide +kernel
theorem dX11_faultOf_127 : decode cX11_faultOf 127 = .ok (.ireturn, 1) := by decide +kernel
theorem dX11_faultOf_128 : decode cX11_faultOf 128 = .ok (.aload_n 0, 1) := by decide +kernel
theorem dX11_faultOf_129 : decode cX11_faultOf 129 = .ok (.getfield 12, 3) := by decide +kernel
theorem dX11_faultOf_132 : decode cX11_faultOf 132 = .ok (.aload_n 1, 1) := by decide +kernel
theorem dX11_faultOf_133 : decode cX11_faultOf 133 = .ok (.invokevirtual 338, 3) := by decide +kernel
theorem dX11_faultOf_136 : decode cX11_faultOf 136 = .ok (.invokevirtual 136, 3) := by decide +kernel
theorem dX11_faultOf_139 : decode cX11_faultOf 139 = .ok (.ireturn, 1) := by decide +kernel
theorem dX11_carryOut_0 : decode cX11_carryOut 0 = .ok (.getstatic 322, 3) := by decide +kernel
theorem dX11_carryOut_3 : decode cX11_carryOut 3 = .ok (.aload_n 1, 1) := by decide +kernel
theorem dX11_carryOut_4 : decode cX11_carryOut 4 = .ok (.getfield 327, 3) := by decide +kernel
theorem dX11_carryOut_7 : decode cX11_carryOut 7 = .ok (.invokevirtual 333, 3) := by decide +kernel
theorem dX11_carryOut_10 : decode cX11_carryOut 10 = .ok (.iaload, 1) := by decide +kernel
theorem dX11_carryOut_11 : decode cX11_carryOut 11 = .ok (.tableswitch 144 1 6 #[37, 51, 69, 84, 107, 129], 37) := by decide +kernel
theorem dX11_carryOut_48 : decode cX11_carryOut 48 = .ok (.aload_n 0, 1) := by decide +kernel
theorem dX11_carryOut_49 : decode cX11_carryOut 49 = .ok (.getfield 12, 3) := by decide +kernel
theorem dX11_carryOut_52 : decode cX11_carryOut 52 = .ok (.getfield 80, 3) := by decide +kernel
theorem dX11_carryOut_55 : decode cX11_carryOut 55 = .ok (.invokevirtual 84, 3) := by decide +kernel
theorem dX11_carryOut_58 : decode cX11_carryOut 58 = .ok (.pop, 1) := by decide +kernel
theorem dX11_carryOut_59 : decode cX11_carryOut 59 = .ok (.goto 108, 3) := by decide +kernel
theorem dX11_carryOut_62 : decode cX11_carryOut 62 = .ok (.aload_n 0, 1) := by decide +kernel
theorem dX11_carryOut_63 : decode cX11_carryOut 63 = .ok (.getfield 12, 3) := by decide +kernel
theorem dX11_carryOut_66 : decode cX11_carryOut 66 = .ok (.getfield 94, 3) := by decide +kernel
theorem dX11_carryOut_69 : decode cX11_carryOut 69 = .ok (.aload_n 1, 1) := by decide +kernel
theorem dX11_carryOut_70 : decode cX11_carryOut 70 = .ok (.invokevirtual 338, 3) := by decide +kernel
theorem dX11_carryOut_73 : decode cX11_carryOut 73 = .ok (.invokevirtual 98, 3) := by decide +kernel
theorem dX11_carryOut_76 : decode cX11_carryOut 76 = .ok (.pop, 1) := by decide +kernel
theorem dX11_carryOut_77 : decode cX11_carryOut 77 = .ok (.goto 90, 3) := by decide +kernel
theorem dX11_carryOut_80 : decode cX11_carryOut 80 = .ok (.aload_n 0, 1) := by decide +kernel
theorem dX11_carryOut_81 : decode cX11_carryOut 81 = .ok (.getfield 12, 3) := by decide +kernel
theorem dX11_carryOut_84 : decode cX11_carryOut 84 = .ok (.aload_n 1, 1) := by decide +kernel
theorem dX11_carryOut_85 : decode cX11_carryOut 85 = .ok (.invokevirtual 338, 3) := by decide +kernel
theorem dX11_carryOut_88 : decode cX11_carryOut 88 = .ok (.invokevirtual 106, 3) := by decide +kernel
theorem dX11_carryOut_91 : decode cX11_carryOut 91 = .ok (.pop, 1) := by decide +kernel
theorem dX11_carryOut_92 : decode cX11_carryOut 92 = .ok (.goto 75, 3) := by decide +kernel
theorem dX11_carryOut_95 : decode cX11_carryOut 95 = .ok (.aload_n 0, 1) := by decide +kernel
theorem dX11_carryOut_96 : decode cX11_carryOut 96 = .ok (.getfield 12, 3) := by decide +kernel
theorem dX11_carryOut_99 : decode cX11_carryOut 99 = .ok (.aload_n 1, 1) := by decide +kernel
theorem dX11_carryOut_100 : decode cX11_carryOut 100 = .ok (.invokevirtual 338, 3) := by decide +kernel
theorem dX11_carryOut_103 : decode cX11_carryOut 103 = .ok (.aload_n 1, 1) := by decide +kernel
theorem dX11_carryOut_104 : decode cX11_carryOut 104 = .ok (.invokevirtual 341, 3) := by decide +kernel
theorem dX11_carryOut_107 : decode cX11_carryOut 107 = .ok (.aload_n 1, 1) := by decide +kernel
theorem dX11_carryOut_108 : decode cX11_carryOut 108 = .ok (.invokevirtual 344, 3) := by decide +kernel
theorem dX11_carryOut_111 : decode cX11_carryOut 111 = .ok (.invokevirtual 113, 3) := by decide +kernel
theorem dX11_carryOut_114 : decode cX11_carryOut 114 = .ok (.pop, 1) := by decide +kernel
theorem dX11_carryOut_115 : decode cX11_carryOut 115 = .ok (.goto 52, 3) := by decide +kernel
theorem dX11_carryOut_118 : decode cX11_carryOut 118 = .ok (.aload_n 0, 1) := by decide +kernel
theorem dX11_carryOut_119 : decode cX11_carryOut 119 = .ok (.getfield 12, 3) := by decide +kernel
theorem dX11_carryOut_122 : decode cX11_carryOut 122 = .ok (.getfield 121, 3) := by decide +kernel
theorem dX11_carryOut_125 : decode cX11_carryOut 125 = .ok (.aload_n 1, 1) := by decide +kernel
theorem dX11_carryOut_126 : decode cX11_carryOut 126 = .ok (.invokevirtual 338, 3) := by decide +kernel
theorem dX11_carryOut_129 : decode cX11_carryOut 129 = .ok (.aload_n 1, 1) := by decide +kernel
theorem dX11_carryOut_130 : decode cX11_carryOut 130 = .ok (.invokevirtual 341, 3) := by decide +kernel
theorem dX11_carryOut_133 : decode cX11_carryOut 133 = .ok (.invokevirtual 125, 3) := by decide +kernel
theorem dX11_carryOut_136 : decode cX11_carryOut 136 = .ok (.pop, 1) := by decide +kernel
theorem dX11_carryOut_137 : decode cX11_carryOut 137 = .ok (.goto 30, 3) := by decide +kernel
theorem dX11_carryOut_140 : decode cX11_carryOut 140 = .ok (.aload_n 0, 1) := by decide +kernel
theorem dX11_carryOut_141 : decode cX11_carryOut 141 = .ok (.getfield 12, 3) := by decide +kernel
theorem dX11_carryOut_144 : decode cX11_carryOut 144 = .ok (.aload_n 1, 1) := by decide +kernel
theorem dX11_carryOut_145 : decode cX11_carryOut 145 = .ok (.invokevirtual 338, 3) := by decide +kernel
theorem dX11_carryOut_148 : decode cX11_carryOut 148 = .ok (.invokevirtual 133, 3) := by decide +kernel
theorem dX11_carryOut_151 : decode cX11_carryOut 151 = .ok (.pop, 1) := by decide +kernel
theorem dX11_carryOut_152 : decode cX11_carryOut 152 = .ok (.goto 15, 3) := by decide +kernel
theorem dX11_carryOut_155 : decode cX11_carryOut 155 = .ok (.aload_n 0, 1) := by decide +kernel
theorem dX11_carryOut_156 : decode cX11_carryOut 156 = .ok (.getfield 12, 3) := by decide +kernel
theorem dX11_carryOut_159 : decode cX11_carryOut 159 = .ok (.aload_n 1, 1) := by decide +kernel
theorem dX11_carryOut_160 : decode cX11_carryOut 160 = .ok (.invokevirtual 338, 3) := by decide +kernel
theorem dX11_carryOut_163 : decode cX11_carryOut 163 = .ok (.invokevirtual 139, 3) := by decide +kernel
theorem dX11_carryOut_166 : decode cX11_carryOut 166 = .ok (.pop, 1) := by decide +kernel
theorem dX11_carryOut_167 : decode cX11_carryOut 167 = .ok (.return_, 1) := by decide +kernel
theorem dX11_writeLamps_0 : decode cX11_writeLamps 0 = .ok (.aload_n 0, 1) := by decide +kernel
theorem dX11_writeLamps_1 : decode cX11_writeLamps 1 = .ok (.getfield 53, 3) := by decide +kernel
theorem dX11_writeLamps_4 : decode cX11_writeLamps 4 = .ok (.iconst 0, 1) := by decide +kernel
theorem dX11_writeLamps_5 : decode cX11_writeLamps 5 = .ok (.invokevirtual 347, 3) := by decide +kernel
theorem dX11_writeLamps_8 : decode cX11_writeLamps 8 = .ok (.iconst 0, 1) := by decide +kernel
theorem dX11_writeLamps_9 : decode cX11_writeLamps 9 = .ok (.istore_n 1, 1) := by decide +kernel
theorem dX11_writeLamps_10 : decode cX11_writeLamps 10 = .ok (.iload_n 1, 1) := by decide +kernel
theorem dX11_writeLamps_11 : decode cX11_writeLamps 11 = .ok (.aload_n 0, 1) := by decide +kernel
theorem dX11_writeLamps_12 : decode cX11_writeLamps 12 = .ok (.getfield 12, 3) := by decide +kernel
theorem dX11_writeLamps_15 : decode cX11_writeLamps 15 = .ok (.getfield 94, 3) := by decide +kernel
theorem dX11_writeLamps_18 : decode cX11_writeLamps 18 = .ok (.getfield 168, 3) := by decide +kernel
theorem dX11_writeLamps_21 : decode cX11_writeLamps 21 = .ok (.if_icmp .ge 28, 3) := by decide +kernel
theorem dX11_writeLamps_24 : decode cX11_writeLamps 24 = .ok (.iload_n 1, 1) := by decide +kernel
theorem dX11_writeLamps_25 : decode cX11_writeLamps 25 = .ok (.ifCond .le 13, 3) := by decide +kernel
theorem dX11_writeLamps_28 : decode cX11_writeLamps 28 = .ok (.aload_n 0, 1) := by decide +kernel
theorem dX11_writeLamps_29 : decode cX11_writeLamps 29 = .ok (.getfield 53, 3) := by decide +kernel
theorem dX11_writeLamps_32 : decode cX11_writeLamps 32 = .ok (.bipush 32, 2) := by decide +kernel
theorem dX11_writeLamps_34 : decode cX11_writeLamps 34 = .ok (.invokevirtual 350, 3) := by decide +kernel
theorem dX11_writeLamps_37 : decode cX11_writeLamps 37 = .ok (.pop, 1) := by decide +kernel
theorem dX11_writeLamps_38 : decode cX11_writeLamps 38 = .ok (.aload_n 0, 1) := by decide +kernel
theorem dX11_writeLamps_39 : decode cX11_writeLamps 39 = .ok (.iload_n 1, 1) := by decide +kernel
theorem dX11_writeLamps_40 : decode cX11_writeLamps 40 = .ok (.invokevirtual 353, 3) := by decide +kernel
theorem dX11_writeLamps_43 : decode cX11_writeLamps 43 = .ok (.iinc 1 1, 3) := by decide +kernel
theorem dX11_writeLamps_46 : decode cX11_writeLamps 46 = .ok (.goto (-36), 3) := by decide +kernel
theorem dX11_writeLamps_49 : decode cX11_writeLamps 49 = .ok (.aload_n 0, 1) := by decide +kernel
theorem dX11_writeLamps_50 : decode cX11_writeLamps 50 = .ok (.getfield 53, 3) := by decide +kernel
theorem dX11_writeLamps_53 : decode cX11_writeLamps 53 = .ok (.invokevirtual 356, 3) := by decide +kernel
theorem dX11_writeLamps_56 : decode cX11_writeLamps 56 = .ok (.ireturn, 1) := by decide +kernel
theorem dX11_describe_0 : decode cX11_describe 0 = .ok (.aload_n 0, 1) := by decide +kernel
theorem dX11_describe_1 : decode cX11_describe 1 = .ok (.getfield 53, 3) := by decide +kernel
theorem dX11_describe_4 : decode cX11_describe 4 = .ok (.aload_n 0, 1) := by decide +kernel
theorem dX11_describe_5 : decode cX11_describe 5 = .ok (.getfield 12, 3) := by decide +kernel
theorem dX11_describe_8 : decode cX11_describe 8 = .ok (.getfield 94, 3) := by decide +kernel
theorem dX11_describe_11 : decode cX11_describe 11 = .ok (.getfield 172, 3) := by decide +kernel
theorem dX11_describe_14 : decode cX11_describe 14 = .ok (.iload_n 1, 1) := by decide +kernel
theorem dX11_describe_15 : decode cX11_describe 15 = .ok (.iaload, 1) := by decide +kernel
theorem dX11_describe_16 : decode cX11_describe 16 = .ok (.invokevirtual 358, 3) := by decide +kernel
theorem dX11_describe_19 : decode cX11_describe 19 = .ok (.pop, 1) := by decide +kernel
theorem dX11_describe_20 : decode cX11_describe 20 = .ok (.aload_n 0, 1) := by decide +kernel
theorem dX11_describe_21 : decode cX11_describe 21 = .ok (.getfield 12, 3) := by decide +kernel
theorem dX11_describe_24 : decode cX11_describe 24 = .ok (.getfield 94, 3) := by decide +kernel
theorem dX11_describe_27 : decode cX11_describe 27 = .ok (.iload_n 1, 1) := by decide +kernel
theorem dX11_describe_28 : decode cX11_describe 28 = .ok (.invokevirtual 175, 3) := by decide +kernel
theorem dX11_describe_31 : decode cX11_describe 31 = .ok (.ifCond .ne 4, 3) := by decide +kernel
theorem dX11_describe_34 : decode cX11_describe 34 = .ok (.return_, 1) := by decide +kernel
theorem dX11_describe_35 : decode cX11_describe 35 = .ok (.aload_n 0, 1) := by decide +kernel
theorem dX11_describe_36 : decode cX11_describe 36 = .ok (.getfield 53, 3) := by decide +kernel
theorem dX11_describe_39 : decode cX11_describe 39 = .ok (.bipush 115, 2) := by decide +kernel
theorem dX11_describe_41 : decode cX11_describe 41 = .ok (.invokevirtual 350, 3) := by decide +kernel
theorem dX11_describe_44 : decode cX11_describe 44 = .ok (.aload_n 0, 1) := by decide +kernel
theorem dX11_describe_45 : decode cX11_describe 45 = .ok (.getfield 12, 3) := by decide +kernel
theorem dX11_describe_48 : decode cX11_describe 48 = .ok (.getfield 94, 3) := by decide +kernel
theorem dX11_describe_51 : decode cX11_describe 51 = .ok (.getfield 179, 3) := by decide +kernel
theorem dX11_describe_54 : decode cX11_describe 54 = .ok (.iload_n 1, 1) := by decide +kernel
theorem dX11_describe_55 : decode cX11_describe 55 = .ok (.iaload, 1) := by decide +kernel
theorem dX11_describe_56 : decode cX11_describe 56 = .ok (.invokevirtual 358, 3) := by decide +kernel
theorem dX11_describe_59 : decode cX11_describe 59 = .ok (.pop, 1) := by decide +kernel
theorem dX11_describe_60 : decode cX11_describe 60 = .ok (.aload_n 0, 1) := by decide +kernel
theorem dX11_describe_61 : decode cX11_describe 61 = .ok (.getfield 53, 3) := by decide +kernel
theorem dX11_describe_64 : decode cX11_describe 64 = .ok (.bipush 101, 2) := by decide +kernel
theorem dX11_describe_66 : decode cX11_describe 66 = .ok (.invokevirtual 350, 3) := by decide +kernel
theorem dX11_describe_69 : decode cX11_describe 69 = .ok (.aload_n 0, 1) := by decide +kernel
theorem dX11_describe_70 : decode cX11_describe 70 = .ok (.getfield 12, 3) := by decide +kernel
theorem dX11_describe_73 : decode cX11_describe 73 = .ok (.getfield 94, 3) := by decide +kernel
theorem dX11_describe_76 : decode cX11_describe 76 = .ok (.getfield 182, 3) := by decide +kernel
theorem dX11_describe_79 : decode cX11_describe 79 = .ok (.iload_n 1, 1) := by decide +kernel
theorem dX11_describe_80 : decode cX11_describe 80 = .ok (.iaload, 1) := by decide +kernel
theorem dX11_describe_81 : decode cX11_describe 81 = .ok (.invokevirtual 358, 3) := by decide +kernel
theorem dX11_describe_84 : decode cX11_describe 84 = .ok (.pop, 1) := by decide +kernel
theorem dX11_describe_85 : decode cX11_describe 85 = .ok (.aload_n 0, 1) := by decide +kernel
theorem dX11_describe_86 : decode cX11_describe 86 = .ok (.getfield 12, 3) := by decide +kernel
theorem dX11_describe_89 : decode cX11_describe 89 = .ok (.getfield 121, 3) := by decide +kernel
theorem dX11_describe_92 : decode cX11_describe 92 = .ok (.iload_n 1, 1) := by decide +kernel
theorem dX11_describe_93 : decode cX11_describe 93 = .ok (.invokevirtual 361, 3) := by decide +kernel
theorem dX11_describe_96 : decode cX11_describe 96 = .ok (.iconst (-1), 1) := by decide +kernel
theorem dX11_describe_97 : decode cX11_describe 97 = .ok (.if_icmp .eq 13, 3) := by decide +kernel
theorem dX11_describe_100 : decode cX11_describe 100 = .ok (.aload_n 0, 1) := by decide +kernel
theorem dX11_describe_101 : decode cX11_describe 101 = .ok (.getfield 53, 3) := by decide +kernel
theorem dX11_describe_104 : decode cX11_describe 104 = .ok (.bipush 114, 2) := by decide +kernel
theorem dX11_describe_106 : decode cX11_describe 106 = .ok (.invokevirtual 350, 3) := by decide +kernel
theorem dX11_describe_109 : decode cX11_describe 109 = .ok (.pop, 1) := by decide +kernel
theorem dX11_describe_110 : decode cX11_describe 110 = .ok (.return_, 1) := by decide +kernel
theorem dX11_outputChar_0 : decode cX11_outputChar 0 = .ok (.iload_n 1, 1) := by decide +kernel
theorem dX11_outputChar_1 : decode cX11_outputChar 1 = .ok (.ifCond .lt 14, 3) := by decide +kernel
theorem dX11_outputChar_4 : decode cX11_outputChar 4 = .ok (.iload_n 1, 1) := by decide +kernel
theorem dX11_outputChar_5 : decode cX11_outputChar 5 = .ok (.aload_n 0, 1) := by decide +kernel
theorem dX11_outputChar_6 : decode cX11_outputChar 6 = .ok (.getfield 53, 3) := by decide +kernel
theorem dX11_outputChar_9 : decode cX11_outputChar 9 = .ok (.invokevirtual 356, 3) := by decide +kernel
theorem dX11_outputChar_12 : decode cX11_outputChar 12 = .ok (.if_icmp .lt 14, 3) := by decide +kernel
theorem dX11_outputChar_15 : decode cX11_outputChar 15 = .ok (.new 364, 3) := by decide +kernel
theorem dX11_outputChar_18 : decode cX11_outputChar 18 = .ok (.dup, 1) := by decide +kernel
theorem dX11_outputChar_19 : decode cX11_outputChar 19 = .ok (.ldc_w 366, 3) := by decide +kernel
theorem dX11_outputChar_22 : decode cX11_outputChar 22 = .ok (.invokespecial 368, 3) := by decide +kernel
theorem dX11_outputChar_25 : decode cX11_outputChar 25 = .ok (.athrow, 1) := by decide +kernel
theorem dX11_outputChar_26 : decode cX11_outputChar 26 = .ok (.aload_n 0, 1) := by decide +kernel
theorem dX11_outputChar_27 : decode cX11_outputChar 27 = .ok (.getfield 53, 3) := by decide +kernel
theorem dX11_outputChar_30 : decode cX11_outputChar 30 = .ok (.iload_n 1, 1) := by decide +kernel
theorem dX11_outputChar_31 : decode cX11_outputChar 31 = .ok (.invokevirtual 369, 3) := by decide +kernel
theorem dX11_outputChar_34 : decode cX11_outputChar 34 = .ok (.ireturn, 1) := by decide +kernel
theorem dX11_undoCount_0 : decode cX11_undoCount 0 = .ok (.aload_n 0, 1) := by decide +kernel
theorem dX11_undoCount_1 : decode cX11_undoCount 1 = .ok (.getfield 25, 3) := by decide +kernel
theorem dX11_undoCount_4 : decode cX11_undoCount 4 = .ok (.getfield 372, 3) := by decide +kernel
theorem dX11_undoCount_7 : decode cX11_undoCount 7 = .ok (.ireturn, 1) := by decide +kernel
theorem dX11_undo_0 : decode cX11_undo 0 = .ok (.aload_n 0, 1) := by decide +kernel
theorem dX11_undo_1 : decode cX11_undo 1 = .ok (.getfield 25, 3) := by decide +kernel
theorem dX11_undo_4 : decode cX11_undo 4 = .ok (.getfield 372, 3) := by decide +kernel
theorem dX11_undo_7 : decode cX11_undo 7 = .ok (.ifCond .ne 14, 3) := by decide +kernel
theorem dX11_undo_10 : decode cX11_undo 10 = .ok (.new 277, 3) := by decide +kernel
theorem dX11_undo_13 : decode cX11_undo 13 = .ok (.dup, 1) := by decide +kernel
theorem dX11_undo_14 : decode cX11_undo 14 = .ok (.ldc_w 373, 3) := by decide +kernel
theorem dX11_undo_17 : decode cX11_undo 17 = .ok (.invokespecial 281, 3) := by decide +kernel
theorem dX11_undo_20 : decode cX11_undo 20 = .ok (.athrow, 1) := by decide +kernel
theorem dX11_undo_21 : decode cX11_undo 21 = .ok (.aload_n 0, 1) := by decide +kernel
theorem dX11_undo_22 : decode cX11_undo 22 = .ok (.getfield 25, 3) := by decide +kernel
theorem dX11_undo_25 : decode cX11_undo 25 = .ok (.aload_n 0, 1) := by decide +kernel
theorem dX11_undo_26 : decode cX11_undo 26 = .ok (.getfield 12, 3) := by decide +kernel
theorem dX11_undo_29 : decode cX11_undo 29 = .ok (.invokevirtual 375, 3) := by decide +kernel
theorem dX11_undo_32 : decode cX11_undo 32 = .ok (.aload_n 0, 1) := by decide +kernel
theorem dX11_undo_33 : decode cX11_undo 33 = .ok (.getfield 25, 3) := by decide +kernel
theorem dX11_undo_36 : decode cX11_undo 36 = .ok (.getfield 372, 3) := by decide +kernel
theorem dX11_undo_39 : decode cX11_undo 39 = .ok (.ireturn, 1) := by decide +kernel
theorem dX11_throwFor_0 : decode cX11_throwFor 0 = .ok (.iload_n 0, 1) := by decide +kernel
theorem dX11_throwFor_1 : decode cX11_throwFor 1 = .ok (.bipush 105, 2) := by decide +kernel
theorem dX11_throwFor_3 : decode cX11_throwFor 3 = .ok (.if_icmp .ne 14, 3) := by decide +kernel
theorem dX11_throwFor_6 : decode cX11_throwFor 6 = .ok (.new 364, 3) := by decide +kernel
theorem dX11_throwFor_9 : decode cX11_throwFor 9 = .ok (.dup, 1) := by decide +kernel
theorem dX11_throwFor_10 : decode cX11_throwFor 10 = .ok (.ldc_w 385, 3) := by decide +kernel
theorem dX11_throwFor_13 : decode cX11_throwFor 13 = .ok (.invokespecial 368, 3) := by decide +kernel
theorem dX11_throwFor_16 : decode cX11_throwFor 16 = .ok (.athrow, 1) := by decide +kernel
theorem dX11_throwFor_17 : decode cX11_throwFor 17 = .ok (.iload_n 0, 1) := by decide +kernel
theorem dX11_throwFor_18 : decode cX11_throwFor 18 = .ok (.bipush 97, 2) := by decide +kernel
theorem dX11_throwFor_20 : decode cX11_throwFor 20 = .ok (.if_icmp .ne 14, 3) := by decide +kernel
theorem dX11_throwFor_23 : decode cX11_throwFor 23 = .ok (.new 294, 3) := by decide +kernel
theorem dX11_throwFor_26 : decode cX11_throwFor 26 = .ok (.dup, 1) := by decide +kernel
theorem dX11_throwFor_27 : decode cX11_throwFor 27 = .ok (.ldc_w 387, 3) := by decide +kernel
theorem dX11_throwFor_30 : decode cX11_throwFor 30 = .ok (.invokespecial 298, 3) := by decide +kernel
theorem dX11_throwFor_33 : decode cX11_throwFor 33 = .ok (.athrow, 1) := by decide +kernel
theorem dX11_throwFor_34 : decode cX11_throwFor 34 = .ok (.iload_n 0, 1) := by decide +kernel
theorem dX11_throwFor_35 : decode cX11_throwFor 35 = .ok (.bipush 115, 2) := by decide +kernel
theorem dX11_throwFor_37 : decode cX11_throwFor 37 = .ok (.if_icmp .ne 14, 3) := by decide +kernel
theorem dX11_throwFor_40 : decode cX11_throwFor 40 = .ok (.new 277, 3) := by decide +kernel
theorem dX11_throwFor_43 : decode cX11_throwFor 43 = .ok (.dup, 1) := by decide +kernel
theorem dX11_throwFor_44 : decode cX11_throwFor 44 = .ok (.ldc_w 389, 3) := by decide +kernel
theorem dX11_throwFor_47 : decode cX11_throwFor 47 = .ok (.invokespecial 281, 3) := by decide +kernel
theorem dX11_throwFor_50 : decode cX11_throwFor 50 = .ok (.athrow, 1) := by decide +kernel
theorem dX11_throwFor_51 : decode cX11_throwFor 51 = .ok (.iload_n 0, 1) := by decide +kernel
theorem dX11_throwFor_52 : decode cX11_throwFor 52 = .ok (.bipush 110, 2) := by decide +kernel
theorem dX11_throwFor_54 : decode cX11_throwFor 54 = .ok (.if_icmp .ne 14, 3) := by decide +kernel
theorem dX11_throwFor_57 : decode cX11_throwFor 57 = .ok (.new 391, 3) := by decide +kernel
theorem dX11_throwFor_60 : decode cX11_throwFor 60 = .ok (.dup, 1) := by decide +kernel
theorem dX11_throwFor_61 : decode cX11_throwFor 61 = .ok (.ldc_w 393, 3) := by decide +kernel
theorem dX11_throwFor_64 : decode cX11_throwFor 64 = .ok (.invokespecial 395, 3) := by decide +kernel
theorem dX11_throwFor_67 : decode cX11_throwFor 67 = .ok (.athrow, 1) := by decide +kernel
theorem dX11_throwFor_68 : decode cX11_throwFor 68 = .ok (.iload_n 0, 1) := by decide +kernel
theorem dX11_throwFor_69 : decode cX11_throwFor 69 = .ok (.bipush 117, 2) := by decide +kernel
theorem dX11_throwFor_71 : decode cX11_throwFor 71 = .ok (.if_icmp .ne 14, 3) := by decide +kernel
theorem dX11_throwFor_74 : decode cX11_throwFor 74 = .ok (.new 313, 3) := by decide +kernel
theorem dX11_throwFor_77 : decode cX11_throwFor 77 = .ok (.dup, 1) := by decide +kernel
theorem dX11_throwFor_78 : decode cX11_throwFor 78 = .ok (.ldc_w 396, 3) := by decide +kernel
theorem dX11_throwFor_81 : decode cX11_throwFor 81 = .ok (.invokespecial 317, 3) := by decide +kernel
theorem dX11_throwFor_84 : decode cX11_throwFor 84 = .ok (.athrow, 1) := by decide +kernel
theorem dX11_throwFor_85 : decode cX11_throwFor 85 = .ok (.return_, 1) := by decide +kernel
theorem dX11_throwUnlessShip_0 : decode cX11_throwUnlessShip 0 = .ok (.aload_n 0, 1) := by decide +kernel
theorem dX11_throwUnlessShip_1 : decode cX11_throwUnlessShip 1 = .ok (.getfield 12, 3) := by decide +kernel
theorem dX11_throwUnlessShip_4 : decode cX11_throwUnlessShip 4 = .ok (.getfield 80, 3) := by decide +kernel
theorem dX11_throwUnlessShip_7 : decode cX11_throwUnlessShip 7 = .ok (.iload_n 1, 1) := by decide +kernel
theorem dX11_throwUnlessShip_8 : decode cX11_throwUnlessShip 8 = .ok (.invokevirtual 398, 3) := by decide +kernel
theorem dX11_throwUnlessShip_11 : decode cX11_throwUnlessShip 11 = .ok (.ifCond .ne 14, 3) := by decide +kernel
theorem dX11_throwUnlessShip_14 : decode cX11_throwUnlessShip 14 = .ok (.new 364, 3) := by decide +kernel
theorem dX11_throwUnlessShip_17 : decode cX11_throwUnlessShip 17 = .ok (.dup, 1) := by decide +kernel
theorem dX11_throwUnlessShip_18 : decode cX11_throwUnlessShip 18 = .ok (.ldc_w 401, 3) := by decide +kernel
theorem dX11_throwUnlessShip_21 : decode cX11_throwUnlessShip 21 = .ok (.invokespecial 368, 3) := by decide +kernel
theorem dX11_throwUnlessShip_24 : decode cX11_throwUnlessShip 24 = .ok (.athrow, 1) := by decide +kernel
theorem dX11_throwUnlessShip_25 : decode cX11_throwUnlessShip 25 = .ok (.return_, 1) := by decide +kernel
theorem dX11_throwUnlessLamp_0 : decode cX11_throwUnlessLamp 0 = .ok (.aload_n 0, 1) := by decide +kernel
theorem dX11_throwUnlessLamp_1 : decode cX11_throwUnlessLamp 1 = .ok (.getfield 12, 3) := by decide +kernel
theorem dX11_throwUnlessLamp_4 : decode cX11_throwUnlessLamp 4 = .ok (.getfield 94, 3) := by decide +kernel
theorem dX11_throwUnlessLamp_7 : decode cX11_throwUnlessLamp 7 = .ok (.iload_n 1, 1) := by decide +kernel
theorem dX11_throwUnlessLamp_8 : decode cX11_throwUnlessLamp 8 = .ok (.invokevirtual 403, 3) := by decide +kernel
theorem dX11_throwUnlessLamp_11 : decode cX11_throwUnlessLamp 11 = .ok (.ifCond .ne 14, 3) := by decide +kernel
theorem dX11_throwUnlessLamp_14 : decode cX11_throwUnlessLamp 14 = .ok (.new 364, 3) := by decide +kernel
theorem dX11_throwUnlessLamp_17 : decode cX11_throwUnlessLamp 17 = .ok (.dup, 1) := by decide +kernel
theorem dX11_throwUnlessLamp_18 : decode cX11_throwUnlessLamp 18 = .ok (.ldc_w 404, 3) := by decide +kernel
theorem dX11_throwUnlessLamp_21 : decode cX11_throwUnlessLamp 21 = .ok (.invokespecial 368, 3) := by decide +kernel
theorem dX11_throwUnlessLamp_24 : decode cX11_throwUnlessLamp 24 = .ok (.athrow, 1) := by decide +kernel
theorem dX11_throwUnlessLamp_25 : decode cX11_throwUnlessLamp 25 = .ok (.return_, 1) := by decide +kernel
theorem dX11_throwUnlessPosition_0 : decode cX11_throwUnlessPosition 0 = .ok (.iload_n 1, 1) := by decide +kernel
theorem dX11_throwUnlessPosition_1 : decode cX11_throwUnlessPosition 1 = .ok (.ifCond .lt 17, 3) := by decide +kernel
theorem dX11_throwUnlessPosition_4 : decode cX11_throwUnlessPosition 4 = .ok (.iload_n 1, 1) := by decide +kernel
theorem dX11_throwUnlessPosition_5 : decode cX11_throwUnlessPosition 5 = .ok (.aload_n 0, 1) := by decide +kernel
theorem dX11_throwUnlessPosition_6 : decode cX11_throwUnlessPosition 6 = .ok (.getfield 12, 3) := by decide +kernel
theorem dX11_throwUnlessPosition_9 : decode cX11_throwUnlessPosition 9 = .ok (.getfield 121, 3) := by decide +kernel
theorem dX11_throwUnlessPosition_12 : decode cX11_throwUnlessPosition 12 = .ok (.getfield 227, 3) := by decide +kernel
theorem dX11_throwUnlessPosition_15 : decode cX11_throwUnlessPosition 15 = .ok (.if_icmp .lt 14, 3) := by decide +kernel
theorem dX11_throwUnlessPosition_18 : decode cX11_throwUnlessPosition 18 = .ok (.new 391, 3) := by decide +kernel
theorem dX11_throwUnlessPosition_21 : decode cX11_throwUnlessPosition 21 = .ok (.dup, 1) := by decide +kernel
theorem dX11_throwUnlessPosition_22 : decode cX11_throwUnlessPosition 22 = .ok (.ldc_w 406, 3) := by decide +kernel
theorem dX11_throwUnlessPosition_25 : decode cX11_throwUnlessPosition 25 = .ok (.invokespecial 395, 3) := by decide +kernel
theorem dX11_throwUnlessPosition_28 : decode cX11_throwUnlessPosition 28 = .ok (.athrow, 1) := by decide +kernel
theorem dX11_throwUnlessPosition_29 : decode cX11_throwUnlessPosition 29 = .ok (.return_, 1) := by decide +kernel
theorem dX11_throwIfNothing_0 : decode cX11_throwIfNothing 0 = .ok (.iload_n 0, 1) := by decide +kernel
theorem dX11_throwIfNothing_1 : decode cX11_throwIfNothing 1 = .ok (.iconst (-1), 1) := by decide +kernel
theorem dX11_throwIfNothing_2 : decode cX11_throwIfNothing 2 = .ok (.if_icmp .ne 14, 3) := by decide +kernel
theorem dX11_throwIfNothing_5 : decode cX11_throwIfNothing 5 = .ok (.new 391, 3) := by decide +kernel
theorem dX11_throwIfNothing_8 : decode cX11_throwIfNothing 8 = .ok (.dup, 1) := by decide +kernel
theorem dX11_throwIfNothing_9 : decode cX11_throwIfNothing 9 = .ok (.ldc_w 408, 3) := by decide +kernel
theorem dX11_throwIfNothing_12 : decode cX11_throwIfNothing 12 = .ok (.invokespecial 395, 3) := by decide +kernel
theorem dX11_throwIfNothing_15 : decode cX11_throwIfNothing 15 = .ok (.athrow, 1) := by decide +kernel
theorem dX11_throwIfNothing_16 : decode cX11_throwIfNothing 16 = .ok (.return_, 1) := by decide +kernel
