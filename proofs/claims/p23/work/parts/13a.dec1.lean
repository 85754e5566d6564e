theorem dX0_init_0 : decode cX0_init 0 = .ok (.aload_n 0, 1) := by decide +kernel
theorem dX0_init_1 : decode cX0_init 1 = .ok (.invokespecial 3, 3) := by decide +kernel
theorem dX0_init_4 : decode cX0_init 4 = .ok (.aload_n 0, 1) := by decide +kernel
theorem dX0_init_5 : decode cX0_init 5 = .ok (.new 9, 3) := by decide +kernel
theorem dX0_init_8 : decode cX0_init 8 = .ok (.dup, 1) := by decide +kernel
theorem dX0_init_9 : decode cX0_init 9 = .ok (.bipush 12, 2) := by decide +kernel
theorem dX0_init_11 : decode cX0_init 11 = .ok (.invokespecial 11, 3) := by decide +kernel
theorem dX0_init_14 : decode cX0_init 14 = .ok (.putfield 14, 3) := by decide +kernel
theorem dX0_init_17 : decode cX0_init 17 = .ok (.aload_n 0, 1) := by decide +kernel
theorem dX0_init_18 : decode cX0_init 18 = .ok (.new 9, 3) := by decide +kernel
theorem dX0_init_21 : decode cX0_init 21 = .ok (.dup, 1) := by decide +kernel
theorem dX0_init_22 : decode cX0_init 22 = .ok (.bipush 12, 2) := by decide +kernel
theorem dX0_init_24 : decode cX0_init 24 = .ok (.invokespecial 11, 3) := by decide +kernel
theorem dX0_init_27 : decode cX0_init 27 = .ok (.putfield 20, 3) := by decide +kernel
theorem dX0_init_30 : decode cX0_init 30 = .ok (.aload_n 0, 1) := by decide +kernel
theorem dX0_init_31 : decode cX0_init 31 = .ok (.new 9, 3) := by decide +kernel
theorem dX0_init_34 : decode cX0_init 34 = .ok (.dup, 1) := by decide +kernel
theorem dX0_init_35 : decode cX0_init 35 = .ok (.bipush 12, 2) := by decide +kernel
theorem dX0_init_37 : decode cX0_init 37 = .ok (.invokespecial 11, 3) := by decide +kernel
theorem dX0_init_40 : decode cX0_init 40 = .ok (.putfield 23, 3) := by decide +kernel
theorem dX0_init_43 : decode cX0_init 43 = .ok (.aload_n 0, 1) := by decide +kernel
theorem dX0_init_44 : decode cX0_init 44 = .ok (.new 9, 3) := by decide +kernel
theorem dX0_init_47 : decode cX0_init 47 = .ok (.dup, 1) := by decide +kernel
theorem dX0_init_48 : decode cX0_init 48 = .ok (.bipush 12, 2) := by decide +kernel
theorem dX0_init_50 : decode cX0_init 50 = .ok (.invokespecial 11, 3) := by decide +kernel
theorem dX0_init_53 : decode cX0_init 53 = .ok (.putfield 26, 3) := by decide +kernel
theorem dX0_init_56 : decode cX0_init 56 = .ok (.return_, 1) := by decide +kernel
theorem dX0_read_0 : decode cX0_read 0 = .ok (.aload_n 1, 1) := by decide +kernel
theorem dX0_read_1 : decode cX0_read 1 = .ok (.iconst 0, 1) := by decide +kernel
theorem dX0_read_2 : decode cX0_read 2 = .ok (.putfield 29, 3) := by decide +kernel
theorem dX0_read_5 : decode cX0_read 5 = .ok (.aload_n 1, 1) := by decide +kernel
theorem dX0_read_6 : decode cX0_read 6 = .ok (.aload_n 0, 1) := by decide +kernel
theorem dX0_read_7 : decode cX0_read 7 = .ok (.getfield 14, 3) := by decide +kernel
theorem dX0_read_10 : decode cX0_read 10 = .ok (.invokevirtual 35, 3) := by decide +kernel
theorem dX0_read_13 : decode cX0_read 13 = .ok (.ifCond .eq 51, 3) := by decide +kernel
theorem dX0_read_16 : decode cX0_read 16 = .ok (.aload_n 1, 1) := by decide +kernel
theorem dX0_read_17 : decode cX0_read 17 = .ok (.bipush 44, 2) := by decide +kernel
theorem dX0_read_19 : decode cX0_read 19 = .ok (.invokevirtual 39, 3) := by decide +kernel
theorem dX0_read_22 : decode cX0_read 22 = .ok (.ifCond .eq 42, 3) := by decide +kernel
theorem dX0_read_25 : decode cX0_read 25 = .ok (.aload_n 1, 1) := by decide +kernel
theorem dX0_read_26 : decode cX0_read 26 = .ok (.aload_n 0, 1) := by decide +kernel
theorem dX0_read_27 : decode cX0_read 27 = .ok (.getfield 20, 3) := by decide +kernel
theorem dX0_read_30 : decode cX0_read 30 = .ok (.invokevirtual 35, 3) := by decide +kernel
theorem dX0_read_33 : decode cX0_read 33 = .ok (.ifCond .eq 31, 3) := by decide +kernel
theorem dX0_read_36 : decode cX0_read 36 = .ok (.aload_n 1, 1) := by decide +kernel
theorem dX0_read_37 : decode cX0_read 37 = .ok (.bipush 44, 2) := by decide +kernel
theorem dX0_read_39 : decode cX0_read 39 = .ok (.invokevirtual 39, 3) := by decide +kernel
theorem dX0_read_42 : decode cX0_read 42 = .ok (.ifCond .eq 22, 3) := by decide +kernel
theorem dX0_read_45 : decode cX0_read 45 = .ok (.aload_n 0, 1) := by decide +kernel
theorem dX0_read_46 : decode cX0_read 46 = .ok (.aload_n 1, 1) := by decide +kernel
theorem dX0_read_47 : decode cX0_read 47 = .ok (.invokevirtual 43, 3) := by decide +kernel
theorem dX0_read_50 : decode cX0_read 50 = .ok (.ifCond .eq 14, 3) := by decide +kernel
theorem dX0_read_53 : decode cX0_read 53 = .ok (.aload_n 1, 1) := by decide +kernel
theorem dX0_read_54 : decode cX0_read 54 = .ok (.invokevirtual 47, 3) := by decide +kernel
theorem dX0_read_57 : decode cX0_read 57 = .ok (.ifCond .eq 7, 3) := by decide +kernel
theorem dX0_read_60 : decode cX0_read 60 = .ok (.iconst 1, 1) := by decide +kernel
theorem dX0_read_61 : decode cX0_read 61 = .ok (.goto 4, 3) := by decide +kernel
theorem dX0_read_64 : decode cX0_read 64 = .ok (.iconst 0, 1) := by decide +kernel
theorem dX0_read_65 : decode cX0_read 65 = .ok (.istore_n 2, 1) := by decide +kernel
theorem dX0_read_66 : decode cX0_read 66 = .ok (.aload_n 0, 1) := by decide +kernel
theorem dX0_read_67 : decode cX0_read 67 = .ok (.getfield 23, 3) := by decide +kernel
theorem dX0_read_70 : decode cX0_read 70 = .ok (.aload_n 0, 1) := by decide +kernel
theorem dX0_read_71 : decode cX0_read 71 = .ok (.getfield 14, 3) := by decide +kernel
theorem dX0_read_74 : decode cX0_read 74 = .ok (.invokevirtual 51, 3) := by decide +kernel
theorem dX0_read_77 : decode cX0_read 77 = .ok (.aload_n 0, 1) := by decide +kernel
theorem dX0_read_78 : decode cX0_read 78 = .ok (.getfield 26, 3) := by decide +kernel
theorem dX0_read_81 : decode cX0_read 81 = .ok (.aload_n 0, 1) := by decide +kernel
theorem dX0_read_82 : decode cX0_read 82 = .ok (.getfield 20, 3) := by decide +kernel
theorem dX0_read_85 : decode cX0_read 85 = .ok (.invokevirtual 51, 3) := by decide +kernel
theorem dX0_read_88 : decode cX0_read 88 = .ok (.iload_n 2, 1) := by decide +kernel
theorem dX0_read_89 : decode cX0_read 89 = .ok (.ireturn, 1) := by decide +kernel
theorem dX0_readNumbers_0 : decode cX0_readNumbers 0 = .ok (.aload_n 0, 1) := by decide +kernel
theorem dX0_readNumbers_1 : decode cX0_readNumbers 1 = .ok (.aload_n 1, 1) := by decide +kernel
theorem dX0_readNumbers_2 : decode cX0_readNumbers 2 = .ok (.iconst 3, 1) := by decide +kernel
theorem dX0_readNumbers_3 : decode cX0_readNumbers 3 = .ok (.bipush 57, 2) := by decide +kernel
theorem dX0_readNumbers_5 : decode cX0_readNumbers 5 = .ok (.invokevirtual 55, 3) := by decide +kernel
theorem dX0_readNumbers_8 : decode cX0_readNumbers 8 = .ok (.putfield 59, 3) := by decide +kernel
theorem dX0_readNumbers_11 : decode cX0_readNumbers 11 = .ok (.aload_n 0, 1) := by decide +kernel
theorem dX0_readNumbers_12 : decode cX0_readNumbers 12 = .ok (.getfield 59, 3) := by decide +kernel
theorem dX0_readNumbers_15 : decode cX0_readNumbers 15 = .ok (.iconst (-1), 1) := by decide +kernel
theorem dX0_readNumbers_16 : decode cX0_readNumbers 16 = .ok (.if_icmp .eq 12, 3) := by decide +kernel
theorem dX0_readNumbers_19 : decode cX0_readNumbers 19 = .ok (.aload_n 1, 1) := by decide +kernel
theorem dX0_readNumbers_20 : decode cX0_readNumbers 20 = .ok (.bipush 44, 2) := by decide +kernel
theorem dX0_readNumbers_22 : decode cX0_readNumbers 22 = .ok (.invokevirtual 39, 3) := by decide +kernel
theorem dX0_readNumbers_25 : decode cX0_readNumbers 25 = .ok (.ifCond .ne 5, 3) := by decide +kernel
theorem dX0_readNumbers_28 : decode cX0_readNumbers 28 = .ok (.iconst 0, 1) := by decide +kernel
theorem dX0_readNumbers_29 : decode cX0_readNumbers 29 = .ok (.ireturn, 1) := by decide +kernel
theorem dX0_readNumbers_30 : decode cX0_readNumbers 30 = .ok (.aload_n 0, 1) := by decide +kernel
theorem dX0_readNumbers_31 : decode cX0_readNumbers 31 = .ok (.aload_n 1, 1) := by decide +kernel
theorem dX0_readNumbers_32 : decode cX0_readNumbers 32 = .ok (.iconst 1, 1) := by decide +kernel
theorem dX0_readNumbers_33 : decode cX0_readNumbers 33 = .ok (.bipush 53, 2) := by decide +kernel
theorem dX0_readNumbers_35 : decode cX0_readNumbers 35 = .ok (.invokevirtual 55, 3) := by decide +kernel
theorem dX0_readNumbers_38 : decode cX0_readNumbers 38 = .ok (.putfield 62, 3) := by decide +kernel
theorem dX0_readNumbers_41 : decode cX0_readNumbers 41 = .ok (.aload_n 0, 1) := by decide +kernel
theorem dX0_readNumbers_42 : decode cX0_readNumbers 42 = .ok (.getfield 62, 3) := by decide +kernel
theorem dX0_readNumbers_45 : decode cX0_readNumbers 45 = .ok (.iconst (-1), 1) := by decide +kernel
theorem dX0_readNumbers_46 : decode cX0_readNumbers 46 = .ok (.if_icmp .eq 12, 3) := by decide +kernel
theorem dX0_readNumbers_49 : decode cX0_readNumbers 49 = .ok (.aload_n 1, 1) := by decide +kernel
theorem dX0_readNumbers_50 : decode cX0_readNumbers 50 = .ok (.bipush 44, 2) := by decide +kernel
theorem dX0_readNumbers_52 : decode cX0_readNumbers 52 = .ok (.invokevirtual 39, 3) := by decide +kernel
theorem dX0_readNumbers_55 : decode cX0_readNumbers 55 = .ok (.ifCond .ne 5, 3) := by decide +kernel
theorem dX0_readNumbers_58 : decode cX0_readNumbers 58 = .ok (.iconst 0, 1) := by decide +kernel
theorem dX0_readNumbers_59 : decode cX0_readNumbers 59 = .ok (.ireturn, 1) := by decide +kernel
theorem dX0_readNumbers_60 : decode cX0_readNumbers 60 = .ok (.aload_n 0, 1) := by decide +kernel
theorem dX0_readNumbers_61 : decode cX0_readNumbers 61 = .ok (.aload_n 1, 1) := by decide +kernel
theorem dX0_readNumbers_62 : decode cX0_readNumbers 62 = .ok (.iconst 2, 1) := by decide +kernel
theorem dX0_readNumbers_63 : decode cX0_readNumbers 63 = .ok (.bipush 57, 2) := by decide +kernel
theorem dX0_readNumbers_65 : decode cX0_readNumbers 65 = .ok (.invokevirtual 55, 3) := by decide +kernel
theorem dX0_readNumbers_68 : decode cX0_readNumbers 68 = .ok (.putfield 65, 3) := by decide +kernel
theorem dX0_readNumbers_71 : decode cX0_readNumbers 71 = .ok (.aload_n 0, 1) := by decide +kernel
theorem dX0_readNumbers_72 : decode cX0_readNumbers 72 = .ok (.getfield 65, 3) := by decide +kernel
theorem dX0_readNumbers_75 : decode cX0_readNumbers 75 = .ok (.iconst (-1), 1) := by decide +kernel
theorem dX0_readNumbers_76 : decode cX0_readNumbers 76 = .ok (.if_icmp .eq 7, 3) := by decide +kernel
theorem dX0_readNumbers_79 : decode cX0_readNumbers 79 = .ok (.iconst 1, 1) := by decide +kernel
theorem dX0_readNumbers_80 : decode cX0_readNumbers 80 = .ok (.goto 4, 3) := by decide +kernel
theorem dX0_readNumbers_83 : decode cX0_readNumbers 83 = .ok (.iconst 0, 1) := by decide +kernel
theorem dX0_readNumbers_84 : decode cX0_readNumbers 84 = .ok (.ireturn, 1) := by decide +kernel
theorem dX1_init_0 : decode cX1_init 0 = .ok (.aload_n 0, 1) := by decide +kernel
theorem dX1_init_1 : decode cX1_init 1 = .ok (.invokespecial 3, 3) := by decide +kernel
theorem dX1_init_4 : decode cX1_init 4 = .ok (.aload_n 0, 1) := by decide +kernel
theorem dX1_init_5 : decode cX1_init 5 = .ok (.bipush 12, 2) := by decide +kernel
theorem dX1_init_7 : decode cX1_init 7 = .ok (.anewarray 9, 3) := by decide +kernel
theorem dX1_init_10 : decode cX1_init 10 = .ok (.putfield 11, 3) := by decide +kernel
theorem dX1_init_13 : decode cX1_init 13 = .ok (.aload_n 0, 1) := by decide +kernel
theorem dX1_init_14 : decode cX1_init 14 = .ok (.new 9, 3) := by decide +kernel
theorem dX1_init_17 : decode cX1_init 17 = .ok (.dup, 1) := by decide +kernel
theorem dX1_init_18 : decode cX1_init 18 = .ok (.invokespecial 17, 3) := by decide +kernel
theorem dX1_init_21 : decode cX1_init 21 = .ok (.putfield 18, 3) := by decide +kernel
theorem dX1_init_24 : decode cX1_init 24 = .ok (.aload_n 0, 1) := by decide +kernel
theorem dX1_init_25 : decode cX1_init 25 = .ok (.bipush 12, 2) := by decide +kernel
theorem dX1_init_27 : decode cX1_init 27 = .ok (.newarray .int, 2) := by decide +kernel
theorem dX1_init_29 : decode cX1_init 29 = .ok (.putfield 22, 3) := by decide +kernel
theorem dX1_init_32 : decode cX1_init 32 = .ok (.aload_n 0, 1) := by decide +kernel
theorem dX1_init_33 : decode cX1_init 33 = .ok (.bipush 12, 2) := by decide +kernel
theorem dX1_init_35 : decode cX1_init 35 = .ok (.newarray .int, 2) := by decide +kernel
theorem dX1_init_37 : decode cX1_init 37 = .ok (.putfield 26, 3) := by decide +kernel
theorem dX1_init_40 : decode cX1_init 40 = .ok (.aload_n 0, 1) := by decide +kernel
theorem dX1_init_41 : decode cX1_init 41 = .ok (.bipush 12, 2) := by decide +kernel
theorem dX1_init_43 : decode cX1_init 43 = .ok (.newarray .int, 2) := by decide +kernel
theorem dX1_init_45 : decode cX1_init 45 = .ok (.putfield 29, 3) := by decide +kernel
theorem dX1_init_48 : decode cX1_init 48 = .ok (.iconst 0, 1) := by decide +kernel
theorem dX1_init_49 : decode cX1_init 49 = .ok (.istore_n 1, 1) := by decide +kernel
theorem dX1_init_50 : decode cX1_init 50 = .ok (.iload_n 1, 1) := by decide +kernel
theorem dX1_init_51 : decode cX1_init 51 = .ok (.bipush 12, 2) := by decide +kernel
theorem dX1_init_53 : decode cX1_init 53 = .ok (.if_icmp .ge 22, 3) := by decide +kernel
theorem dX1_init_56 : decode cX1_init 56 = .ok (.aload_n 0, 1) := by decide +kernel
theorem dX1_init_57 : decode cX1_init 57 = .ok (.getfield 11, 3) := by decide +kernel
theorem dX1_init_60 : decode cX1_init 60 = .ok (.iload_n 1, 1) := by decide +kernel
theorem dX1_init_61 : decode cX1_init 61 = .ok (.new 9, 3) := by decide +kernel
theorem dX1_init_64 : decode cX1_init 64 = .ok (.dup, 1) := by decide +kernel
theorem dX1_init_65 : decode cX1_init 65 = .ok (.invokespecial 17, 3) := by decide +kernel
theorem dX1_init_68 : decode cX1_init 68 = .ok (.aastore, 1) := by decide +kernel
theorem dX1_init_69 : decode cX1_init 69 = .ok (.iinc 1 1, 3) := by decide +kernel
theorem dX1_init_72 : decode cX1_init 72 = .ok (.goto (-22), 3) := by decide +kernel
theorem dX1_init_75 : decode cX1_init 75 = .ok (.return_, 1) := by decide +kernel
theorem dX1_readAddress_0 : decode cX1_readAddress 0 = .ok (.aload_n 0, 1) := by decide +kernel
theorem dX1_readAddress_1 : decode cX1_readAddress 1 = .ok (.getfield 18, 3) := by decide +kernel
theorem dX1_readAddress_4 : decode cX1_readAddress 4 = .ok (.aload_n 1, 1) := by decide +kernel
theorem dX1_readAddress_5 : decode cX1_readAddress 5 = .ok (.invokevirtual 32, 3) := by decide +kernel
theorem dX1_readAddress_8 : decode cX1_readAddress 8 = .ok (.istore_n 3, 1) := by decide +kernel
theorem dX1_readAddress_9 : decode cX1_readAddress 9 = .ok (.iload_n 3, 1) := by decide +kernel
theorem dX1_readAddress_10 : decode cX1_readAddress 10 = .ok (.ifCond .eq 51, 3) := by decide +kernel
theorem dX1_readAddress_13 : decode cX1_readAddress 13 = .ok (.iload_n 2, 1) := by decide +kernel
theorem dX1_readAddress_14 : decode cX1_readAddress 14 = .ok (.ifCond .lt 47, 3) := by decide +kernel
theorem dX1_readAddress_17 : decode cX1_readAddress 17 = .ok (.iload_n 2, 1) := by decide +kernel
theorem dX1_readAddress_18 : decode cX1_readAddress 18 = .ok (.bipush 12, 2) := by decide +kernel
theorem dX1_readAddress_20 : decode cX1_readAddress 20 = .ok (.if_icmp .ge 41, 3) := by decide +kernel
theorem dX1_readAddress_23 : decode cX1_readAddress 23 = .ok (.aload_n 0, 1) := by decide +kernel
theorem dX1_readAddress_24 : decode cX1_readAddress 24 = .ok (.getfield 11, 3) := by decide +kernel
theorem dX1_readAddress_27 : decode cX1_readAddress 27 = .ok (.iload_n 2, 1) := by decide +kernel
theorem dX1_readAddress_28 : decode cX1_readAddress 28 = .ok (.aaload, 1) := by decide +kernel
theorem dX1_readAddress_29 : decode cX1_readAddress 29 = .ok (.astore 4, 2) := by decide +kernel
theorem dX1_readAddress_31 : decode cX1_readAddress 31 = .ok (.aload_n 0, 1) := by decide +kernel
theorem dX1_readAddress_32 : decode cX1_readAddress 32 = .ok (.getfield 11, 3) := by decide +kernel
theorem dX1_readAddress_35 : decode cX1_readAddress 35 = .ok (.iload_n 2, 1) := by decide +kernel
theorem dX1_readAddress_36 : decode cX1_readAddress 36 = .ok (.aload_n 0, 1) := by decide +kernel
theorem dX1_readAddress_37 : decode cX1_readAddress 37 = .ok (.getfield 18, 3) := by decide +kernel
theorem dX1_readAddress_40 : decode cX1_readAddress 40 = .ok (.aastore, 1) := by decide +kernel
theorem dX1_readAddress_41 : decode cX1_readAddress 41 = .ok (.aload_n 0, 1) := by decide +kernel
theorem dX1_readAddress_42 : decode cX1_readAddress 42 = .ok (.aload 4, 2) := by decide +kernel
theorem dX1_readAddress_44 : decode cX1_readAddress 44 = .ok (.putfield 18, 3) := by decide +kernel
theorem dX1_readAddress_47 : decode cX1_readAddress 47 = .ok (.aload_n 0, 1) := by decide +kernel
theorem dX1_readAddress_48 : decode cX1_readAddress 48 = .ok (.aload_n 0, 1) := by decide +kernel
theorem dX1_readAddress_49 : decode cX1_readAddress 49 = .ok (.getfield 36, 3) := by decide +kernel
theorem dX1_readAddress_52 : decode cX1_readAddress 52 = .ok (.iload_n 2, 1) := by decide +kernel
theorem dX1_readAddress_53 : decode cX1_readAddress 53 = .ok (.iconst 1, 1) := by decide +kernel
theorem dX1_readAddress_54 : decode cX1_readAddress 54 = .ok (.iadd, 1) := by decide +kernel
theorem dX1_readAddress_55 : decode cX1_readAddress 55 = .ok (.invokestatic 40, 3) := by decide +kernel
theorem dX1_readAddress_58 : decode cX1_readAddress 58 = .ok (.putfield 36, 3) := by decide +kernel
theorem dX1_readAddress_61 : decode cX1_readAddress 61 = .ok (.iload_n 3, 1) := by decide +kernel
theorem dX1_readAddress_62 : decode cX1_readAddress 62 = .ok (.ireturn, 1) := by decide +kernel
theorem dX1_hasMatch_0 : decode cX1_hasMatch 0 = .ok (.iload_n 1, 1) := by decide +kernel
theorem dX1_hasMatch_1 : decode cX1_hasMatch 1 = .ok (.ifCond .lt 22, 3) := by decide +kernel
theorem dX1_hasMatch_4 : decode cX1_hasMatch 4 = .ok (.iload_n 1, 1) := by decide +kernel
theorem dX1_hasMatch_5 : decode cX1_hasMatch 5 = .ok (.bipush 12, 2) := by decide +kernel
theorem dX1_hasMatch_7 : decode cX1_hasMatch 7 = .ok (.if_icmp .ge 16, 3) := by decide +kernel
theorem dX1_hasMatch_10 : decode cX1_hasMatch 10 = .ok (.aload_n 0, 1) := by decide +kernel
theorem dX1_hasMatch_11 : decode cX1_hasMatch 11 = .ok (.getfield 22, 3) := by decide +kernel
theorem dX1_hasMatch_14 : decode cX1_hasMatch 14 = .ok (.iload_n 1, 1) := by decide +kernel
theorem dX1_hasMatch_15 : decode cX1_hasMatch 15 = .ok (.iaload, 1) := by decide +kernel
theorem dX1_hasMatch_16 : decode cX1_hasMatch 16 = .ok (.ifCond .eq 7, 3) := by decide +kernel
theorem dX1_hasMatch_19 : decode cX1_hasMatch 19 = .ok (.iconst 1, 1) := by decide +kernel
theorem dX1_hasMatch_20 : decode cX1_hasMatch 20 = .ok (.goto 4, 3) := by decide +kernel
theorem dX1_hasMatch_23 : decode cX1_hasMatch 23 = .ok (.iconst 0, 1) := by decide +kernel
theorem dX1_hasMatch_24 : decode cX1_hasMatch 24 = .ok (.ireturn, 1) := by decide +kernel
theorem dX1_areMatched_0 : decode cX1_areMatched 0 = .ok (.iload_n 1, 1) := by decide +kernel
theorem dX1_areMatched_1 : decode cX1_areMatched 1 = .ok (.ifCond .lt 26, 3) := by decide +kernel
theorem dX1_areMatched_4 : decode cX1_areMatched 4 = .ok (.iload_n 1, 1) := by decide +kernel
theorem dX1_areMatched_5 : decode cX1_areMatched 5 = .ok (.bipush 12, 2) := by decide +kernel
theorem dX1_areMatched_7 : decode cX1_areMatched 7 = .ok (.if_icmp .ge 20, 3) := by decide +kernel
theorem dX1_areMatched_10 : decode cX1_areMatched 10 = .ok (.aload_n 0, 1) := by decide +kernel
theorem dX1_areMatched_11 : decode cX1_areMatched 11 = .ok (.getfield 22, 3) := by decide +kernel
theorem dX1_areMatched_14 : decode cX1_areMatched 14 = .ok (.iload_n 1, 1) := by decide +kernel
theorem dX1_areMatched_15 : decode cX1_areMatched 15 = .ok (.iaload, 1) := by decide +kernel
theorem dX1_areMatched_16 : decode cX1_areMatched 16 = .ok (.iconst 1, 1) := by decide +kernel
theorem dX1_areMatched_17 : decode cX1_areMatched 17 = .ok (.iload_n 2, 1) := by decide +kernel
theorem dX1_areMatched_18 : decode cX1_areMatched 18 = .ok (.ishl, 1) := by decide +kernel
theorem dX1_areMatched_19 : decode cX1_areMatched 19 = .ok (.iand, 1) := by decide +kernel
theorem dX1_areMatched_20 : decode cX1_areMatched 20 = .ok (.ifCond .eq 7, 3) := by decide +kernel
theorem dX1_areMatched_23 : decode cX1_areMatched 23 = .ok (.iconst 1, 1) := by decide +kernel
theorem dX1_areMatched_24 : decode cX1_areMatched 24 = .ok (.goto 4, 3) := by decide +kernel
theorem dX1_areMatched_27 : decode cX1_areMatched 27 = .ok (.iconst 0, 1) := by decide +kernel
theorem dX1_areMatched_28 : decode cX1_areMatched 28 = .ok (.ireturn, 1) := by decide +kernel
theorem dX1_turnMatch_0 : decode cX1_turnMatch 0 = .ok (.iload_n 1, 1) := by decide +kernel
theorem dX1_turnMatch_1 : decode cX1_turnMatch 1 = .ok (.ifCond .lt 43, 3) := by decide +kernel
theorem dX1_turnMatch_4 : decode cX1_turnMatch 4 = .ok (.iload_n 1, 1) := by decide +kernel
theorem dX1_turnMatch_5 : decode cX1_turnMatch 5 = .ok (.bipush 12, 2) := by decide +kernel
theorem dX1_turnMatch_7 : decode cX1_turnMatch 7 = .ok (.if_icmp .ge 37, 3) := by decide +kernel
theorem dX1_turnMatch_10 : decode cX1_turnMatch 10 = .ok (.iload_n 2, 1) := by decide +kernel
theorem dX1_turnMatch_11 : decode cX1_turnMatch 11 = .ok (.ifCond .lt 33, 3) := by decide +kernel
theorem dX1_turnMatch_14 : decode cX1_turnMatch 14 = .ok (.iload_n 2, 1) := by decide +kernel
theorem dX1_turnMatch_15 : decode cX1_turnMatch 15 = .ok (.bipush 12, 2) := by decide +kernel
theorem dX1_turnMatch_17 : decode cX1_turnMatch 17 = .ok (.if_icmp .ge 27, 3) := by decide +kernel
theorem dX1_turnMatch_20 : decode cX1_turnMatch 20 = .ok (.aload_n 0, 1) := by decide +kernel
theorem dX1_turnMatch_21 : decode cX1_turnMatch 21 = .ok (.getfield 22, 3) := by decide +kernel
theorem dX1_turnMatch_24 : decode cX1_turnMatch 24 = .ok (.iload_n 1, 1) := by decide +kernel
theorem dX1_turnMatch_25 : decode cX1_turnMatch 25 = .ok (.dup2, 1) := by decide +kernel
theorem dX1_turnMatch_26 : decode cX1_turnMatch 26 = .ok (.iaload, 1) := by decide +kernel
theorem dX1_turnMatch_27 : decode cX1_turnMatch 27 = .ok (.iconst 1, 1) := by decide +kernel
theorem dX1_turnMatch_28 : decode cX1_turnMatch 28 = .ok (.iload_n 2, 1) := by decide +kernel
theorem dX1_turnMatch_29 : decode cX1_turnMatch 29 = .ok (.ishl, 1) := by decide +kernel
theorem dX1_turnMatch_30 : decode cX1_turnMatch 30 = .ok (.ixor, 1) := by decide +kernel
theorem dX1_turnMatch_31 : decode cX1_turnMatch 31 = .ok (.iastore, 1) := by decide +kernel
theorem dX1_turnMatch_32 : decode cX1_turnMatch 32 = .ok (.aload_n 0, 1) := by decide +kernel
theorem dX1_turnMatch_33 : decode cX1_turnMatch 33 = .ok (.getfield 22, 3) := by decide +kernel
theorem dX1_turnMatch_36 : decode cX1_turnMatch 36 = .ok (.iload_n 2, 1) := by decide +kernel
theorem dX1_turnMatch_37 : decode cX1_turnMatch 37 = .ok (.dup2, 1) := by decide +kernel
theorem dX1_turnMatch_38 : decode cX1_turnMatch 38 = .ok (.iaload, 1) := by decide +kernel
theorem dX1_turnMatch_39 : decode cX1_turnMatch 39 = .ok (.iconst 1, 1) := by decide +kernel
theorem dX1_turnMatch_40 : decode cX1_turnMatch 40 = .ok (.iload_n 1, 1) := by decide +kernel
theorem dX1_turnMatch_41 : decode cX1_turnMatch 41 = .ok (.ishl, 1) := by decide +kernel
theorem dX1_turnMatch_42 : decode cX1_turnMatch 42 = .ok (.ixor, 1) := by decide +kernel
theorem dX1_turnMatch_43 : decode cX1_turnMatch 43 = .ok (.iastore, 1) := by decide +kernel
theorem dX1_turnMatch_44 : decode cX1_turnMatch 44 = .ok (.return_, 1) := by decide +kernel
theorem dX1_groupOf_0 : decode cX1_groupOf 0 = .ok (.iconst 1, 1) := by decide +kernel
theorem dX1_groupOf_1 : decode cX1_groupOf 1 = .ok (.iload_n 1, 1) := by decide +kernel
theorem dX1_groupOf_2 : decode cX1_groupOf 2 = .ok (.ishl, 1) := by decide +kernel
theorem dX1_groupOf_3 : decode cX1_groupOf 3 = .ok (.istore_n 2, 1) := by decide +kernel
theorem dX1_groupOf_4 : decode cX1_groupOf 4 = .ok (.iconst 0, 1) := by decide +kernel
theorem dX1_groupOf_5 : decode cX1_groupOf 5 = .ok (.istore_n 3, 1) := by decide +kernel
theorem dX1_groupOf_6 : decode cX1_groupOf 6 = .ok (.iconst 0, 1) := by decide +kernel
theorem dX1_groupOf_7 : decode cX1_groupOf 7 = .ok (.istore 4, 2) := by decide +kernel
theorem dX1_groupOf_9 : decode cX1_groupOf 9 = .ok (.iload 4, 2) := by decide +kernel
theorem dX1_groupOf_11 : decode cX1_groupOf 11 = .ok (.bipush 12, 2) := by decide +kernel
theorem dX1_groupOf_13 : decode cX1_groupOf 13 = .ok (.if_icmp .ge 24, 3) := by decide +kernel
theorem dX1_groupOf_16 : decode cX1_groupOf 16 = .ok (.iload_n 2, 1) := by decide +kernel
theorem dX1_groupOf_17 : decode cX1_groupOf 17 = .ok (.iload_n 3, 1) := by decide +kernel
theorem dX1_groupOf_18 : decode cX1_groupOf 18 = .ok (.if_icmp .eq 19, 3) := by decide +kernel
theorem dX1_groupOf_21 : decode cX1_groupOf 21 = .ok (.iload_n 2, 1) := by decide +kernel
theorem dX1_groupOf_22 : decode cX1_groupOf 22 = .ok (.istore_n 3, 1) := by decide +kernel
theorem dX1_groupOf_23 : decode cX1_groupOf 23 = .ok (.iload_n 2, 1) := by decide +kernel
theorem dX1_groupOf_24 : decode cX1_groupOf 24 = .ok (.aload_n 0, 1) := by decide +kernel
theorem dX1_groupOf_25 : decode cX1_groupOf 25 = .ok (.iload_n 2, 1) := by decide +kernel
theorem dX1_groupOf_26 : decode cX1_groupOf 26 = .ok (.invokevirtual 46, 3) := by decide +kernel
theorem dX1_groupOf_29 : decode cX1_groupOf 29 = .ok (.ior, 1) := by decide +kernel
theorem dX1_groupOf_30 : decode cX1_groupOf 30 = .ok (.istore_n 2, 1) := by decide +kernel
theorem dX1_groupOf_31 : decode cX1_groupOf 31 = .ok (.iinc 4 1, 3) := by decide +kernel
theorem dX1_groupOf_34 : decode cX1_groupOf 34 = .ok (.goto (-25), 3) := by decide +kernel
theorem dX1_groupOf_37 : decode cX1_groupOf 37 = .ok (.iload_n 2, 1) := by decide +kernel
theorem dX1_groupOf_38 : decode cX1_groupOf 38 = .ok (.ireturn, 1) := by decide +kernel
theorem dX1_matchesOf_0 : decode cX1_matchesOf 0 = .ok (.iconst 0, 1) := by decide +kernel
theorem dX1_matchesOf_1 : decode cX1_matchesOf 1 = .ok (.istore_n 2, 1) := by decide +kernel
theorem dX1_matchesOf_2 : decode cX1_matchesOf 2 = .ok (.iconst 0, 1) := by decide +kernel
theorem dX1_matchesOf_3 : decode cX1_matchesOf 3 = .ok (.istore_n 3, 1) := by decide +kernel
theorem dX1_matchesOf_4 : decode cX1_matchesOf 4 = .ok (.iload_n 3, 1) := by decide +kernel
theorem dX1_matchesOf_5 : decode cX1_matchesOf 5 = .ok (.bipush 12, 2) := by decide +kernel
theorem dX1_matchesOf_7 : decode cX1_matchesOf 7 = .ok (.if_icmp .ge 26, 3) := by decide +kernel
theorem dX1_matchesOf_10 : decode cX1_matchesOf 10 = .ok (.iload_n 1, 1) := by decide +kernel
theorem dX1_matchesOf_11 : decode cX1_matchesOf 11 = .ok (.iconst 1, 1) := by decide +kernel
theorem dX1_matchesOf_12 : decode cX1_matchesOf 12 = .ok (.iload_n 3, 1) := by decide +kernel
theorem dX1_matchesOf_13 : decode cX1_matchesOf 13 = .ok (.ishl, 1) := by decide +kernel
theorem dX1_matchesOf_14 : decode cX1_matchesOf 14 = .ok (.iand, 1) := by decide +kernel
theorem dX1_matchesOf_15 : decode cX1_matchesOf 15 = .ok (.ifCond .eq 12, 3) := by decide +kernel
theorem dX1_matchesOf_18 : decode cX1_matchesOf 18 = .ok (.iload_n 2, 1) := by decide +kernel
theorem dX1_matchesOf_19 : decode cX1_matchesOf 19 = .ok (.aload_n 0, 1) := by decide +kernel
theorem dX1_matchesOf_20 : decode cX1_matchesOf 20 = .ok (.getfield 22, 3) := by decide +kernel
theorem dX1_matchesOf_23 : decode cX1_matchesOf 23 = .ok (.iload_n 3, 1) := by decide +kernel
theorem dX1_matchesOf_24 : decode cX1_matchesOf 24 = .ok (.iaload, 1) := by decide +kernel
theorem dX1_matchesOf_25 : decode cX1_matchesOf 25 = .ok (.ior, 1) := by decide +kernel
theorem dX1_matchesOf_26 : decode cX1_matchesOf 26 = .ok (.istore_n 2, 1) := by decide +kernel
theorem dX1_matchesOf_27 : decode cX1_matchesOf 27 = .ok (.iinc 3 1, 3) := by decide +kernel
theorem dX1_matchesOf_30 : decode cX1_matchesOf 30 = .ok (.goto (-26), 3) := by decide +kernel
theorem dX1_matchesOf_33 : decode cX1_matchesOf 33 = .ok (.iload_n 2, 1) := by decide +kernel
theorem dX1_matchesOf_34 : decode cX1_matchesOf 34 = .ok (.ireturn, 1) := by decide +kernel
theorem dX1_listDue_0 : decode cX1_listDue 0 = .ok (.iconst 0, 1) := by decide +kernel
theorem dX1_listDue_1 : decode cX1_listDue 1 = .ok (.istore_n 2, 1) := by decide +kernel
theorem dX1_listDue_2 : decode cX1_listDue 2 = .ok (.iconst 0, 1) := by decide +kernel
theorem dX1_listDue_3 : decode cX1_listDue 3 = .ok (.istore_n 3, 1) := by decide +kernel
theorem dX1_listDue_4 : decode cX1_listDue 4 = .ok (.iload_n 3, 1) := by decide +kernel
theorem dX1_listDue_5 : decode cX1_listDue 5 = .ok (.aload_n 0, 1) := by decide +kernel
theorem dX1_listDue_6 : decode cX1_listDue 6 = .ok (.getfield 36, 3) := by decide +kernel
theorem dX1_listDue_9 : decode cX1_listDue 9 = .ok (.if_icmp .ge 66, 3) := by decide +kernel
theorem dX1_listDue_12 : decode cX1_listDue 12 = .ok (.iload_n 2, 1) := by decide +kernel
theorem dX1_listDue_13 : decode cX1_listDue 13 = .ok (.bipush 12, 2) := by decide +kernel
theorem dX1_listDue_15 : decode cX1_listDue 15 = .ok (.if_icmp .ge 60, 3) := by decide +kernel
theorem dX1_listDue_18 : decode cX1_listDue 18 = .ok (.aload_n 0, 1) := by decide +kernel
theorem dX1_listDue_19 : decode cX1_listDue 19 = .ok (.iload_n 3, 1) := by decide +kernel
theorem dX1_listDue_20 : decode cX1_listDue 20 = .ok (.invokevirtual 50, 3) := by decide +kernel
theorem dX1_listDue_23 : decode cX1_listDue 23 = .ok (.istore 4, 2) := by decide +kernel
theorem dX1_listDue_25 : decode cX1_listDue 25 = .ok (.iload 4, 2) := by decide +kernel
theorem dX1_listDue_27 : decode cX1_listDue 27 = .ok (.iconst 1, 1) := by decide +kernel
theorem dX1_listDue_28 : decode cX1_listDue 28 = .ok (.iload_n 3, 1) := by decide +kernel
theorem dX1_listDue_29 : decode cX1_listDue 29 = .ok (.ishl, 1) := by decide +kernel
theorem dX1_listDue_30 : decode cX1_listDue 30 = .ok (.iconst 1, 1) := by decide +kernel
theorem dX1_listDue_31 : decode cX1_listDue 31 = .ok (.isub, 1) := by decide +kernel
theorem dX1_listDue_32 : decode cX1_listDue 32 = .ok (.iand, 1) := by decide +kernel
theorem dX1_listDue_33 : decode cX1_listDue 33 = .ok (.ifCond .ne 7, 3) := by decide +kernel
theorem dX1_listDue_36 : decode cX1_listDue 36 = .ok (.iconst 1, 1) := by decide +kernel
theorem dX1_listDue_37 : decode cX1_listDue 37 = .ok (.goto 4, 3) := by decide +kernel
theorem dX1_listDue_40 : decode cX1_listDue 40 = .ok (.iconst 0, 1) := by decide +kernel
theorem dX1_listDue_41 : decode cX1_listDue 41 = .ok (.istore 5, 2) := by decide +kernel
theorem dX1_listDue_43 : decode cX1_listDue 43 = .ok (.iload 5, 2) := by decide +kernel
theorem dX1_listDue_45 : decode cX1_listDue 45 = .ok (.ifCond .eq 24, 3) := by decide +kernel
theorem dX1_listDue_48 : decode cX1_listDue 48 = .ok (.aload_n 0, 1) := by decide +kernel
theorem dX1_listDue_49 : decode cX1_listDue 49 = .ok (.iload 4, 2) := by decide +kernel
theorem dX1_listDue_51 : decode cX1_listDue 51 = .ok (.iload_n 1, 1) := by decide +kernel
theorem dX1_listDue_52 : decode cX1_listDue 52 = .ok (.invokevirtual 53, 3) := by decide +kernel
theorem dX1_listDue_55 : decode cX1_listDue 55 = .ok (.ifCond .ne 14, 3) := by decide +kernel
theorem dX1_listDue_58 : decode cX1_listDue 58 = .ok (.aload_n 0, 1) := by decide +kernel
theorem dX1_listDue_59 : decode cX1_listDue 59 = .ok (.getfield 29, 3) := by decide +kernel
theorem dX1_listDue_62 : decode cX1_listDue 62 = .ok (.iload_n 2, 1) := by decide +kernel
theorem dX1_listDue_63 : decode cX1_listDue 63 = .ok (.iload 4, 2) := by decide +kernel
theorem dX1_listDue_65 : decode cX1_listDue 65 = .ok (.iastore, 1) := by decide +kernel
theorem dX1_listDue_66 : decode cX1_listDue 66 = .ok (.iinc 2 1, 3) := by decide +kernel
theorem dX1_listDue_69 : decode cX1_listDue 69 = .ok (.iinc 3 1, 3) := by decide +kernel
theorem dX1_listDue_72 : decode cX1_listDue 72 = .ok (.goto (-68), 3) := by decide +kernel
theorem dX1_listDue_75 : decode cX1_listDue 75 = .ok (.iload_n 2, 1) := by decide +kernel
theorem dX1_listDue_76 : decode cX1_listDue 76 = .ok (.ireturn, 1) := by decide +kernel
theorem dX1_dueAt_0 : decode cX1_dueAt 0 = .ok (.iload_n 1, 1) := by decide +kernel
theorem dX1_dueAt_1 : decode cX1_dueAt 1 = .ok (.ifCond .lt 18, 3) := by decide +kernel
theorem dX1_dueAt_4 : decode cX1_dueAt 4 = .ok (.iload_n 1, 1) := by decide +kernel
theorem dX1_dueAt_5 : decode cX1_dueAt 5 = .ok (.bipush 12, 2) := by decide +kernel
theorem dX1_dueAt_7 : decode cX1_dueAt 7 = .ok (.if_icmp .ge 12, 3) := by decide +kernel
theorem dX1_dueAt_10 : decode cX1_dueAt 10 = .ok (.aload_n 0, 1) := by decide +kernel
theorem dX1_dueAt_11 : decode cX1_dueAt 11 = .ok (.getfield 29, 3) := by decide +kernel
theorem dX1_dueAt_14 : decode cX1_dueAt 14 = .ok (.iload_n 1, 1) := by decide +kernel
theorem dX1_dueAt_15 : decode cX1_dueAt 15 = .ok (.iaload, 1) := by decide +kernel
theorem dX1_dueAt_16 : decode cX1_dueAt 16 = .ok (.goto 4, 3) := by decide +kernel
theorem dX1_dueAt_19 : decode cX1_dueAt 19 = .ok (.iconst 0, 1) := by decide +kernel
theorem dX1_dueAt_20 : decode cX1_dueAt 20 = .ok (.ireturn, 1) := by decide +kernel
theorem dX1_wasPosted_0 : decode cX1_wasPosted 0 = .ok (.iconst 0, 1) := by decide +kernel
theorem dX1_wasPosted_1 : decode cX1_wasPosted 1 = .ok (.istore_n 3, 1) := by decide +kernel
theorem dX1_wasPosted_2 : decode cX1_wasPosted 2 = .ok (.iload_n 3, 1) := by decide +kernel
theorem dX1_wasPosted_3 : decode cX1_wasPosted 3 = .ok (.bipush 12, 2) := by decide +kernel
theorem dX1_wasPosted_5 : decode cX1_wasPosted 5 = .ok (.if_icmp .ge 32, 3) := by decide +kernel
theorem dX1_wasPosted_8 : decode cX1_wasPosted 8 = .ok (.iload_n 1, 1) := by decide +kernel
theorem dX1_wasPosted_9 : decode cX1_wasPosted 9 = .ok (.iconst 1, 1) := by decide +kernel
theorem dX1_wasPosted_10 : decode cX1_wasPosted 10 = .ok (.iload_n 3, 1) := by decide +kernel
theorem dX1_wasPosted_11 : decode cX1_wasPosted 11 = .ok (.ishl, 1) := by decide +kernel
theorem dX1_wasPosted_12 : decode cX1_wasPosted 12 = .ok (.iand, 1) := by decide +kernel
theorem dX1_wasPosted_13 : decode cX1_wasPosted 13 = .ok (.ifCond .eq 18, 3) := by decide +kernel
theorem dX1_wasPosted_16 : decode cX1_wasPosted 16 = .ok (.aload_n 0, 1) := by decide +kernel
theorem dX1_wasPosted_17 : decode cX1_wasPosted 17 = .ok (.getfield 26, 3) := by decide +kernel
theorem dX1_wasPosted_20 : decode cX1_wasPosted 20 = .ok (.iload_n 3, 1) := by decide +kernel
theorem dX1_wasPosted_21 : decode cX1_wasPosted 21 = .ok (.iaload, 1) := by decide +kernel
theorem dX1_wasPosted_22 : decode cX1_wasPosted 22 = .ok (.iconst 1, 1) := by decide +kernel
theorem dX1_wasPosted_23 : decode cX1_wasPosted 23 = .ok (.iload_n 2, 1) := by decide +kernel
theorem dX1_wasPosted_24 : decode cX1_wasPosted 24 = .ok (.ishl, 1) := by decide +kernel
theorem dX1_wasPosted_25 : decode cX1_wasPosted 25 = .ok (.iand, 1) := by decide +kernel
theorem dX1_wasPosted_26 : decode cX1_wasPosted 26 = .ok (.ifCond .eq 5, 3) := by decide +kernel
theorem dX1_wasPosted_29 : decode cX1_wasPosted 29 = .ok (.iconst 1, 1) := by decide +kernel
theorem dX1_wasPosted_30 : decode cX1_wasPosted 30 = .ok (.ireturn, 1) := by decide +kernel
theorem dX1_wasPosted_31 : decode cX1_wasPosted 31 = .ok (.iinc 3 1, 3) := by decide +kernel
theorem dX1_wasPosted_34 : decode cX1_wasPosted 34 = .ok (.goto (-32), 3) := by decide +kernel
theorem dX1_wasPosted_37 : decode cX1_wasPosted 37 = .ok (.iconst 0, 1) := by decide +kernel
theorem dX1_wasPosted_38 : decode cX1_wasPosted 38 = .ok (.ireturn, 1) := by decide +kernel
theorem dX1_notePosted_0 : decode cX1_notePosted 0 = .ok (.iconst 0, 1) := by decide +kernel
theorem dX1_notePosted_1 : decode cX1_notePosted 1 = .ok (.istore_n 3, 1) := by decide +kernel
theorem dX1_notePosted_2 : decode cX1_notePosted 2 = .ok (.iload_n 3, 1) := by decide +kernel
theorem dX1_notePosted_3 : decode cX1_notePosted 3 = .ok (.bipush 12, 2) := by decide +kernel
theorem dX1_notePosted_5 : decode cX1_notePosted 5 = .ok (.if_icmp .ge 29, 3) := by decide +kernel
theorem dX1_notePosted_8 : decode cX1_notePosted 8 = .ok (.iload_n 1, 1) := by decide +kernel
theorem dX1_notePosted_9 : decode cX1_notePosted 9 = .ok (.iconst 1, 1) := by decide +kernel
theorem dX1_notePosted_10 : decode cX1_notePosted 10 = .ok (.iload_n 3, 1) := by decide +kernel
theorem dX1_notePosted_11 : decode cX1_notePosted 11 = .ok (.ishl, 1) := by decide +kernel
theorem dX1_notePosted_12 : decode cX1_notePosted 12 = .ok (.iand, 1) := by decide +kernel
theorem dX1_notePosted_13 : decode cX1_notePosted 13 = .ok (.ifCond .eq 15, 3) := by decide +kernel
theorem dX1_notePosted_16 : decode cX1_notePosted 16 = .ok (.aload_n 0, 1) := by decide +kernel
theorem dX1_notePosted_17 : decode cX1_notePosted 17 = .ok (.getfield 26, 3) := by decide +kernel
theorem dX1_notePosted_20 : decode cX1_notePosted 20 = .ok (.iload_n 3, 1) := by decide +kernel
theorem dX1_notePosted_21 : decode cX1_notePosted 21 = .ok (.dup2, 1) := by decide +kernel
theorem dX1_notePosted_22 : decode cX1_notePosted 22 = .ok (.iaload, 1) := by decide +kernel
theorem dX1_notePosted_23 : decode cX1_notePosted 23 = .ok (.iconst 1, 1) := by decide +kernel
theorem dX1_notePosted_24 : decode cX1_notePosted 24 = .ok (.iload_n 2, 1) := by decide +kernel
theorem dX1_notePosted_25 : decode cX1_notePosted 25 = .ok (.ishl, 1) := by decide +kernel
theorem dX1_notePosted_26 : decode cX1_notePosted 26 = .ok (.ior, 1) := by decide +kernel
theorem dX1_notePosted_27 : decode cX1_notePosted 27 = .ok (.iastore, 1) := by decide +kernel
theorem dX1_notePosted_28 : decode cX1_notePosted 28 = .ok (.iinc 3 1, 3) := by decide +kernel
theorem dX1_notePosted_31 : decode cX1_notePosted 31 = .ok (.goto (-29), 3) := by decide +kernel
theorem dX1_notePosted_34 : decode cX1_notePosted 34 = .ok (.return_, 1) := by decide +kernel
theorem dX2_init_0 : decode cX2_init 0 = .ok (.aload_n 0, 1) := by decide +kernel
theorem dX2_init_1 : decode cX2_init 1 = .ok (.invokespecial 3, 3) := by decide +kernel
theorem dX2_init_4 : decode cX2_init 4 = .ok (.aload_n 0, 1) := by decide +kernel
theorem dX2_init_5 : decode cX2_init 5 = .ok (.bipush 10, 2) := by decide +kernel
theorem dX2_init_7 : decode cX2_init 7 = .ok (.putfield 9, 3) := by decide +kernel
theorem dX2_init_10 : decode cX2_init 10 = .ok (.aload_n 0, 1) := by decide +kernel
theorem dX2_init_11 : decode cX2_init 11 = .ok (.iconst 5, 1) := by decide +kernel
theorem dX2_init_12 : decode cX2_init 12 = .ok (.putfield 15, 3) := by decide +kernel
theorem dX2_init_15 : decode cX2_init 15 = .ok (.return_, 1) := by decide +kernel
theorem dX2_weightOf_0 : decode cX2_weightOf 0 = .ok (.bipush 8, 2) := by decide +kernel
theorem dX2_weightOf_2 : decode cX2_weightOf 2 = .ok (.iconst 3, 1) := by decide +kernel
theorem dX2_weightOf_3 : decode cX2_weightOf 3 = .ok (.iload_n 1, 1) := by decide +kernel
theorem dX2_weightOf_4 : decode cX2_weightOf 4 = .ok (.bipush 19, 2) := by decide +kernel
theorem dX2_weightOf_6 : decode cX2_weightOf 6 = .ok (.iadd, 1) := by decide +kernel
theorem dX2_weightOf_7 : decode cX2_weightOf 7 = .ok (.bipush 20, 2) := by decide +kernel
theorem dX2_weightOf_9 : decode cX2_weightOf 9 = .ok (.idiv, 1) := by decide +kernel
theorem dX2_weightOf_10 : decode cX2_weightOf 10 = .ok (.imul, 1) := by decide +kernel
theorem dX2_weightOf_11 : decode cX2_weightOf 11 = .ok (.iadd, 1) := by decide +kernel
theorem dX2_weightOf_12 : decode cX2_weightOf 12 = .ok (.iconst 2, 1) := by decide +kernel
theorem dX2_weightOf_13 : decode cX2_weightOf 13 = .ok (.iload_n 2, 1) := by decide +kernel
theorem dX2_weightOf_14 : decode cX2_weightOf 14 = .ok (.iconst 1, 1) := by decide +kernel
theorem dX2_weightOf_15 : decode cX2_weightOf 15 = .ok (.isub, 1) := by decide +kernel
theorem dX2_weightOf_16 : decode cX2_weightOf 16 = .ok (.imul, 1) := by decide +kernel
theorem dX2_weightOf_17 : decode cX2_weightOf 17 = .ok (.iadd, 1) := by decide +kernel
theorem dX2_weightOf_18 : decode cX2_weightOf 18 = .ok (.ireturn, 1) := by decide +kernel
theorem dX2_costOf_0 : decode cX2_costOf 0 = .ok (.iload_n 1, 1) := by decide +kernel
theorem dX2_costOf_1 : decode cX2_costOf 1 = .ok (.bipush 20, 2) := by decide +kernel
theorem dX2_costOf_3 : decode cX2_costOf 3 = .ok (.if_icmp .le 17, 3) := by decide +kernel
theorem dX2_costOf_6 : decode cX2_costOf 6 = .ok (.iload_n 1, 1) := by decide +kernel
theorem dX2_costOf_7 : decode cX2_costOf 7 = .ok (.bipush 20, 2) := by decide +kernel
theorem dX2_costOf_9 : decode cX2_costOf 9 = .ok (.isub, 1) := by decide +kernel
theorem dX2_costOf_10 : decode cX2_costOf 10 = .ok (.bipush 9, 2) := by decide +kernel
theorem dX2_costOf_12 : decode cX2_costOf 12 = .ok (.iadd, 1) := by decide +kernel
theorem dX2_costOf_13 : decode cX2_costOf 13 = .ok (.bipush 10, 2) := by decide +kernel
theorem dX2_costOf_15 : decode cX2_costOf 15 = .ok (.idiv, 1) := by decide +kernel
theorem dX2_costOf_16 : decode cX2_costOf 16 = .ok (.i2l, 1) := by decide +kernel
theorem dX2_costOf_17 : decode cX2_costOf 17 = .ok (.goto 4, 3) := by decide +kernel
theorem dX2_costOf_20 : decode cX2_costOf 20 = .ok (.lconst 0, 1) := by decide +kernel
theorem dX2_costOf_21 : decode cX2_costOf 21 = .ok (.lstore_n 3, 1) := by decide +kernel
theorem dX2_costOf_22 : decode cX2_costOf 22 = .ok (.aload_n 0, 1) := by decide +kernel
theorem dX2_costOf_23 : decode cX2_costOf 23 = .ok (.getfield 9, 3) := by decide +kernel
theorem dX2_costOf_26 : decode cX2_costOf 26 = .ok (.i2l, 1) := by decide +kernel
theorem dX2_costOf_27 : decode cX2_costOf 27 = .ok (.aload_n 0, 1) := by decide +kernel
theorem dX2_costOf_28 : decode cX2_costOf 28 = .ok (.getfield 15, 3) := by decide +kernel
theorem dX2_costOf_31 : decode cX2_costOf 31 = .ok (.i2l, 1) := by decide +kernel
theorem dX2_costOf_32 : decode cX2_costOf 32 = .ok (.lload_n 3, 1) := by decide +kernel
theorem dX2_costOf_33 : decode cX2_costOf 33 = .ok (.lmul, 1) := by decide +kernel
theorem dX2_costOf_34 : decode cX2_costOf 34 = .ok (.ladd, 1) := by decide +kernel
theorem dX2_costOf_35 : decode cX2_costOf 35 = .ok (.iload_n 2, 1) := by decide +kernel
theorem dX2_costOf_36 : decode cX2_costOf 36 = .ok (.iconst 2, 1) := by decide +kernel
theorem dX2_costOf_37 : decode cX2_costOf 37 = .ok (.iadd, 1) := by decide +kernel
theorem dX2_costOf_38 : decode cX2_costOf 38 = .ok (.i2l, 1) := by decide +kernel
theorem dX2_costOf_39 : decode cX2_costOf 39 = .ok (.lmul, 1) := by decide +kernel
theorem dX2_costOf_40 : decode cX2_costOf 40 = .ok (.lstore 5, 2) := by decide +kernel
theorem dX2_costOf_42 : decode cX2_costOf 42 = .ok (.lload 5, 2) := by decide +kernel
theorem dX2_costOf_44 : decode cX2_costOf 44 = .ok (.ldc2_w 18, 3) := by decide +kernel
theorem dX2_costOf_47 : decode cX2_costOf 47 = .ok (.lcmp, 1) := by decide +kernel
theorem dX2_costOf_48 : decode cX2_costOf 48 = .ok (.ifCond .le 7, 3) := by decide +kernel
theorem dX2_costOf_51 : decode cX2_costOf 51 = .ok (.iconst (-1), 1) := by decide +kernel
theorem dX2_costOf_52 : decode cX2_costOf 52 = .ok (.goto 6, 3) := by decide +kernel
theorem dX2_costOf_55 : decode cX2_costOf 55 = .ok (.lload 5, 2) := by decide +kernel
theorem dX2_costOf_57 : decode cX2_costOf 57 = .ok (.l2i, 1) := by decide +kernel
theorem dX2_costOf_58 : decode cX2_costOf 58 = .ok (.ireturn, 1) := by decide +kernel
theorem dX3_init_0 : decode cX3_init 0 = .ok (.aload_n 0, 1) := by decide +kernel
theorem dX3_init_1 : decode cX3_init 1 = .ok (.invokespecial 3, 3) := by decide +kernel
theorem dX3_init_4 : decode cX3_init 4 = .ok (.aload_n 0, 1) := by decide +kernel
theorem dX3_init_5 : decode cX3_init 5 = .ok (.bipush 6, 2) := by decide +kernel
theorem dX3_init_7 : decode cX3_init 7 = .ok (.anewarray 9, 3) := by decide +kernel
theorem dX3_init_10 : decode cX3_init 10 = .ok (.putfield 11, 3) := by decide +kernel
theorem dX3_init_13 : decode cX3_init 13 = .ok (.aload_n 0, 1) := by decide +kernel
theorem dX3_init_14 : decode cX3_init 14 = .ok (.bipush 6, 2) := by decide +kernel
theorem dX3_init_16 : decode cX3_init 16 = .ok (.newarray .int, 2) := by decide +kernel
theorem dX3_init_18 : decode cX3_init 18 = .ok (.putfield 17, 3) := by decide +kernel
theorem dX3_init_21 : decode cX3_init 21 = .ok (.aload_n 0, 1) := by decide +kernel
theorem dX3_init_22 : decode cX3_init 22 = .ok (.new 9, 3) := by decide +kernel
theorem dX3_init_25 : decode cX3_init 25 = .ok (.dup, 1) := by decide +kernel
theorem dX3_init_26 : decode cX3_init 26 = .ok (.iconst 3, 1) := by decide +kernel
theorem dX3_init_27 : decode cX3_init 27 = .ok (.invokespecial 21, 3) := by decide +kernel
theorem dX3_init_30 : decode cX3_init 30 = .ok (.putfield 24, 3) := by decide +kernel
theorem dX3_init_33 : decode cX3_init 33 = .ok (.iconst 0, 1) := by decide +kernel
theorem dX3_init_34 : decode cX3_init 34 = .ok (.istore_n 1, 1) := by decide +kernel
theorem dX3_init_35 : decode cX3_init 35 = .ok (.iload_n 1, 1) := by decide +kernel
theorem dX3_init_36 : decode cX3_init 36 = .ok (.bipush 6, 2) := by decide +kernel
theorem dX3_init_38 : decode cX3_init 38 = .ok (.if_icmp .ge 43, 3) := by decide +kernel
theorem dX3_init_41 : decode cX3_init 41 = .ok (.aload_n 0, 1) := by decide +kernel
theorem dX3_init_42 : decode cX3_init 42 = .ok (.getfield 11, 3) := by decide +kernel
theorem dX3_init_45 : decode cX3_init 45 = .ok (.iload_n 1, 1) := by decide +kernel
theorem dX3_init_46 : decode cX3_init 46 = .ok (.new 9, 3) := by decide +kernel
theorem dX3_init_49 : decode cX3_init 49 = .ok (.dup, 1) := by decide +kernel
theorem dX3_init_50 : decode cX3_init 50 = .ok (.iload_n 1, 1) := by decide +kernel
theorem dX3_init_51 : decode cX3_init 51 = .ok (.ifCond .ne 9, 3) := by decide +kernel
theorem dX3_init_54 : decode cX3_init 54 = .ok (.sipush 177, 3) := by decide +kernel
theorem dX3_init_57 : decode cX3_init 57 = .ok (.goto 14, 3) := by decide +kernel
theorem dX3_init_60 : decode cX3_init 60 = .ok (.iload_n 1, 1) := by decide +kernel
theorem dX3_init_61 : decode cX3_init 61 = .ok (.iconst 1, 1) := by decide +kernel
theorem dX3_init_62 : decode cX3_init 62 = .ok (.if_icmp .ne 8, 3) := by decide +kernel
theorem dX3_init_65 : decode cX3_init 65 = .ok (.bipush 12, 2) := by decide +kernel
theorem dX3_init_67 : decode cX3_init 67 = .ok (.goto 4, 3) := by decide +kernel
theorem dX3_init_70 : decode cX3_init 70 = .ok (.iconst 4, 1) := by decide +kernel
theorem dX3_init_71 : decode cX3_init 71 = .ok (.invokespecial 21, 3) := by decide +kernel
theorem dX3_init_74 : decode cX3_init 74 = .ok (.aastore, 1) := by decide +kernel
theorem dX3_init_75 : decode cX3_init 75 = .ok (.iinc 1 1, 3) := by decide +kernel
theorem dX3_init_78 : decode cX3_init 78 = .ok (.goto (-43), 3) := by decide +kernel
theorem dX3_init_81 : decode cX3_init 81 = .ok (.aload_n 0, 1) := by decide +kernel
theorem dX3_init_82 : decode cX3_init 82 = .ok (.getfield 24, 3) := by decide +kernel
theorem dX3_init_85 : decode cX3_init 85 = .ok (.bipush 32, 2) := by decide +kernel
theorem dX3_init_87 : decode cX3_init 87 = .ok (.invokevirtual 28, 3) := by decide +kernel
theorem dX3_init_90 : decode cX3_init 90 = .ok (.aload_n 0, 1) := by decide +kernel
theorem dX3_init_91 : decode cX3_init 91 = .ok (.getfield 24, 3) := by decide +kernel
theorem dX3_init_94 : decode cX3_init 94 = .ok (.bipush 38, 2) := by decide +kernel
theorem dX3_init_96 : decode cX3_init 96 = .ok (.invokevirtual 28, 3) := by decide +kernel
theorem dX3_init_99 : decode cX3_init 99 = .ok (.aload_n 0, 1) := by decide +kernel
theorem dX3_init_100 : decode cX3_init 100 = .ok (.getfield 24, 3) := by decide +kernel
theorem dX3_init_103 : decode cX3_init 103 = .ok (.bipush 32, 2) := by decide +kernel
theorem dX3_init_105 : decode cX3_init 105 = .ok (.invokevirtual 28, 3) := by decide +kernel
theorem dX3_init_108 : decode cX3_init 108 = .ok (.return_, 1) := by decide +kernel
theorem dX3_gather_0 : decode cX3_gather 0 = .ok (.iconst 0, 1) := by decide +kernel
theorem dX3_gather_1 : decode cX3_gather 1 = .ok (.istore_n 3, 1) := by decide +kernel
theorem dX3_gather_2 : decode cX3_gather 2 = .ok (.iload_n 3, 1) := by decide +kernel
theorem dX3_gather_3 : decode cX3_gather 3 = .ok (.bipush 6, 2) := by decide +kernel
theorem dX3_gather_5 : decode cX3_gather 5 = .ok (.if_icmp .ge 26, 3) := by decide +kernel
theorem dX3_gather_8 : decode cX3_gather 8 = .ok (.aload_n 0, 1) := by decide +kernel
theorem dX3_gather_9 : decode cX3_gather 9 = .ok (.getfield 11, 3) := by decide +kernel
theorem dX3_gather_12 : decode cX3_gather 12 = .ok (.iload_n 3, 1) := by decide +kernel
theorem dX3_gather_13 : decode cX3_gather 13 = .ok (.aaload, 1) := by decide +kernel
theorem dX3_gather_14 : decode cX3_gather 14 = .ok (.iconst 0, 1) := by decide +kernel
theorem dX3_gather_15 : decode cX3_gather 15 = .ok (.putfield 32, 3) := by decide +kernel
theorem dX3_gather_18 : decode cX3_gather 18 = .ok (.aload_n 0, 1) := by decide +kernel
theorem dX3_gather_19 : decode cX3_gather 19 = .ok (.getfield 17, 3) := by decide +kernel
theorem dX3_gather_22 : decode cX3_gather 22 = .ok (.iload_n 3, 1) := by decide +kernel
theorem dX3_gather_23 : decode cX3_gather 23 = .ok (.iconst 0, 1) := by decide +kernel
theorem dX3_gather_24 : decode cX3_gather 24 = .ok (.iastore, 1) := by decide +kernel
theorem dX3_gather_25 : decode cX3_gather 25 = .ok (.iinc 3 1, 3) := by decide +kernel
theorem dX3_gather_28 : decode cX3_gather 28 = .ok (.goto (-26), 3) := by decide +kernel
theorem dX3_gather_31 : decode cX3_gather 31 = .ok (.iconst 0, 1) := by decide +kernel
theorem dX3_gather_32 : decode cX3_gather 32 = .ok (.istore_n 3, 1) := by decide +kernel
theorem dX3_gather_33 : decode cX3_gather 33 = .ok (.iload_n 3, 1) := by decide +kernel
theorem dX3_gather_34 : decode cX3_gather 34 = .ok (.bipush 12, 2) := by decide +kernel
theorem dX3_gather_36 : decode cX3_gather 36 = .ok (.if_icmp .ge 27, 3) := by decide +kernel
theorem dX3_gather_39 : decode cX3_gather 39 = .ok (.iload_n 2, 1) := by decide +kernel
theorem dX3_gather_40 : decode cX3_gather 40 = .ok (.iconst 1, 1) := by decide +kernel
theorem dX3_gather_41 : decode cX3_gather 41 = .ok (.iload_n 3, 1) := by decide +kernel
theorem dX3_gather_42 : decode cX3_gather 42 = .ok (.ishl, 1) := by decide +kernel
theorem dX3_gather_43 : decode cX3_gather 43 = .ok (.iand, 1) := by decide +kernel
theorem dX3_gather_44 : decode cX3_gather 44 = .ok (.ifCond .eq 13, 3) := by decide +kernel
theorem dX3_gather_47 : decode cX3_gather 47 = .ok (.aload_n 0, 1) := by decide +kernel
theorem dX3_gather_48 : decode cX3_gather 48 = .ok (.aload_n 1, 1) := by decide +kernel
theorem dX3_gather_49 : decode cX3_gather 49 = .ok (.getfield 36, 3) := by decide +kernel
theorem dX3_gather_52 : decode cX3_gather 52 = .ok (.iload_n 3, 1) := by decide +kernel
theorem dX3_gather_53 : decode cX3_gather 53 = .ok (.aaload, 1) := by decide +kernel
theorem dX3_gather_54 : decode cX3_gather 54 = .ok (.invokevirtual 42, 3) := by decide +kernel
theorem dX3_gather_57 : decode cX3_gather 57 = .ok (.iinc 3 1, 3) := by decide +kernel
theorem dX3_gather_60 : decode cX3_gather 60 = .ok (.goto (-27), 3) := by decide +kernel
theorem dX3_gather_63 : decode cX3_gather 63 = .ok (.aload_n 0, 1) := by decide +kernel
theorem dX3_gather_64 : decode cX3_gather 64 = .ok (.getfield 17, 3) := by decide +kernel
theorem dX3_gather_67 : decode cX3_gather 67 = .ok (.iconst 0, 1) := by decide +kernel
theorem dX3_gather_68 : decode cX3_gather 68 = .ok (.aload_n 0, 1) := by decide +kernel
theorem dX3_gather_69 : decode cX3_gather 69 = .ok (.getfield 11, 3) := by decide +kernel
theorem dX3_gather_72 : decode cX3_gather 72 = .ok (.iconst 0, 1) := by decide +kernel
theorem dX3_gather_73 : decode cX3_gather 73 = .ok (.aaload, 1) := by decide +kernel
theorem dX3_gather_74 : decode cX3_gather 74 = .ok (.getfield 32, 3) := by decide +kernel
theorem dX3_gather_77 : decode cX3_gather 77 = .ok (.iastore, 1) := by decide +kernel
theorem dX3_gather_78 : decode cX3_gather 78 = .ok (.aload_n 0, 1) := by decide +kernel
theorem dX3_gather_79 : decode cX3_gather 79 = .ok (.getfield 17, 3) := by decide +kernel
theorem dX3_gather_82 : decode cX3_gather 82 = .ok (.iconst 1, 1) := by decide +kernel
theorem dX3_gather_83 : decode cX3_gather 83 = .ok (.aload_n 0, 1) := by decide +kernel
theorem dX3_gather_84 : decode cX3_gather 84 = .ok (.getfield 11, 3) := by decide +kernel
theorem dX3_gather_87 : decode cX3_gather 87 = .ok (.iconst 1, 1) := by decide +kernel
theorem dX3_gather_88 : decode cX3_gather 88 = .ok (.aaload, 1) := by decide +kernel
theorem dX3_gather_89 : decode cX3_gather 89 = .ok (.getfield 32, 3) := by decide +kernel
theorem dX3_gather_92 : decode cX3_gather 92 = .ok (.iastore, 1) := by decide +kernel
theorem dX3_gather_93 : decode cX3_gather 93 = .ok (.iconst 2, 1) := by decide +kernel
theorem dX3_gather_94 : decode cX3_gather 94 = .ok (.istore_n 3, 1) := by decide +kernel
theorem dX3_gather_95 : decode cX3_gather 95 = .ok (.iload_n 3, 1) := by decide +kernel
theorem dX3_gather_96 : decode cX3_gather 96 = .ok (.bipush 6, 2) := by decide +kernel
theorem dX3_gather_98 : decode cX3_gather 98 = .ok (.if_icmp .ge 24, 3) := by decide +kernel
theorem dX3_gather_101 : decode cX3_gather 101 = .ok (.aload_n 0, 1) := by decide +kernel
theorem dX3_gather_102 : decode cX3_gather 102 = .ok (.getfield 11, 3) := by decide +kernel
theorem dX3_gather_105 : decode cX3_gather 105 = .ok (.iload_n 3, 1) := by decide +kernel
theorem dX3_gather_106 : decode cX3_gather 106 = .ok (.aaload, 1) := by decide +kernel
theorem dX3_gather_107 : decode cX3_gather 107 = .ok (.aload_n 0, 1) := by decide +kernel
theorem dX3_gather_108 : decode cX3_gather 108 = .ok (.getfield 17, 3) := by decide +kernel
theorem dX3_gather_111 : decode cX3_gather 111 = .ok (.iload_n 3, 1) := by decide +kernel
theorem dX3_gather_112 : decode cX3_gather 112 = .ok (.iaload, 1) := by decide +kernel
theorem dX3_gather_113 : decode cX3_gather 113 = .ok (.invokevirtual 46, 3) := by decide +kernel
theorem dX3_gather_116 : decode cX3_gather 116 = .ok (.iinc 3 1, 3) := by decide +kernel
theorem dX3_gather_119 : decode cX3_gather 119 = .ok (.goto (-24), 3) := by decide +kernel
theorem dX3_gather_122 : decode cX3_gather 122 = .ok (.return_, 1) := by decide +kernel
theorem dX3_addMember_0 : decode cX3_addMember 0 = .ok (.aload_n 0, 1) := by decide +kernel
theorem dX3_addMember_1 : decode cX3_addMember 1 = .ok (.getfield 17, 3) := by decide +kernel
theorem dX3_addMember_4 : decode cX3_addMember 4 = .ok (.iconst 5, 1) := by decide +kernel
theorem dX3_addMember_5 : decode cX3_addMember 5 = .ok (.iaload, 1) := by decide +kernel
theorem dX3_addMember_6 : decode cX3_addMember 6 = .ok (.ifCond .ne 39, 3) := by decide +kernel
theorem dX3_addMember_9 : decode cX3_addMember 9 = .ok (.aload_n 0, 1) := by decide +kernel
theorem dX3_addMember_10 : decode cX3_addMember 10 = .ok (.getfield 11, 3) := by decide +kernel
theorem dX3_addMember_13 : decode cX3_addMember 13 = .ok (.iconst 1, 1) := by decide +kernel
theorem dX3_addMember_14 : decode cX3_addMember 14 = .ok (.aaload, 1) := by decide +kernel
theorem dX3_addMember_15 : decode cX3_addMember 15 = .ok (.aload_n 1, 1) := by decide +kernel
theorem dX3_addMember_16 : decode cX3_addMember 16 = .ok (.getfield 49, 3) := by decide +kernel
theorem dX3_addMember_19 : decode cX3_addMember 19 = .ok (.invokevirtual 54, 3) := by decide +kernel
theorem dX3_addMember_22 : decode cX3_addMember 22 = .ok (.aload_n 0, 1) := by decide +kernel
theorem dX3_addMember_23 : decode cX3_addMember 23 = .ok (.getfield 17, 3) := by decide +kernel
theorem dX3_addMember_26 : decode cX3_addMember 26 = .ok (.iconst 2, 1) := by decide +kernel
theorem dX3_addMember_27 : decode cX3_addMember 27 = .ok (.aload_n 1, 1) := by decide +kernel
theorem dX3_addMember_28 : decode cX3_addMember 28 = .ok (.getfield 58, 3) := by decide +kernel
theorem dX3_addMember_31 : decode cX3_addMember 31 = .ok (.iastore, 1) := by decide +kernel
theorem dX3_addMember_32 : decode cX3_addMember 32 = .ok (.aload_n 0, 1) := by decide +kernel
theorem dX3_addMember_33 : decode cX3_addMember 33 = .ok (.getfield 17, 3) := by decide +kernel
theorem dX3_addMember_36 : decode cX3_addMember 36 = .ok (.iconst 3, 1) := by decide +kernel
theorem dX3_addMember_37 : decode cX3_addMember 37 = .ok (.aload_n 1, 1) := by decide +kernel
theorem dX3_addMember_38 : decode cX3_addMember 38 = .ok (.getfield 61, 3) := by decide +kernel
theorem dX3_addMember_41 : decode cX3_addMember 41 = .ok (.iastore, 1) := by decide +kernel
theorem dX3_addMember_42 : decode cX3_addMember 42 = .ok (.goto 16, 3) := by decide +kernel
theorem dX3_addMember_45 : decode cX3_addMember 45 = .ok (.aload_n 0, 1) := by decide +kernel
theorem dX3_addMember_46 : decode cX3_addMember 46 = .ok (.getfield 11, 3) := by decide +kernel
theorem dX3_addMember_49 : decode cX3_addMember 49 = .ok (.iconst 0, 1) := by decide +kernel
theorem dX3_addMember_50 : decode cX3_addMember 50 = .ok (.aaload, 1) := by decide +kernel
theorem dX3_addMember_51 : decode cX3_addMember 51 = .ok (.aload_n 0, 1) := by decide +kernel
theorem dX3_addMember_52 : decode cX3_addMember 52 = .ok (.getfield 24, 3) := by decide +kernel
theorem dX3_addMember_55 : decode cX3_addMember 55 = .ok (.invokevirtual 54, 3) := by decide +kernel
theorem dX3_addMember_58 : decode cX3_addMember 58 = .ok (.aload_n 0, 1) := by decide +kernel
theorem dX3_addMember_59 : decode cX3_addMember 59 = .ok (.getfield 11, 3) := by decide +kernel
theorem dX3_addMember_62 : decode cX3_addMember 62 = .ok (.iconst 0, 1) := by decide +kernel
theorem dX3_addMember_63 : decode cX3_addMember 63 = .ok (.aaload, 1) := by decide +kernel
theorem dX3_addMember_64 : decode cX3_addMember 64 = .ok (.aload_n 1, 1) := by decide +kernel
theorem dX3_addMember_65 : decode cX3_addMember 65 = .ok (.getfield 64, 3) := by decide +kernel
theorem dX3_addMember_68 : decode cX3_addMember 68 = .ok (.invokevirtual 54, 3) := by decide +kernel
theorem dX3_addMember_71 : decode cX3_addMember 71 = .ok (.aload_n 0, 1) := by decide +kernel
theorem dX3_addMember_72 : decode cX3_addMember 72 = .ok (.getfield 17, 3) := by decide +kernel
theorem dX3_addMember_75 : decode cX3_addMember 75 = .ok (.iconst 4, 1) := by decide +kernel
theorem dX3_addMember_76 : decode cX3_addMember 76 = .ok (.dup2, 1) := by decide +kernel
theorem dX3_addMember_77 : decode cX3_addMember 77 = .ok (.iaload, 1) := by decide +kernel
theorem dX3_addMember_78 : decode cX3_addMember 78 = .ok (.aload_n 1, 1) := by decide +kernel
theorem dX3_addMember_79 : decode cX3_addMember 79 = .ok (.getfield 67, 3) := by decide +kernel
theorem dX3_addMember_82 : decode cX3_addMember 82 = .ok (.iadd, 1) := by decide +kernel
theorem dX3_addMember_83 : decode cX3_addMember 83 = .ok (.iastore, 1) := by decide +kernel
theorem dX3_addMember_84 : decode cX3_addMember 84 = .ok (.aload_n 0, 1) := by decide +kernel
theorem dX3_addMember_85 : decode cX3_addMember 85 = .ok (.getfield 17, 3) := by decide +kernel
theorem dX3_addMember_88 : decode cX3_addMember 88 = .ok (.iconst 5, 1) := by decide +kernel
theorem dX3_addMember_89 : decode cX3_addMember 89 = .ok (.dup2, 1) := by decide +kernel
theorem dX3_addMember_90 : decode cX3_addMember 90 = .ok (.iaload, 1) := by decide +kernel
theorem dX3_addMember_91 : decode cX3_addMember 91 = .ok (.iconst 1, 1) := by decide +kernel
theorem dX3_addMember_92 : decode cX3_addMember 92 = .ok (.iadd, 1) := by decide +kernel
theorem dX3_addMember_93 : decode cX3_addMember 93 = .ok (.iastore, 1) := by decide +kernel
theorem dX3_addMember_94 : decode cX3_addMember 94 = .ok (.return_, 1) := by decide +kernel
theorem dX4_init_0 : decode cX4_init 0 = .ok (.aload_n 0, 1) := by decide +kernel
theorem dX4_init_1 : decode cX4_init 1 = .ok (.invokespecial 3, 3) := by decide +kernel
theorem dX4_init_4 : decode cX4_init 4 = .ok (.aload_n 0, 1) := by decide +kernel
theorem dX4_init_5 : decode cX4_init 5 = .ok (.new 9, 3) := by decide +kernel
theorem dX4_init_8 : decode cX4_init 8 = .ok (.dup, 1) := by decide +kernel
theorem dX4_init_9 : decode cX4_init 9 = .ok (.sipush 160, 3) := by decide +kernel
theorem dX4_init_12 : decode cX4_init 12 = .ok (.invokespecial 11, 3) := by decide +kernel
theorem dX4_init_15 : decode cX4_init 15 = .ok (.putfield 14, 3) := by decide +kernel
theorem dX4_init_18 : decode cX4_init 18 = .ok (.return_, 1) := by decide +kernel
theorem dX4_become_0 : decode cX4_become 0 = .ok (.aload_n 0, 1) := by decide +kernel
theorem dX4_become_1 : decode cX4_become 1 = .ok (.getfield 14, 3) := by decide +kernel
theorem dX4_become_4 : decode cX4_become 4 = .ok (.aload_n 1, 1) := by decide +kernel
theorem dX4_become_5 : decode cX4_become 5 = .ok (.getfield 14, 3) := by decide +kernel
theorem dX4_become_8 : decode cX4_become 8 = .ok (.invokevirtual 20, 3) := by decide +kernel
theorem dX4_become_11 : decode cX4_become 11 = .ok (.aload_n 0, 1) := by decide +kernel
theorem dX4_become_12 : decode cX4_become 12 = .ok (.aload_n 1, 1) := by decide +kernel
theorem dX4_become_13 : decode cX4_become 13 = .ok (.getfield 24, 3) := by decide +kernel
theorem dX4_become_16 : decode cX4_become 16 = .ok (.putfield 24, 3) := by decide +kernel
theorem dX4_become_19 : decode cX4_become 19 = .ok (.aload_n 0, 1) := by decide +kernel
theorem dX4_become_20 : decode cX4_become 20 = .ok (.aload_n 1, 1) := by decide +kernel
theorem dX4_become_21 : decode cX4_become 21 = .ok (.getfield 28, 3) := by decide +kernel
theorem dX4_become_24 : decode cX4_become 24 = .ok (.putfield 28, 3) := by decide +kernel
theorem dX4_become_27 : decode cX4_become 27 = .ok (.aload_n 0, 1) := by decide +kernel
theorem dX4_become_28 : decode cX4_become 28 = .ok (.aload_n 1, 1) := by decide +kernel
theorem dX4_become_29 : decode cX4_become 29 = .ok (.getfield 31, 3) := by decide +kernel
theorem dX4_become_32 : decode cX4_become 32 = .ok (.putfield 31, 3) := by decide +kernel
theorem dX4_become_35 : decode cX4_become 35 = .ok (.aload_n 0, 1) := by decide +kernel
theorem dX4_become_36 : decode cX4_become 36 = .ok (.aload_n 1, 1) := by decide +kernel
theorem dX4_become_37 : decode cX4_become 37 = .ok (.getfield 34, 3) := by decide +kernel
theorem dX4_become_40 : decode cX4_become 40 = .ok (.putfield 34, 3) := by decide +kernel
theorem dX4_become_43 : decode cX4_become 43 = .ok (.return_, 1) := by decide +kernel
theorem dX5_init_0 : decode cX5_init 0 = .ok (.aload_n 0, 1) := by decide +kernel
theorem dX5_init_1 : decode cX5_init 1 = .ok (.invokespecial 3, 3) := by decide +kernel
theorem dX5_init_4 : decode cX5_init 4 = .ok (.aload_n 0, 1) := by decide +kernel
theorem dX5_init_5 : decode cX5_init 5 = .ok (.bipush 13, 2) := by decide +kernel
theorem dX5_init_7 : decode cX5_init 7 = .ok (.newarray .int, 2) := by decide +kernel
theorem dX5_init_9 : decode cX5_init 9 = .ok (.putfield 9, 3) := by decide +kernel
theorem dX5_init_12 : decode cX5_init 12 = .ok (.return_, 1) := by decide +kernel
theorem dX5_distance_0 : decode cX5_distance 0 = .ok (.aload_n 2, 1) := by decide +kernel
theorem dX5_distance_1 : decode cX5_distance 1 = .ok (.getfield 15, 3) := by decide +kernel
theorem dX5_distance_4 : decode cX5_distance 4 = .ok (.bipush 12, 2) := by decide +kernel
theorem dX5_distance_6 : decode cX5_distance 6 = .ok (.invokestatic 21, 3) := by decide +kernel
theorem dX5_distance_9 : decode cX5_distance 9 = .ok (.istore_n 3, 1) := by decide +kernel
theorem dX5_distance_10 : decode cX5_distance 10 = .ok (.iconst 0, 1) := by decide +kernel
theorem dX5_distance_11 : decode cX5_distance 11 = .ok (.istore 4, 2) := by decide +kernel
theorem dX5_distance_13 : decode cX5_distance 13 = .ok (.iload 4, 2) := by decide +kernel
theorem dX5_distance_15 : decode cX5_distance 15 = .ok (.iload_n 3, 1) := by decide +kernel
theorem dX5_distance_16 : decode cX5_distance 16 = .ok (.if_icmp .gt 18, 3) := by decide +kernel
theorem dX5_distance_19 : decode cX5_distance 19 = .ok (.aload_n 0, 1) := by decide +kernel
theorem dX5_distance_20 : decode cX5_distance 20 = .ok (.getfield 9, 3) := by decide +kernel
theorem dX5_distance_23 : decode cX5_distance 23 = .ok (.iload 4, 2) := by decide +kernel
theorem dX5_distance_25 : decode cX5_distance 25 = .ok (.iload 4, 2) := by decide +kernel
theorem dX5_distance_27 : decode cX5_distance 27 = .ok (.iastore, 1) := by decide +kernel
theorem dX5_distance_28 : decode cX5_distance 28 = .ok (.iinc 4 1, 3) := by decide +kernel
theorem dX5_distance_31 : decode cX5_distance 31 = .ok (.goto (-18), 3) := by decide +kernel
theorem dX5_distance_34 : decode cX5_distance 34 = .ok (.iconst 0, 1) := by decide +kernel
theorem dX5_distance_35 : decode cX5_distance 35 = .ok (.istore 4, 2) := by decide +kernel
theorem dX5_distance_37 : decode cX5_distance 37 = .ok (.iload 4, 2) := by decide +kernel
theorem dX5_distance_39 : decode cX5_distance 39 = .ok (.aload_n 1, 1) := by decide +kernel
theorem dX5_distance_40 : decode cX5_distance 40 = .ok (.getfield 15, 3) := by decide +kernel
theorem dX5_distance_43 : decode cX5_distance 43 = .ok (.if_icmp .ge 21, 3) := by decide +kernel
theorem dX5_distance_46 : decode cX5_distance 46 = .ok (.aload_n 0, 1) := by decide +kernel
theorem dX5_distance_47 : decode cX5_distance 47 = .ok (.aload_n 1, 1) := by decide +kernel
theorem dX5_distance_48 : decode cX5_distance 48 = .ok (.iload 4, 2) := by decide +kernel
theorem dX5_distance_50 : decode cX5_distance 50 = .ok (.invokevirtual 27, 3) := by decide +kernel
theorem dX5_distance_53 : decode cX5_distance 53 = .ok (.aload_n 2, 1) := by decide +kernel
theorem dX5_distance_54 : decode cX5_distance 54 = .ok (.iload_n 3, 1) := by decide +kernel
theorem dX5_distance_55 : decode cX5_distance 55 = .ok (.invokevirtual 31, 3) := by decide +kernel
theorem dX5_distance_58 : decode cX5_distance 58 = .ok (.iinc 4 1, 3) := by decide +kernel
theorem dX5_distance_61 : decode cX5_distance 61 = .ok (.goto (-24), 3) := by decide +kernel
theorem dX5_distance_64 : decode cX5_distance 64 = .ok (.iload_n 3, 1) := by decide +kernel
theorem dX5_distance_65 : decode cX5_distance 65 = .ok (.ifCond .lt 12, 3) := by decide +kernel
theorem dX5_distance_68 : decode cX5_distance 68 = .ok (.aload_n 0, 1) := by decide +kernel
theorem dX5_distance_69 : decode cX5_distance 69 = .ok (.getfield 9, 3) := by decide +kernel
theorem dX5_distance_72 : decode cX5_distance 72 = .ok (.iload_n 3, 1) := by decide +kernel
theorem dX5_distance_73 : decode cX5_distance 73 = .ok (.iaload, 1) := by decide +kernel
theorem dX5_distance_74 : decode cX5_distance 74 = .ok (.goto 4, 3) := by decide +kernel
theorem dX5_distance_77 : decode cX5_distance 77 = .ok (.iconst 0, 1) := by decide +kernel
theorem dX5_distance_78 : decode cX5_distance 78 = .ok (.ireturn, 1) := by decide +kernel
theorem dX5_readSign_0 : decode cX5_readSign 0 = .ok (.aload_n 0, 1) := by decide +kernel
theorem dX5_readSign_1 : decode cX5_readSign 1 = .ok (.getfield 9, 3) := by decide +kernel
theorem dX5_readSign_4 : decode cX5_readSign 4 = .ok (.iconst 0, 1) := by decide +kernel
theorem dX5_readSign_5 : decode cX5_readSign 5 = .ok (.iaload, 1) := by decide +kernel
theorem dX5_readSign_6 : decode cX5_readSign 6 = .ok (.istore 4, 2) := by decide +kernel
theorem dX5_readSign_8 : decode cX5_readSign 8 = .ok (.aload_n 0, 1) := by decide +kernel
theorem dX5_readSign_9 : decode cX5_readSign 9 = .ok (.getfield 9, 3) := by decide +kernel
theorem dX5_readSign_12 : decode cX5_readSign 12 = .ok (.iconst 0, 1) := by decide +kernel
theorem dX5_readSign_13 : decode cX5_readSign 13 = .ok (.dup2, 1) := by decide +kernel
theorem dX5_readSign_14 : decode cX5_readSign 14 = .ok (.iaload, 1) := by decide +kernel
theorem dX5_readSign_15 : decode cX5_readSign 15 = .ok (.iconst 1, 1) := by decide +kernel
theorem dX5_readSign_16 : decode cX5_readSign 16 = .ok (.iadd, 1) := by decide +kernel
theorem dX5_readSign_17 : decode cX5_readSign 17 = .ok (.iastore, 1) := by decide +kernel
theorem dX5_readSign_18 : decode cX5_readSign 18 = .ok (.iconst 1, 1) := by decide +kernel
theorem dX5_readSign_19 : decode cX5_readSign 19 = .ok (.istore 5, 2) := by decide +kernel
theorem dX5_readSign_21 : decode cX5_readSign 21 = .ok (.iload 5, 2) := by decide +kernel
theorem dX5_readSign_23 : decode cX5_readSign 23 = .ok (.iload_n 3, 1) := by decide +kernel
theorem dX5_readSign_24 : decode cX5_readSign 24 = .ok (.if_icmp .gt 73, 3) := by decide +kernel
theorem dX5_readSign_27 : decode cX5_readSign 27 = .ok (.iload 4, 2) := by decide +kernel
theorem dX5_readSign_29 : decode cX5_readSign 29 = .ok (.aload_n 2, 1) := by decide +kernel
theorem dX5_readSign_30 : decode cX5_readSign 30 = .ok (.iload 5, 2) := by decide +kernel
theorem dX5_readSign_32 : decode cX5_readSign 32 = .ok (.iconst 1, 1) := by decide +kernel
theorem dX5_readSign_33 : decode cX5_readSign 33 = .ok (.isub, 1) := by decide +kernel
theorem dX5_readSign_34 : decode cX5_readSign 34 = .ok (.invokevirtual 27, 3) := by decide +kernel
theorem dX5_readSign_37 : decode cX5_readSign 37 = .ok (.iload_n 1, 1) := by decide +kernel
theorem dX5_readSign_38 : decode cX5_readSign 38 = .ok (.if_icmp .ne 7, 3) := by decide +kernel
theorem dX5_readSign_41 : decode cX5_readSign 41 = .ok (.iconst 0, 1) := by decide +kernel
theorem dX5_readSign_42 : decode cX5_readSign 42 = .ok (.goto 4, 3) := by decide +kernel
theorem dX5_readSign_45 : decode cX5_readSign 45 = .ok (.iconst 1, 1) := by decide +kernel
theorem dX5_readSign_46 : decode cX5_readSign 46 = .ok (.iadd, 1) := by decide +kernel
theorem dX5_readSign_47 : decode cX5_readSign 47 = .ok (.istore 6, 2) := by decide +kernel
theorem dX5_readSign_49 : decode cX5_readSign 49 = .ok (.aload_n 0, 1) := by decide +kernel
theorem dX5_readSign_50 : decode cX5_readSign 50 = .ok (.getfield 9, 3) := by decide +kernel
theorem dX5_readSign_53 : decode cX5_readSign 53 = .ok (.iload 5, 2) := by decide +kernel
theorem dX5_readSign_55 : decode cX5_readSign 55 = .ok (.iaload, 1) := by decide +kernel
theorem dX5_readSign_56 : decode cX5_readSign 56 = .ok (.istore 4, 2) := by decide +kernel
theorem dX5_readSign_58 : decode cX5_readSign 58 = .ok (.aload_n 0, 1) := by decide +kernel
theorem dX5_readSign_59 : decode cX5_readSign 59 = .ok (.getfield 9, 3) := by decide +kernel
theorem dX5_readSign_62 : decode cX5_readSign 62 = .ok (.iload 5, 2) := by decide +kernel
theorem dX5_readSign_64 : decode cX5_readSign 64 = .ok (.iload 6, 2) := by decide +kernel
theorem dX5_readSign_66 : decode cX5_readSign 66 = .ok (.iconst 1, 1) := by decide +kernel
theorem dX5_readSign_67 : decode cX5_readSign 67 = .ok (.aload_n 0, 1) := by decide +kernel
theorem dX5_readSign_68 : decode cX5_readSign 68 = .ok (.getfield 9, 3) := by decide +kernel
theorem dX5_readSign_71 : decode cX5_readSign 71 = .ok (.iload 5, 2) := by decide +kernel
theorem dX5_readSign_73 : decode cX5_readSign 73 = .ok (.iaload, 1) := by decide +kernel
theorem dX5_readSign_74 : decode cX5_readSign 74 = .ok (.aload_n 0, 1) := by decide +kernel
theorem dX5_readSign_75 : decode cX5_readSign 75 = .ok (.getfield 9, 3) := by decide +kernel
theorem dX5_readSign_78 : decode cX5_readSign 78 = .ok (.iload 5, 2) := by decide +kernel
theorem dX5_readSign_80 : decode cX5_readSign 80 = .ok (.iconst 1, 1) := by decide +kernel
theorem dX5_readSign_81 : decode cX5_readSign 81 = .ok (.isub, 1) := by decide +kernel
theorem dX5_readSign_82 : decode cX5_readSign 82 = .ok (.iaload, 1) := by decide +kernel
theorem dX5_readSign_83 : decode cX5_readSign 83 = .ok (.invokestatic 21, 3) := by decide +kernel
theorem dX5_readSign_86 : decode cX5_readSign 86 = .ok (.iadd, 1) := by decide +kernel
theorem dX5_readSign_87 : decode cX5_readSign 87 = .ok (.invokestatic 21, 3) := by decide +kernel
theorem dX5_readSign_90 : decode cX5_readSign 90 = .ok (.iastore, 1) := by decide +kernel
theorem dX5_readSign_91 : decode cX5_readSign 91 = .ok (.iinc 5 1, 3) := by decide +kernel
theorem dX5_readSign_94 : decode cX5_readSign 94 = .ok (.goto (-73), 3) := by decide +kernel
theorem dX5_readSign_97 : decode cX5_readSign 97 = .ok (.return_, 1) := by decide +kernel
theorem dX5_wordLikeness_0 : decode cX5_wordLikeness 0 = .ok (.aload_n 1, 1) := by decide +kernel
theorem dX5_wordLikeness_1 : decode cX5_wordLikeness 1 = .ok (.getfield 15, 3) := by decide +kernel
theorem dX5_wordLikeness_4 : decode cX5_wordLikeness 4 = .ok (.aload_n 2, 1) := by decide +kernel
theorem dX5_wordLikeness_5 : decode cX5_wordLikeness 5 = .ok (.getfield 15, 3) := by decide +kernel
theorem dX5_wordLikeness_8 : decode cX5_wordLikeness 8 = .ok (.invokestatic 35, 3) := by decide +kernel
theorem dX5_wordLikeness_11 : decode cX5_wordLikeness 11 = .ok (.istore_n 3, 1) := by decide +kernel
theorem dX5_wordLikeness_12 : decode cX5_wordLikeness 12 = .ok (.iload_n 3, 1) := by decide +kernel
theorem dX5_wordLikeness_13 : decode cX5_wordLikeness 13 = .ok (.ifCond .gt 5, 3) := by decide +kernel
theorem dX5_wordLikeness_16 : decode cX5_wordLikeness 16 = .ok (.fconst 1, 1) := by decide +kernel
theorem dX5_wordLikeness_17 : decode cX5_wordLikeness 17 = .ok (.freturn, 1) := by decide +kernel
theorem dX5_wordLikeness_18 : decode cX5_wordLikeness 18 = .ok (.fconst 1, 1) := by decide +kernel
theorem dX5_wordLikeness_19 : decode cX5_wordLikeness 19 = .ok (.aload_n 0, 1) := by decide +kernel
theorem dX5_wordLikeness_20 : decode cX5_wordLikeness 20 = .ok (.aload_n 1, 1) := by decide +kernel
theorem dX5_wordLikeness_21 : decode cX5_wordLikeness 21 = .ok (.aload_n 2, 1) := by decide +kernel
theorem dX5_wordLikeness_22 : decode cX5_wordLikeness 22 = .ok (.invokevirtual 38, 3) := by decide +kernel
theorem dX5_wordLikeness_25 : decode cX5_wordLikeness 25 = .ok (.i2f, 1) := by decide +kernel
theorem dX5_wordLikeness_26 : decode cX5_wordLikeness 26 = .ok (.iload_n 3, 1) := by decide +kernel
theorem dX5_wordLikeness_27 : decode cX5_wordLikeness 27 = .ok (.i2f, 1) := by decide +kernel
theorem dX5_wordLikeness_28 : decode cX5_wordLikeness 28 = .ok (.fdiv, 1) := by decide +kernel
theorem dX5_wordLikeness_29 : decode cX5_wordLikeness 29 = .ok (.fsub, 1) := by decide +kernel
theorem dX5_wordLikeness_30 : decode cX5_wordLikeness 30 = .ok (.freturn, 1) := by decide +kernel
theorem dX5_likenessOf_0 : decode cX5_likenessOf 0 = .ok (.aload_n 1, 1) := by decide +kernel
theorem dX5_likenessOf_1 : decode cX5_likenessOf 1 = .ok (.getfield 42, 3) := by decide +kernel
theorem dX5_likenessOf_4 : decode cX5_likenessOf 4 = .ok (.aload_n 2, 1) := by decide +kernel
theorem dX5_likenessOf_5 : decode cX5_likenessOf 5 = .ok (.getfield 42, 3) := by decide +kernel
theorem dX5_likenessOf_8 : decode cX5_likenessOf 8 = .ok (.if_icmp .ne 7, 3) := by decide +kernel
theorem dX5_likenessOf_11 : decode cX5_likenessOf 11 = .ok (.fconst 1, 1) := by decide +kernel
theorem dX5_likenessOf_12 : decode cX5_likenessOf 12 = .ok (.goto 4, 3) := by decide +kernel
theorem dX5_likenessOf_15 : decode cX5_likenessOf 15 = .ok (.fconst 0, 1) := by decide +kernel
theorem dX5_likenessOf_16 : decode cX5_likenessOf 16 = .ok (.fstore_n 3, 1) := by decide +kernel
theorem dX5_likenessOf_17 : decode cX5_likenessOf 17 = .ok (.aload_n 1, 1) := by decide +kernel
theorem dX5_likenessOf_18 : decode cX5_likenessOf 18 = .ok (.getfield 47, 3) := by decide +kernel
theorem dX5_likenessOf_21 : decode cX5_likenessOf 21 = .ok (.aload_n 2, 1) := by decide +kernel
theorem dX5_likenessOf_22 : decode cX5_likenessOf 22 = .ok (.getfield 47, 3) := by decide +kernel
theorem dX5_likenessOf_25 : decode cX5_likenessOf 25 = .ok (.if_icmp .ne 7, 3) := by decide +kernel
theorem dX5_likenessOf_28 : decode cX5_likenessOf 28 = .ok (.fconst 1, 1) := by decide +kernel
theorem dX5_likenessOf_29 : decode cX5_likenessOf 29 = .ok (.goto 4, 3) := by decide +kernel
theorem dX5_likenessOf_32 : decode cX5_likenessOf 32 = .ok (.fconst 0, 1) := by decide +kernel
theorem dX5_likenessOf_33 : decode cX5_likenessOf 33 = .ok (.fstore 4, 2) := by decide +kernel
theorem dX5_likenessOf_35 : decode cX5_likenessOf 35 = .ok (.ldc 50, 2) := by decide +kernel
theorem dX5_likenessOf_37 : decode cX5_likenessOf 37 = .ok (.aload_n 0, 1) := by decide +kernel
theorem dX5_likenessOf_38 : decode cX5_likenessOf 38 = .ok (.aload_n 1, 1) := by decide +kernel
theorem dX5_likenessOf_39 : decode cX5_likenessOf 39 = .ok (.getfield 51, 3) := by decide +kernel
theorem dX5_likenessOf_42 : decode cX5_likenessOf 42 = .ok (.aload_n 2, 1) := by decide +kernel
theorem dX5_likenessOf_43 : decode cX5_likenessOf 43 = .ok (.getfield 51, 3) := by decide +kernel
theorem dX5_likenessOf_46 : decode cX5_likenessOf 46 = .ok (.invokevirtual 55, 3) := by decide +kernel
theorem dX5_likenessOf_49 : decode cX5_likenessOf 49 = .ok (.fmul, 1) := by decide +kernel
theorem dX5_likenessOf_50 : decode cX5_likenessOf 50 = .ok (.fstore 5, 2) := by decide +kernel
theorem dX5_likenessOf_52 : decode cX5_likenessOf 52 = .ok (.fload 5, 2) := by decide +kernel
theorem dX5_likenessOf_54 : decode cX5_likenessOf 54 = .ok (.ldc 59, 2) := by decide +kernel
theorem dX5_likenessOf_56 : decode cX5_likenessOf 56 = .ok (.aload_n 0, 1) := by decide +kernel
theorem dX5_likenessOf_57 : decode cX5_likenessOf 57 = .ok (.aload_n 1, 1) := by decide +kernel
theorem dX5_likenessOf_58 : decode cX5_likenessOf 58 = .ok (.getfield 60, 3) := by decide +kernel
theorem dX5_likenessOf_61 : decode cX5_likenessOf 61 = .ok (.aload_n 2, 1) := by decide +kernel
theorem dX5_likenessOf_62 : decode cX5_likenessOf 62 = .ok (.getfield 60, 3) := by decide +kernel
theorem dX5_likenessOf_65 : decode cX5_likenessOf 65 = .ok (.invokevirtual 55, 3) := by decide +kernel
theorem dX5_likenessOf_68 : decode cX5_likenessOf 68 = .ok (.fmul, 1) := by decide +kernel
theorem dX5_likenessOf_69 : decode cX5_likenessOf 69 = .ok (.fadd, 1) := by decide +kernel
theorem dX5_likenessOf_70 : decode cX5_likenessOf 70 = .ok (.fstore 5, 2) := by decide +kernel
theorem dX5_likenessOf_72 : decode cX5_likenessOf 72 = .ok (.fload 5, 2) := by decide +kernel
theorem dX5_likenessOf_74 : decode cX5_likenessOf 74 = .ok (.ldc 63, 2) := by decide +kernel
theorem dX5_likenessOf_76 : decode cX5_likenessOf 76 = .ok (.fload_n 3, 1) := by decide +kernel
theorem dX5_likenessOf_77 : decode cX5_likenessOf 77 = .ok (.fmul, 1) := by decide +kernel
theorem dX5_likenessOf_78 : decode cX5_likenessOf 78 = .ok (.fadd, 1) := by decide +kernel
theorem dX5_likenessOf_79 : decode cX5_likenessOf 79 = .ok (.fstore 5, 2) := by decide +kernel
theorem dX5_likenessOf_81 : decode cX5_likenessOf 81 = .ok (.fload 5, 2) := by decide +kernel
theorem dX5_likenessOf_83 : decode cX5_likenessOf 83 = .ok (.ldc 64, 2) := by decide +kernel
theorem dX5_likenessOf_85 : decode cX5_likenessOf 85 = .ok (.fload 4, 2) := by decide +kernel
theorem dX5_likenessOf_87 : decode cX5_likenessOf 87 = .ok (.fmul, 1) := by decide +kernel
theorem dX5_likenessOf_88 : decode cX5_likenessOf 88 = .ok (.fadd, 1) := by decide +kernel
theorem dX5_likenessOf_89 : decode cX5_likenessOf 89 = .ok (.freturn, 1) := by decide +kernel
theorem dX6_init_0 : decode cX6_init 0 = .ok (.aload_n 0, 1) := by decide +kernel
theorem dX6_init_1 : decode cX6_init 1 = .ok (.invokespecial 3, 3) := by decide +kernel
theorem dX6_init_4 : decode cX6_init 4 = .ok (.aload_n 0, 1) := by decide +kernel
theorem dX6_init_5 : decode cX6_init 5 = .ok (.new 9, 3) := by decide +kernel
theorem dX6_init_8 : decode cX6_init 8 = .ok (.dup, 1) := by decide +kernel
theorem dX6_init_9 : decode cX6_init 9 = .ok (.bipush 96, 2) := by decide +kernel
theorem dX6_init_11 : decode cX6_init 11 = .ok (.invokespecial 11, 3) := by decide +kernel
theorem dX6_init_14 : decode cX6_init 14 = .ok (.putfield 14, 3) := by decide +kernel
theorem dX6_init_17 : decode cX6_init 17 = .ok (.return_, 1) := by decide +kernel
theorem dX6_clear_0 : decode cX6_clear 0 = .ok (.aload_n 0, 1) := by decide +kernel
theorem dX6_clear_1 : decode cX6_clear 1 = .ok (.getfield 14, 3) := by decide +kernel
theorem dX6_clear_4 : decode cX6_clear 4 = .ok (.iconst 0, 1) := by decide +kernel
theorem dX6_clear_5 : decode cX6_clear 5 = .ok (.putfield 20, 3) := by decide +kernel
theorem dX6_clear_8 : decode cX6_clear 8 = .ok (.return_, 1) := by decide +kernel
theorem dX6_here_0 : decode cX6_here 0 = .ok (.aload_n 0, 1) := by decide +kernel
theorem dX6_here_1 : decode cX6_here 1 = .ok (.getfield 14, 3) := by decide +kernel
theorem dX6_here_4 : decode cX6_here 4 = .ok (.aload_n 0, 1) := by decide +kernel
theorem dX6_here_5 : decode cX6_here 5 = .ok (.getfield 24, 3) := by decide +kernel
theorem dX6_here_8 : decode cX6_here 8 = .ok (.invokevirtual 27, 3) := by decide +kernel
theorem dX6_here_11 : decode cX6_here 11 = .ok (.ireturn, 1) := by decide +kernel
theorem dX6_atEnd_0 : decode cX6_atEnd 0 = .ok (.aload_n 0, 1) := by decide +kernel
theorem dX6_atEnd_1 : decode cX6_atEnd 1 = .ok (.getfield 24, 3) := by decide +kernel
theorem dX6_atEnd_4 : decode cX6_atEnd 4 = .ok (.aload_n 0, 1) := by decide +kernel
theorem dX6_atEnd_5 : decode cX6_atEnd 5 = .ok (.getfield 14, 3) := by decide +kernel
theorem dX6_atEnd_8 : decode cX6_atEnd 8 = .ok (.getfield 20, 3) := by decide +kernel
theorem dX6_atEnd_11 : decode cX6_atEnd 11 = .ok (.if_icmp .lt 7, 3) := by decide +kernel
theorem dX6_atEnd_14 : decode cX6_atEnd 14 = .ok (.iconst 1, 1) := by decide +kernel
theorem dX6_atEnd_15 : decode cX6_atEnd 15 = .ok (.goto 4, 3) := by decide +kernel
theorem dX6_atEnd_18 : decode cX6_atEnd 18 = .ok (.iconst 0, 1) := by decide +kernel
theorem dX6_atEnd_19 : decode cX6_atEnd 19 = .ok (.ireturn, 1) := by decide +kernel
theorem dX6_takeIf_0 : decode cX6_takeIf 0 = .ok (.iload_n 1, 1) := by decide +kernel
theorem dX6_takeIf_1 : decode cX6_takeIf 1 = .ok (.ifCond .eq 13, 3) := by decide +kernel
theorem dX6_takeIf_4 : decode cX6_takeIf 4 = .ok (.aload_n 0, 1) := by decide +kernel
theorem dX6_takeIf_5 : decode cX6_takeIf 5 = .ok (.dup, 1) := by decide +kernel
theorem dX6_takeIf_6 : decode cX6_takeIf 6 = .ok (.getfield 24, 3) := by decide +kernel
theorem dX6_takeIf_9 : decode cX6_takeIf 9 = .ok (.iconst 1, 1) := by decide +kernel
theorem dX6_takeIf_10 : decode cX6_takeIf 10 = .ok (.iadd, 1) := by decide +kernel
theorem dX6_takeIf_11 : decode cX6_takeIf 11 = .ok (.putfield 24, 3) := by decide +kernel
theorem dX6_takeIf_14 : decode cX6_takeIf 14 = .ok (.iload_n 1, 1) := by decide +kernel
theorem dX6_takeIf_15 : decode cX6_takeIf 15 = .ok (.ireturn, 1) := by decide +kernel
theorem dX6_take_0 : decode cX6_take 0 = .ok (.aload_n 0, 1) := by decide +kernel
theorem dX6_take_1 : decode cX6_take 1 = .ok (.aload_n 0, 1) := by decide +kernel
theorem dX6_take_2 : decode cX6_take 2 = .ok (.invokevirtual 31, 3) := by decide +kernel
theorem dX6_take_5 : decode cX6_take 5 = .ok (.ifCond .ne 15, 3) := by decide +kernel
theorem dX6_take_8 : decode cX6_take 8 = .ok (.aload_n 0, 1) := by decide +kernel
theorem dX6_take_9 : decode cX6_take 9 = .ok (.invokevirtual 35, 3) := by decide +kernel
theorem dX6_take_12 : decode cX6_take 12 = .ok (.iload_n 1, 1) := by decide +kernel
theorem dX6_take_13 : decode cX6_take 13 = .ok (.if_icmp .ne 7, 3) := by decide +kernel
theorem dX6_take_16 : decode cX6_take 16 = .ok (.iconst 1, 1) := by decide +kernel
theorem dX6_take_17 : decode cX6_take 17 = .ok (.goto 4, 3) := by decide +kernel
theorem dX6_take_20 : decode cX6_take 20 = .ok (.iconst 0, 1) := by decide +kernel
theorem dX6_take_21 : decode cX6_take 21 = .ok (.invokevirtual 39, 3) := by decide +kernel
theorem dX6_take_24 : decode cX6_take 24 = .ok (.ireturn, 1) := by decide +kernel
theorem dX6_takeDigit_0 : decode cX6_takeDigit 0 = .ok (.aload_n 0, 1) := by decide +kernel
theorem dX6_takeDigit_1 : decode cX6_takeDigit 1 = .ok (.aload_n 0, 1) := by decide +kernel
theorem dX6_takeDigit_2 : decode cX6_takeDigit 2 = .ok (.invokevirtual 35, 3) := by decide +kernel
theorem dX6_takeDigit_5 : decode cX6_takeDigit 5 = .ok (.iload_n 1, 1) := by decide +kernel
theorem dX6_takeDigit_6 : decode cX6_takeDigit 6 = .ok (.invokestatic 43, 3) := by decide +kernel
theorem dX6_takeDigit_9 : decode cX6_takeDigit 9 = .ok (.invokevirtual 39, 3) := by decide +kernel
theorem dX6_takeDigit_12 : decode cX6_takeDigit 12 = .ok (.ireturn, 1) := by decide +kernel
theorem dX6_takeField_0 : decode cX6_takeField 0 = .ok (.aload_n 0, 1) := by decide +kernel
theorem dX6_takeField_1 : decode cX6_takeField 1 = .ok (.ldc 47, 2) := by decide +kernel
theorem dX6_takeField_3 : decode cX6_takeField 3 = .ok (.aload_n 0, 1) := by decide +kernel
theorem dX6_takeField_4 : decode cX6_takeField 4 = .ok (.invokevirtual 35, 3) := by decide +kernel
theorem dX6_takeField_7 : decode cX6_takeField 7 = .ok (.invokevirtual 49, 3) := by decide +kernel
theorem dX6_takeField_10 : decode cX6_takeField 10 = .ok (.ifCond .lt 7, 3) := by decide +kernel
theorem dX6_takeField_13 : decode cX6_takeField 13 = .ok (.iconst 1, 1) := by decide +kernel
theorem dX6_takeField_14 : decode cX6_takeField 14 = .ok (.goto 4, 3) := by decide +kernel
theorem dX6_takeField_17 : decode cX6_takeField 17 = .ok (.iconst 0, 1) := by decide +kernel
theorem dX6_takeField_18 : decode cX6_takeField 18 = .ok (.invokevirtual 39, 3) := by decide +kernel
theorem dX6_takeField_21 : decode cX6_takeField 21 = .ok (.ireturn, 1) := by decide +kernel
theorem dX6_takeRelation_0 : decode cX6_takeRelation 0 = .ok (.aload_n 0, 1) := by decide +kernel
theorem dX6_takeRelation_1 : decode cX6_takeRelation 1 = .ok (.aload_n 0, 1) := by decide +kernel
theorem dX6_takeRelation_2 : decode cX6_takeRelation 2 = .ok (.invokevirtual 35, 3) := by decide +kernel
theorem dX6_takeRelation_5 : decode cX6_takeRelation 5 = .ok (.bipush 61, 2) := by decide +kernel
theorem dX6_takeRelation_7 : decode cX6_takeRelation 7 = .ok (.if_icmp .eq 21, 3) := by decide +kernel
theorem dX6_takeRelation_10 : decode cX6_takeRelation 10 = .ok (.aload_n 0, 1) := by decide +kernel
theorem dX6_takeRelation_11 : decode cX6_takeRelation 11 = .ok (.invokevirtual 35, 3) := by decide +kernel
theorem dX6_takeRelation_14 : decode cX6_takeRelation 14 = .ok (.bipush 60, 2) := by decide +kernel
theorem dX6_takeRelation_16 : decode cX6_takeRelation 16 = .ok (.if_icmp .eq 12, 3) := by decide +kernel
theorem dX6_takeRelation_19 : decode cX6_takeRelation 19 = .ok (.aload_n 0, 1) := by decide +kernel
theorem dX6_takeRelation_20 : decode cX6_takeRelation 20 = .ok (.invokevirtual 35, 3) := by decide +kernel
theorem dX6_takeRelation_23 : decode cX6_takeRelation 23 = .ok (.bipush 62, 2) := by decide +kernel
theorem dX6_takeRelation_25 : decode cX6_takeRelation 25 = .ok (.if_icmp .ne 7, 3) := by decide +kernel
theorem dX6_takeRelation_28 : decode cX6_takeRelation 28 = .ok (.iconst 1, 1) := by decide +kernel
theorem dX6_takeRelation_29 : decode cX6_takeRelation 29 = .ok (.goto 4, 3) := by decide +kernel
theorem dX6_takeRelation_32 : decode cX6_takeRelation 32 = .ok (.iconst 0, 1) := by decide +kernel
theorem dX6_takeRelation_33 : decode cX6_takeRelation 33 = .ok (.invokevirtual 39, 3) := by decide +kernel
theorem dX6_takeRelation_36 : decode cX6_takeRelation 36 = .ok (.ireturn, 1) := by decide +kernel
theorem dX6_takeNumber_0 : decode cX6_takeNumber 0 = .ok (.iconst (-1), 1) := by decide +kernel
theorem dX6_takeNumber_1 : decode cX6_takeNumber 1 = .ok (.istore_n 3, 1) := by decide +kernel
theorem dX6_takeNumber_2 : decode cX6_takeNumber 2 = .ok (.iconst 0, 1) := by decide +kernel
theorem dX6_takeNumber_3 : decode cX6_takeNumber 3 = .ok (.istore 4, 2) := by decide +kernel
theorem dX6_takeNumber_5 : decode cX6_takeNumber 5 = .ok (.iload 4, 2) := by decide +kernel
theorem dX6_takeNumber_7 : decode cX6_takeNumber 7 = .ok (.iload_n 1, 1) := by decide +kernel
theorem dX6_takeNumber_8 : decode cX6_takeNumber 8 = .ok (.if_icmp .ge 52, 3) := by decide +kernel
theorem dX6_takeNumber_11 : decode cX6_takeNumber 11 = .ok (.aload_n 0, 1) := by decide +kernel
theorem dX6_takeNumber_12 : decode cX6_takeNumber 12 = .ok (.invokevirtual 35, 3) := by decide +kernel
theorem dX6_takeNumber_15 : decode cX6_takeNumber 15 = .ok (.iload_n 2, 1) := by decide +kernel
theorem dX6_takeNumber_16 : decode cX6_takeNumber 16 = .ok (.invokestatic 43, 3) := by decide +kernel
theorem dX6_takeNumber_19 : decode cX6_takeNumber 19 = .ok (.ifCond .eq 41, 3) := by decide +kernel
theorem dX6_takeNumber_22 : decode cX6_takeNumber 22 = .ok (.iload_n 3, 1) := by decide +kernel
theorem dX6_takeNumber_23 : decode cX6_takeNumber 23 = .ok (.iconst (-1), 1) := by decide +kernel
theorem dX6_takeNumber_24 : decode cX6_takeNumber 24 = .ok (.if_icmp .ne 7, 3) := by decide +kernel
theorem dX6_takeNumber_27 : decode cX6_takeNumber 27 = .ok (.iconst 0, 1) := by decide +kernel
theorem dX6_takeNumber_28 : decode cX6_takeNumber 28 = .ok (.goto 7, 3) := by decide +kernel
theorem dX6_takeNumber_31 : decode cX6_takeNumber 31 = .ok (.iload_n 3, 1) := by decide +kernel
theorem dX6_takeNumber_32 : decode cX6_takeNumber 32 = .ok (.bipush 10, 2) := by decide +kernel
theorem dX6_takeNumber_34 : decode cX6_takeNumber 34 = .ok (.imul, 1) := by decide +kernel
theorem dX6_takeNumber_35 : decode cX6_takeNumber 35 = .ok (.aload_n 0, 1) := by decide +kernel
theorem dX6_takeNumber_36 : decode cX6_takeNumber 36 = .ok (.invokevirtual 35, 3) := by decide +kernel
theorem dX6_takeNumber_39 : decode cX6_takeNumber 39 = .ok (.bipush 48, 2) := by decide +kernel
theorem dX6_takeNumber_41 : decode cX6_takeNumber 41 = .ok (.isub, 1) := by decide +kernel
theorem dX6_takeNumber_42 : decode cX6_takeNumber 42 = .ok (.iadd, 1) := by decide +kernel
theorem dX6_takeNumber_43 : decode cX6_takeNumber 43 = .ok (.istore_n 3, 1) := by decide +kernel
theorem dX6_takeNumber_44 : decode cX6_takeNumber 44 = .ok (.aload_n 0, 1) := by decide +kernel
theorem dX6_takeNumber_45 : decode cX6_takeNumber 45 = .ok (.dup, 1) := by decide +kernel
theorem dX6_takeNumber_46 : decode cX6_takeNumber 46 = .ok (.getfield 24, 3) := by decide +kernel
theorem dX6_takeNumber_49 : decode cX6_takeNumber 49 = .ok (.iconst 1, 1) := by decide +kernel
theorem dX6_takeNumber_50 : decode cX6_takeNumber 50 = .ok (.iadd, 1) := by decide +kernel
theorem dX6_takeNumber_51 : decode cX6_takeNumber 51 = .ok (.putfield 24, 3) := by decide +kernel
theorem dX6_takeNumber_54 : decode cX6_takeNumber 54 = .ok (.iinc 4 1, 3) := by decide +kernel
theorem dX6_takeNumber_57 : decode cX6_takeNumber 57 = .ok (.goto (-52), 3) := by decide +kernel
theorem dX6_takeNumber_60 : decode cX6_takeNumber 60 = .ok (.iload_n 3, 1) := by decide +kernel
theorem dX6_takeNumber_61 : decode cX6_takeNumber 61 = .ok (.ireturn, 1) := by decide +kernel
theorem dX6_takeWord_0 : decode cX6_takeWord 0 = .ok (.aload_n 1, 1) := by decide +kernel
theorem dX6_takeWord_1 : decode cX6_takeWord 1 = .ok (.iconst 0, 1) := by decide +kernel
theorem dX6_takeWord_2 : decode cX6_takeWord 2 = .ok (.putfield 20, 3) := by decide +kernel
theorem dX6_takeWord_5 : decode cX6_takeWord 5 = .ok (.iconst 0, 1) := by decide +kernel
theorem dX6_takeWord_6 : decode cX6_takeWord 6 = .ok (.istore_n 2, 1) := by decide +kernel
theorem dX6_takeWord_7 : decode cX6_takeWord 7 = .ok (.iload_n 2, 1) := by decide +kernel
theorem dX6_takeWord_8 : decode cX6_takeWord 8 = .ok (.bipush 12, 2) := by decide +kernel
theorem dX6_takeWord_10 : decode cX6_takeWord 10 = .ok (.if_icmp .ge 43, 3) := by decide +kernel
theorem dX6_takeWord_13 : decode cX6_takeWord 13 = .ok (.aload_n 0, 1) := by decide +kernel
theorem dX6_takeWord_14 : decode cX6_takeWord 14 = .ok (.invokevirtual 31, 3) := by decide +kernel
theorem dX6_takeWord_17 : decode cX6_takeWord 17 = .ok (.ifCond .ne 36, 3) := by decide +kernel
theorem dX6_takeWord_20 : decode cX6_takeWord 20 = .ok (.aload_n 0, 1) := by decide +kernel
theorem dX6_takeWord_21 : decode cX6_takeWord 21 = .ok (.invokevirtual 35, 3) := by decide +kernel
theorem dX6_takeWord_24 : decode cX6_takeWord 24 = .ok (.bipush 44, 2) := by decide +kernel
theorem dX6_takeWord_26 : decode cX6_takeWord 26 = .ok (.if_icmp .eq 27, 3) := by decide +kernel
theorem dX6_takeWord_29 : decode cX6_takeWord 29 = .ok (.aload_n 1, 1) := by decide +kernel
theorem dX6_takeWord_30 : decode cX6_takeWord 30 = .ok (.aload_n 0, 1) := by decide +kernel
theorem dX6_takeWord_31 : decode cX6_takeWord 31 = .ok (.invokevirtual 35, 3) := by decide +kernel
theorem dX6_takeWord_34 : decode cX6_takeWord 34 = .ok (.invokevirtual 55, 3) := by decide +kernel
theorem dX6_takeWord_37 : decode cX6_takeWord 37 = .ok (.aload_n 0, 1) := by decide +kernel
theorem dX6_takeWord_38 : decode cX6_takeWord 38 = .ok (.dup, 1) := by decide +kernel
theorem dX6_takeWord_39 : decode cX6_takeWord 39 = .ok (.getfield 24, 3) := by decide +kernel
theorem dX6_takeWord_42 : decode cX6_takeWord 42 = .ok (.iconst 1, 1) := by decide +kernel
theorem dX6_takeWord_43 : decode cX6_takeWord 43 = .ok (.iadd, 1) := by decide +kernel
theorem dX6_takeWord_44 : decode cX6_takeWord 44 = .ok (.putfield 24, 3) := by decide +kernel
theorem dX6_takeWord_47 : decode cX6_takeWord 47 = .ok (.iinc 2 1, 3) := by decide +kernel
theorem dX6_takeWord_50 : decode cX6_takeWord 50 = .ok (.goto (-43), 3) := by decide +kernel
theorem dX6_takeWord_53 : decode cX6_takeWord 53 = .ok (.aload_n 1, 1) := by decide +kernel
theorem dX6_takeWord_54 : decode cX6_takeWord 54 = .ok (.getfield 20, 3) := by decide +kernel
theorem dX6_takeWord_57 : decode cX6_takeWord 57 = .ok (.ifCond .le 7, 3) := by decide +kernel
theorem dX6_takeWord_60 : decode cX6_takeWord 60 = .ok (.iconst 1, 1) := by decide +kernel
theorem dX6_takeWord_61 : decode cX6_takeWord 61 = .ok (.goto 4, 3) := by decide +kernel
theorem dX6_takeWord_64 : decode cX6_takeWord 64 = .ok (.iconst 0, 1) := by decide +kernel
theorem dX6_takeWord_65 : decode cX6_takeWord 65 = .ok (.ireturn, 1) := by decide +kernel
theorem dX7_init_0 : decode cX7_init 0 = .ok (.aload_n 0, 1) := by decide +kernel
theorem dX7_init_1 : decode cX7_init 1 = .ok (.invokespecial 3, 3) := by decide +kernel
theorem dX7_init_4 : decode cX7_init 4 = .ok (.aload_n 0, 1) := by decide +kernel
theorem dX7_init_5 : decode cX7_init 5 = .ok (.bipush 8, 2) := by decide +kernel
theorem dX7_init_7 : decode cX7_init 7 = .ok (.anewarray 9, 3) := by decide +kernel
theorem dX7_init_10 : decode cX7_init 10 = .ok (.putfield 11, 3) := by decide +kernel
theorem dX7_init_13 : decode cX7_init 13 = .ok (.aload_n 0, 1) := by decide +kernel
theorem dX7_init_14 : decode cX7_init 14 = .ok (.new 9, 3) := by decide +kernel
theorem dX7_init_17 : decode cX7_init 17 = .ok (.dup, 1) := by decide +kernel
theorem dX7_init_18 : decode cX7_init 18 = .ok (.invokespecial 17, 3) := by decide +kernel
theorem dX7_init_21 : decode cX7_init 21 = .ok (.putfield 18, 3) := by decide +kernel
theorem dX7_init_24 : decode cX7_init 24 = .ok (.aload_n 0, 1) := by decide +kernel
theorem dX7_init_25 : decode cX7_init 25 = .ok (.new 22, 3) := by decide +kernel
theorem dX7_init_28 : decode cX7_init 28 = .ok (.dup, 1) := by decide +kernel
theorem dX7_init_29 : decode cX7_init 29 = .ok (.invokespecial 24, 3) := by decide +kernel
theorem dX7_init_32 : decode cX7_init 32 = .ok (.putfield 25, 3) := by decide +kernel
theorem dX7_init_35 : decode cX7_init 35 = .ok (.aload_n 0, 1) := by decide +kernel
theorem dX7_init_36 : decode cX7_init 36 = .ok (.new 29, 3) := by decide +kernel
theorem dX7_init_39 : decode cX7_init 39 = .ok (.dup, 1) := by decide +kernel
theorem dX7_init_40 : decode cX7_init 40 = .ok (.invokespecial 31, 3) := by decide +kernel
theorem dX7_init_43 : decode cX7_init 43 = .ok (.putfield 32, 3) := by decide +kernel
theorem dX7_init_46 : decode cX7_init 46 = .ok (.aload_n 0, 1) := by decide +kernel
theorem dX7_init_47 : decode cX7_init 47 = .ok (.iconst 5, 1) := by decide +kernel
theorem dX7_init_48 : decode cX7_init 48 = .ok (.newarray .int, 2) := by decide +kernel
theorem dX7_init_50 : decode cX7_init 50 = .ok (.putfield 36, 3) := by decide +kernel
theorem dX7_init_53 : decode cX7_init 53 = .ok (.aload_n 0, 1) := by decide +kernel
theorem dX7_init_54 : decode cX7_init 54 = .ok (.iconst 5, 1) := by decide +kernel
theorem dX7_init_55 : decode cX7_init 55 = .ok (.newarray .int, 2) := by decide +kernel
theorem dX7_init_57 : decode cX7_init 57 = .ok (.putfield 40, 3) := by decide +kernel
theorem dX7_init_60 : decode cX7_init 60 = .ok (.aload_n 0, 1) := by decide +kernel
theorem dX7_init_61 : decode cX7_init 61 = .ok (.iconst 5, 1) := by decide +kernel
theorem dX7_init_62 : decode cX7_init 62 = .ok (.newarray .int, 2) := by decide +kernel
theorem dX7_init_64 : decode cX7_init 64 = .ok (.putfield 43, 3) := by decide +kernel
theorem dX7_init_67 : decode cX7_init 67 = .ok (.iconst 0, 1) := by decide +kernel
theorem dX7_init_68 : decode cX7_init 68 = .ok (.istore_n 1, 1) := by decide +kernel
theorem dX7_init_69 : decode cX7_init 69 = .ok (.iload_n 1, 1) := by decide +kernel
theorem dX7_init_70 : decode cX7_init 70 = .ok (.bipush 8, 2) := by decide +kernel
theorem dX7_init_72 : decode cX7_init 72 = .ok (.if_icmp .ge 22, 3) := by decide +kernel
theorem dX7_init_75 : decode cX7_init 75 = .ok (.aload_n 0, 1) := by decide +kernel
theorem dX7_init_76 : decode cX7_init 76 = .ok (.getfield 11, 3) := by decide +kernel
theorem dX7_init_79 : decode cX7_init 79 = .ok (.iload_n 1, 1) := by decide +kernel
theorem dX7_init_80 : decode cX7_init 80 = .ok (.new 9, 3) := by decide +kernel
theorem dX7_init_83 : decode cX7_init 83 = .ok (.dup, 1) := by decide +kernel
theorem dX7_init_84 : decode cX7_init 84 = .ok (.invokespecial 17, 3) := by decide +kernel
theorem dX7_init_87 : decode cX7_init 87 = .ok (.aastore, 1) := by decide +kernel
theorem dX7_init_88 : decode cX7_init 88 = .ok (.iinc 1 1, 3) := by decide +kernel
theorem dX7_init_91 : decode cX7_init 91 = .ok (.goto (-22), 3) := by decide +kernel
theorem dX7_init_94 : decode cX7_init 94 = .ok (.return_, 1) := by decide +kernel
theorem dX7_readTemplate_0 : decode cX7_readTemplate 0 = .ok (.aload_n 0, 1) := by decide +kernel
theorem dX7_readTemplate_1 : decode cX7_readTemplate 1 = .ok (.getfield 18, 3) := by decide +kernel
theorem dX7_readTemplate_4 : decode cX7_readTemplate 4 = .ok (.aload_n 1, 1) := by decide +kernel
theorem dX7_readTemplate_5 : decode cX7_readTemplate 5 = .ok (.invokevirtual 46, 3) := by decide +kernel
theorem dX7_readTemplate_8 : decode cX7_readTemplate 8 = .ok (.istore_n 3, 1) := by decide +kernel
theorem dX7_readTemplate_9 : decode cX7_readTemplate 9 = .ok (.iload_n 3, 1) := by decide +kernel
theorem dX7_readTemplate_10 : decode cX7_readTemplate 10 = .ok (.ifCond .eq 37, 3) := by decide +kernel
theorem dX7_readTemplate_13 : decode cX7_readTemplate 13 = .ok (.iload_n 2, 1) := by decide +kernel
theorem dX7_readTemplate_14 : decode cX7_readTemplate 14 = .ok (.ifCond .lt 33, 3) := by decide +kernel
theorem dX7_readTemplate_17 : decode cX7_readTemplate 17 = .ok (.iload_n 2, 1) := by decide +kernel
theorem dX7_readTemplate_18 : decode cX7_readTemplate 18 = .ok (.bipush 8, 2) := by decide +kernel
theorem dX7_readTemplate_20 : decode cX7_readTemplate 20 = .ok (.if_icmp .ge 27, 3) := by decide +kernel
theorem dX7_readTemplate_23 : decode cX7_readTemplate 23 = .ok (.aload_n 0, 1) := by decide +kernel
theorem dX7_readTemplate_24 : decode cX7_readTemplate 24 = .ok (.getfield 11, 3) := by decide +kernel
theorem dX7_readTemplate_27 : decode cX7_readTemplate 27 = .ok (.iload_n 2, 1) := by decide +kernel
theorem dX7_readTemplate_28 : decode cX7_readTemplate 28 = .ok (.aaload, 1) := by decide +kernel
theorem dX7_readTemplate_29 : decode cX7_readTemplate 29 = .ok (.astore 4, 2) := by decide +kernel
theorem dX7_readTemplate_31 : decode cX7_readTemplate 31 = .ok (.aload_n 0, 1) := by decide +kernel
theorem dX7_readTemplate_32 : decode cX7_readTemplate 32 = .ok (.getfield 11, 3) := by decide +kernel
theorem dX7_readTemplate_35 : decode cX7_readTemplate 35 = .ok (.iload_n 2, 1) := by decide +kernel
theorem dX7_readTemplate_36 : decode cX7_readTemplate 36 = .ok (.aload_n 0, 1) := by decide +kernel
theorem dX7_readTemplate_37 : decode cX7_readTemplate 37 = .ok (.getfield 18, 3) := by decide +kernel
theorem dX7_readTemplate_40 : decode cX7_readTemplate 40 = .ok (.aastore, 1) := by decide +kernel
theorem dX7_readTemplate_41 : decode cX7_readTemplate 41 = .ok (.aload_n 0, 1) := by decide +kernel
theorem dX7_readTemplate_42 : decode cX7_readTemplate 42 = .ok (.aload 4, 2) := by decide +kernel
theorem dX7_readTemplate_44 : decode cX7_readTemplate 44 = .ok (.putfield 18, 3) := by decide +kernel
theorem dX7_readTemplate_47 : decode cX7_readTemplate 47 = .ok (.iload_n 3, 1) := by decide +kernel
theorem dX7_readTemplate_48 : decode cX7_readTemplate 48 = .ok (.ireturn, 1) := by decide +kernel
theorem dX7_templateAt_0 : decode cX7_templateAt 0 = .ok (.iload_n 1, 1) := by decide +kernel
theorem dX7_templateAt_1 : decode cX7_templateAt 1 = .ok (.ifCond .lt 25, 3) := by decide +kernel
theorem dX7_templateAt_4 : decode cX7_templateAt 4 = .ok (.iload_n 1, 1) := by decide +kernel
theorem dX7_templateAt_5 : decode cX7_templateAt 5 = .ok (.aload_n 0, 1) := by decide +kernel
theorem dX7_templateAt_6 : decode cX7_templateAt 6 = .ok (.getfield 50, 3) := by decide +kernel
theorem dX7_templateAt_9 : decode cX7_templateAt 9 = .ok (.if_icmp .ge 17, 3) := by decide +kernel
theorem dX7_templateAt_12 : decode cX7_templateAt 12 = .ok (.iload_n 1, 1) := by decide +kernel
theorem dX7_templateAt_13 : decode cX7_templateAt 13 = .ok (.iconst 5, 1) := by decide +kernel
theorem dX7_templateAt_14 : decode cX7_templateAt 14 = .ok (.if_icmp .ge 12, 3) := by decide +kernel
theorem dX7_templateAt_17 : decode cX7_templateAt 17 = .ok (.aload_n 0, 1) := by decide +kernel
theorem dX7_templateAt_18 : decode cX7_templateAt 18 = .ok (.getfield 36, 3) := by decide +kernel
theorem dX7_templateAt_21 : decode cX7_templateAt 21 = .ok (.iload_n 1, 1) := by decide +kernel
theorem dX7_templateAt_22 : decode cX7_templateAt 22 = .ok (.iaload, 1) := by decide +kernel
theorem dX7_templateAt_23 : decode cX7_templateAt 23 = .ok (.goto 4, 3) := by decide +kernel
theorem dX7_templateAt_26 : decode cX7_templateAt 26 = .ok (.iconst (-1), 1) := by decide +kernel
theorem dX7_templateAt_27 : decode cX7_templateAt 27 = .ok (.ireturn, 1) := by decide +kernel
theorem dX7_placeAt_0 : decode cX7_placeAt 0 = .ok (.iload_n 1, 1) := by decide +kernel
theorem dX7_placeAt_1 : decode cX7_placeAt 1 = .ok (.ifCond .lt 25, 3) := by decide +kernel
theorem dX7_placeAt_4 : decode cX7_placeAt 4 = .ok (.iload_n 1, 1) := by decide +kernel
theorem dX7_placeAt_5 : decode cX7_placeAt 5 = .ok (.aload_n 0, 1) := by decide +kernel
theorem dX7_placeAt_6 : decode cX7_placeAt 6 = .ok (.getfield 50, 3) := by decide +kernel
theorem dX7_placeAt_9 : decode cX7_placeAt 9 = .ok (.if_icmp .ge 17, 3) := by decide +kernel
theorem dX7_placeAt_12 : decode cX7_placeAt 12 = .ok (.iload_n 1, 1) := by decide +kernel
theorem dX7_placeAt_13 : decode cX7_placeAt 13 = .ok (.iconst 5, 1) := by decide +kernel
theorem dX7_placeAt_14 : decode cX7_placeAt 14 = .ok (.if_icmp .ge 12, 3) := by decide +kernel
theorem dX7_placeAt_17 : decode cX7_placeAt 17 = .ok (.aload_n 0, 1) := by decide +kernel
theorem dX7_placeAt_18 : decode cX7_placeAt 18 = .ok (.getfield 40, 3) := by decide +kernel
theorem dX7_placeAt_21 : decode cX7_placeAt 21 = .ok (.iload_n 1, 1) := by decide +kernel
theorem dX7_placeAt_22 : decode cX7_placeAt 22 = .ok (.iaload, 1) := by decide +kernel
theorem dX7_placeAt_23 : decode cX7_placeAt 23 = .ok (.goto 4, 3) := by decide +kernel
theorem dX7_placeAt_26 : decode cX7_placeAt 26 = .ok (.iconst (-1), 1) := by decide +kernel
theorem dX7_placeAt_27 : decode cX7_placeAt 27 = .ok (.ireturn, 1) := by decide +kernel
theorem dX7_write_0 : decode cX7_write 0 = .ok (.aload_n 0, 1) := by decide +kernel
theorem dX7_write_1 : decode cX7_write 1 = .ok (.getfield 32, 3) := by decide +kernel
theorem dX7_write_4 : decode cX7_write 4 = .ok (.getfield 54, 3) := by decide +kernel
theorem dX7_write_7 : decode cX7_write 7 = .ok (.iconst 0, 1) := by decide +kernel
theorem dX7_write_8 : decode cX7_write 8 = .ok (.putfield 58, 3) := by decide +kernel
theorem dX7_write_11 : decode cX7_write 11 = .ok (.aload_n 0, 1) := by decide +kernel
theorem dX7_write_12 : decode cX7_write 12 = .ok (.getfield 32, 3) := by decide +kernel
theorem dX7_write_15 : decode cX7_write 15 = .ok (.iconst 0, 1) := by decide +kernel
theorem dX7_write_16 : decode cX7_write 16 = .ok (.putfield 63, 3) := by decide +kernel
theorem dX7_write_19 : decode cX7_write 19 = .ok (.aload_n 0, 1) := by decide +kernel
theorem dX7_write_20 : decode cX7_write 20 = .ok (.lconst 0, 1) := by decide +kernel
theorem dX7_write_21 : decode cX7_write 21 = .ok (.putfield 66, 3) := by decide +kernel
theorem dX7_write_24 : decode cX7_write 24 = .ok (.aload_n 0, 1) := by decide +kernel
theorem dX7_write_25 : decode cX7_write 25 = .ok (.iconst 0, 1) := by decide +kernel
theorem dX7_write_26 : decode cX7_write 26 = .ok (.putfield 50, 3) := by decide +kernel
theorem dX7_write_29 : decode cX7_write 29 = .ok (.aload_n 0, 1) := by decide +kernel
theorem dX7_write_30 : decode cX7_write 30 = .ok (.iload_n 1, 1) := by decide +kernel
theorem dX7_write_31 : decode cX7_write 31 = .ok (.invokevirtual 70, 3) := by decide +kernel
theorem dX7_write_34 : decode cX7_write 34 = .ok (.ifCond .ne 10, 3) := by decide +kernel
theorem dX7_write_37 : decode cX7_write 37 = .ok (.aload_n 0, 1) := by decide +kernel
theorem dX7_write_38 : decode cX7_write 38 = .ok (.iload_n 1, 1) := by decide +kernel
theorem dX7_write_39 : decode cX7_write 39 = .ok (.iconst 1, 1) := by decide +kernel
theorem dX7_write_40 : decode cX7_write 40 = .ok (.invokevirtual 74, 3) := by decide +kernel
theorem dX7_write_43 : decode cX7_write 43 = .ok (.return_, 1) := by decide +kernel
theorem dX7_write_44 : decode cX7_write 44 = .ok (.aload_n 0, 1) := by decide +kernel
theorem dX7_write_45 : decode cX7_write 45 = .ok (.iload_n 1, 1) := by decide +kernel
theorem dX7_write_46 : decode cX7_write 46 = .ok (.invokevirtual 78, 3) := by decide +kernel
theorem dX7_write_49 : decode cX7_write 49 = .ok (.iconst 0, 1) := by decide +kernel
theorem dX7_write_50 : decode cX7_write 50 = .ok (.istore_n 2, 1) := by decide +kernel
theorem dX7_write_51 : decode cX7_write 51 = .ok (.iload_n 2, 1) := by decide +kernel
theorem dX7_write_52 : decode cX7_write 52 = .ok (.ldc 82, 2) := by decide +kernel
theorem dX7_write_54 : decode cX7_write 54 = .ok (.if_icmp .ge 36, 3) := by decide +kernel
theorem dX7_write_57 : decode cX7_write 57 = .ok (.aload_n 0, 1) := by decide +kernel
theorem dX7_write_58 : decode cX7_write 58 = .ok (.getfield 50, 3) := by decide +kernel
theorem dX7_write_61 : decode cX7_write 61 = .ok (.ifCond .le 29, 3) := by decide +kernel
theorem dX7_write_64 : decode cX7_write 64 = .ok (.aload_n 0, 1) := by decide +kernel
theorem dX7_write_65 : decode cX7_write 65 = .ok (.getfield 32, 3) := by decide +kernel
theorem dX7_write_68 : decode cX7_write 68 = .ok (.getfield 63, 3) := by decide +kernel
theorem dX7_write_71 : decode cX7_write 71 = .ok (.ifCond .ne 19, 3) := by decide +kernel
theorem dX7_write_74 : decode cX7_write 74 = .ok (.aload_n 0, 1) := by decide +kernel
theorem dX7_write_75 : decode cX7_write 75 = .ok (.aload_n 0, 1) := by decide +kernel
theorem dX7_write_76 : decode cX7_write 76 = .ok (.getfield 50, 3) := by decide +kernel
theorem dX7_write_79 : decode cX7_write 79 = .ok (.iconst 1, 1) := by decide +kernel
theorem dX7_write_80 : decode cX7_write 80 = .ok (.isub, 1) := by decide +kernel
theorem dX7_write_81 : decode cX7_write 81 = .ok (.invokevirtual 83, 3) := by decide +kernel
theorem dX7_write_84 : decode cX7_write 84 = .ok (.iinc 2 1, 3) := by decide +kernel
theorem dX7_write_87 : decode cX7_write 87 = .ok (.goto (-36), 3) := by decide +kernel
theorem dX7_write_90 : decode cX7_write 90 = .ok (.return_, 1) := by decide +kernel
theorem dX7_blameWhole_0 : decode cX7_blameWhole 0 = .ok (.aload_n 0, 1) := by decide +kernel
theorem dX7_blameWhole_1 : decode cX7_blameWhole 1 = .ok (.iconst 0, 1) := by decide +kernel
theorem dX7_blameWhole_2 : decode cX7_blameWhole 2 = .ok (.putfield 50, 3) := by decide +kernel
theorem dX7_blameWhole_5 : decode cX7_blameWhole 5 = .ok (.aload_n 0, 1) := by decide +kernel
theorem dX7_blameWhole_6 : decode cX7_blameWhole 6 = .ok (.iload_n 1, 1) := by decide +kernel
theorem dX7_blameWhole_7 : decode cX7_blameWhole 7 = .ok (.invokevirtual 78, 3) := by decide +kernel
theorem dX7_blameWhole_10 : decode cX7_blameWhole 10 = .ok (.aload_n 0, 1) := by decide +kernel
theorem dX7_blameWhole_11 : decode cX7_blameWhole 11 = .ok (.getfield 32, 3) := by decide +kernel
theorem dX7_blameWhole_14 : decode cX7_blameWhole 14 = .ok (.iload_n 2, 1) := by decide +kernel
theorem dX7_blameWhole_15 : decode cX7_blameWhole 15 = .ok (.putfield 63, 3) := by decide +kernel
theorem dX7_blameWhole_18 : decode cX7_blameWhole 18 = .ok (.return_, 1) := by decide +kernel
theorem dX7_isTold_0 : decode cX7_isTold 0 = .ok (.iload_n 1, 1) := by decide +kernel
theorem dX7_isTold_1 : decode cX7_isTold 1 = .ok (.ifCond .lt 25, 3) := by decide +kernel
theorem dX7_isTold_4 : decode cX7_isTold 4 = .ok (.iload_n 1, 1) := by decide +kernel
theorem dX7_isTold_5 : decode cX7_isTold 5 = .ok (.bipush 8, 2) := by decide +kernel
theorem dX7_isTold_7 : decode cX7_isTold 7 = .ok (.if_icmp .ge 19, 3) := by decide +kernel
theorem dX7_isTold_10 : decode cX7_isTold 10 = .ok (.aload_n 0, 1) := by decide +kernel
theorem dX7_isTold_11 : decode cX7_isTold 11 = .ok (.getfield 11, 3) := by decide +kernel
theorem dX7_isTold_14 : decode cX7_isTold 14 = .ok (.iload_n 1, 1) := by decide +kernel
theorem dX7_isTold_15 : decode cX7_isTold 15 = .ok (.aaload, 1) := by decide +kernel
theorem dX7_isTold_16 : decode cX7_isTold 16 = .ok (.getfield 86, 3) := by decide +kernel
theorem dX7_isTold_19 : decode cX7_isTold 19 = .ok (.ifCond .eq 7, 3) := by decide +kernel
theorem dX7_isTold_22 : decode cX7_isTold 22 = .ok (.iconst 1, 1) := by decide +kernel
theorem dX7_isTold_23 : decode cX7_isTold 23 = .ok (.goto 4, 3) := by decide +kernel
theorem dX7_isTold_26 : decode cX7_isTold 26 = .ok (.iconst 0, 1) := by decide +kernel
theorem dX7_isTold_27 : decode cX7_isTold 27 = .ok (.ireturn, 1) := by decide +kernel
theorem dX7_open_0 : decode cX7_open 0 = .ok (.aload_n 0, 1) := by decide +kernel
theorem dX7_open_1 : decode cX7_open 1 = .ok (.getfield 50, 3) := by decide +kernel
theorem dX7_open_4 : decode cX7_open 4 = .ok (.ifCond .lt 60, 3) := by decide +kernel
theorem dX7_open_7 : decode cX7_open 7 = .ok (.aload_n 0, 1) := by decide +kernel
theorem dX7_open_8 : decode cX7_open 8 = .ok (.getfield 50, 3) := by decide +kernel
theorem dX7_open_11 : decode cX7_open 11 = .ok (.iconst 5, 1) := by decide +kernel
theorem dX7_open_12 : decode cX7_open 12 = .ok (.if_icmp .ge 52, 3) := by decide +kernel
theorem dX7_open_15 : decode cX7_open 15 = .ok (.aload_n 0, 1) := by decide +kernel
theorem dX7_open_16 : decode cX7_open 16 = .ok (.getfield 36, 3) := by decide +kernel
theorem dX7_open_19 : decode cX7_open 19 = .ok (.aload_n 0, 1) := by decide +kernel
theorem dX7_open_20 : decode cX7_open 20 = .ok (.getfield 50, 3) := by decide +kernel
theorem dX7_open_23 : decode cX7_open 23 = .ok (.iload_n 1, 1) := by decide +kernel
theorem dX7_open_24 : decode cX7_open 24 = .ok (.iastore, 1) := by decide +kernel
theorem dX7_open_25 : decode cX7_open 25 = .ok (.aload_n 0, 1) := by decide +kernel
theorem dX7_open_26 : decode cX7_open 26 = .ok (.getfield 40, 3) := by decide +kernel
theorem dX7_open_29 : decode cX7_open 29 = .ok (.aload_n 0, 1) := by decide +kernel
theorem dX7_open_30 : decode cX7_open 30 = .ok (.getfield 50, 3) := by decide +kernel
theorem dX7_open_33 : decode cX7_open 33 = .ok (.iconst 0, 1) := by decide +kernel
theorem dX7_open_34 : decode cX7_open 34 = .ok (.iastore, 1) := by decide +kernel
theorem dX7_open_35 : decode cX7_open 35 = .ok (.aload_n 0, 1) := by decide +kernel
theorem dX7_open_36 : decode cX7_open 36 = .ok (.getfield 43, 3) := by decide +kernel
theorem dX7_open_39 : decode cX7_open 39 = .ok (.aload_n 0, 1) := by decide +kernel
theorem dX7_open_40 : decode cX7_open 40 = .ok (.getfield 50, 3) := by decide +kernel
theorem dX7_open_43 : decode cX7_open 43 = .ok (.aload_n 0, 1) := by decide +kernel
theorem dX7_open_44 : decode cX7_open 44 = .ok (.getfield 32, 3) := by decide +kernel
theorem dX7_open_47 : decode cX7_open 47 = .ok (.getfield 54, 3) := by decide +kernel
theorem dX7_open_50 : decode cX7_open 50 = .ok (.getfield 58, 3) := by decide +kernel
theorem dX7_open_53 : decode cX7_open 53 = .ok (.iastore, 1) := by decide +kernel
theorem dX7_open_54 : decode cX7_open 54 = .ok (.aload_n 0, 1) := by decide +kernel
theorem dX7_open_55 : decode cX7_open 55 = .ok (.dup, 1) := by decide +kernel
theorem dX7_open_56 : decode cX7_open 56 = .ok (.getfield 50, 3) := by decide +kernel
theorem dX7_open_59 : decode cX7_open 59 = .ok (.iconst 1, 1) := by decide +kernel
theorem dX7_open_60 : decode cX7_open 60 = .ok (.iadd, 1) := by decide +kernel
theorem dX7_open_61 : decode cX7_open 61 = .ok (.putfield 50, 3) := by decide +kernel
theorem dX7_open_64 : decode cX7_open 64 = .ok (.return_, 1) := by decide +kernel
theorem dX7_writePart_0 : decode cX7_writePart 0 = .ok (.iload_n 1, 1) := by decide +kernel
theorem dX7_writePart_1 : decode cX7_writePart 1 = .ok (.ifCond .lt 21, 3) := by decide +kernel
theorem dX7_writePart_4 : decode cX7_writePart 4 = .ok (.iload_n 1, 1) := by decide +kernel
theorem dX7_writePart_5 : decode cX7_writePart 5 = .ok (.iconst 5, 1) := by decide +kernel
theorem dX7_writePart_6 : decode cX7_writePart 6 = .ok (.if_icmp .ge 16, 3) := by decide +kernel
theorem dX7_writePart_9 : decode cX7_writePart 9 = .ok (.aload_n 0, 1) := by decide +kernel
theorem dX7_writePart_10 : decode cX7_writePart 10 = .ok (.aload_n 0, 1) := by decide +kernel
theorem dX7_writePart_11 : decode cX7_writePart 11 = .ok (.getfield 36, 3) := by decide +kernel
theorem dX7_writePart_14 : decode cX7_writePart 14 = .ok (.iload_n 1, 1) := by decide +kernel
theorem dX7_writePart_15 : decode cX7_writePart 15 = .ok (.iaload, 1) := by decide +kernel
theorem dX7_writePart_16 : decode cX7_writePart 16 = .ok (.invokevirtual 70, 3) := by decide +kernel
theorem dX7_writePart_19 : decode cX7_writePart 19 = .ok (.ifCond .ne 4, 3) := by decide +kernel
theorem dX7_writePart_22 : decode cX7_writePart 22 = .ok (.return_, 1) := by decide +kernel
theorem dX7_writePart_23 : decode cX7_writePart 23 = .ok (.aload_n 0, 1) := by decide +kernel
theorem dX7_writePart_24 : decode cX7_writePart 24 = .ok (.getfield 11, 3) := by decide +kernel
theorem dX7_writePart_27 : decode cX7_writePart 27 = .ok (.aload_n 0, 1) := by decide +kernel
theorem dX7_writePart_28 : decode cX7_writePart 28 = .ok (.getfield 36, 3) := by decide +kernel
theorem dX7_writePart_31 : decode cX7_writePart 31 = .ok (.iload_n 1, 1) := by decide +kernel
theorem dX7_writePart_32 : decode cX7_writePart 32 = .ok (.iaload, 1) := by decide +kernel
theorem dX7_writePart_33 : decode cX7_writePart 33 = .ok (.aaload, 1) := by decide +kernel
theorem dX7_writePart_34 : decode cX7_writePart 34 = .ok (.astore_n 2, 1) := by decide +kernel
theorem dX7_writePart_35 : decode cX7_writePart 35 = .ok (.aload_n 0, 1) := by decide +kernel
theorem dX7_writePart_36 : decode cX7_writePart 36 = .ok (.getfield 40, 3) := by decide +kernel
theorem dX7_writePart_39 : decode cX7_writePart 39 = .ok (.iload_n 1, 1) := by decide +kernel
theorem dX7_writePart_40 : decode cX7_writePart 40 = .ok (.iaload, 1) := by decide +kernel
theorem dX7_writePart_41 : decode cX7_writePart 41 = .ok (.istore_n 3, 1) := by decide +kernel
theorem dX7_writePart_42 : decode cX7_writePart 42 = .ok (.aload_n 2, 1) := by decide +kernel
theorem dX7_writePart_43 : decode cX7_writePart 43 = .ok (.getfield 90, 3) := by decide +kernel
theorem dX7_writePart_46 : decode cX7_writePart 46 = .ok (.iload_n 3, 1) := by decide +kernel
theorem dX7_writePart_47 : decode cX7_writePart 47 = .ok (.invokevirtual 93, 3) := by decide +kernel
theorem dX7_writePart_50 : decode cX7_writePart 50 = .ok (.istore 4, 2) := by decide +kernel
theorem dX7_writePart_52 : decode cX7_writePart 52 = .ok (.iload_n 3, 1) := by decide +kernel
theorem dX7_writePart_53 : decode cX7_writePart 53 = .ok (.aload_n 2, 1) := by decide +kernel
theorem dX7_writePart_54 : decode cX7_writePart 54 = .ok (.getfield 90, 3) := by decide +kernel
theorem dX7_writePart_57 : decode cX7_writePart 57 = .ok (.getfield 58, 3) := by decide +kernel
theorem dX7_writePart_60 : decode cX7_writePart 60 = .ok (.if_icmp .lt 11, 3) := by decide +kernel
theorem dX7_writePart_63 : decode cX7_writePart 63 = .ok (.aload_n 0, 1) := by decide +kernel
theorem dX7_writePart_64 : decode cX7_writePart 64 = .ok (.iload_n 1, 1) := by decide +kernel
theorem dX7_writePart_65 : decode cX7_writePart 65 = .ok (.invokevirtual 97, 3) := by decide +kernel
theorem dX7_writePart_68 : decode cX7_writePart 68 = .ok (.goto 120, 3) := by decide +kernel
theorem dX7_writePart_71 : decode cX7_writePart 71 = .ok (.iload 4, 2) := by decide +kernel
theorem dX7_writePart_73 : decode cX7_writePart 73 = .ok (.bipush 64, 2) := by decide +kernel
theorem dX7_writePart_75 : decode cX7_writePart 75 = .ok (.if_icmp .ne 24, 3) := by decide +kernel
theorem dX7_writePart_78 : decode cX7_writePart 78 = .ok (.aload_n 0, 1) := by decide +kernel
theorem dX7_writePart_79 : decode cX7_writePart 79 = .ok (.iload_n 1, 1) := by decide +kernel
theorem dX7_writePart_80 : decode cX7_writePart 80 = .ok (.aload_n 2, 1) := by decide +kernel
theorem dX7_writePart_81 : decode cX7_writePart 81 = .ok (.getfield 90, 3) := by decide +kernel
theorem dX7_writePart_84 : decode cX7_writePart 84 = .ok (.iload_n 3, 1) := by decide +kernel
theorem dX7_writePart_85 : decode cX7_writePart 85 = .ok (.iconst 1, 1) := by decide +kernel
theorem dX7_writePart_86 : decode cX7_writePart 86 = .ok (.iadd, 1) := by decide +kernel
theorem dX7_writePart_87 : decode cX7_writePart 87 = .ok (.invokevirtual 93, 3) := by decide +kernel
theorem dX7_writePart_90 : decode cX7_writePart 90 = .ok (.bipush 48, 2) := by decide +kernel
theorem dX7_writePart_92 : decode cX7_writePart 92 = .ok (.isub, 1) := by decide +kernel
theorem dX7_writePart_93 : decode cX7_writePart 93 = .ok (.invokevirtual 100, 3) := by decide +kernel
theorem dX7_writePart_96 : decode cX7_writePart 96 = .ok (.goto 92, 3) := by decide +kernel
theorem dX7_writePart_99 : decode cX7_writePart 99 = .ok (.iload 4, 2) := by decide +kernel
theorem dX7_writePart_101 : decode cX7_writePart 101 = .ok (.bipush 60, 2) := by decide +kernel
theorem dX7_writePart_103 : decode cX7_writePart 103 = .ok (.if_icmp .ne 21, 3) := by decide +kernel
theorem dX7_writePart_106 : decode cX7_writePart 106 = .ok (.aload_n 0, 1) := by decide +kernel
theorem dX7_writePart_107 : decode cX7_writePart 107 = .ok (.iload_n 1, 1) := by decide +kernel
theorem dX7_writePart_108 : decode cX7_writePart 108 = .ok (.aload_n 2, 1) := by decide +kernel
theorem dX7_writePart_109 : decode cX7_writePart 109 = .ok (.getfield 90, 3) := by decide +kernel
theorem dX7_writePart_112 : decode cX7_writePart 112 = .ok (.iload_n 3, 1) := by decide +kernel
theorem dX7_writePart_113 : decode cX7_writePart 113 = .ok (.iconst 1, 1) := by decide +kernel
theorem dX7_writePart_114 : decode cX7_writePart 114 = .ok (.iadd, 1) := by decide +kernel
theorem dX7_writePart_115 : decode cX7_writePart 115 = .ok (.invokevirtual 93, 3) := by decide +kernel
theorem dX7_writePart_118 : decode cX7_writePart 118 = .ok (.invokevirtual 103, 3) := by decide +kernel
theorem dX7_writePart_121 : decode cX7_writePart 121 = .ok (.goto 67, 3) := by decide +kernel
theorem dX7_writePart_124 : decode cX7_writePart 124 = .ok (.iload 4, 2) := by decide +kernel
theorem dX7_writePart_126 : decode cX7_writePart 126 = .ok (.bipush 91, 2) := by decide +kernel
theorem dX7_writePart_128 : decode cX7_writePart 128 = .ok (.if_icmp .ne 12, 3) := by decide +kernel
theorem dX7_writePart_131 : decode cX7_writePart 131 = .ok (.aload_n 0, 1) := by decide +kernel
theorem dX7_writePart_132 : decode cX7_writePart 132 = .ok (.iload_n 1, 1) := by decide +kernel
theorem dX7_writePart_133 : decode cX7_writePart 133 = .ok (.aload_n 2, 1) := by decide +kernel
theorem dX7_writePart_134 : decode cX7_writePart 134 = .ok (.invokevirtual 107, 3) := by decide +kernel
theorem dX7_writePart_137 : decode cX7_writePart 137 = .ok (.goto 51, 3) := by decide +kernel
theorem dX7_writePart_140 : decode cX7_writePart 140 = .ok (.iload 4, 2) := by decide +kernel
theorem dX7_writePart_142 : decode cX7_writePart 142 = .ok (.bipush 124, 2) := by decide +kernel
theorem dX7_writePart_144 : decode cX7_writePart 144 = .ok (.if_icmp .ne 17, 3) := by decide +kernel
theorem dX7_writePart_147 : decode cX7_writePart 147 = .ok (.aload_n 0, 1) := by decide +kernel
theorem dX7_writePart_148 : decode cX7_writePart 148 = .ok (.getfield 40, 3) := by decide +kernel
theorem dX7_writePart_151 : decode cX7_writePart 151 = .ok (.iload_n 1, 1) := by decide +kernel
theorem dX7_writePart_152 : decode cX7_writePart 152 = .ok (.aload_n 2, 1) := by decide +kernel
theorem dX7_writePart_153 : decode cX7_writePart 153 = .ok (.iload_n 3, 1) := by decide +kernel
theorem dX7_writePart_154 : decode cX7_writePart 154 = .ok (.invokevirtual 111, 3) := by decide +kernel
theorem dX7_writePart_157 : decode cX7_writePart 157 = .ok (.iastore, 1) := by decide +kernel
theorem dX7_writePart_158 : decode cX7_writePart 158 = .ok (.goto 30, 3) := by decide +kernel
theorem dX7_writePart_161 : decode cX7_writePart 161 = .ok (.iload 4, 2) := by decide +kernel
theorem dX7_writePart_163 : decode cX7_writePart 163 = .ok (.bipush 93, 2) := by decide +kernel
theorem dX7_writePart_165 : decode cX7_writePart 165 = .ok (.if_icmp .ne 16, 3) := by decide +kernel
theorem dX7_writePart_168 : decode cX7_writePart 168 = .ok (.aload_n 0, 1) := by decide +kernel
theorem dX7_writePart_169 : decode cX7_writePart 169 = .ok (.getfield 40, 3) := by decide +kernel
theorem dX7_writePart_172 : decode cX7_writePart 172 = .ok (.iload_n 1, 1) := by decide +kernel
theorem dX7_writePart_173 : decode cX7_writePart 173 = .ok (.dup2, 1) := by decide +kernel
theorem dX7_writePart_174 : decode cX7_writePart 174 = .ok (.iaload, 1) := by decide +kernel
theorem dX7_writePart_175 : decode cX7_writePart 175 = .ok (.iconst 1, 1) := by decide +kernel
theorem dX7_writePart_176 : decode cX7_writePart 176 = .ok (.iadd, 1) := by decide +kernel
theorem dX7_writePart_177 : decode cX7_writePart 177 = .ok (.iastore, 1) := by decide +kernel
theorem dX7_writePart_178 : decode cX7_writePart 178 = .ok (.goto 10, 3) := by decide +kernel
theorem dX7_writePart_181 : decode cX7_writePart 181 = .ok (.aload_n 0, 1) := by decide +kernel
theorem dX7_writePart_182 : decode cX7_writePart 182 = .ok (.iload_n 1, 1) := by decide +kernel
theorem dX7_writePart_183 : decode cX7_writePart 183 = .ok (.iload 4, 2) := by decide +kernel
theorem dX7_writePart_185 : decode cX7_writePart 185 = .ok (.invokevirtual 115, 3) := by decide +kernel
theorem dX7_writePart_188 : decode cX7_writePart 188 = .ok (.return_, 1) := by decide +kernel
theorem dX7_close_0 : decode cX7_close 0 = .ok (.aload_n 0, 1) := by decide +kernel
theorem dX7_close_1 : decode cX7_close 1 = .ok (.getfield 32, 3) := by decide +kernel
theorem dX7_close_4 : decode cX7_close 4 = .ok (.getfield 54, 3) := by decide +kernel
theorem dX7_close_7 : decode cX7_close 7 = .ok (.getfield 58, 3) := by decide +kernel
theorem dX7_close_10 : decode cX7_close 10 = .ok (.aload_n 0, 1) := by decide +kernel
theorem dX7_close_11 : decode cX7_close 11 = .ok (.getfield 43, 3) := by decide +kernel
theorem dX7_close_14 : decode cX7_close 14 = .ok (.iload_n 1, 1) := by decide +kernel
theorem dX7_close_15 : decode cX7_close 15 = .ok (.iaload, 1) := by decide +kernel
theorem dX7_close_16 : decode cX7_close 16 = .ok (.if_icmp .ne 22, 3) := by decide +kernel
theorem dX7_close_19 : decode cX7_close 19 = .ok (.aload_n 0, 1) := by decide +kernel
theorem dX7_close_20 : decode cX7_close 20 = .ok (.dup, 1) := by decide +kernel
theorem dX7_close_21 : decode cX7_close 21 = .ok (.getfield 66, 3) := by decide +kernel
theorem dX7_close_24 : decode cX7_close 24 = .ok (.iload_n 1, 1) := by decide +kernel
theorem dX7_close_25 : decode cX7_close 25 = .ok (.aload_n 0, 1) := by decide +kernel
theorem dX7_close_26 : decode cX7_close 26 = .ok (.getfield 36, 3) := by decide +kernel
theorem dX7_close_29 : decode cX7_close 29 = .ok (.iload_n 1, 1) := by decide +kernel
theorem dX7_close_30 : decode cX7_close 30 = .ok (.iaload, 1) := by decide +kernel
theorem dX7_close_31 : decode cX7_close 31 = .ok (.invokestatic 118, 3) := by decide +kernel
theorem dX7_close_34 : decode cX7_close 34 = .ok (.lor, 1) := by decide +kernel
theorem dX7_close_35 : decode cX7_close 35 = .ok (.putfield 66, 3) := by decide +kernel
theorem dX7_close_38 : decode cX7_close 38 = .ok (.aload_n 0, 1) := by decide +kernel
theorem dX7_close_39 : decode cX7_close 39 = .ok (.iload_n 1, 1) := by decide +kernel
theorem dX7_close_40 : decode cX7_close 40 = .ok (.putfield 50, 3) := by decide +kernel
theorem dX7_close_43 : decode cX7_close 43 = .ok (.iload_n 1, 1) := by decide +kernel
theorem dX7_close_44 : decode cX7_close 44 = .ok (.ifCond .le 15, 3) := by decide +kernel
theorem dX7_close_47 : decode cX7_close 47 = .ok (.aload_n 0, 1) := by decide +kernel
theorem dX7_close_48 : decode cX7_close 48 = .ok (.getfield 40, 3) := by decide +kernel
theorem dX7_close_51 : decode cX7_close 51 = .ok (.iload_n 1, 1) := by decide +kernel
theorem dX7_close_52 : decode cX7_close 52 = .ok (.iconst 1, 1) := by decide +kernel
theorem dX7_close_53 : decode cX7_close 53 = .ok (.isub, 1) := by decide +kernel
theorem dX7_close_54 : decode cX7_close 54 = .ok (.dup2, 1) := by decide +kernel
theorem dX7_close_55 : decode cX7_close 55 = .ok (.iaload, 1) := by decide +kernel
theorem dX7_close_56 : decode cX7_close 56 = .ok (.iconst 2, 1) := by decide +kernel
theorem dX7_close_57 : decode cX7_close 57 = .ok (.iadd, 1) := by decide +kernel
theorem dX7_close_58 : decode cX7_close 58 = .ok (.iastore, 1) := by decide +kernel
theorem dX7_close_59 : decode cX7_close 59 = .ok (.return_, 1) := by decide +kernel
theorem dX7_enter_0 : decode cX7_enter 0 = .ok (.aload_n 0, 1) := by decide +kernel
theorem dX7_enter_1 : decode cX7_enter 1 = .ok (.iload_n 2, 1) := by decide +kernel
theorem dX7_enter_2 : decode cX7_enter 2 = .ok (.invokevirtual 70, 3) := by decide +kernel
theorem dX7_enter_5 : decode cX7_enter 5 = .ok (.ifCond .ne 14, 3) := by decide +kernel
theorem dX7_enter_8 : decode cX7_enter 8 = .ok (.aload_n 0, 1) := by decide +kernel
theorem dX7_enter_9 : decode cX7_enter 9 = .ok (.getfield 32, 3) := by decide +kernel
theorem dX7_enter_12 : decode cX7_enter 12 = .ok (.iconst 1, 1) := by decide +kernel
theorem dX7_enter_13 : decode cX7_enter 13 = .ok (.putfield 63, 3) := by decide +kernel
theorem dX7_enter_16 : decode cX7_enter 16 = .ok (.goto 58, 3) := by decide +kernel
theorem dX7_enter_19 : decode cX7_enter 19 = .ok (.aload_n 0, 1) := by decide +kernel
theorem dX7_enter_20 : decode cX7_enter 20 = .ok (.getfield 50, 3) := by decide +kernel
theorem dX7_enter_23 : decode cX7_enter 23 = .ok (.iconst 5, 1) := by decide +kernel
theorem dX7_enter_24 : decode cX7_enter 24 = .ok (.if_icmp .lt 14, 3) := by decide +kernel
theorem dX7_enter_27 : decode cX7_enter 27 = .ok (.aload_n 0, 1) := by decide +kernel
theorem dX7_enter_28 : decode cX7_enter 28 = .ok (.getfield 32, 3) := by decide +kernel
theorem dX7_enter_31 : decode cX7_enter 31 = .ok (.iconst 2, 1) := by decide +kernel
theorem dX7_enter_32 : decode cX7_enter 32 = .ok (.putfield 63, 3) := by decide +kernel
theorem dX7_enter_35 : decode cX7_enter 35 = .ok (.goto 39, 3) := by decide +kernel
theorem dX7_enter_38 : decode cX7_enter 38 = .ok (.aload_n 0, 1) := by decide +kernel
theorem dX7_enter_39 : decode cX7_enter 39 = .ok (.getfield 66, 3) := by decide +kernel
theorem dX7_enter_42 : decode cX7_enter 42 = .ok (.aload_n 0, 1) := by decide +kernel
theorem dX7_enter_43 : decode cX7_enter 43 = .ok (.getfield 50, 3) := by decide +kernel
theorem dX7_enter_46 : decode cX7_enter 46 = .ok (.iload_n 2, 1) := by decide +kernel
theorem dX7_enter_47 : decode cX7_enter 47 = .ok (.invokestatic 118, 3) := by decide +kernel
theorem dX7_enter_50 : decode cX7_enter 50 = .ok (.land, 1) := by decide +kernel
theorem dX7_enter_51 : decode cX7_enter 51 = .ok (.lconst 0, 1) := by decide +kernel
theorem dX7_enter_52 : decode cX7_enter 52 = .ok (.lcmp, 1) := by decide +kernel
theorem dX7_enter_53 : decode cX7_enter 53 = .ok (.ifCond .eq 16, 3) := by decide +kernel
theorem dX7_enter_56 : decode cX7_enter 56 = .ok (.aload_n 0, 1) := by decide +kernel
theorem dX7_enter_57 : decode cX7_enter 57 = .ok (.getfield 40, 3) := by decide +kernel
theorem dX7_enter_60 : decode cX7_enter 60 = .ok (.iload_n 1, 1) := by decide +kernel
theorem dX7_enter_61 : decode cX7_enter 61 = .ok (.dup2, 1) := by decide +kernel
theorem dX7_enter_62 : decode cX7_enter 62 = .ok (.iaload, 1) := by decide +kernel
theorem dX7_enter_63 : decode cX7_enter 63 = .ok (.iconst 2, 1) := by decide +kernel
theorem dX7_enter_64 : decode cX7_enter 64 = .ok (.iadd, 1) := by decide +kernel
theorem dX7_enter_65 : decode cX7_enter 65 = .ok (.iastore, 1) := by decide +kernel
theorem dX7_enter_66 : decode cX7_enter 66 = .ok (.goto 8, 3) := by decide +kernel
theorem dX7_enter_69 : decode cX7_enter 69 = .ok (.aload_n 0, 1) := by decide +kernel
theorem dX7_enter_70 : decode cX7_enter 70 = .ok (.iload_n 2, 1) := by decide +kernel
theorem dX7_enter_71 : decode cX7_enter 71 = .ok (.invokevirtual 78, 3) := by decide +kernel
theorem dX7_enter_74 : decode cX7_enter 74 = .ok (.return_, 1) := by decide +kernel
theorem dX7_silentBit_0 : decode cX7_silentBit 0 = .ok (.lconst 1, 1) := by decide +kernel
theorem dX7_silentBit_1 : decode cX7_silentBit 1 = .ok (.iload_n 0, 1) := by decide +kernel
theorem dX7_silentBit_2 : decode cX7_silentBit 2 = .ok (.bipush 8, 2) := by decide +kernel
theorem dX7_silentBit_4 : decode cX7_silentBit 4 = .ok (.imul, 1) := by decide +kernel
theorem dX7_silentBit_5 : decode cX7_silentBit 5 = .ok (.iload_n 1, 1) := by decide +kernel
theorem dX7_silentBit_6 : decode cX7_silentBit 6 = .ok (.iadd, 1) := by decide +kernel
theorem dX7_silentBit_7 : decode cX7_silentBit 7 = .ok (.lshl, 1) := by decide +kernel
theorem dX7_silentBit_8 : decode cX7_silentBit 8 = .ok (.lreturn, 1) := by decide +kernel
theorem dX7_choose_0 : decode cX7_choose 0 = .ok (.aload_n 0, 1) := by decide +kernel
theorem dX7_choose_1 : decode cX7_choose 1 = .ok (.getfield 40, 3) := by decide +kernel
theorem dX7_choose_4 : decode cX7_choose 4 = .ok (.iload_n 1, 1) := by decide +kernel
theorem dX7_choose_5 : decode cX7_choose 5 = .ok (.iaload, 1) := by decide +kernel
theorem dX7_choose_6 : decode cX7_choose 6 = .ok (.istore_n 3, 1) := by decide +kernel
theorem dX7_choose_7 : decode cX7_choose 7 = .ok (.ldc 122, 2) := by decide +kernel
theorem dX7_choose_9 : decode cX7_choose 9 = .ok (.aload_n 2, 1) := by decide +kernel
theorem dX7_choose_10 : decode cX7_choose 10 = .ok (.getfield 90, 3) := by decide +kernel
theorem dX7_choose_13 : decode cX7_choose 13 = .ok (.iload_n 3, 1) := by decide +kernel
theorem dX7_choose_14 : decode cX7_choose 14 = .ok (.iconst 1, 1) := by decide +kernel
theorem dX7_choose_15 : decode cX7_choose 15 = .ok (.iadd, 1) := by decide +kernel
theorem dX7_choose_16 : decode cX7_choose 16 = .ok (.invokevirtual 93, 3) := by decide +kernel
theorem dX7_choose_19 : decode cX7_choose 19 = .ok (.invokevirtual 124, 3) := by decide +kernel
theorem dX7_choose_22 : decode cX7_choose 22 = .ok (.istore 4, 2) := by decide +kernel
theorem dX7_choose_24 : decode cX7_choose 24 = .ok (.aload_n 2, 1) := by decide +kernel
theorem dX7_choose_25 : decode cX7_choose 25 = .ok (.getfield 90, 3) := by decide +kernel
theorem dX7_choose_28 : decode cX7_choose 28 = .ok (.iload_n 3, 1) := by decide +kernel
theorem dX7_choose_29 : decode cX7_choose 29 = .ok (.iconst 2, 1) := by decide +kernel
theorem dX7_choose_30 : decode cX7_choose 30 = .ok (.iadd, 1) := by decide +kernel
theorem dX7_choose_31 : decode cX7_choose 31 = .ok (.invokevirtual 93, 3) := by decide +kernel
theorem dX7_choose_34 : decode cX7_choose 34 = .ok (.istore 5, 2) := by decide +kernel
theorem dX7_choose_36 : decode cX7_choose 36 = .ok (.iload_n 3, 1) := by decide +kernel
theorem dX7_choose_37 : decode cX7_choose 37 = .ok (.iconst 3, 1) := by decide +kernel
theorem dX7_choose_38 : decode cX7_choose 38 = .ok (.iadd, 1) := by decide +kernel
theorem dX7_choose_39 : decode cX7_choose 39 = .ok (.istore 6, 2) := by decide +kernel
theorem dX7_choose_41 : decode cX7_choose 41 = .ok (.iconst 0, 1) := by decide +kernel
theorem dX7_choose_42 : decode cX7_choose 42 = .ok (.istore 7, 2) := by decide +kernel
theorem dX7_choose_44 : decode cX7_choose 44 = .ok (.iconst 0, 1) := by decide +kernel
theorem dX7_choose_45 : decode cX7_choose 45 = .ok (.istore 8, 2) := by decide +kernel
theorem dX7_choose_47 : decode cX7_choose 47 = .ok (.iload 8, 2) := by decide +kernel
theorem dX7_choose_49 : decode cX7_choose 49 = .ok (.iconst 3, 1) := by decide +kernel
theorem dX7_choose_50 : decode cX7_choose 50 = .ok (.if_icmp .ge 49, 3) := by decide +kernel
theorem dX7_choose_53 : decode cX7_choose 53 = .ok (.aload_n 2, 1) := by decide +kernel
theorem dX7_choose_54 : decode cX7_choose 54 = .ok (.getfield 90, 3) := by decide +kernel
theorem dX7_choose_57 : decode cX7_choose 57 = .ok (.iload 6, 2) := by decide +kernel
theorem dX7_choose_59 : decode cX7_choose 59 = .ok (.invokevirtual 93, 3) := by decide +kernel
theorem dX7_choose_62 : decode cX7_choose 62 = .ok (.bipush 57, 2) := by decide +kernel
theorem dX7_choose_64 : decode cX7_choose 64 = .ok (.invokestatic 129, 3) := by decide +kernel
theorem dX7_choose_67 : decode cX7_choose 67 = .ok (.ifCond .eq 32, 3) := by decide +kernel
theorem dX7_choose_70 : decode cX7_choose 70 = .ok (.iload 7, 2) := by decide +kernel
theorem dX7_choose_72 : decode cX7_choose 72 = .ok (.bipush 10, 2) := by decide +kernel
theorem dX7_choose_74 : decode cX7_choose 74 = .ok (.imul, 1) := by decide +kernel
theorem dX7_choose_75 : decode cX7_choose 75 = .ok (.aload_n 2, 1) := by decide +kernel
theorem dX7_choose_76 : decode cX7_choose 76 = .ok (.getfield 90, 3) := by decide +kernel
theorem dX7_choose_79 : decode cX7_choose 79 = .ok (.iload 6, 2) := by decide +kernel
theorem dX7_choose_81 : decode cX7_choose 81 = .ok (.invokevirtual 93, 3) := by decide +kernel
theorem dX7_choose_84 : decode cX7_choose 84 = .ok (.bipush 48, 2) := by decide +kernel
theorem dX7_choose_86 : decode cX7_choose 86 = .ok (.isub, 1) := by decide +kernel
theorem dX7_choose_87 : decode cX7_choose 87 = .ok (.iadd, 1) := by decide +kernel
theorem dX7_choose_88 : decode cX7_choose 88 = .ok (.istore 7, 2) := by decide +kernel
theorem dX7_choose_90 : decode cX7_choose 90 = .ok (.iinc 6 1, 3) := by decide +kernel
theorem dX7_choose_93 : decode cX7_choose 93 = .ok (.iinc 8 1, 3) := by decide +kernel
theorem dX7_choose_96 : decode cX7_choose 96 = .ok (.goto (-49), 3) := by decide +kernel
theorem dX7_choose_99 : decode cX7_choose 99 = .ok (.iload 4, 2) := by decide +kernel
theorem dX7_choose_101 : decode cX7_choose 101 = .ok (.ifCond .lt 23, 3) := by decide +kernel
theorem dX7_choose_104 : decode cX7_choose 104 = .ok (.iload 4, 2) := by decide +kernel
theorem dX7_choose_106 : decode cX7_choose 106 = .ok (.bipush 6, 2) := by decide +kernel
theorem dX7_choose_108 : decode cX7_choose 108 = .ok (.if_icmp .ge 16, 3) := by decide +kernel
theorem dX7_choose_111 : decode cX7_choose 111 = .ok (.aload_n 0, 1) := by decide +kernel
theorem dX7_choose_112 : decode cX7_choose 112 = .ok (.getfield 25, 3) := by decide +kernel
theorem dX7_choose_115 : decode cX7_choose 115 = .ok (.getfield 133, 3) := by decide +kernel
theorem dX7_choose_118 : decode cX7_choose 118 = .ok (.iload 4, 2) := by decide +kernel
theorem dX7_choose_120 : decode cX7_choose 120 = .ok (.iaload, 1) := by decide +kernel
theorem dX7_choose_121 : decode cX7_choose 121 = .ok (.goto 4, 3) := by decide +kernel
theorem dX7_choose_124 : decode cX7_choose 124 = .ok (.iconst 0, 1) := by decide +kernel
theorem dX7_choose_125 : decode cX7_choose 125 = .ok (.istore 8, 2) := by decide +kernel
theorem dX7_choose_127 : decode cX7_choose 127 = .ok (.aload_n 0, 1) := by decide +kernel
theorem dX7_choose_128 : decode cX7_choose 128 = .ok (.getfield 40, 3) := by decide +kernel
theorem dX7_choose_131 : decode cX7_choose 131 = .ok (.iload_n 1, 1) := by decide +kernel
theorem dX7_choose_132 : decode cX7_choose 132 = .ok (.iload 8, 2) := by decide +kernel
theorem dX7_choose_134 : decode cX7_choose 134 = .ok (.iload 5, 2) := by decide +kernel
theorem dX7_choose_136 : decode cX7_choose 136 = .ok (.iload 7, 2) := by decide +kernel
theorem dX7_choose_138 : decode cX7_choose 138 = .ok (.invokestatic 136, 3) := by decide +kernel
theorem dX7_choose_141 : decode cX7_choose 141 = .ok (.ifCond .eq 10, 3) := by decide +kernel
theorem dX7_choose_144 : decode cX7_choose 144 = .ok (.iload 6, 2) := by decide +kernel
theorem dX7_choose_146 : decode cX7_choose 146 = .ok (.iconst 1, 1) := by decide +kernel
theorem dX7_choose_147 : decode cX7_choose 147 = .ok (.iadd, 1) := by decide +kernel
theorem dX7_choose_148 : decode cX7_choose 148 = .ok (.goto 8, 3) := by decide +kernel
theorem dX7_choose_151 : decode cX7_choose 151 = .ok (.aload_n 2, 1) := by decide +kernel
theorem dX7_choose_152 : decode cX7_choose 152 = .ok (.iload_n 3, 1) := by decide +kernel
theorem dX7_choose_153 : decode cX7_choose 153 = .ok (.invokevirtual 111, 3) := by decide +kernel
theorem dX7_choose_156 : decode cX7_choose 156 = .ok (.iastore, 1) := by decide +kernel
theorem dX7_choose_157 : decode cX7_choose 157 = .ok (.return_, 1) := by decide +kernel
theorem dX7_holds_0 : decode cX7_holds 0 = .ok (.iload_n 1, 1) := by decide +kernel
theorem dX7_holds_1 : decode cX7_holds 1 = .ok (.bipush 61, 2) := by decide +kernel
theorem dX7_holds_3 : decode cX7_holds 3 = .ok (.if_icmp .ne 16, 3) := by decide +kernel
theorem dX7_holds_6 : decode cX7_holds 6 = .ok (.iload_n 0, 1) := by decide +kernel
theorem dX7_holds_7 : decode cX7_holds 7 = .ok (.iload_n 2, 1) := by decide +kernel
theorem dX7_holds_8 : decode cX7_holds 8 = .ok (.if_icmp .ne 7, 3) := by decide +kernel
theorem dX7_holds_11 : decode cX7_holds 11 = .ok (.iconst 1, 1) := by decide +kernel
theorem dX7_holds_12 : decode cX7_holds 12 = .ok (.goto 36, 3) := by decide +kernel
theorem dX7_holds_15 : decode cX7_holds 15 = .ok (.iconst 0, 1) := by decide +kernel
theorem dX7_holds_16 : decode cX7_holds 16 = .ok (.goto 32, 3) := by decide +kernel
theorem dX7_holds_19 : decode cX7_holds 19 = .ok (.iload_n 1, 1) := by decide +kernel
theorem dX7_holds_20 : decode cX7_holds 20 = .ok (.bipush 60, 2) := by decide +kernel
theorem dX7_holds_22 : decode cX7_holds 22 = .ok (.if_icmp .ne 16, 3) := by decide +kernel
theorem dX7_holds_25 : decode cX7_holds 25 = .ok (.iload_n 0, 1) := by decide +kernel
theorem dX7_holds_26 : decode cX7_holds 26 = .ok (.iload_n 2, 1) := by decide +kernel
theorem dX7_holds_27 : decode cX7_holds 27 = .ok (.if_icmp .ge 7, 3) := by decide +kernel
theorem dX7_holds_30 : decode cX7_holds 30 = .ok (.iconst 1, 1) := by decide +kernel
theorem dX7_holds_31 : decode cX7_holds 31 = .ok (.goto 17, 3) := by decide +kernel
theorem dX7_holds_34 : decode cX7_holds 34 = .ok (.iconst 0, 1) := by decide +kernel
theorem dX7_holds_35 : decode cX7_holds 35 = .ok (.goto 13, 3) := by decide +kernel
theorem dX7_holds_38 : decode cX7_holds 38 = .ok (.iload_n 0, 1) := by decide +kernel
theorem dX7_holds_39 : decode cX7_holds 39 = .ok (.iload_n 2, 1) := by decide +kernel
theorem dX7_holds_40 : decode cX7_holds 40 = .ok (.if_icmp .le 7, 3) := by decide +kernel
theorem dX7_holds_43 : decode cX7_holds 43 = .ok (.iconst 1, 1) := by decide +kernel
theorem dX7_holds_44 : decode cX7_holds 44 = .ok (.goto 4, 3) := by decide +kernel
theorem dX7_holds_47 : decode cX7_holds 47 = .ok (.iconst 0, 1) := by decide +kernel
theorem dX7_holds_48 : decode cX7_holds 48 = .ok (.ireturn, 1) := by decide +kernel
theorem dX7_writeField_0 : decode cX7_writeField 0 = .ok (.ldc 122, 2) := by decide +kernel
theorem dX7_writeField_2 : decode cX7_writeField 2 = .ok (.iload_n 2, 1) := by decide +kernel
theorem dX7_writeField_3 : decode cX7_writeField 3 = .ok (.invokevirtual 124, 3) := by decide +kernel
theorem dX7_writeField_6 : decode cX7_writeField 6 = .ok (.istore_n 3, 1) := by decide +kernel
theorem dX7_writeField_7 : decode cX7_writeField 7 = .ok (.iload_n 3, 1) := by decide +kernel
theorem dX7_writeField_8 : decode cX7_writeField 8 = .ok (.ifCond .lt 34, 3) := by decide +kernel
theorem dX7_writeField_11 : decode cX7_writeField 11 = .ok (.iload_n 3, 1) := by decide +kernel
theorem dX7_writeField_12 : decode cX7_writeField 12 = .ok (.bipush 6, 2) := by decide +kernel
theorem dX7_writeField_14 : decode cX7_writeField 14 = .ok (.if_icmp .ge 28, 3) := by decide +kernel
theorem dX7_writeField_17 : decode cX7_writeField 17 = .ok (.aload_n 0, 1) := by decide +kernel
theorem dX7_writeField_18 : decode cX7_writeField 18 = .ok (.getfield 25, 3) := by decide +kernel
theorem dX7_writeField_21 : decode cX7_writeField 21 = .ok (.getfield 140, 3) := by decide +kernel
theorem dX7_writeField_24 : decode cX7_writeField 24 = .ok (.iload_n 3, 1) := by decide +kernel
theorem dX7_writeField_25 : decode cX7_writeField 25 = .ok (.aaload, 1) := by decide +kernel
theorem dX7_writeField_26 : decode cX7_writeField 26 = .ok (.getfield 58, 3) := by decide +kernel
theorem dX7_writeField_29 : decode cX7_writeField 29 = .ok (.aload_n 0, 1) := by decide +kernel
theorem dX7_writeField_30 : decode cX7_writeField 30 = .ok (.getfield 32, 3) := by decide +kernel
theorem dX7_writeField_33 : decode cX7_writeField 33 = .ok (.getfield 54, 3) := by decide +kernel
theorem dX7_writeField_36 : decode cX7_writeField 36 = .ok (.invokevirtual 144, 3) := by decide +kernel
theorem dX7_writeField_39 : decode cX7_writeField 39 = .ok (.if_icmp .le 12, 3) := by decide +kernel
theorem dX7_writeField_42 : decode cX7_writeField 42 = .ok (.aload_n 0, 1) := by decide +kernel
theorem dX7_writeField_43 : decode cX7_writeField 43 = .ok (.getfield 32, 3) := by decide +kernel
theorem dX7_writeField_46 : decode cX7_writeField 46 = .ok (.iconst 3, 1) := by decide +kernel
theorem dX7_writeField_47 : decode cX7_writeField 47 = .ok (.putfield 63, 3) := by decide +kernel
theorem dX7_writeField_50 : decode cX7_writeField 50 = .ok (.return_, 1) := by decide +kernel
theorem dX7_writeField_51 : decode cX7_writeField 51 = .ok (.aload_n 0, 1) := by decide +kernel
theorem dX7_writeField_52 : decode cX7_writeField 52 = .ok (.getfield 32, 3) := by decide +kernel
theorem dX7_writeField_55 : decode cX7_writeField 55 = .ok (.getfield 54, 3) := by decide +kernel
theorem dX7_writeField_58 : decode cX7_writeField 58 = .ok (.aload_n 0, 1) := by decide +kernel
theorem dX7_writeField_59 : decode cX7_writeField 59 = .ok (.getfield 25, 3) := by decide +kernel
theorem dX7_writeField_62 : decode cX7_writeField 62 = .ok (.getfield 140, 3) := by decide +kernel
theorem dX7_writeField_65 : decode cX7_writeField 65 = .ok (.iload_n 3, 1) := by decide +kernel
theorem dX7_writeField_66 : decode cX7_writeField 66 = .ok (.aaload, 1) := by decide +kernel
theorem dX7_writeField_67 : decode cX7_writeField 67 = .ok (.invokevirtual 148, 3) := by decide +kernel
theorem dX7_writeField_70 : decode cX7_writeField 70 = .ok (.aload_n 0, 1) := by decide +kernel
theorem dX7_writeField_71 : decode cX7_writeField 71 = .ok (.getfield 40, 3) := by decide +kernel
theorem dX7_writeField_74 : decode cX7_writeField 74 = .ok (.iload_n 1, 1) := by decide +kernel
theorem dX7_writeField_75 : decode cX7_writeField 75 = .ok (.dup2, 1) := by decide +kernel
theorem dX7_writeField_76 : decode cX7_writeField 76 = .ok (.iaload, 1) := by decide +kernel
theorem dX7_writeField_77 : decode cX7_writeField 77 = .ok (.iconst 3, 1) := by decide +kernel
theorem dX7_writeField_78 : decode cX7_writeField 78 = .ok (.iadd, 1) := by decide +kernel
theorem dX7_writeField_79 : decode cX7_writeField 79 = .ok (.iastore, 1) := by decide +kernel
theorem dX7_writeField_80 : decode cX7_writeField 80 = .ok (.return_, 1) := by decide +kernel
theorem dX7_writeSign_0 : decode cX7_writeSign 0 = .ok (.aload_n 0, 1) := by decide +kernel
theorem dX7_writeSign_1 : decode cX7_writeSign 1 = .ok (.getfield 32, 3) := by decide +kernel
theorem dX7_writeSign_4 : decode cX7_writeSign 4 = .ok (.getfield 54, 3) := by decide +kernel
theorem dX7_writeSign_7 : decode cX7_writeSign 7 = .ok (.invokevirtual 144, 3) := by decide +kernel
theorem dX7_writeSign_10 : decode cX7_writeSign 10 = .ok (.iconst 1, 1) := by decide +kernel
theorem dX7_writeSign_11 : decode cX7_writeSign 11 = .ok (.if_icmp .ge 12, 3) := by decide +kernel
theorem dX7_writeSign_14 : decode cX7_writeSign 14 = .ok (.aload_n 0, 1) := by decide +kernel
theorem dX7_writeSign_15 : decode cX7_writeSign 15 = .ok (.getfield 32, 3) := by decide +kernel
theorem dX7_writeSign_18 : decode cX7_writeSign 18 = .ok (.iconst 3, 1) := by decide +kernel
theorem dX7_writeSign_19 : decode cX7_writeSign 19 = .ok (.putfield 63, 3) := by decide +kernel
theorem dX7_writeSign_22 : decode cX7_writeSign 22 = .ok (.return_, 1) := by decide +kernel
theorem dX7_writeSign_23 : decode cX7_writeSign 23 = .ok (.aload_n 0, 1) := by decide +kernel
theorem dX7_writeSign_24 : decode cX7_writeSign 24 = .ok (.getfield 32, 3) := by decide +kernel
theorem dX7_writeSign_27 : decode cX7_writeSign 27 = .ok (.getfield 54, 3) := by decide +kernel
theorem dX7_writeSign_30 : decode cX7_writeSign 30 = .ok (.iload_n 2, 1) := by decide +kernel
theorem dX7_writeSign_31 : decode cX7_writeSign 31 = .ok (.invokevirtual 152, 3) := by decide +kernel
theorem dX7_writeSign_34 : decode cX7_writeSign 34 = .ok (.aload_n 0, 1) := by decide +kernel
theorem dX7_writeSign_35 : decode cX7_writeSign 35 = .ok (.getfield 40, 3) := by decide +kernel
theorem dX7_writeSign_38 : decode cX7_writeSign 38 = .ok (.iload_n 1, 1) := by decide +kernel
theorem dX7_writeSign_39 : decode cX7_writeSign 39 = .ok (.dup2, 1) := by decide +kernel
theorem dX7_writeSign_40 : decode cX7_writeSign 40 = .ok (.iaload, 1) := by decide +kernel
theorem dX7_writeSign_41 : decode cX7_writeSign 41 = .ok (.iconst 1, 1) := by decide +kernel
theorem dX7_writeSign_42 : decode cX7_writeSign 42 = .ok (.iadd, 1) := by decide +kernel
theorem dX7_writeSign_43 : decode cX7_writeSign 43 = .ok (.iastore, 1) := by decide +kernel
theorem dX7_writeSign_44 : decode cX7_writeSign 44 = .ok (.return_, 1) := by decide +kernel
theorem dX8_init_0 : decode cX8_init 0 = .ok (.aload_n 0, 1) := by decide +kernel
theorem dX8_init_1 : decode cX8_init 1 = .ok (.invokespecial 3, 3) := by decide +kernel
theorem dX8_init_4 : decode cX8_init 4 = .ok (.aload_n 0, 1) := by decide +kernel
theorem dX8_init_5 : decode cX8_init 5 = .ok (.bipush 12, 2) := by decide +kernel
theorem dX8_init_7 : decode cX8_init 7 = .ok (.anewarray 9, 3) := by decide +kernel
theorem dX8_init_10 : decode cX8_init 10 = .ok (.putfield 11, 3) := by decide +kernel
theorem dX8_init_13 : decode cX8_init 13 = .ok (.iconst 0, 1) := by decide +kernel
theorem dX8_init_14 : decode cX8_init 14 = .ok (.istore_n 1, 1) := by decide +kernel
theorem dX8_init_15 : decode cX8_init 15 = .ok (.iload_n 1, 1) := by decide +kernel
theorem dX8_init_16 : decode cX8_init 16 = .ok (.bipush 12, 2) := by decide +kernel
theorem dX8_init_18 : decode cX8_init 18 = .ok (.if_icmp .ge 22, 3) := by decide +kernel
theorem dX8_init_21 : decode cX8_init 21 = .ok (.aload_n 0, 1) := by decide +kernel
theorem dX8_init_22 : decode cX8_init 22 = .ok (.getfield 11, 3) := by decide +kernel
theorem dX8_init_25 : decode cX8_init 25 = .ok (.iload_n 1, 1) := by decide +kernel
theorem dX8_init_26 : decode cX8_init 26 = .ok (.new 9, 3) := by decide +kernel
theorem dX8_init_29 : decode cX8_init 29 = .ok (.dup, 1) := by decide +kernel
theorem dX8_init_30 : decode cX8_init 30 = .ok (.invokespecial 17, 3) := by decide +kernel
theorem dX8_init_33 : decode cX8_init 33 = .ok (.aastore, 1) := by decide +kernel
theorem dX8_init_34 : decode cX8_init 34 = .ok (.iinc 1 1, 3) := by decide +kernel
theorem dX8_init_37 : decode cX8_init 37 = .ok (.goto (-22), 3) := by decide +kernel
theorem dX8_init_40 : decode cX8_init 40 = .ok (.return_, 1) := by decide +kernel
theorem dX8_keep_0 : decode cX8_keep 0 = .ok (.aload_n 0, 1) := by decide +kernel
theorem dX8_keep_1 : decode cX8_keep 1 = .ok (.getfield 18, 3) := by decide +kernel
theorem dX8_keep_4 : decode cX8_keep 4 = .ok (.ifCond .lt 35, 3) := by decide +kernel
theorem dX8_keep_7 : decode cX8_keep 7 = .ok (.aload_n 0, 1) := by decide +kernel
theorem dX8_keep_8 : decode cX8_keep 8 = .ok (.getfield 18, 3) := by decide +kernel
theorem dX8_keep_11 : decode cX8_keep 11 = .ok (.bipush 12, 2) := by decide +kernel
theorem dX8_keep_13 : decode cX8_keep 13 = .ok (.if_icmp .ge 26, 3) := by decide +kernel
theorem dX8_keep_16 : decode cX8_keep 16 = .ok (.aload_n 0, 1) := by decide +kernel
theorem dX8_keep_17 : decode cX8_keep 17 = .ok (.getfield 11, 3) := by decide +kernel
theorem dX8_keep_20 : decode cX8_keep 20 = .ok (.aload_n 0, 1) := by decide +kernel
theorem dX8_keep_21 : decode cX8_keep 21 = .ok (.getfield 18, 3) := by decide +kernel
theorem dX8_keep_24 : decode cX8_keep 24 = .ok (.aaload, 1) := by decide +kernel
theorem dX8_keep_25 : decode cX8_keep 25 = .ok (.aload_n 1, 1) := by decide +kernel
theorem dX8_keep_26 : decode cX8_keep 26 = .ok (.invokevirtual 22, 3) := by decide +kernel
theorem dX8_keep_29 : decode cX8_keep 29 = .ok (.aload_n 0, 1) := by decide +kernel
theorem dX8_keep_30 : decode cX8_keep 30 = .ok (.dup, 1) := by decide +kernel
theorem dX8_keep_31 : decode cX8_keep 31 = .ok (.getfield 18, 3) := by decide +kernel
theorem dX8_keep_34 : decode cX8_keep 34 = .ok (.iconst 1, 1) := by decide +kernel
theorem dX8_keep_35 : decode cX8_keep 35 = .ok (.iadd, 1) := by decide +kernel
theorem dX8_keep_36 : decode cX8_keep 36 = .ok (.putfield 18, 3) := by decide +kernel
theorem dX8_keep_39 : decode cX8_keep 39 = .ok (.return_, 1) := by decide +kernel
theorem dX9_init_0 : decode cX9_init 0 = .ok (.aload_n 0, 1) := by decide +kernel
theorem dX9_init_1 : decode cX9_init 1 = .ok (.invokespecial 1, 3) := by decide +kernel
theorem dX9_init_4 : decode cX9_init 4 = .ok (.aload_n 0, 1) := by decide +kernel
theorem dX9_init_5 : decode cX9_init 5 = .ok (.iload_n 1, 1) := by decide +kernel
theorem dX9_init_6 : decode cX9_init 6 = .ok (.ifCond .le 7, 3) := by decide +kernel
theorem dX9_init_9 : decode cX9_init 9 = .ok (.iload_n 1, 1) := by decide +kernel
theorem dX9_init_10 : decode cX9_init 10 = .ok (.goto 4, 3) := by decide +kernel
theorem dX9_init_13 : decode cX9_init 13 = .ok (.iconst 0, 1) := by decide +kernel
theorem dX9_init_14 : decode cX9_init 14 = .ok (.newarray .char, 2) := by decide +kernel
theorem dX9_init_16 : decode cX9_init 16 = .ok (.putfield 7, 3) := by decide +kernel
theorem dX9_init_19 : decode cX9_init 19 = .ok (.return_, 1) := by decide +kernel
theorem dX9_signAt_0 : decode cX9_signAt 0 = .ok (.iload_n 1, 1) := by decide +kernel
theorem dX9_signAt_1 : decode cX9_signAt 1 = .ok (.ifCond .lt 29, 3) := by decide +kernel
theorem dX9_signAt_4 : decode cX9_signAt 4 = .ok (.iload_n 1, 1) := by decide +kernel
theorem dX9_signAt_5 : decode cX9_signAt 5 = .ok (.aload_n 0, 1) := by decide +kernel
theorem dX9_signAt_6 : decode cX9_signAt 6 = .ok (.getfield 13, 3) := by decide +kernel
theorem dX9_signAt_9 : decode cX9_signAt 9 = .ok (.if_icmp .ge 21, 3) := by decide +kernel
theorem dX9_signAt_12 : decode cX9_signAt 12 = .ok (.iload_n 1, 1) := by decide +kernel
theorem dX9_signAt_13 : decode cX9_signAt 13 = .ok (.aload_n 0, 1) := by decide +kernel
theorem dX9_signAt_14 : decode cX9_signAt 14 = .ok (.getfield 7, 3) := by decide +kernel
theorem dX9_signAt_17 : decode cX9_signAt 17 = .ok (.arraylength, 1) := by decide +kernel
theorem dX9_signAt_18 : decode cX9_signAt 18 = .ok (.if_icmp .ge 12, 3) := by decide +kernel
theorem dX9_signAt_21 : decode cX9_signAt 21 = .ok (.aload_n 0, 1) := by decide +kernel
theorem dX9_signAt_22 : decode cX9_signAt 22 = .ok (.getfield 7, 3) := by decide +kernel
theorem dX9_signAt_25 : decode cX9_signAt 25 = .ok (.iload_n 1, 1) := by decide +kernel
theorem dX9_signAt_26 : decode cX9_signAt 26 = .ok (.caload, 1) := by decide +kernel
theorem dX9_signAt_27 : decode cX9_signAt 27 = .ok (.goto 4, 3) := by decide +kernel
theorem dX9_signAt_30 : decode cX9_signAt 30 = .ok (.iconst 0, 1) := by decide +kernel
theorem dX9_signAt_31 : decode cX9_signAt 31 = .ok (.ireturn, 1) := by decide +kernel
theorem dX9_room_0 : decode cX9_room 0 = .ok (.aload_n 0, 1) := by decide +kernel
theorem dX9_room_1 : decode cX9_room 1 = .ok (.getfield 7, 3) := by decide +kernel
theorem dX9_room_4 : decode cX9_room 4 = .ok (.arraylength, 1) := by decide +kernel
theorem dX9_room_5 : decode cX9_room 5 = .ok (.aload_n 0, 1) := by decide +kernel
theorem dX9_room_6 : decode cX9_room 6 = .ok (.getfield 13, 3) := by decide +kernel
theorem dX9_room_9 : decode cX9_room 9 = .ok (.isub, 1) := by decide +kernel
theorem dX9_room_10 : decode cX9_room 10 = .ok (.ireturn, 1) := by decide +kernel
theorem dX9_add_0 : decode cX9_add 0 = .ok (.aload_n 0, 1) := by decide +kernel
theorem dX9_add_1 : decode cX9_add 1 = .ok (.getfield 13, 3) := by decide +kernel
theorem dX9_add_4 : decode cX9_add 4 = .ok (.ifCond .lt 35, 3) := by decide +kernel
theorem dX9_add_7 : decode cX9_add 7 = .ok (.aload_n 0, 1) := by decide +kernel
theorem dX9_add_8 : decode cX9_add 8 = .ok (.getfield 13, 3) := by decide +kernel
theorem dX9_add_11 : decode cX9_add 11 = .ok (.aload_n 0, 1) := by decide +kernel
theorem dX9_add_12 : decode cX9_add 12 = .ok (.getfield 7, 3) := by decide +kernel
theorem dX9_add_15 : decode cX9_add 15 = .ok (.arraylength, 1) := by decide +kernel
theorem dX9_add_16 : decode cX9_add 16 = .ok (.if_icmp .ge 23, 3) := by decide +kernel
theorem dX9_add_19 : decode cX9_add 19 = .ok (.aload_n 0, 1) := by decide +kernel
theorem dX9_add_20 : decode cX9_add 20 = .ok (.getfield 7, 3) := by decide +kernel
theorem dX9_add_23 : decode cX9_add 23 = .ok (.aload_n 0, 1) := by decide +kernel
theorem dX9_add_24 : decode cX9_add 24 = .ok (.getfield 13, 3) := by decide +kernel
theorem dX9_add_27 : decode cX9_add 27 = .ok (.iload_n 1, 1) := by decide +kernel
theorem dX9_add_28 : decode cX9_add 28 = .ok (.castore, 1) := by decide +kernel
theorem dX9_add_29 : decode cX9_add 29 = .ok (.aload_n 0, 1) := by decide +kernel
theorem dX9_add_30 : decode cX9_add 30 = .ok (.dup, 1) := by decide +kernel
theorem dX9_add_31 : decode cX9_add 31 = .ok (.getfield 13, 3) := by decide +kernel
theorem dX9_add_34 : decode cX9_add 34 = .ok (.iconst 1, 1) := by decide +kernel
theorem dX9_add_35 : decode cX9_add 35 = .ok (.iadd, 1) := by decide +kernel
theorem dX9_add_36 : decode cX9_add 36 = .ok (.putfield 13, 3) := by decide +kernel
theorem dX9_add_39 : decode cX9_add 39 = .ok (.return_, 1) := by decide +kernel
theorem dX9_addAll_0 : decode cX9_addAll 0 = .ok (.aload_n 1, 1) := by decide +kernel
theorem dX9_addAll_1 : decode cX9_addAll 1 = .ok (.getfield 13, 3) := by decide +kernel
theorem dX9_addAll_4 : decode cX9_addAll 4 = .ok (.aload_n 0, 1) := by decide +kernel
theorem dX9_addAll_5 : decode cX9_addAll 5 = .ok (.getfield 7, 3) := by decide +kernel
theorem dX9_addAll_8 : decode cX9_addAll 8 = .ok (.arraylength, 1) := by decide +kernel
theorem dX9_addAll_9 : decode cX9_addAll 9 = .ok (.aload_n 0, 1) := by decide +kernel
theorem dX9_addAll_10 : decode cX9_addAll 10 = .ok (.getfield 13, 3) := by decide +kernel
theorem dX9_addAll_13 : decode cX9_addAll 13 = .ok (.isub, 1) := by decide +kernel
theorem dX9_addAll_14 : decode cX9_addAll 14 = .ok (.invokestatic 17, 3) := by decide +kernel
theorem dX9_addAll_17 : decode cX9_addAll 17 = .ok (.istore_n 2, 1) := by decide +kernel
theorem dX9_addAll_18 : decode cX9_addAll 18 = .ok (.iload_n 2, 1) := by decide +kernel
theorem dX9_addAll_19 : decode cX9_addAll 19 = .ok (.ifCond .le 30, 3) := by decide +kernel
theorem dX9_addAll_22 : decode cX9_addAll 22 = .ok (.aload_n 1, 1) := by decide +kernel
theorem dX9_addAll_23 : decode cX9_addAll 23 = .ok (.getfield 7, 3) := by decide +kernel
theorem dX9_addAll_26 : decode cX9_addAll 26 = .ok (.iconst 0, 1) := by decide +kernel
theorem dX9_addAll_27 : decode cX9_addAll 27 = .ok (.aload_n 0, 1) := by decide +kernel
theorem dX9_addAll_28 : decode cX9_addAll 28 = .ok (.getfield 7, 3) := by decide +kernel
theorem dX9_addAll_31 : decode cX9_addAll 31 = .ok (.aload_n 0, 1) := by decide +kernel
theorem dX9_addAll_32 : decode cX9_addAll 32 = .ok (.getfield 13, 3) := by decide +kernel
theorem dX9_addAll_35 : decode cX9_addAll 35 = .ok (.iload_n 2, 1) := by decide +kernel
theorem dX9_addAll_36 : decode cX9_addAll 36 = .ok (.invokestatic 23, 3) := by decide +kernel
theorem dX9_addAll_39 : decode cX9_addAll 39 = .ok (.aload_n 0, 1) := by decide +kernel
theorem dX9_addAll_40 : decode cX9_addAll 40 = .ok (.dup, 1) := by decide +kernel
theorem dX9_addAll_41 : decode cX9_addAll 41 = .ok (.getfield 13, 3) := by decide +kernel
theorem dX9_addAll_44 : decode cX9_addAll 44 = .ok (.iload_n 2, 1) := by decide +kernel
theorem dX9_addAll_45 : decode cX9_addAll 45 = .ok (.iadd, 1) := by decide +kernel
theorem dX9_addAll_46 : decode cX9_addAll 46 = .ok (.putfield 13, 3) := by decide +kernel
theorem dX9_addAll_49 : decode cX9_addAll 49 = .ok (.return_, 1) := by decide +kernel
theorem dX9_addNumber_0 : decode cX9_addNumber 0 = .ok (.iload_n 1, 1) := by decide +kernel
theorem dX9_addNumber_1 : decode cX9_addNumber 1 = .ok (.sipush 1000, 3) := by decide +kernel
theorem dX9_addNumber_4 : decode cX9_addNumber 4 = .ok (.if_icmp .lt 9, 3) := by decide +kernel
theorem dX9_addNumber_7 : decode cX9_addNumber 7 = .ok (.sipush 1000, 3) := by decide +kernel
theorem dX9_addNumber_10 : decode cX9_addNumber 10 = .ok (.goto 26, 3) := by decide +kernel
theorem dX9_addNumber_13 : decode cX9_addNumber 13 = .ok (.iload_n 1, 1) := by decide +kernel
theorem dX9_addNumber_14 : decode cX9_addNumber 14 = .ok (.bipush 100, 2) := by decide +kernel
theorem dX9_addNumber_16 : decode cX9_addNumber 16 = .ok (.if_icmp .lt 8, 3) := by decide +kernel
theorem dX9_addNumber_19 : decode cX9_addNumber 19 = .ok (.bipush 100, 2) := by decide +kernel
theorem dX9_addNumber_21 : decode cX9_addNumber 21 = .ok (.goto 15, 3) := by decide +kernel
theorem dX9_addNumber_24 : decode cX9_addNumber 24 = .ok (.iload_n 1, 1) := by decide +kernel
theorem dX9_addNumber_25 : decode cX9_addNumber 25 = .ok (.bipush 10, 2) := by decide +kernel
theorem dX9_addNumber_27 : decode cX9_addNumber 27 = .ok (.if_icmp .lt 8, 3) := by decide +kernel
theorem dX9_addNumber_30 : decode cX9_addNumber 30 = .ok (.bipush 10, 2) := by decide +kernel
theorem dX9_addNumber_32 : decode cX9_addNumber 32 = .ok (.goto 4, 3) := by decide +kernel
theorem dX9_addNumber_35 : decode cX9_addNumber 35 = .ok (.iconst 1, 1) := by decide +kernel
theorem dX9_addNumber_36 : decode cX9_addNumber 36 = .ok (.istore_n 2, 1) := by decide +kernel
theorem dX9_addNumber_37 : decode cX9_addNumber 37 = .ok (.iload_n 2, 1) := by decide +kernel
theorem dX9_addNumber_38 : decode cX9_addNumber 38 = .ok (.ifCond .le 25, 3) := by decide +kernel
theorem dX9_addNumber_41 : decode cX9_addNumber 41 = .ok (.aload_n 0, 1) := by decide +kernel
theorem dX9_addNumber_42 : decode cX9_addNumber 42 = .ok (.bipush 48, 2) := by decide +kernel
theorem dX9_addNumber_44 : decode cX9_addNumber 44 = .ok (.iload_n 1, 1) := by decide +kernel
theorem dX9_addNumber_45 : decode cX9_addNumber 45 = .ok (.iload_n 2, 1) := by decide +kernel
theorem dX9_addNumber_46 : decode cX9_addNumber 46 = .ok (.idiv, 1) := by decide +kernel
theorem dX9_addNumber_47 : decode cX9_addNumber 47 = .ok (.bipush 10, 2) := by decide +kernel
theorem dX9_addNumber_49 : decode cX9_addNumber 49 = .ok (.irem, 1) := by decide +kernel
theorem dX9_addNumber_50 : decode cX9_addNumber 50 = .ok (.iadd, 1) := by decide +kernel
theorem dX9_addNumber_51 : decode cX9_addNumber 51 = .ok (.i2c, 1) := by decide +kernel
theorem dX9_addNumber_52 : decode cX9_addNumber 52 = .ok (.invokevirtual 29, 3) := by decide +kernel
theorem dX9_addNumber_55 : decode cX9_addNumber 55 = .ok (.iload_n 2, 1) := by decide +kernel
theorem dX9_addNumber_56 : decode cX9_addNumber 56 = .ok (.bipush 10, 2) := by decide +kernel
theorem dX9_addNumber_58 : decode cX9_addNumber 58 = .ok (.idiv, 1) := by decide +kernel
theorem dX9_addNumber_59 : decode cX9_addNumber 59 = .ok (.istore_n 2, 1) := by decide +kernel
theorem dX9_addNumber_60 : decode cX9_addNumber 60 = .ok (.goto (-23), 3) := by decide +kernel
theorem dX9_addNumber_63 : decode cX9_addNumber 63 = .ok (.return_, 1) := by decide +kernel
theorem dX9_become_0 : decode cX9_become 0 = .ok (.aload_n 0, 1) := by decide +kernel
theorem dX9_become_1 : decode cX9_become 1 = .ok (.iconst 0, 1) := by decide +kernel
theorem dX9_become_2 : decode cX9_become 2 = .ok (.putfield 13, 3) := by decide +kernel
theorem dX9_become_5 : decode cX9_become 5 = .ok (.aload_n 0, 1) := by decide +kernel
theorem dX9_become_6 : decode cX9_become 6 = .ok (.aload_n 1, 1) := by decide +kernel
theorem dX9_become_7 : decode cX9_become 7 = .ok (.invokevirtual 33, 3) := by decide +kernel
theorem dX9_become_10 : decode cX9_become 10 = .ok (.return_, 1) := by decide +kernel
theorem dX9_becomeCleaned_0 : decode cX9_becomeCleaned 0 = .ok (.aload_n 0, 1) := by decide +kernel
theorem dX9_becomeCleaned_1 : decode cX9_becomeCleaned 1 = .ok (.iconst 0, 1) := by decide +kernel
theorem dX9_becomeCleaned_2 : decode cX9_becomeCleaned 2 = .ok (.putfield 13, 3) := by decide +kernel
theorem dX9_becomeCleaned_5 : decode cX9_becomeCleaned 5 = .ok (.iconst 0, 1) := by decide +kernel
theorem dX9_becomeCleaned_6 : decode cX9_becomeCleaned 6 = .ok (.istore_n 2, 1) := by decide +kernel
theorem dX9_becomeCleaned_7 : decode cX9_becomeCleaned 7 = .ok (.iload_n 2, 1) := by decide +kernel
theorem dX9_becomeCleaned_8 : decode cX9_becomeCleaned 8 = .ok (.aload_n 1, 1) := by decide +kernel
theorem dX9_becomeCleaned_9 : decode cX9_becomeCleaned 9 = .ok (.getfield 13, 3) := by decide +kernel
theorem dX9_becomeCleaned_12 : decode cX9_becomeCleaned 12 = .ok (.if_icmp .ge 68, 3) := by decide +kernel
theorem dX9_becomeCleaned_15 : decode cX9_becomeCleaned 15 = .ok (.aload_n 1, 1) := by decide +kernel
theorem dX9_becomeCleaned_16 : decode cX9_becomeCleaned 16 = .ok (.iload_n 2, 1) := by decide +kernel
theorem dX9_becomeCleaned_17 : decode cX9_becomeCleaned 17 = .ok (.invokevirtual 37, 3) := by decide +kernel
theorem dX9_becomeCleaned_20 : decode cX9_becomeCleaned 20 = .ok (.istore_n 3, 1) := by decide +kernel
theorem dX9_becomeCleaned_21 : decode cX9_becomeCleaned 21 = .ok (.iload_n 3, 1) := by decide +kernel
theorem dX9_becomeCleaned_22 : decode cX9_becomeCleaned 22 = .ok (.bipush 65, 2) := by decide +kernel
theorem dX9_becomeCleaned_24 : decode cX9_becomeCleaned 24 = .ok (.if_icmp .lt 24, 3) := by decide +kernel
theorem dX9_becomeCleaned_27 : decode cX9_becomeCleaned 27 = .ok (.iload_n 3, 1) := by decide +kernel
theorem dX9_becomeCleaned_28 : decode cX9_becomeCleaned 28 = .ok (.bipush 90, 2) := by decide +kernel
theorem dX9_becomeCleaned_30 : decode cX9_becomeCleaned 30 = .ok (.if_icmp .gt 18, 3) := by decide +kernel
theorem dX9_becomeCleaned_33 : decode cX9_becomeCleaned 33 = .ok (.aload_n 0, 1) := by decide +kernel
theorem dX9_becomeCleaned_34 : decode cX9_becomeCleaned 34 = .ok (.iload_n 3, 1) := by decide +kernel
theorem dX9_becomeCleaned_35 : decode cX9_becomeCleaned 35 = .ok (.bipush 65, 2) := by decide +kernel
theorem dX9_becomeCleaned_37 : decode cX9_becomeCleaned 37 = .ok (.isub, 1) := by decide +kernel
theorem dX9_becomeCleaned_38 : decode cX9_becomeCleaned 38 = .ok (.bipush 97, 2) := by decide +kernel
theorem dX9_becomeCleaned_40 : decode cX9_becomeCleaned 40 = .ok (.iadd, 1) := by decide +kernel
theorem dX9_becomeCleaned_41 : decode cX9_becomeCleaned 41 = .ok (.i2c, 1) := by decide +kernel
theorem dX9_becomeCleaned_42 : decode cX9_becomeCleaned 42 = .ok (.invokevirtual 29, 3) := by decide +kernel
theorem dX9_becomeCleaned_45 : decode cX9_becomeCleaned 45 = .ok (.goto 29, 3) := by decide +kernel
theorem dX9_becomeCleaned_48 : decode cX9_becomeCleaned 48 = .ok (.iload_n 3, 1) := by decide +kernel
theorem dX9_becomeCleaned_49 : decode cX9_becomeCleaned 49 = .ok (.bipush 97, 2) := by decide +kernel
theorem dX9_becomeCleaned_51 : decode cX9_becomeCleaned 51 = .ok (.if_icmp .lt 9, 3) := by decide +kernel
theorem dX9_becomeCleaned_54 : decode cX9_becomeCleaned 54 = .ok (.iload_n 3, 1) := by decide +kernel
theorem dX9_becomeCleaned_55 : decode cX9_becomeCleaned 55 = .ok (.bipush 122, 2) := by decide +kernel
theorem dX9_becomeCleaned_57 : decode cX9_becomeCleaned 57 = .ok (.if_icmp .le 12, 3) := by decide +kernel
theorem dX9_becomeCleaned_60 : decode cX9_becomeCleaned 60 = .ok (.iload_n 3, 1) := by decide +kernel
theorem dX9_becomeCleaned_61 : decode cX9_becomeCleaned 61 = .ok (.bipush 57, 2) := by decide +kernel
theorem dX9_becomeCleaned_63 : decode cX9_becomeCleaned 63 = .ok (.invokestatic 41, 3) := by decide +kernel
theorem dX9_becomeCleaned_66 : decode cX9_becomeCleaned 66 = .ok (.ifCond .eq 8, 3) := by decide +kernel
theorem dX9_becomeCleaned_69 : decode cX9_becomeCleaned 69 = .ok (.aload_n 0, 1) := by decide +kernel
theorem dX9_becomeCleaned_70 : decode cX9_becomeCleaned 70 = .ok (.iload_n 3, 1) := by decide +kernel
theorem dX9_becomeCleaned_71 : decode cX9_becomeCleaned 71 = .ok (.invokevirtual 29, 3) := by decide +kernel
theorem dX9_becomeCleaned_74 : decode cX9_becomeCleaned 74 = .ok (.iinc 2 1, 3) := by decide +kernel
theorem dX9_becomeCleaned_77 : decode cX9_becomeCleaned 77 = .ok (.goto (-70), 3) := by decide +kernel
theorem dX9_becomeCleaned_80 : decode cX9_becomeCleaned 80 = .ok (.return_, 1) := by decide +kernel
theorem dX9_unlikeSigns_0 : decode cX9_unlikeSigns 0 = .ok (.iconst 0, 1) := by decide +kernel
theorem dX9_unlikeSigns_1 : decode cX9_unlikeSigns 1 = .ok (.istore_n 2, 1) := by decide +kernel
theorem dX9_unlikeSigns_2 : decode cX9_unlikeSigns 2 = .ok (.iconst 0, 1) := by decide +kernel
theorem dX9_unlikeSigns_3 : decode cX9_unlikeSigns 3 = .ok (.istore_n 3, 1) := by decide +kernel
theorem dX9_unlikeSigns_4 : decode cX9_unlikeSigns 4 = .ok (.iload_n 3, 1) := by decide +kernel
theorem dX9_unlikeSigns_5 : decode cX9_unlikeSigns 5 = .ok (.aload_n 0, 1) := by decide +kernel
theorem dX9_unlikeSigns_6 : decode cX9_unlikeSigns 6 = .ok (.getfield 13, 3) := by decide +kernel
theorem dX9_unlikeSigns_9 : decode cX9_unlikeSigns 9 = .ok (.aload_n 1, 1) := by decide +kernel
theorem dX9_unlikeSigns_10 : decode cX9_unlikeSigns 10 = .ok (.getfield 13, 3) := by decide +kernel
theorem dX9_unlikeSigns_13 : decode cX9_unlikeSigns 13 = .ok (.invokestatic 47, 3) := by decide +kernel
theorem dX9_unlikeSigns_16 : decode cX9_unlikeSigns 16 = .ok (.if_icmp .ge 25, 3) := by decide +kernel
theorem dX9_unlikeSigns_19 : decode cX9_unlikeSigns 19 = .ok (.aload_n 0, 1) := by decide +kernel
theorem dX9_unlikeSigns_20 : decode cX9_unlikeSigns 20 = .ok (.iload_n 3, 1) := by decide +kernel
theorem dX9_unlikeSigns_21 : decode cX9_unlikeSigns 21 = .ok (.invokevirtual 37, 3) := by decide +kernel
theorem dX9_unlikeSigns_24 : decode cX9_unlikeSigns 24 = .ok (.aload_n 1, 1) := by decide +kernel
theorem dX9_unlikeSigns_25 : decode cX9_unlikeSigns 25 = .ok (.iload_n 3, 1) := by decide +kernel
theorem dX9_unlikeSigns_26 : decode cX9_unlikeSigns 26 = .ok (.invokevirtual 37, 3) := by decide +kernel
theorem dX9_unlikeSigns_29 : decode cX9_unlikeSigns 29 = .ok (.if_icmp .eq 6, 3) := by decide +kernel
theorem dX9_unlikeSigns_32 : decode cX9_unlikeSigns 32 = .ok (.iinc 2 1, 3) := by decide +kernel
theorem dX9_unlikeSigns_35 : decode cX9_unlikeSigns 35 = .ok (.iinc 3 1, 3) := by decide +kernel
theorem dX9_unlikeSigns_38 : decode cX9_unlikeSigns 38 = .ok (.goto (-34), 3) := by decide +kernel
theorem dX9_unlikeSigns_41 : decode cX9_unlikeSigns 41 = .ok (.iload_n 2, 1) := by decide +kernel
theorem dX9_unlikeSigns_42 : decode cX9_unlikeSigns 42 = .ok (.ireturn, 1) := by decide +kernel
theorem dX10_init_0 : decode cX10_init 0 = .ok (.aload_n 0, 1) := by decide +kernel
theorem dX10_init_1 : decode cX10_init 1 = .ok (.invokespecial 3, 3) := by decide +kernel
theorem dX10_init_4 : decode cX10_init 4 = .ok (.aload_n 0, 1) := by decide +kernel
theorem dX10_init_5 : decode cX10_init 5 = .ok (.new 9, 3) := by decide +kernel
theorem dX10_init_8 : decode cX10_init 8 = .ok (.dup, 1) := by decide +kernel
theorem dX10_init_9 : decode cX10_init 9 = .ok (.bipush 96, 2) := by decide +kernel
theorem dX10_init_11 : decode cX10_init 11 = .ok (.invokespecial 11, 3) := by decide +kernel
theorem dX10_init_14 : decode cX10_init 14 = .ok (.putfield 14, 3) := by decide +kernel
theorem dX10_init_17 : decode cX10_init 17 = .ok (.aload_n 0, 1) := by decide +kernel
theorem dX10_init_18 : decode cX10_init 18 = .ok (.bipush 96, 2) := by decide +kernel
theorem dX10_init_20 : decode cX10_init 20 = .ok (.newarray .int, 2) := by decide +kernel
theorem dX10_init_22 : decode cX10_init 22 = .ok (.putfield 20, 3) := by decide +kernel
theorem dX10_init_25 : decode cX10_init 25 = .ok (.aload_n 0, 1) := by decide +kernel
theorem dX10_init_26 : decode cX10_init 26 = .ok (.iconst 5, 1) := by decide +kernel
theorem dX10_init_27 : decode cX10_init 27 = .ok (.newarray .int, 2) := by decide +kernel
theorem dX10_init_29 : decode cX10_init 29 = .ok (.putfield 24, 3) := by decide +kernel
theorem dX10_init_32 : decode cX10_init 32 = .ok (.return_, 1) := by decide +kernel
theorem dX10_jumpAt_0 : decode cX10_jumpAt 0 = .ok (.iload_n 1, 1) := by decide +kernel
theorem dX10_jumpAt_1 : decode cX10_jumpAt 1 = .ok (.ifCond .lt 18, 3) := by decide +kernel
theorem dX10_jumpAt_4 : decode cX10_jumpAt 4 = .ok (.iload_n 1, 1) := by decide +kernel
theorem dX10_jumpAt_5 : decode cX10_jumpAt 5 = .ok (.bipush 96, 2) := by decide +kernel
theorem dX10_jumpAt_7 : decode cX10_jumpAt 7 = .ok (.if_icmp .ge 12, 3) := by decide +kernel
theorem dX10_jumpAt_10 : decode cX10_jumpAt 10 = .ok (.aload_n 0, 1) := by decide +kernel
theorem dX10_jumpAt_11 : decode cX10_jumpAt 11 = .ok (.getfield 20, 3) := by decide +kernel
theorem dX10_jumpAt_14 : decode cX10_jumpAt 14 = .ok (.iload_n 1, 1) := by decide +kernel
theorem dX10_jumpAt_15 : decode cX10_jumpAt 15 = .ok (.iaload, 1) := by decide +kernel
theorem dX10_jumpAt_16 : decode cX10_jumpAt 16 = .ok (.goto 5, 3) := by decide +kernel
theorem dX10_jumpAt_19 : decode cX10_jumpAt 19 = .ok (.bipush 96, 2) := by decide +kernel
theorem dX10_jumpAt_21 : decode cX10_jumpAt 21 = .ok (.ireturn, 1) := by decide +kernel
theorem dX10_read_0 : decode cX10_read 0 = .ok (.aload_n 1, 1) := by decide +kernel
theorem dX10_read_1 : decode cX10_read 1 = .ok (.iconst 0, 1) := by decide +kernel
theorem dX10_read_2 : decode cX10_read 2 = .ok (.putfield 27, 3) := by decide +kernel
theorem dX10_read_5 : decode cX10_read 5 = .ok (.aload_n 0, 1) := by decide +kernel
theorem dX10_read_6 : decode cX10_read 6 = .ok (.iconst 0, 1) := by decide +kernel
theorem dX10_read_7 : decode cX10_read 7 = .ok (.putfield 33, 3) := by decide +kernel
theorem dX10_read_10 : decode cX10_read 10 = .ok (.iconst 0, 1) := by decide +kernel
theorem dX10_read_11 : decode cX10_read 11 = .ok (.istore_n 2, 1) := by decide +kernel
theorem dX10_read_12 : decode cX10_read 12 = .ok (.iload_n 2, 1) := by decide +kernel
theorem dX10_read_13 : decode cX10_read 13 = .ok (.bipush 96, 2) := by decide +kernel
theorem dX10_read_15 : decode cX10_read 15 = .ok (.if_icmp .ge 26, 3) := by decide +kernel
theorem dX10_read_18 : decode cX10_read 18 = .ok (.aload_n 1, 1) := by decide +kernel
theorem dX10_read_19 : decode cX10_read 19 = .ok (.invokevirtual 36, 3) := by decide +kernel
theorem dX10_read_22 : decode cX10_read 22 = .ok (.ifCond .ne 19, 3) := by decide +kernel
theorem dX10_read_25 : decode cX10_read 25 = .ok (.aload_n 0, 1) := by decide +kernel
theorem dX10_read_26 : decode cX10_read 26 = .ok (.aload_n 1, 1) := by decide +kernel
theorem dX10_read_27 : decode cX10_read 27 = .ok (.invokevirtual 40, 3) := by decide +kernel
theorem dX10_read_30 : decode cX10_read 30 = .ok (.ifCond .ne 5, 3) := by decide +kernel
theorem dX10_read_33 : decode cX10_read 33 = .ok (.iconst 0, 1) := by decide +kernel
theorem dX10_read_34 : decode cX10_read 34 = .ok (.ireturn, 1) := by decide +kernel
theorem dX10_read_35 : decode cX10_read 35 = .ok (.iinc 2 1, 3) := by decide +kernel
theorem dX10_read_38 : decode cX10_read 38 = .ok (.goto (-26), 3) := by decide +kernel
theorem dX10_read_41 : decode cX10_read 41 = .ok (.aload_n 0, 1) := by decide +kernel
theorem dX10_read_42 : decode cX10_read 42 = .ok (.getfield 14, 3) := by decide +kernel
theorem dX10_read_45 : decode cX10_read 45 = .ok (.aload_n 1, 1) := by decide +kernel
theorem dX10_read_46 : decode cX10_read 46 = .ok (.getfield 44, 3) := by decide +kernel
theorem dX10_read_49 : decode cX10_read 49 = .ok (.invokevirtual 45, 3) := by decide +kernel
theorem dX10_read_52 : decode cX10_read 52 = .ok (.aload_n 0, 1) := by decide +kernel
theorem dX10_read_53 : decode cX10_read 53 = .ok (.aload_n 0, 1) := by decide +kernel
theorem dX10_read_54 : decode cX10_read 54 = .ok (.getfield 33, 3) := by decide +kernel
theorem dX10_read_57 : decode cX10_read 57 = .ok (.ifCond .ne 7, 3) := by decide +kernel
theorem dX10_read_60 : decode cX10_read 60 = .ok (.iconst 1, 1) := by decide +kernel
theorem dX10_read_61 : decode cX10_read 61 = .ok (.goto 4, 3) := by decide +kernel
theorem dX10_read_64 : decode cX10_read 64 = .ok (.iconst 0, 1) := by decide +kernel
theorem dX10_read_65 : decode cX10_read 65 = .ok (.putfield 49, 3) := by decide +kernel
theorem dX10_read_68 : decode cX10_read 68 = .ok (.aload_n 0, 1) := by decide +kernel
theorem dX10_read_69 : decode cX10_read 69 = .ok (.getfield 49, 3) := by decide +kernel
theorem dX10_read_72 : decode cX10_read 72 = .ok (.ireturn, 1) := by decide +kernel
theorem dX10_readPart_0 : decode cX10_readPart 0 = .ok (.aload_n 1, 1) := by decide +kernel
theorem dX10_readPart_1 : decode cX10_readPart 1 = .ok (.invokevirtual 53, 3) := by decide +kernel
theorem dX10_readPart_4 : decode cX10_readPart 4 = .ok (.istore_n 2, 1) := by decide +kernel
theorem dX10_readPart_5 : decode cX10_readPart 5 = .ok (.iload_n 2, 1) := by decide +kernel
theorem dX10_readPart_6 : decode cX10_readPart 6 = .ok (.bipush 60, 2) := by decide +kernel
theorem dX10_readPart_8 : decode cX10_readPart 8 = .ok (.if_icmp .ne 33, 3) := by decide +kernel
theorem dX10_readPart_11 : decode cX10_readPart 11 = .ok (.aload_n 1, 1) := by decide +kernel
theorem dX10_readPart_12 : decode cX10_readPart 12 = .ok (.iload_n 2, 1) := by decide +kernel
theorem dX10_readPart_13 : decode cX10_readPart 13 = .ok (.invokevirtual 57, 3) := by decide +kernel
theorem dX10_readPart_16 : decode cX10_readPart 16 = .ok (.ifCond .eq 23, 3) := by decide +kernel
theorem dX10_readPart_19 : decode cX10_readPart 19 = .ok (.aload_n 1, 1) := by decide +kernel
theorem dX10_readPart_20 : decode cX10_readPart 20 = .ok (.invokevirtual 61, 3) := by decide +kernel
theorem dX10_readPart_23 : decode cX10_readPart 23 = .ok (.ifCond .eq 16, 3) := by decide +kernel
theorem dX10_readPart_26 : decode cX10_readPart 26 = .ok (.aload_n 1, 1) := by decide +kernel
theorem dX10_readPart_27 : decode cX10_readPart 27 = .ok (.bipush 62, 2) := by decide +kernel
theorem dX10_readPart_29 : decode cX10_readPart 29 = .ok (.invokevirtual 57, 3) := by decide +kernel
theorem dX10_readPart_32 : decode cX10_readPart 32 = .ok (.ifCond .eq 7, 3) := by decide +kernel
theorem dX10_readPart_35 : decode cX10_readPart 35 = .ok (.iconst 1, 1) := by decide +kernel
theorem dX10_readPart_36 : decode cX10_readPart 36 = .ok (.goto 4, 3) := by decide +kernel
theorem dX10_readPart_39 : decode cX10_readPart 39 = .ok (.iconst 0, 1) := by decide +kernel
theorem dX10_readPart_40 : decode cX10_readPart 40 = .ok (.ireturn, 1) := by decide +kernel
theorem dX10_readPart_41 : decode cX10_readPart 41 = .ok (.iload_n 2, 1) := by decide +kernel
theorem dX10_readPart_42 : decode cX10_readPart 42 = .ok (.bipush 64, 2) := by decide +kernel
theorem dX10_readPart_44 : decode cX10_readPart 44 = .ok (.if_icmp .ne 26, 3) := by decide +kernel
theorem dX10_readPart_47 : decode cX10_readPart 47 = .ok (.aload_n 1, 1) := by decide +kernel
theorem dX10_readPart_48 : decode cX10_readPart 48 = .ok (.iload_n 2, 1) := by decide +kernel
theorem dX10_readPart_49 : decode cX10_readPart 49 = .ok (.invokevirtual 57, 3) := by decide +kernel
theorem dX10_readPart_52 : decode cX10_readPart 52 = .ok (.ifCond .eq 16, 3) := by decide +kernel
theorem dX10_readPart_55 : decode cX10_readPart 55 = .ok (.aload_n 1, 1) := by decide +kernel
theorem dX10_readPart_56 : decode cX10_readPart 56 = .ok (.bipush 55, 2) := by decide +kernel
theorem dX10_readPart_58 : decode cX10_readPart 58 = .ok (.invokevirtual 64, 3) := by decide +kernel
theorem dX10_readPart_61 : decode cX10_readPart 61 = .ok (.ifCond .eq 7, 3) := by decide +kernel
theorem dX10_readPart_64 : decode cX10_readPart 64 = .ok (.iconst 1, 1) := by decide +kernel
theorem dX10_readPart_65 : decode cX10_readPart 65 = .ok (.goto 4, 3) := by decide +kernel
theorem dX10_readPart_68 : decode cX10_readPart 68 = .ok (.iconst 0, 1) := by decide +kernel
theorem dX10_readPart_69 : decode cX10_readPart 69 = .ok (.ireturn, 1) := by decide +kernel
theorem dX10_readPart_70 : decode cX10_readPart 70 = .ok (.iload_n 2, 1) := by decide +kernel
theorem dX10_readPart_71 : decode cX10_readPart 71 = .ok (.bipush 91, 2) := by decide +kernel
theorem dX10_readPart_73 : decode cX10_readPart 73 = .ok (.if_icmp .ne 9, 3) := by decide +kernel
theorem dX10_readPart_76 : decode cX10_readPart 76 = .ok (.aload_n 0, 1) := by decide +kernel
theorem dX10_readPart_77 : decode cX10_readPart 77 = .ok (.aload_n 1, 1) := by decide +kernel
theorem dX10_readPart_78 : decode cX10_readPart 78 = .ok (.invokevirtual 67, 3) := by decide +kernel
theorem dX10_readPart_81 : decode cX10_readPart 81 = .ok (.ireturn, 1) := by decide +kernel
theorem dX10_readPart_82 : decode cX10_readPart 82 = .ok (.iload_n 2, 1) := by decide +kernel
theorem dX10_readPart_83 : decode cX10_readPart 83 = .ok (.bipush 124, 2) := by decide +kernel
theorem dX10_readPart_85 : decode cX10_readPart 85 = .ok (.if_icmp .ne 9, 3) := by decide +kernel
theorem dX10_readPart_88 : decode cX10_readPart 88 = .ok (.aload_n 0, 1) := by decide +kernel
theorem dX10_readPart_89 : decode cX10_readPart 89 = .ok (.aload_n 1, 1) := by decide +kernel
theorem dX10_readPart_90 : decode cX10_readPart 90 = .ok (.invokevirtual 70, 3) := by decide +kernel
theorem dX10_readPart_93 : decode cX10_readPart 93 = .ok (.ireturn, 1) := by decide +kernel
theorem dX10_readPart_94 : decode cX10_readPart 94 = .ok (.iload_n 2, 1) := by decide +kernel
theorem dX10_readPart_95 : decode cX10_readPart 95 = .ok (.bipush 93, 2) := by decide +kernel
theorem dX10_readPart_97 : decode cX10_readPart 97 = .ok (.if_icmp .ne 9, 3) := by decide +kernel
theorem dX10_readPart_100 : decode cX10_readPart 100 = .ok (.aload_n 0, 1) := by decide +kernel
theorem dX10_readPart_101 : decode cX10_readPart 101 = .ok (.aload_n 1, 1) := by decide +kernel
theorem dX10_readPart_102 : decode cX10_readPart 102 = .ok (.invokevirtual 73, 3) := by decide +kernel
theorem dX10_readPart_105 : decode cX10_readPart 105 = .ok (.ireturn, 1) := by decide +kernel
theorem dX10_readPart_106 : decode cX10_readPart 106 = .ok (.aload_n 1, 1) := by decide +kernel
theorem dX10_readPart_107 : decode cX10_readPart 107 = .ok (.iload_n 2, 1) := by decide +kernel
theorem dX10_readPart_108 : decode cX10_readPart 108 = .ok (.invokevirtual 57, 3) := by decide +kernel
theorem dX10_readPart_111 : decode cX10_readPart 111 = .ok (.ireturn, 1) := by decide +kernel
theorem dX10_openChoice_0 : decode cX10_openChoice 0 = .ok (.aload_n 0, 1) := by decide +kernel
theorem dX10_openChoice_1 : decode cX10_openChoice 1 = .ok (.getfield 33, 3) := by decide +kernel
theorem dX10_openChoice_4 : decode cX10_openChoice 4 = .ok (.ifCond .lt 11, 3) := by decide +kernel
theorem dX10_openChoice_7 : decode cX10_openChoice 7 = .ok (.aload_n 0, 1) := by decide +kernel
theorem dX10_openChoice_8 : decode cX10_openChoice 8 = .ok (.getfield 33, 3) := by decide +kernel
theorem dX10_openChoice_11 : decode cX10_openChoice 11 = .ok (.iconst 5, 1) := by decide +kernel
theorem dX10_openChoice_12 : decode cX10_openChoice 12 = .ok (.if_icmp .lt 5, 3) := by decide +kernel
theorem dX10_openChoice_15 : decode cX10_openChoice 15 = .ok (.iconst 0, 1) := by decide +kernel
theorem dX10_openChoice_16 : decode cX10_openChoice 16 = .ok (.ireturn, 1) := by decide +kernel
theorem dX10_openChoice_17 : decode cX10_openChoice 17 = .ok (.aload_n 0, 1) := by decide +kernel
theorem dX10_openChoice_18 : decode cX10_openChoice 18 = .ok (.getfield 24, 3) := by decide +kernel
theorem dX10_openChoice_21 : decode cX10_openChoice 21 = .ok (.aload_n 0, 1) := by decide +kernel
theorem dX10_openChoice_22 : decode cX10_openChoice 22 = .ok (.getfield 33, 3) := by decide +kernel
theorem dX10_openChoice_25 : decode cX10_openChoice 25 = .ok (.aload_n 1, 1) := by decide +kernel
theorem dX10_openChoice_26 : decode cX10_openChoice 26 = .ok (.getfield 27, 3) := by decide +kernel
theorem dX10_openChoice_29 : decode cX10_openChoice 29 = .ok (.iastore, 1) := by decide +kernel
theorem dX10_openChoice_30 : decode cX10_openChoice 30 = .ok (.aload_n 0, 1) := by decide +kernel
theorem dX10_openChoice_31 : decode cX10_openChoice 31 = .ok (.dup, 1) := by decide +kernel
theorem dX10_openChoice_32 : decode cX10_openChoice 32 = .ok (.getfield 33, 3) := by decide +kernel
theorem dX10_openChoice_35 : decode cX10_openChoice 35 = .ok (.iconst 1, 1) := by decide +kernel
theorem dX10_openChoice_36 : decode cX10_openChoice 36 = .ok (.iadd, 1) := by decide +kernel
theorem dX10_openChoice_37 : decode cX10_openChoice 37 = .ok (.putfield 33, 3) := by decide +kernel
theorem dX10_openChoice_40 : decode cX10_openChoice 40 = .ok (.aload_n 1, 1) := by decide +kernel
theorem dX10_openChoice_41 : decode cX10_openChoice 41 = .ok (.bipush 91, 2) := by decide +kernel
theorem dX10_openChoice_43 : decode cX10_openChoice 43 = .ok (.invokevirtual 57, 3) := by decide +kernel
theorem dX10_openChoice_46 : decode cX10_openChoice 46 = .ok (.ifCond .eq 41, 3) := by decide +kernel
theorem dX10_openChoice_49 : decode cX10_openChoice 49 = .ok (.aload_n 1, 1) := by decide +kernel
theorem dX10_openChoice_50 : decode cX10_openChoice 50 = .ok (.invokevirtual 61, 3) := by decide +kernel
theorem dX10_openChoice_53 : decode cX10_openChoice 53 = .ok (.ifCond .eq 34, 3) := by decide +kernel
theorem dX10_openChoice_56 : decode cX10_openChoice 56 = .ok (.aload_n 1, 1) := by decide +kernel
theorem dX10_openChoice_57 : decode cX10_openChoice 57 = .ok (.invokevirtual 76, 3) := by decide +kernel
theorem dX10_openChoice_60 : decode cX10_openChoice 60 = .ok (.ifCond .eq 27, 3) := by decide +kernel
theorem dX10_openChoice_63 : decode cX10_openChoice 63 = .ok (.aload_n 1, 1) := by decide +kernel
theorem dX10_openChoice_64 : decode cX10_openChoice 64 = .ok (.iconst 3, 1) := by decide +kernel
theorem dX10_openChoice_65 : decode cX10_openChoice 65 = .ok (.bipush 57, 2) := by decide +kernel
theorem dX10_openChoice_67 : decode cX10_openChoice 67 = .ok (.invokevirtual 79, 3) := by decide +kernel
theorem dX10_openChoice_70 : decode cX10_openChoice 70 = .ok (.iconst (-1), 1) := by decide +kernel
theorem dX10_openChoice_71 : decode cX10_openChoice 71 = .ok (.if_icmp .eq 16, 3) := by decide +kernel
theorem dX10_openChoice_74 : decode cX10_openChoice 74 = .ok (.aload_n 1, 1) := by decide +kernel
theorem dX10_openChoice_75 : decode cX10_openChoice 75 = .ok (.bipush 63, 2) := by decide +kernel
theorem dX10_openChoice_77 : decode cX10_openChoice 77 = .ok (.invokevirtual 57, 3) := by decide +kernel
theorem dX10_openChoice_80 : decode cX10_openChoice 80 = .ok (.ifCond .eq 7, 3) := by decide +kernel
theorem dX10_openChoice_83 : decode cX10_openChoice 83 = .ok (.iconst 1, 1) := by decide +kernel
theorem dX10_openChoice_84 : decode cX10_openChoice 84 = .ok (.goto 4, 3) := by decide +kernel
theorem dX10_openChoice_87 : decode cX10_openChoice 87 = .ok (.iconst 0, 1) := by decide +kernel
theorem dX10_openChoice_88 : decode cX10_openChoice 88 = .ok (.ireturn, 1) := by decide +kernel
theorem dX10_turnChoice_0 : decode cX10_turnChoice 0 = .ok (.aload_n 0, 1) := by decide +kernel
theorem dX10_turnChoice_1 : decode cX10_turnChoice 1 = .ok (.aload_n 1, 1) := by decide +kernel
theorem dX10_turnChoice_2 : decode cX10_turnChoice 2 = .ok (.bipush 91, 2) := by decide +kernel
theorem dX10_turnChoice_4 : decode cX10_turnChoice 4 = .ok (.invokevirtual 83, 3) := by decide +kernel
theorem dX10_turnChoice_7 : decode cX10_turnChoice 7 = .ok (.ifCond .ne 5, 3) := by decide +kernel
theorem dX10_turnChoice_10 : decode cX10_turnChoice 10 = .ok (.iconst 0, 1) := by decide +kernel
theorem dX10_turnChoice_11 : decode cX10_turnChoice 11 = .ok (.ireturn, 1) := by decide +kernel
theorem dX10_turnChoice_12 : decode cX10_turnChoice 12 = .ok (.aload_n 0, 1) := by decide +kernel
theorem dX10_turnChoice_13 : decode cX10_turnChoice 13 = .ok (.getfield 24, 3) := by decide +kernel
theorem dX10_turnChoice_16 : decode cX10_turnChoice 16 = .ok (.aload_n 0, 1) := by decide +kernel
theorem dX10_turnChoice_17 : decode cX10_turnChoice 17 = .ok (.getfield 33, 3) := by decide +kernel
theorem dX10_turnChoice_20 : decode cX10_turnChoice 20 = .ok (.iconst 1, 1) := by decide +kernel
theorem dX10_turnChoice_21 : decode cX10_turnChoice 21 = .ok (.isub, 1) := by decide +kernel
theorem dX10_turnChoice_22 : decode cX10_turnChoice 22 = .ok (.aload_n 1, 1) := by decide +kernel
theorem dX10_turnChoice_23 : decode cX10_turnChoice 23 = .ok (.getfield 27, 3) := by decide +kernel
theorem dX10_turnChoice_26 : decode cX10_turnChoice 26 = .ok (.iastore, 1) := by decide +kernel
theorem dX10_turnChoice_27 : decode cX10_turnChoice 27 = .ok (.aload_n 1, 1) := by decide +kernel
theorem dX10_turnChoice_28 : decode cX10_turnChoice 28 = .ok (.bipush 124, 2) := by decide +kernel
theorem dX10_turnChoice_30 : decode cX10_turnChoice 30 = .ok (.invokevirtual 57, 3) := by decide +kernel
theorem dX10_turnChoice_33 : decode cX10_turnChoice 33 = .ok (.ireturn, 1) := by decide +kernel
theorem dX10_closeChoice_0 : decode cX10_closeChoice 0 = .ok (.aload_n 0, 1) := by decide +kernel
theorem dX10_closeChoice_1 : decode cX10_closeChoice 1 = .ok (.aload_n 1, 1) := by decide +kernel
theorem dX10_closeChoice_2 : decode cX10_closeChoice 2 = .ok (.bipush 124, 2) := by decide +kernel
theorem dX10_closeChoice_4 : decode cX10_closeChoice 4 = .ok (.invokevirtual 83, 3) := by decide +kernel
theorem dX10_closeChoice_7 : decode cX10_closeChoice 7 = .ok (.ifCond .ne 5, 3) := by decide +kernel
theorem dX10_closeChoice_10 : decode cX10_closeChoice 10 = .ok (.iconst 0, 1) := by decide +kernel
theorem dX10_closeChoice_11 : decode cX10_closeChoice 11 = .ok (.ireturn, 1) := by decide +kernel
theorem dX10_closeChoice_12 : decode cX10_closeChoice 12 = .ok (.aload_n 0, 1) := by decide +kernel
theorem dX10_closeChoice_13 : decode cX10_closeChoice 13 = .ok (.dup, 1) := by decide +kernel
theorem dX10_closeChoice_14 : decode cX10_closeChoice 14 = .ok (.getfield 33, 3) := by decide +kernel
theorem dX10_closeChoice_17 : decode cX10_closeChoice 17 = .ok (.iconst 1, 1) := by decide +kernel
theorem dX10_closeChoice_18 : decode cX10_closeChoice 18 = .ok (.isub, 1) := by decide +kernel
theorem dX10_closeChoice_19 : decode cX10_closeChoice 19 = .ok (.putfield 33, 3) := by decide +kernel
theorem dX10_closeChoice_22 : decode cX10_closeChoice 22 = .ok (.aload_n 1, 1) := by decide +kernel
theorem dX10_closeChoice_23 : decode cX10_closeChoice 23 = .ok (.bipush 93, 2) := by decide +kernel
theorem dX10_closeChoice_25 : decode cX10_closeChoice 25 = .ok (.invokevirtual 57, 3) := by decide +kernel
theorem dX10_closeChoice_28 : decode cX10_closeChoice 28 = .ok (.ireturn, 1) := by decide +kernel
theorem dX10_jumpFromMark_0 : decode cX10_jumpFromMark 0 = .ok (.aload_n 0, 1) := by decide +kernel
theorem dX10_jumpFromMark_1 : decode cX10_jumpFromMark 1 = .ok (.getfield 33, 3) := by decide +kernel
theorem dX10_jumpFromMark_4 : decode cX10_jumpFromMark 4 = .ok (.ifCond .le 11, 3) := by decide +kernel
theorem dX10_jumpFromMark_7 : decode cX10_jumpFromMark 7 = .ok (.aload_n 0, 1) := by decide +kernel
theorem dX10_jumpFromMark_8 : decode cX10_jumpFromMark 8 = .ok (.getfield 33, 3) := by decide +kernel
theorem dX10_jumpFromMark_11 : decode cX10_jumpFromMark 11 = .ok (.iconst 5, 1) := by decide +kernel
theorem dX10_jumpFromMark_12 : decode cX10_jumpFromMark 12 = .ok (.if_icmp .le 5, 3) := by decide +kernel
theorem dX10_jumpFromMark_15 : decode cX10_jumpFromMark 15 = .ok (.iconst 0, 1) := by decide +kernel
theorem dX10_jumpFromMark_16 : decode cX10_jumpFromMark 16 = .ok (.ireturn, 1) := by decide +kernel
theorem dX10_jumpFromMark_17 : decode cX10_jumpFromMark 17 = .ok (.aload_n 0, 1) := by decide +kernel
theorem dX10_jumpFromMark_18 : decode cX10_jumpFromMark 18 = .ok (.getfield 24, 3) := by decide +kernel
theorem dX10_jumpFromMark_21 : decode cX10_jumpFromMark 21 = .ok (.aload_n 0, 1) := by decide +kernel
theorem dX10_jumpFromMark_22 : decode cX10_jumpFromMark 22 = .ok (.getfield 33, 3) := by decide +kernel
theorem dX10_jumpFromMark_25 : decode cX10_jumpFromMark 25 = .ok (.iconst 1, 1) := by decide +kernel
theorem dX10_jumpFromMark_26 : decode cX10_jumpFromMark 26 = .ok (.isub, 1) := by decide +kernel
theorem dX10_jumpFromMark_27 : decode cX10_jumpFromMark 27 = .ok (.iaload, 1) := by decide +kernel
theorem dX10_jumpFromMark_28 : decode cX10_jumpFromMark 28 = .ok (.istore_n 3, 1) := by decide +kernel
theorem dX10_jumpFromMark_29 : decode cX10_jumpFromMark 29 = .ok (.iload_n 3, 1) := by decide +kernel
theorem dX10_jumpFromMark_30 : decode cX10_jumpFromMark 30 = .ok (.ifCond .lt 21, 3) := by decide +kernel
theorem dX10_jumpFromMark_33 : decode cX10_jumpFromMark 33 = .ok (.iload_n 3, 1) := by decide +kernel
theorem dX10_jumpFromMark_34 : decode cX10_jumpFromMark 34 = .ok (.bipush 96, 2) := by decide +kernel
theorem dX10_jumpFromMark_36 : decode cX10_jumpFromMark 36 = .ok (.if_icmp .ge 15, 3) := by decide +kernel
theorem dX10_jumpFromMark_39 : decode cX10_jumpFromMark 39 = .ok (.aload_n 1, 1) := by decide +kernel
theorem dX10_jumpFromMark_40 : decode cX10_jumpFromMark 40 = .ok (.getfield 44, 3) := by decide +kernel
theorem dX10_jumpFromMark_43 : decode cX10_jumpFromMark 43 = .ok (.iload_n 3, 1) := by decide +kernel
theorem dX10_jumpFromMark_44 : decode cX10_jumpFromMark 44 = .ok (.invokevirtual 87, 3) := by decide +kernel
theorem dX10_jumpFromMark_47 : decode cX10_jumpFromMark 47 = .ok (.iload_n 2, 1) := by decide +kernel
theorem dX10_jumpFromMark_48 : decode cX10_jumpFromMark 48 = .ok (.if_icmp .eq 5, 3) := by decide +kernel
theorem dX10_jumpFromMark_51 : decode cX10_jumpFromMark 51 = .ok (.iconst 0, 1) := by decide +kernel
theorem dX10_jumpFromMark_52 : decode cX10_jumpFromMark 52 = .ok (.ireturn, 1) := by decide +kernel
theorem dX10_jumpFromMark_53 : decode cX10_jumpFromMark 53 = .ok (.aload_n 0, 1) := by decide +kernel
theorem dX10_jumpFromMark_54 : decode cX10_jumpFromMark 54 = .ok (.getfield 20, 3) := by decide +kernel
theorem dX10_jumpFromMark_57 : decode cX10_jumpFromMark 57 = .ok (.iload_n 3, 1) := by decide +kernel
theorem dX10_jumpFromMark_58 : decode cX10_jumpFromMark 58 = .ok (.aload_n 1, 1) := by decide +kernel
theorem dX10_jumpFromMark_59 : decode cX10_jumpFromMark 59 = .ok (.getfield 27, 3) := by decide +kernel
theorem dX10_jumpFromMark_62 : decode cX10_jumpFromMark 62 = .ok (.iconst 1, 1) := by decide +kernel
theorem dX10_jumpFromMark_63 : decode cX10_jumpFromMark 63 = .ok (.iadd, 1) := by decide +kernel
theorem dX10_jumpFromMark_64 : decode cX10_jumpFromMark 64 = .ok (.iastore, 1) := by decide +kernel
theorem dX10_jumpFromMark_65 : decode cX10_jumpFromMark 65 = .ok (.iconst 1, 1) := by decide +kernel
theorem dX10_jumpFromMark_66 : decode cX10_jumpFromMark 66 = .ok (.ireturn, 1) := by decide +kernel
theorem dX11_init_0 : decode cX11_init 0 = .ok (.aload_n 0, 1) := by decide +kernel
theorem dX11_init_1 : decode cX11_init 1 = .ok (.invokespecial 3, 3) := by decide +kernel
theorem dX11_init_4 : decode cX11_init 4 = .ok (.aload_n 0, 1) := by decide +kernel
theorem dX11_init_5 : decode cX11_init 5 = .ok (.new 9, 3) := by decide +kernel
theorem dX11_init_8 : decode cX11_init 8 = .ok (.dup, 1) := by decide +kernel
theorem dX11_init_9 : decode cX11_init 9 = .ok (.invokespecial 11, 3) := by decide +kernel
theorem dX11_init_12 : decode cX11_init 12 = .ok (.putfield 12, 3) := by decide +kernel
theorem dX11_init_15 : decode cX11_init 15 = .ok (.aload_n 0, 1) := by decide +kernel
theorem dX11_init_16 : decode cX11_init 16 = .ok (.new 16, 3) := by decide +kernel
theorem dX11_init_19 : decode cX11_init 19 = .ok (.dup, 1) := by decide +kernel
theorem dX11_init_20 : decode cX11_init 20 = .ok (.invokespecial 18, 3) := by decide +kernel
theorem dX11_init_23 : decode cX11_init 23 = .ok (.putfield 19, 3) := by decide +kernel
theorem dX11_init_26 : decode cX11_init 26 = .ok (.aload_n 0, 1) := by decide +kernel
theorem dX11_init_27 : decode cX11_init 27 = .ok (.new 23, 3) := by decide +kernel
theorem dX11_init_30 : decode cX11_init 30 = .ok (.dup, 1) := by decide +kernel
theorem dX11_init_31 : decode cX11_init 31 = .ok (.invokespecial 25, 3) := by decide +kernel
theorem dX11_init_34 : decode cX11_init 34 = .ok (.putfield 26, 3) := by decide +kernel
theorem dX11_init_37 : decode cX11_init 37 = .ok (.aload_n 0, 1) := by decide +kernel
theorem dX11_init_38 : decode cX11_init 38 = .ok (.new 30, 3) := by decide +kernel
theorem dX11_init_41 : decode cX11_init 41 = .ok (.dup, 1) := by decide +kernel
theorem dX11_init_42 : decode cX11_init 42 = .ok (.invokespecial 32, 3) := by decide +kernel
theorem dX11_init_45 : decode cX11_init 45 = .ok (.putfield 33, 3) := by decide +kernel
theorem dX11_init_48 : decode cX11_init 48 = .ok (.aload_n 0, 1) := by decide +kernel
theorem dX11_init_49 : decode cX11_init 49 = .ok (.new 37, 3) := by decide +kernel
theorem dX11_init_52 : decode cX11_init 52 = .ok (.dup, 1) := by decide +kernel
theorem dX11_init_53 : decode cX11_init 53 = .ok (.invokespecial 39, 3) := by decide +kernel
theorem dX11_init_56 : decode cX11_init 56 = .ok (.putfield 40, 3) := by decide +kernel
theorem dX11_init_59 : decode cX11_init 59 = .ok (.aload_n 0, 1) := by decide +kernel
theorem dX11_init_60 : decode cX11_init 60 = .ok (.bipush 8, 2) := by decide +kernel
theorem dX11_init_62 : decode cX11_init 62 = .ok (.anewarray 44, 3) := by decide +kernel
theorem dX11_init_65 : decode cX11_init 65 = .ok (.putfield 46, 3) := by decide +kernel
theorem dX11_init_68 : decode cX11_init 68 = .ok (.iconst 0, 1) := by decide +kernel
theorem dX11_init_69 : decode cX11_init 69 = .ok (.istore_n 1, 1) := by decide +kernel
theorem dX11_init_70 : decode cX11_init 70 = .ok (.iload_n 1, 1) := by decide +kernel
theorem dX11_init_71 : decode cX11_init 71 = .ok (.bipush 8, 2) := by decide +kernel
theorem dX11_init_73 : decode cX11_init 73 = .ok (.if_icmp .ge 22, 3) := by decide +kernel
theorem dX11_init_76 : decode cX11_init 76 = .ok (.aload_n 0, 1) := by decide +kernel
theorem dX11_init_77 : decode cX11_init 77 = .ok (.getfield 46, 3) := by decide +kernel
theorem dX11_init_80 : decode cX11_init 80 = .ok (.iload_n 1, 1) := by decide +kernel
theorem dX11_init_81 : decode cX11_init 81 = .ok (.new 44, 3) := by decide +kernel
theorem dX11_init_84 : decode cX11_init 84 = .ok (.dup, 1) := by decide +kernel
theorem dX11_init_85 : decode cX11_init 85 = .ok (.invokespecial 50, 3) := by decide +kernel
theorem dX11_init_88 : decode cX11_init 88 = .ok (.aastore, 1) := by decide +kernel
theorem dX11_init_89 : decode cX11_init 89 = .ok (.iinc 1 1, 3) := by decide +kernel
theorem dX11_init_92 : decode cX11_init 92 = .ok (.goto (-22), 3) := by decide +kernel
theorem dX11_init_95 : decode cX11_init 95 = .ok (.return_, 1) := by decide +kernel
theorem dX11_type_0 : decode cX11_type 0 = .ok (.lload_n 1, 1) := by decide +kernel
theorem dX11_type_1 : decode cX11_type 1 = .ok (.invokestatic 51, 3) := by decide +kernel
theorem dX11_type_4 : decode cX11_type 4 = .ok (.istore_n 3, 1) := by decide +kernel
theorem dX11_type_5 : decode cX11_type 5 = .ok (.iload_n 3, 1) := by decide +kernel
theorem dX11_type_6 : decode cX11_type 6 = .ok (.iconst (-1), 1) := by decide +kernel
theorem dX11_type_7 : decode cX11_type 7 = .ok (.if_icmp .ne 13, 3) := by decide +kernel
theorem dX11_type_10 : decode cX11_type 10 = .ok (.new 55, 3) := by decide +kernel
theorem dX11_type_13 : decode cX11_type 13 = .ok (.dup, 1) := by decide +kernel
theorem dX11_type_14 : decode cX11_type 14 = .ok (.ldc 57, 2) := by decide +kernel
theorem dX11_type_16 : decode cX11_type 16 = .ok (.invokespecial 59, 3) := by decide +kernel
theorem dX11_type_19 : decode cX11_type 19 = .ok (.athrow, 1) := by decide +kernel
theorem dX11_type_20 : decode cX11_type 20 = .ok (.aload_n 0, 1) := by decide +kernel
theorem dX11_type_21 : decode cX11_type 21 = .ok (.getfield 12, 3) := by decide +kernel
theorem dX11_type_24 : decode cX11_type 24 = .ok (.getfield 62, 3) := by decide +kernel
theorem dX11_type_27 : decode cX11_type 27 = .ok (.getfield 66, 3) := by decide +kernel
theorem dX11_type_30 : decode cX11_type 30 = .ok (.iload_n 3, 1) := by decide +kernel
theorem dX11_type_31 : decode cX11_type 31 = .ok (.iadd, 1) := by decide +kernel
theorem dX11_type_32 : decode cX11_type 32 = .ok (.bipush 96, 2) := by decide +kernel
theorem dX11_type_34 : decode cX11_type 34 = .ok (.if_icmp .le 13, 3) := by decide +kernel
theorem dX11_type_37 : decode cX11_type 37 = .ok (.new 72, 3) := by decide +kernel
theorem dX11_type_40 : decode cX11_type 40 = .ok (.dup, 1) := by decide +kernel
theorem dX11_type_41 : decode cX11_type 41 = .ok (.ldc 74, 2) := by decide +kernel
theorem dX11_type_43 : decode cX11_type 43 = .ok (.invokespecial 76, 3) := by decide +kernel
theorem dX11_type_46 : decode cX11_type 46 = .ok (.athrow, 1) := by decide +kernel
theorem dX11_type_47 : decode cX11_type 47 = .ok (.iconst 0, 1) := by decide +kernel
theorem dX11_type_48 : decode cX11_type 48 = .ok (.istore 4, 2) := by decide +kernel
theorem dX11_type_50 : decode cX11_type 50 = .ok (.iload 4, 2) := by decide +kernel
theorem dX11_type_52 : decode cX11_type 52 = .ok (.iload_n 3, 1) := by decide +kernel
theorem dX11_type_53 : decode cX11_type 53 = .ok (.if_icmp .ge 25, 3) := by decide +kernel
theorem dX11_type_56 : decode cX11_type 56 = .ok (.aload_n 0, 1) := by decide +kernel
theorem dX11_type_57 : decode cX11_type 57 = .ok (.getfield 12, 3) := by decide +kernel
theorem dX11_type_60 : decode cX11_type 60 = .ok (.getfield 62, 3) := by decide +kernel
theorem dX11_type_63 : decode cX11_type 63 = .ok (.lload_n 1, 1) := by decide +kernel
theorem dX11_type_64 : decode cX11_type 64 = .ok (.iload 4, 2) := by decide +kernel
theorem dX11_type_66 : decode cX11_type 66 = .ok (.invokestatic 77, 3) := by decide +kernel
theorem dX11_type_69 : decode cX11_type 69 = .ok (.invokevirtual 81, 3) := by decide +kernel
theorem dX11_type_72 : decode cX11_type 72 = .ok (.iinc 4 1, 3) := by decide +kernel
theorem dX11_type_75 : decode cX11_type 75 = .ok (.goto (-25), 3) := by decide +kernel
theorem dX11_type_78 : decode cX11_type 78 = .ok (.aload_n 0, 1) := by decide +kernel
theorem dX11_type_79 : decode cX11_type 79 = .ok (.getfield 12, 3) := by decide +kernel
theorem dX11_type_82 : decode cX11_type 82 = .ok (.getfield 62, 3) := by decide +kernel
theorem dX11_type_85 : decode cX11_type 85 = .ok (.getfield 66, 3) := by decide +kernel
theorem dX11_type_88 : decode cX11_type 88 = .ok (.ireturn, 1) := by decide +kernel
theorem dX11_template_0 : decode cX11_template 0 = .ok (.aload_n 0, 1) := by decide +kernel
theorem dX11_template_1 : decode cX11_template 1 = .ok (.iload_n 1, 1) := by decide +kernel
theorem dX11_template_2 : decode cX11_template 2 = .ok (.invokevirtual 85, 3) := by decide +kernel
theorem dX11_template_5 : decode cX11_template 5 = .ok (.aload_n 0, 1) := by decide +kernel
theorem dX11_template_6 : decode cX11_template 6 = .ok (.getfield 19, 3) := by decide +kernel
theorem dX11_template_9 : decode cX11_template 9 = .ok (.aload_n 0, 1) := by decide +kernel
theorem dX11_template_10 : decode cX11_template 10 = .ok (.getfield 12, 3) := by decide +kernel
theorem dX11_template_13 : decode cX11_template 13 = .ok (.iload_n 1, 1) := by decide +kernel
theorem dX11_template_14 : decode cX11_template 14 = .ok (.invokevirtual 89, 3) := by decide +kernel
theorem dX11_template_17 : decode cX11_template 17 = .ok (.istore_n 2, 1) := by decide +kernel
theorem dX11_template_18 : decode cX11_template 18 = .ok (.iload_n 2, 1) := by decide +kernel
theorem dX11_template_19 : decode cX11_template 19 = .ok (.ifCond .eq 16, 3) := by decide +kernel
theorem dX11_template_22 : decode cX11_template 22 = .ok (.aload_n 0, 1) := by decide +kernel
theorem dX11_template_23 : decode cX11_template 23 = .ok (.getfield 12, 3) := by decide +kernel
theorem dX11_template_26 : decode cX11_template 26 = .ok (.getfield 62, 3) := by decide +kernel
theorem dX11_template_29 : decode cX11_template 29 = .ok (.getfield 66, 3) := by decide +kernel
theorem dX11_template_32 : decode cX11_template 32 = .ok (.goto 12, 3) := by decide +kernel
theorem dX11_template_35 : decode cX11_template 35 = .ok (.iconst (-1), 1) := by decide +kernel
theorem dX11_template_36 : decode cX11_template 36 = .ok (.aload_n 0, 1) := by decide +kernel
theorem dX11_template_37 : decode cX11_template 37 = .ok (.getfield 12, 3) := by decide +kernel
theorem dX11_template_40 : decode cX11_template 40 = .ok (.getfield 93, 3) := by decide +kernel
theorem dX11_template_43 : decode cX11_template 43 = .ok (.isub, 1) := by decide +kernel
theorem dX11_template_44 : decode cX11_template 44 = .ok (.istore_n 3, 1) := by decide +kernel
theorem dX11_template_45 : decode cX11_template 45 = .ok (.aload_n 0, 1) := by decide +kernel
theorem dX11_template_46 : decode cX11_template 46 = .ok (.getfield 12, 3) := by decide +kernel
theorem dX11_template_49 : decode cX11_template 49 = .ok (.invokevirtual 96, 3) := by decide +kernel
theorem dX11_template_52 : decode cX11_template 52 = .ok (.iload_n 3, 1) := by decide +kernel
theorem dX11_template_53 : decode cX11_template 53 = .ok (.ireturn, 1) := by decide +kernel
theorem dX11_address_0 : decode cX11_address 0 = .ok (.iload_n 1, 1) := by decide +kernel
theorem dX11_address_1 : decode cX11_address 1 = .ok (.ifCond .lt 14, 3) := by decide +kernel
theorem dX11_address_4 : decode cX11_address 4 = .ok (.iload_n 1, 1) := by decide +kernel
theorem dX11_address_5 : decode cX11_address 5 = .ok (.aload_n 0, 1) := by decide +kernel
theorem dX11_address_6 : decode cX11_address 6 = .ok (.getfield 26, 3) := by decide +kernel
theorem dX11_address_9 : decode cX11_address 9 = .ok (.getfield 99, 3) := by decide +kernel
theorem dX11_address_12 : decode cX11_address 12 = .ok (.if_icmp .le 13, 3) := by decide +kernel
theorem dX11_address_15 : decode cX11_address 15 = .ok (.new 102, 3) := by decide +kernel
theorem dX11_address_18 : decode cX11_address 18 = .ok (.dup, 1) := by decide +kernel
theorem dX11_address_19 : decode cX11_address 19 = .ok (.ldc 104, 2) := by decide +kernel
theorem dX11_address_21 : decode cX11_address 21 = .ok (.invokespecial 106, 3) := by decide +kernel
theorem dX11_address_24 : decode cX11_address 24 = .ok (.athrow, 1) := by decide +kernel
theorem dX11_address_25 : decode cX11_address 25 = .ok (.iload_n 1, 1) := by decide +kernel
theorem dX11_address_26 : decode cX11_address 26 = .ok (.bipush 12, 2) := by decide +kernel
theorem dX11_address_28 : decode cX11_address 28 = .ok (.if_icmp .ge 14, 3) := by decide +kernel
theorem dX11_address_31 : decode cX11_address 31 = .ok (.aload_n 0, 1) := by decide +kernel
theorem dX11_address_32 : decode cX11_address 32 = .ok (.getfield 26, 3) := by decide +kernel
theorem dX11_address_35 : decode cX11_address 35 = .ok (.iload_n 1, 1) := by decide +kernel
theorem dX11_address_36 : decode cX11_address 36 = .ok (.invokevirtual 107, 3) := by decide +kernel
theorem dX11_address_39 : decode cX11_address 39 = .ok (.ifCond .eq 13, 3) := by decide +kernel
theorem dX11_address_42 : decode cX11_address 42 = .ok (.new 72, 3) := by decide +kernel
theorem dX11_address_45 : decode cX11_address 45 = .ok (.dup, 1) := by decide +kernel
theorem dX11_address_46 : decode cX11_address 46 = .ok (.ldc 111, 2) := by decide +kernel
theorem dX11_address_48 : decode cX11_address 48 = .ok (.invokespecial 76, 3) := by decide +kernel
theorem dX11_address_51 : decode cX11_address 51 = .ok (.athrow, 1) := by decide +kernel
theorem dX11_address_52 : decode cX11_address 52 = .ok (.aload_n 0, 1) := by decide +kernel
theorem dX11_address_53 : decode cX11_address 53 = .ok (.getfield 26, 3) := by decide +kernel
theorem dX11_address_56 : decode cX11_address 56 = .ok (.aload_n 0, 1) := by decide +kernel
theorem dX11_address_57 : decode cX11_address 57 = .ok (.getfield 12, 3) := by decide +kernel
theorem dX11_address_60 : decode cX11_address 60 = .ok (.iload_n 1, 1) := by decide +kernel
theorem dX11_address_61 : decode cX11_address 61 = .ok (.invokevirtual 113, 3) := by decide +kernel
theorem dX11_address_64 : decode cX11_address 64 = .ok (.istore_n 2, 1) := by decide +kernel
theorem dX11_address_65 : decode cX11_address 65 = .ok (.iload_n 2, 1) := by decide +kernel
theorem dX11_address_66 : decode cX11_address 66 = .ok (.ifCond .eq 7, 3) := by decide +kernel
theorem dX11_address_69 : decode cX11_address 69 = .ok (.iload_n 1, 1) := by decide +kernel
theorem dX11_address_70 : decode cX11_address 70 = .ok (.goto 12, 3) := by decide +kernel
theorem dX11_address_73 : decode cX11_address 73 = .ok (.iconst (-1), 1) := by decide +kernel
theorem dX11_address_74 : decode cX11_address 74 = .ok (.aload_n 0, 1) := by decide +kernel
theorem dX11_address_75 : decode cX11_address 75 = .ok (.getfield 12, 3) := by decide +kernel
theorem dX11_address_78 : decode cX11_address 78 = .ok (.getfield 93, 3) := by decide +kernel
theorem dX11_address_81 : decode cX11_address 81 = .ok (.isub, 1) := by decide +kernel
theorem dX11_address_82 : decode cX11_address 82 = .ok (.istore_n 3, 1) := by decide +kernel
theorem dX11_address_83 : decode cX11_address 83 = .ok (.aload_n 0, 1) := by decide +kernel
theorem dX11_address_84 : decode cX11_address 84 = .ok (.getfield 12, 3) := by decide +kernel
theorem dX11_address_87 : decode cX11_address 87 = .ok (.invokevirtual 96, 3) := by decide +kernel
theorem dX11_address_90 : decode cX11_address 90 = .ok (.iload_n 3, 1) := by decide +kernel
theorem dX11_address_91 : decode cX11_address 91 = .ok (.ireturn, 1) := by decide +kernel
theorem dX11_addresses_0 : decode cX11_addresses 0 = .ok (.aload_n 0, 1) := by decide +kernel
theorem dX11_addresses_1 : decode cX11_addresses 1 = .ok (.getfield 26, 3) := by decide +kernel
theorem dX11_addresses_4 : decode cX11_addresses 4 = .ok (.getfield 99, 3) := by decide +kernel
theorem dX11_addresses_7 : decode cX11_addresses 7 = .ok (.ireturn, 1) := by decide +kernel
theorem dX11_match_0 : decode cX11_match 0 = .ok (.aload_n 0, 1) := by decide +kernel
theorem dX11_match_1 : decode cX11_match 1 = .ok (.iload_n 1, 1) := by decide +kernel
theorem dX11_match_2 : decode cX11_match 2 = .ok (.invokevirtual 116, 3) := by decide +kernel
theorem dX11_match_5 : decode cX11_match 5 = .ok (.aload_n 0, 1) := by decide +kernel
theorem dX11_match_6 : decode cX11_match 6 = .ok (.iload_n 2, 1) := by decide +kernel
theorem dX11_match_7 : decode cX11_match 7 = .ok (.invokevirtual 116, 3) := by decide +kernel
theorem dX11_match_10 : decode cX11_match 10 = .ok (.aload_n 0, 1) := by decide +kernel
theorem dX11_match_11 : decode cX11_match 11 = .ok (.getfield 26, 3) := by decide +kernel
theorem dX11_match_14 : decode cX11_match 14 = .ok (.iload_n 1, 1) := by decide +kernel
theorem dX11_match_15 : decode cX11_match 15 = .ok (.iload_n 2, 1) := by decide +kernel
theorem dX11_match_16 : decode cX11_match 16 = .ok (.invokevirtual 150, 3) := by decide +kernel
theorem dX11_match_19 : decode cX11_match 19 = .ok (.istore_n 3, 1) := by decide +kernel
theorem dX11_match_20 : decode cX11_match 20 = .ok (.iload_n 1, 1) := by decide +kernel
theorem dX11_match_21 : decode cX11_match 21 = .ok (.iload_n 2, 1) := by decide +kernel
theorem dX11_match_22 : decode cX11_match 22 = .ok (.if_icmp .eq 16, 3) := by decide +kernel
theorem dX11_match_25 : decode cX11_match 25 = .ok (.iload_n 3, 1) := by decide +kernel
theorem dX11_match_26 : decode cX11_match 26 = .ok (.ifCond .ne 22, 3) := by decide +kernel
theorem dX11_match_29 : decode cX11_match 29 = .ok (.aload_n 0, 1) := by decide +kernel
theorem dX11_match_30 : decode cX11_match 30 = .ok (.iload_n 1, 1) := by decide +kernel
theorem dX11_match_31 : decode cX11_match 31 = .ok (.iload_n 2, 1) := by decide +kernel
theorem dX11_match_32 : decode cX11_match 32 = .ok (.invokevirtual 154, 3) := by decide +kernel
theorem dX11_match_35 : decode cX11_match 35 = .ok (.ifCond .ne 13, 3) := by decide +kernel
theorem dX11_match_38 : decode cX11_match 38 = .ok (.new 72, 3) := by decide +kernel
theorem dX11_match_41 : decode cX11_match 41 = .ok (.dup, 1) := by decide +kernel
theorem dX11_match_42 : decode cX11_match 42 = .ok (.ldc 157, 2) := by decide +kernel
theorem dX11_match_44 : decode cX11_match 44 = .ok (.invokespecial 76, 3) := by decide +kernel
theorem dX11_match_47 : decode cX11_match 47 = .ok (.athrow, 1) := by decide +kernel
theorem dX11_match_48 : decode cX11_match 48 = .ok (.aload_n 0, 1) := by decide +kernel
theorem dX11_match_49 : decode cX11_match 49 = .ok (.getfield 26, 3) := by decide +kernel
theorem dX11_match_52 : decode cX11_match 52 = .ok (.iload_n 1, 1) := by decide +kernel
theorem dX11_match_53 : decode cX11_match 53 = .ok (.iload_n 2, 1) := by decide +kernel
theorem dX11_match_54 : decode cX11_match 54 = .ok (.invokevirtual 159, 3) := by decide +kernel
theorem dX11_match_57 : decode cX11_match 57 = .ok (.iload_n 3, 1) := by decide +kernel
theorem dX11_match_58 : decode cX11_match 58 = .ok (.ifCond .ne 7, 3) := by decide +kernel
theorem dX11_match_61 : decode cX11_match 61 = .ok (.iconst 1, 1) := by decide +kernel
theorem dX11_match_62 : decode cX11_match 62 = .ok (.goto 4, 3) := by decide +kernel
theorem dX11_match_65 : decode cX11_match 65 = .ok (.iconst 0, 1) := by decide +kernel
theorem dX11_match_66 : decode cX11_match 66 = .ok (.ireturn, 1) := by decide +kernel
theorem dX11_group_0 : decode cX11_group 0 = .ok (.aload_n 0, 1) := by decide +kernel
theorem dX11_group_1 : decode cX11_group 1 = .ok (.iload_n 1, 1) := by decide +kernel
theorem dX11_group_2 : decode cX11_group 2 = .ok (.invokevirtual 116, 3) := by decide +kernel
theorem dX11_group_5 : decode cX11_group 5 = .ok (.aload_n 0, 1) := by decide +kernel
theorem dX11_group_6 : decode cX11_group 6 = .ok (.getfield 26, 3) := by decide +kernel
theorem dX11_group_9 : decode cX11_group 9 = .ok (.iload_n 1, 1) := by decide +kernel
theorem dX11_group_10 : decode cX11_group 10 = .ok (.invokevirtual 163, 3) := by decide +kernel
theorem dX11_group_13 : decode cX11_group 13 = .ok (.ireturn, 1) := by decide +kernel
theorem dX11_franking_0 : decode cX11_franking 0 = .ok (.iload_n 1, 1) := by decide +kernel
theorem dX11_franking_1 : decode cX11_franking 1 = .ok (.ifCond .lt 19, 3) := by decide +kernel
theorem dX11_franking_4 : decode cX11_franking 4 = .ok (.iload_n 1, 1) := by decide +kernel
theorem dX11_franking_5 : decode cX11_franking 5 = .ok (.ldc 167, 2) := by decide +kernel
theorem dX11_franking_7 : decode cX11_franking 7 = .ok (.if_icmp .gt 13, 3) := by decide +kernel
theorem dX11_franking_10 : decode cX11_franking 10 = .ok (.iload_n 2, 1) := by decide +kernel
theorem dX11_franking_11 : decode cX11_franking 11 = .ok (.ifCond .lt 9, 3) := by decide +kernel
theorem dX11_franking_14 : decode cX11_franking 14 = .ok (.iload_n 2, 1) := by decide +kernel
theorem dX11_franking_15 : decode cX11_franking 15 = .ok (.ldc 167, 2) := by decide +kernel
theorem dX11_franking_17 : decode cX11_franking 17 = .ok (.if_icmp .le 13, 3) := by decide +kernel
theorem dX11_franking_20 : decode cX11_franking 20 = .ok (.new 55, 3) := by decide +kernel
theorem dX11_franking_23 : decode cX11_franking 23 = .ok (.dup, 1) := by decide +kernel
theorem dX11_franking_24 : decode cX11_franking 24 = .ok (.ldc 168, 2) := by decide +kernel
theorem dX11_franking_26 : decode cX11_franking 26 = .ok (.invokespecial 59, 3) := by decide +kernel
theorem dX11_franking_29 : decode cX11_franking 29 = .ok (.athrow, 1) := by decide +kernel
theorem dX11_franking_30 : decode cX11_franking 30 = .ok (.aload_n 0, 1) := by decide +kernel
theorem dX11_franking_31 : decode cX11_franking 31 = .ok (.getfield 40, 3) := by decide +kernel
theorem dX11_franking_34 : decode cX11_franking 34 = .ok (.iload_n 1, 1) := by decide +kernel
theorem dX11_franking_35 : decode cX11_franking 35 = .ok (.putfield 170, 3) := by decide +kernel
theorem dX11_franking_38 : decode cX11_franking 38 = .ok (.aload_n 0, 1) := by decide +kernel
theorem dX11_franking_39 : decode cX11_franking 39 = .ok (.getfield 40, 3) := by decide +kernel
theorem dX11_franking_42 : decode cX11_franking 42 = .ok (.iload_n 2, 1) := by decide +kernel
theorem dX11_franking_43 : decode cX11_franking 43 = .ok (.putfield 173, 3) := by decide +kernel
theorem dX11_franking_46 : decode cX11_franking 46 = .ok (.aload_n 0, 1) := by decide +kernel
theorem dX11_franking_47 : decode cX11_franking 47 = .ok (.getfield 40, 3) := by decide +kernel
theorem dX11_franking_50 : decode cX11_franking 50 = .ok (.aload_n 0, 1) := by decide +kernel
theorem dX11_franking_51 : decode cX11_franking 51 = .ok (.getfield 40, 3) := by decide +kernel
theorem dX11_franking_54 : decode cX11_franking 54 = .ok (.bipush 20, 2) := by decide +kernel
theorem dX11_franking_56 : decode cX11_franking 56 = .ok (.iconst 1, 1) := by decide +kernel
theorem dX11_franking_57 : decode cX11_franking 57 = .ok (.invokevirtual 176, 3) := by decide +kernel
theorem dX11_franking_60 : decode cX11_franking 60 = .ok (.iconst 5, 1) := by decide +kernel
theorem dX11_franking_61 : decode cX11_franking 61 = .ok (.invokevirtual 180, 3) := by decide +kernel
theorem dX11_franking_64 : decode cX11_franking 64 = .ok (.ireturn, 1) := by decide +kernel
theorem dX11_run_0 : decode cX11_run 0 = .ok (.aload_n 0, 1) := by decide +kernel
theorem dX11_run_1 : decode cX11_run 1 = .ok (.iload_n 1, 1) := by decide +kernel
theorem dX11_run_2 : decode cX11_run 2 = .ok (.invokevirtual 85, 3) := by decide +kernel
theorem dX11_run_5 : decode cX11_run 5 = .ok (.iload_n 2, 1) := by decide +kernel
theorem dX11_run_6 : decode cX11_run 6 = .ok (.ifCond .lt 9, 3) := by decide +kernel
theorem dX11_run_9 : decode cX11_run 9 = .ok (.iload_n 2, 1) := by decide +kernel
theorem dX11_run_10 : decode cX11_run 10 = .ok (.bipush 8, 2) := by decide +kernel
theorem dX11_run_12 : decode cX11_run 12 = .ok (.if_icmp .lt 13, 3) := by decide +kernel
theorem dX11_run_15 : decode cX11_run 15 = .ok (.new 55, 3) := by decide +kernel
theorem dX11_run_18 : decode cX11_run 18 = .ok (.dup, 1) := by decide +kernel
theorem dX11_run_19 : decode cX11_run 19 = .ok (.ldc 183, 2) := by decide +kernel
theorem dX11_run_21 : decode cX11_run 21 = .ok (.invokespecial 59, 3) := by decide +kernel
theorem dX11_run_24 : decode cX11_run 24 = .ok (.athrow, 1) := by decide +kernel
theorem dX11_run_25 : decode cX11_run 25 = .ok (.aload_n 0, 1) := by decide +kernel
theorem dX11_run_26 : decode cX11_run 26 = .ok (.getfield 185, 3) := by decide +kernel
theorem dX11_run_29 : decode cX11_run 29 = .ok (.bipush 8, 2) := by decide +kernel
theorem dX11_run_31 : decode cX11_run 31 = .ok (.if_icmp .lt 13, 3) := by decide +kernel
theorem dX11_run_34 : decode cX11_run 34 = .ok (.new 72, 3) := by decide +kernel
theorem dX11_run_37 : decode cX11_run 37 = .ok (.dup, 1) := by decide +kernel
theorem dX11_run_38 : decode cX11_run 38 = .ok (.ldc 188, 2) := by decide +kernel
theorem dX11_run_40 : decode cX11_run 40 = .ok (.invokespecial 76, 3) := by decide +kernel
theorem dX11_run_43 : decode cX11_run 43 = .ok (.athrow, 1) := by decide +kernel
theorem dX11_run_44 : decode cX11_run 44 = .ok (.aload_n 0, 1) := by decide +kernel
theorem dX11_run_45 : decode cX11_run 45 = .ok (.getfield 46, 3) := by decide +kernel
theorem dX11_run_48 : decode cX11_run 48 = .ok (.aload_n 0, 1) := by decide +kernel
theorem dX11_run_49 : decode cX11_run 49 = .ok (.getfield 185, 3) := by decide +kernel
theorem dX11_run_52 : decode cX11_run 52 = .ok (.aaload, 1) := by decide +kernel
theorem dX11_run_53 : decode cX11_run 53 = .ok (.iload_n 1, 1) := by decide +kernel
theorem dX11_run_54 : decode cX11_run 54 = .ok (.putfield 190, 3) := by decide +kernel
theorem dX11_run_57 : decode cX11_run 57 = .ok (.aload_n 0, 1) := by decide +kernel
theorem dX11_run_58 : decode cX11_run 58 = .ok (.getfield 46, 3) := by decide +kernel
theorem dX11_run_61 : decode cX11_run 61 = .ok (.aload_n 0, 1) := by decide +kernel
theorem dX11_run_62 : decode cX11_run 62 = .ok (.getfield 185, 3) := by decide +kernel
theorem dX11_run_65 : decode cX11_run 65 = .ok (.aaload, 1) := by decide +kernel
theorem dX11_run_66 : decode cX11_run 66 = .ok (.iload_n 2, 1) := by decide +kernel
theorem dX11_run_67 : decode cX11_run 67 = .ok (.putfield 193, 3) := by decide +kernel
theorem dX11_run_70 : decode cX11_run 70 = .ok (.aload_n 0, 1) := by decide +kernel
theorem dX11_run_71 : decode cX11_run 71 = .ok (.dup, 1) := by decide +kernel
theorem dX11_run_72 : decode cX11_run 72 = .ok (.getfield 185, 3) := by decide +kernel
theorem dX11_run_75 : decode cX11_run 75 = .ok (.iconst 1, 1) := by decide +kernel
theorem dX11_run_76 : decode cX11_run 76 = .ok (.iadd, 1) := by decide +kernel
theorem dX11_run_77 : decode cX11_run 77 = .ok (.putfield 185, 3) := by decide +kernel
theorem dX11_run_80 : decode cX11_run 80 = .ok (.aload_n 0, 1) := by decide +kernel
theorem dX11_run_81 : decode cX11_run 81 = .ok (.getfield 185, 3) := by decide +kernel
theorem dX11_run_84 : decode cX11_run 84 = .ok (.iconst 1, 1) := by decide +kernel
theorem dX11_run_85 : decode cX11_run 85 = .ok (.isub, 1) := by decide +kernel
theorem dX11_run_86 : decode cX11_run 86 = .ok (.ireturn, 1) := by decide +kernel
theorem dX11_letters_0 : decode cX11_letters 0 = .ok (.aload_n 0, 1) := by decide +kernel
theorem dX11_letters_1 : decode cX11_letters 1 = .ok (.iload_n 1, 1) := by decide +kernel
theorem dX11_letters_2 : decode cX11_letters 2 = .ok (.invokevirtual 196, 3) := by decide +kernel
theorem dX11_letters_5 : decode cX11_letters 5 = .ok (.aload_n 0, 1) := by decide +kernel
theorem dX11_letters_6 : decode cX11_letters 6 = .ok (.aload_n 0, 1) := by decide +kernel
theorem dX11_letters_7 : decode cX11_letters 7 = .ok (.getfield 46, 3) := by decide +kernel
theorem dX11_letters_10 : decode cX11_letters 10 = .ok (.iload_n 1, 1) := by decide +kernel
theorem dX11_letters_11 : decode cX11_letters 11 = .ok (.aaload, 1) := by decide +kernel
theorem dX11_letters_12 : decode cX11_letters 12 = .ok (.invokevirtual 199, 3) := by decide +kernel
theorem dX11_letters_15 : decode cX11_letters 15 = .ok (.ireturn, 1) := by decide +kernel
theorem dX11_letter_0 : decode cX11_letter 0 = .ok (.aload_n 0, 1) := by decide +kernel
theorem dX11_letter_1 : decode cX11_letter 1 = .ok (.iload_n 1, 1) := by decide +kernel
theorem dX11_letter_2 : decode cX11_letter 2 = .ok (.iload_n 2, 1) := by decide +kernel
theorem dX11_letter_3 : decode cX11_letter 3 = .ok (.invokevirtual 203, 3) := by decide +kernel
theorem dX11_letter_6 : decode cX11_letter 6 = .ok (.iload_n 3, 1) := by decide +kernel
theorem dX11_letter_7 : decode cX11_letter 7 = .ok (.ifCond .lt 8, 3) := by decide +kernel
theorem dX11_letter_10 : decode cX11_letter 10 = .ok (.iload_n 3, 1) := by decide +kernel
theorem dX11_letter_11 : decode cX11_letter 11 = .ok (.iconst 4, 1) := by decide +kernel
theorem dX11_letter_12 : decode cX11_letter 12 = .ok (.if_icmp .le 13, 3) := by decide +kernel
theorem dX11_letter_15 : decode cX11_letter 15 = .ok (.new 55, 3) := by decide +kernel
theorem dX11_letter_18 : decode cX11_letter 18 = .ok (.dup, 1) := by decide +kernel
theorem dX11_letter_19 : decode cX11_letter 19 = .ok (.ldc 206, 2) := by decide +kernel
theorem dX11_letter_21 : decode cX11_letter 21 = .ok (.invokespecial 59, 3) := by decide +kernel
theorem dX11_letter_24 : decode cX11_letter 24 = .ok (.athrow, 1) := by decide +kernel
theorem dX11_letter_25 : decode cX11_letter 25 = .ok (.aload_n 0, 1) := by decide +kernel
theorem dX11_letter_26 : decode cX11_letter 26 = .ok (.aload_n 0, 1) := by decide +kernel
theorem dX11_letter_27 : decode cX11_letter 27 = .ok (.getfield 46, 3) := by decide +kernel
theorem dX11_letter_30 : decode cX11_letter 30 = .ok (.iload_n 1, 1) := by decide +kernel
