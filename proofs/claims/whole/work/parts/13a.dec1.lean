theorem dX0_init_0 : decode cX0_init 0 = .ok (.aload_n 0, 1) := by decide +kernel
theorem dX0_init_1 : decode cX0_init 1 = .ok (.invokespecial 3, 3) := by decide +kernel
theorem dX0_init_4 : decode cX0_init 4 = .ok (.aload_n 0, 1) := by decide +kernel
theorem dX0_init_5 : decode cX0_init 5 = .ok (.new 9, 3) := by decide +kernel
theorem dX0_init_8 : decode cX0_init 8 = .ok (.dup, 1) := by decide +kernel
theorem dX0_init_9 : decode cX0_init 9 = .ok (.bipush 12, 2) := by decide +kernel
theorem dX0_init_11 : decode cX0_init 11 = .ok (.invokespecial 11, 3) := by decide +kernel
theorem dX0_init_14 : decode cX0_init 14 = .ok (.putfield 14, 3) := by decide +kernel
theorem dX0_init_17 : decode cX0_init 17 = .ok (.aload_n 0, 1) := by decide +kernel
theorem dX0_init_18 : decode cX0_init 18 = .ok (.new 9, 3) := by decide +kernel
theorem dX0_init_21 : decode cX0_init 21 = .ok (.dup, 1) := by decide +kernel
theorem dX0_init_22 : decode cX0_init 22 = .ok (.bipush 12, 2) := by decide +kernel
theorem dX0_init_24 : decode cX0_init 24 = .ok (.invokespecial 11, 3) := by decide +kernel
theorem dX0_init_27 : decode cX0_init 27 = .ok (.putfield 20, 3) := by decide +kernel
theorem dX0_init_30 : decode cX0_init 30 = .ok (.aload_n 0, 1) := by decide +kernel
theorem dX0_init_31 : decode cX0_init 31 = .ok (.new 9, 3) := by decide +kernel
theorem dX0_init_34 : decode cX0_init 34 = .ok (.dup, 1) := by decide +kernel
theorem dX0_init_35 : decode cX0_init 35 = .ok (.bipush 12, 2) := by decide +kernel
theorem dX0_init_37 : decode cX0_init 37 = .ok (.invokespecial 11, 3) := by decide +kernel
theorem dX0_init_40 : decode cX0_init 40 = .ok (.putfield 23, 3) := by decide +kernel
theorem dX0_init_43 : decode cX0_init 43 = .ok (.aload_n 0, 1) := by decide +kernel
theorem dX0_init_44 : decode cX0_init 44 = .ok (.new 9, 3) := by decide +kernel
theorem dX0_init_47 : decode cX0_init 47 = .ok (.dup, 1) := by decide +kernel
theorem dX0_init_48 : decode cX0_init 48 = .ok (.bipush 12, 2) := by decide +kernel
theorem dX0_init_50 : decode cX0_init 50 = .ok (.invokespecial 11, 3) := by decide +kernel
theorem dX0_init_53 : decode cX0_init 53 = .ok (.putfield 26, 3) := by decide +kernel
theorem dX0_init_56 : decode cX0_init 56 = .ok (.return_, 1) := by decide +kernel
theorem dX0_cleanedWord_0 : decode cX0_cleanedWord 0 = .ok (.iload_n 1, 1) := by decide +kernel
theorem dX0_cleanedWord_1 : decode cX0_cleanedWord 1 = .ok (.ifCond .eq 10, 3) := by decide +kernel
theorem dX0_cleanedWord_4 : decode cX0_cleanedWord 4 = .ok (.aload_n 0, 1) := by decide +kernel
theorem dX0_cleanedWord_5 : decode cX0_cleanedWord 5 = .ok (.getfield 26, 3) := by decide +kernel
theorem dX0_cleanedWord_8 : decode cX0_cleanedWord 8 = .ok (.goto 7, 3) := by decide +kernel
theorem dX0_cleanedWord_11 : decode cX0_cleanedWord 11 = .ok (.aload_n 0, 1) := by decide +kernel
theorem dX0_cleanedWord_12 : decode cX0_cleanedWord 12 = .ok (.getfield 23, 3) := by decide +kernel
theorem dX0_cleanedWord_15 : decode cX0_cleanedWord 15 = .ok (.areturn, 1) := by decide +kernel
theorem dX0_read_0 : decode cX0_read 0 = .ok (.aload_n 1, 1) := by decide +kernel
theorem dX0_read_1 : decode cX0_read 1 = .ok (.iconst 0, 1) := by decide +kernel
theorem dX0_read_2 : decode cX0_read 2 = .ok (.putfield 29, 3) := by decide +kernel
theorem dX0_read_5 : decode cX0_read 5 = .ok (.aload_n 1, 1) := by decide +kernel
theorem dX0_read_6 : decode cX0_read 6 = .ok (.aload_n 0, 1) := by decide +kernel
theorem dX0_read_7 : decode cX0_read 7 = .ok (.getfield 14, 3) := by decide +kernel
theorem dX0_read_10 : decode cX0_read 10 = .ok (.invokevirtual 35, 3) := by decide +kernel
theorem dX0_read_13 : decode cX0_read 13 = .ok (.ifCond .eq 51, 3) := by decide +kernel
theorem dX0_read_16 : decode cX0_read 16 = .ok (.aload_n 1, 1) := by decide +kernel
theorem dX0_read_17 : decode cX0_read 17 = .ok (.bipush 44, 2) := by decide +kernel
theorem dX0_read_19 : decode cX0_read 19 = .ok (.invokevirtual 39, 3) := by decide +kernel
theorem dX0_read_22 : decode cX0_read 22 = .ok (.ifCond .eq 42, 3) := by decide +kernel
theorem dX0_read_25 : decode cX0_read 25 = .ok (.aload_n 1, 1) := by decide +kernel
theorem dX0_read_26 : decode cX0_read 26 = .ok (.aload_n 0, 1) := by decide +kernel
theorem dX0_read_27 : decode cX0_read 27 = .ok (.getfield 20, 3) := by decide +kernel
theorem dX0_read_30 : decode cX0_read 30 = .ok (.invokevirtual 35, 3) := by decide +kernel
theorem dX0_read_33 : decode cX0_read 33 = .ok (.ifCond .eq 31, 3) := by decide +kernel
theorem dX0_read_36 : decode cX0_read 36 = .ok (.aload_n 1, 1) := by decide +kernel
theorem dX0_read_37 : decode cX0_read 37 = .ok (.bipush 44, 2) := by decide +kernel
theorem dX0_read_39 : decode cX0_read 39 = .ok (.invokevirtual 39, 3) := by decide +kernel
theorem dX0_read_42 : decode cX0_read 42 = .ok (.ifCond .eq 22, 3) := by decide +kernel
theorem dX0_read_45 : decode cX0_read 45 = .ok (.aload_n 0, 1) := by decide +kernel
theorem dX0_read_46 : decode cX0_read 46 = .ok (.aload_n 1, 1) := by decide +kernel
theorem dX0_read_47 : decode cX0_read 47 = .ok (.invokevirtual 43, 3) := by decide +kernel
theorem dX0_read_50 : decode cX0_read 50 = .ok (.ifCond .eq 14, 3) := by decide +kernel
theorem dX0_read_53 : decode cX0_read 53 = .ok (.aload_n 1, 1) := by decide +kernel
theorem dX0_read_54 : decode cX0_read 54 = .ok (.invokevirtual 47, 3) := by decide +kernel
theorem dX0_read_57 : decode cX0_read 57 = .ok (.ifCond .eq 7, 3) := by decide +kernel
theorem dX0_read_60 : decode cX0_read 60 = .ok (.iconst 1, 1) := by decide +kernel
theorem dX0_read_61 : decode cX0_read 61 = .ok (.goto 4, 3) := by decide +kernel
theorem dX0_read_64 : decode cX0_read 64 = .ok (.iconst 0, 1) := by decide +kernel
theorem dX0_read_65 : decode cX0_read 65 = .ok (.istore_n 2, 1) := by decide +kernel
theorem dX0_read_66 : decode cX0_read 66 = .ok (.aload_n 0, 1) := by decide +kernel
theorem dX0_read_67 : decode cX0_read 67 = .ok (.getfield 23, 3) := by decide +kernel
theorem dX0_read_70 : decode cX0_read 70 = .ok (.aload_n 0, 1) := by decide +kernel
theorem dX0_read_71 : decode cX0_read 71 = .ok (.getfield 14, 3) := by decide +kernel
theorem dX0_read_74 : decode cX0_read 74 = .ok (.invokevirtual 51, 3) := by decide +kernel
theorem dX0_read_77 : decode cX0_read 77 = .ok (.aload_n 0, 1) := by decide +kernel
theorem dX0_read_78 : decode cX0_read 78 = .ok (.getfield 26, 3) := by decide +kernel
theorem dX0_read_81 : decode cX0_read 81 = .ok (.aload_n 0, 1) := by decide +kernel
theorem dX0_read_82 : decode cX0_read 82 = .ok (.getfield 20, 3) := by decide +kernel
theorem dX0_read_85 : decode cX0_read 85 = .ok (.invokevirtual 51, 3) := by decide +kernel
theorem dX0_read_88 : decode cX0_read 88 = .ok (.iload_n 2, 1) := by decide +kernel
theorem dX0_read_89 : decode cX0_read 89 = .ok (.ireturn, 1) := by decide +kernel
theorem dX0_readNumbers_0 : decode cX0_readNumbers 0 = .ok (.aload_n 0, 1) := by decide +kernel
theorem dX0_readNumbers_1 : decode cX0_readNumbers 1 = .ok (.aload_n 1, 1) := by decide +kernel
theorem dX0_readNumbers_2 : decode cX0_readNumbers 2 = .ok (.iconst 3, 1) := by decide +kernel
theorem dX0_readNumbers_3 : decode cX0_readNumbers 3 = .ok (.bipush 57, 2) := by decide +kernel
theorem dX0_readNumbers_5 : decode cX0_readNumbers 5 = .ok (.invokevirtual 55, 3) := by decide +kernel
theorem dX0_readNumbers_8 : decode cX0_readNumbers 8 = .ok (.putfield 59, 3) := by decide +kernel
theorem dX0_readNumbers_11 : decode cX0_readNumbers 11 = .ok (.aload_n 0, 1) := by decide +kernel
theorem dX0_readNumbers_12 : decode cX0_readNumbers 12 = .ok (.getfield 59, 3) := by decide +kernel
theorem dX0_readNumbers_15 : decode cX0_readNumbers 15 = .ok (.iconst (-1), 1) := by decide +kernel
theorem dX0_readNumbers_16 : decode cX0_readNumbers 16 = .ok (.if_icmp .eq 12, 3) := by decide +kernel
theorem dX0_readNumbers_19 : decode cX0_readNumbers 19 = .ok (.aload_n 1, 1) := by decide +kernel
theorem dX0_readNumbers_20 : decode cX0_readNumbers 20 = .ok (.bipush 44, 2) := by decide +kernel
theorem dX0_readNumbers_22 : decode cX0_readNumbers 22 = .ok (.invokevirtual 39, 3) := by decide +kernel
theorem dX0_readNumbers_25 : decode cX0_readNumbers 25 = .ok (.ifCond .ne 5, 3) := by decide +kernel
theorem dX0_readNumbers_28 : decode cX0_readNumbers 28 = .ok (.iconst 0, 1) := by decide +kernel
theorem dX0_readNumbers_29 : decode cX0_readNumbers 29 = .ok (.ireturn, 1) := by decide +kernel
theorem dX0_readNumbers_30 : decode cX0_readNumbers 30 = .ok (.aload_n 0, 1) := by decide +kernel
theorem dX0_readNumbers_31 : decode cX0_readNumbers 31 = .ok (.aload_n 1, 1) := by decide +kernel
theorem dX0_readNumbers_32 : decode cX0_readNumbers 32 = .ok (.iconst 1, 1) := by decide +kernel
theorem dX0_readNumbers_33 : decode cX0_readNumbers 33 = .ok (.bipush 53, 2) := by decide +kernel
theorem dX0_readNumbers_35 : decode cX0_readNumbers 35 = .ok (.invokevirtual 55, 3) := by decide +kernel
theorem dX0_readNumbers_38 : decode cX0_readNumbers 38 = .ok (.putfield 62, 3) := by decide +kernel
theorem dX0_readNumbers_41 : decode cX0_readNumbers 41 = .ok (.aload_n 0, 1) := by decide +kernel
theorem dX0_readNumbers_42 : decode cX0_readNumbers 42 = .ok (.getfield 62, 3) := by decide +kernel
theorem dX0_readNumbers_45 : decode cX0_readNumbers 45 = .ok (.iconst (-1), 1) := by decide +kernel
theorem dX0_readNumbers_46 : decode cX0_readNumbers 46 = .ok (.if_icmp .eq 12, 3) := by decide +kernel
theorem dX0_readNumbers_49 : decode cX0_readNumbers 49 = .ok (.aload_n 1, 1) := by decide +kernel
theorem dX0_readNumbers_50 : decode cX0_readNumbers 50 = .ok (.bipush 44, 2) := by decide +kernel
theorem dX0_readNumbers_52 : decode cX0_readNumbers 52 = .ok (.invokevirtual 39, 3) := by decide +kernel
theorem dX0_readNumbers_55 : decode cX0_readNumbers 55 = .ok (.ifCond .ne 5, 3) := by decide +kernel
theorem dX0_readNumbers_58 : decode cX0_readNumbers 58 = .ok (.iconst 0, 1) := by decide +kernel
theorem dX0_readNumbers_59 : decode cX0_readNumbers 59 = .ok (.ireturn, 1) := by decide +kernel
theorem dX0_readNumbers_60 : decode cX0_readNumbers 60 = .ok (.aload_n 0, 1) := by decide +kernel
theorem dX0_readNumbers_61 : decode cX0_readNumbers 61 = .ok (.aload_n 1, 1) := by decide +kernel
theorem dX0_readNumbers_62 : decode cX0_readNumbers 62 = .ok (.iconst 2, 1) := by decide +kernel
theorem dX0_readNumbers_63 : decode cX0_readNumbers 63 = .ok (.bipush 57, 2) := by decide +kernel
theorem dX0_readNumbers_65 : decode cX0_readNumbers 65 = .ok (.invokevirtual 55, 3) := by decide +kernel
theorem dX0_readNumbers_68 : decode cX0_readNumbers 68 = .ok (.putfield 65, 3) := by decide +kernel
theorem dX0_readNumbers_71 : decode cX0_readNumbers 71 = .ok (.aload_n 0, 1) := by decide +kernel
theorem dX0_readNumbers_72 : decode cX0_readNumbers 72 = .ok (.getfield 65, 3) := by decide +kernel
theorem dX0_readNumbers_75 : decode cX0_readNumbers 75 = .ok (.iconst (-1), 1) := by decide +kernel
theorem dX0_readNumbers_76 : decode cX0_readNumbers 76 = .ok (.if_icmp .eq 7, 3) := by decide +kernel
theorem dX0_readNumbers_79 : decode cX0_readNumbers 79 = .ok (.iconst 1, 1) := by decide +kernel
theorem dX0_readNumbers_80 : decode cX0_readNumbers 80 = .ok (.goto 4, 3) := by decide +kernel
theorem dX0_readNumbers_83 : decode cX0_readNumbers 83 = .ok (.iconst 0, 1) := by decide +kernel
theorem dX0_readNumbers_84 : decode cX0_readNumbers 84 = .ok (.ireturn, 1) := by decide +kernel
theorem dX1_init_0 : decode cX1_init 0 = .ok (.aload_n 0, 1) := by decide +kernel
theorem dX1_init_1 : decode cX1_init 1 = .ok (.invokespecial 3, 3) := by decide +kernel
theorem dX1_init_4 : decode cX1_init 4 = .ok (.aload_n 0, 1) := by decide +kernel
theorem dX1_init_5 : decode cX1_init 5 = .ok (.bipush 12, 2) := by decide +kernel
theorem dX1_init_7 : decode cX1_init 7 = .ok (.anewarray 9, 3) := by decide +kernel
theorem dX1_init_10 : decode cX1_init 10 = .ok (.putfield 11, 3) := by decide +kernel
theorem dX1_init_13 : decode cX1_init 13 = .ok (.aload_n 0, 1) := by decide +kernel
theorem dX1_init_14 : decode cX1_init 14 = .ok (.new 9, 3) := by decide +kernel
theorem dX1_init_17 : decode cX1_init 17 = .ok (.dup, 1) := by decide +kernel
theorem dX1_init_18 : decode cX1_init 18 = .ok (.invokespecial 17, 3) := by decide +kernel
theorem dX1_init_21 : decode cX1_init 21 = .ok (.putfield 18, 3) := by decide +kernel
theorem dX1_init_24 : decode cX1_init 24 = .ok (.aload_n 0, 1) := by decide +kernel
theorem dX1_init_25 : decode cX1_init 25 = .ok (.bipush 12, 2) := by decide +kernel
theorem dX1_init_27 : decode cX1_init 27 = .ok (.newarray .int, 2) := by decide +kernel
theorem dX1_init_29 : decode cX1_init 29 = .ok (.putfield 22, 3) := by decide +kernel
theorem dX1_init_32 : decode cX1_init 32 = .ok (.aload_n 0, 1) := by decide +kernel
theorem dX1_init_33 : decode cX1_init 33 = .ok (.bipush 12, 2) := by decide +kernel
theorem dX1_init_35 : decode cX1_init 35 = .ok (.newarray .int, 2) := by decide +kernel
theorem dX1_init_37 : decode cX1_init 37 = .ok (.putfield 26, 3) := by decide +kernel
theorem dX1_init_40 : decode cX1_init 40 = .ok (.aload_n 0, 1) := by decide +kernel
theorem dX1_init_41 : decode cX1_init 41 = .ok (.bipush 12, 2) := by decide +kernel
theorem dX1_init_43 : decode cX1_init 43 = .ok (.newarray .int, 2) := by decide +kernel
theorem dX1_init_45 : decode cX1_init 45 = .ok (.putfield 29, 3) := by decide +kernel
theorem dX1_init_48 : decode cX1_init 48 = .ok (.iconst 0, 1) := by decide +kernel
theorem dX1_init_49 : decode cX1_init 49 = .ok (.istore_n 1, 1) := by decide +kernel
theorem dX1_init_50 : decode cX1_init 50 = .ok (.iload_n 1, 1) := by decide +kernel
theorem dX1_init_51 : decode cX1_init 51 = .ok (.bipush 12, 2) := by decide +kernel
theorem dX1_init_53 : decode cX1_init 53 = .ok (.if_icmp .ge 22, 3) := by decide +kernel
theorem dX1_init_56 : decode cX1_init 56 = .ok (.aload_n 0, 1) := by decide +kernel
theorem dX1_init_57 : decode cX1_init 57 = .ok (.getfield 11, 3) := by decide +kernel
theorem dX1_init_60 : decode cX1_init 60 = .ok (.iload_n 1, 1) := by decide +kernel
theorem dX1_init_61 : decode cX1_init 61 = .ok (.new 9, 3) := by decide +kernel
theorem dX1_init_64 : decode cX1_init 64 = .ok (.dup, 1) := by decide +kernel
theorem dX1_init_65 : decode cX1_init 65 = .ok (.invokespecial 17, 3) := by decide +kernel
theorem dX1_init_68 : decode cX1_init 68 = .ok (.aastore, 1) := by decide +kernel
theorem dX1_init_69 : decode cX1_init 69 = .ok (.iinc 1 1, 3) := by decide +kernel
theorem dX1_init_72 : decode cX1_init 72 = .ok (.goto (-22), 3) := by decide +kernel
theorem dX1_init_75 : decode cX1_init 75 = .ok (.return_, 1) := by decide +kernel
theorem dX1_readAddress_0 : decode cX1_readAddress 0 = .ok (.aload_n 0, 1) := by decide +kernel
theorem dX1_readAddress_1 : decode cX1_readAddress 1 = .ok (.getfield 18, 3) := by decide +kernel
theorem dX1_readAddress_4 : decode cX1_readAddress 4 = .ok (.aload_n 1, 1) := by decide +kernel
theorem dX1_readAddress_5 : decode cX1_readAddress 5 = .ok (.invokevirtual 32, 3) := by decide +kernel
theorem dX1_readAddress_8 : decode cX1_readAddress 8 = .ok (.istore_n 3, 1) := by decide +kernel
theorem dX1_readAddress_9 : decode cX1_readAddress 9 = .ok (.iload_n 3, 1) := by decide +kernel
theorem dX1_readAddress_10 : decode cX1_readAddress 10 = .ok (.ifCond .eq 51, 3) := by decide +kernel
theorem dX1_readAddress_13 : decode cX1_readAddress 13 = .ok (.iload_n 2, 1) := by decide +kernel
theorem dX1_readAddress_14 : decode cX1_readAddress 14 = .ok (.ifCond .lt 47, 3) := by decide +kernel
theorem dX1_readAddress_17 : decode cX1_readAddress 17 = .ok (.iload_n 2, 1) := by decide +kernel
theorem dX1_readAddress_18 : decode cX1_readAddress 18 = .ok (.bipush 12, 2) := by decide +kernel
theorem dX1_readAddress_20 : decode cX1_readAddress 20 = .ok (.if_icmp .ge 41, 3) := by decide +kernel
theorem dX1_readAddress_23 : decode cX1_readAddress 23 = .ok (.aload_n 0, 1) := by decide +kernel
theorem dX1_readAddress_24 : decode cX1_readAddress 24 = .ok (.getfield 11, 3) := by decide +kernel
theorem dX1_readAddress_27 : decode cX1_readAddress 27 = .ok (.iload_n 2, 1) := by decide +kernel
theorem dX1_readAddress_28 : decode cX1_readAddress 28 = .ok (.aaload, 1) := by decide +kernel
theorem dX1_readAddress_29 : decode cX1_readAddress 29 = .ok (.astore 4, 2) := by decide +kernel
theorem dX1_readAddress_31 : decode cX1_readAddress 31 = .ok (.aload_n 0, 1) := by decide +kernel
theorem dX1_readAddress_32 : decode cX1_readAddress 32 = .ok (.getfield 11, 3) := by decide +kernel
theorem dX1_readAddress_35 : decode cX1_readAddress 35 = .ok (.iload_n 2, 1) := by decide +kernel
theorem dX1_readAddress_36 : decode cX1_readAddress 36 = .ok (.aload_n 0, 1) := by decide +kernel
theorem dX1_readAddress_37 : decode cX1_readAddress 37 = .ok (.getfield 18, 3) := by decide +kernel
theorem dX1_readAddress_40 : decode cX1_readAddress 40 = .ok (.aastore, 1) := by decide +kernel
theorem dX1_readAddress_41 : decode cX1_readAddress 41 = .ok (.aload_n 0, 1) := by decide +kernel
theorem dX1_readAddress_42 : decode cX1_readAddress 42 = .ok (.aload 4, 2) := by decide +kernel
theorem dX1_readAddress_44 : decode cX1_readAddress 44 = .ok (.putfield 18, 3) := by decide +kernel
theorem dX1_readAddress_47 : decode cX1_readAddress 47 = .ok (.aload_n 0, 1) := by decide +kernel
theorem dX1_readAddress_48 : decode cX1_readAddress 48 = .ok (.aload_n 0, 1) := by decide +kernel
theorem dX1_readAddress_49 : decode cX1_readAddress 49 = .ok (.getfield 36, 3) := by decide +kernel
theorem dX1_readAddress_52 : decode cX1_readAddress 52 = .ok (.iload_n 2, 1) := by decide +kernel
theorem dX1_readAddress_53 : decode cX1_readAddress 53 = .ok (.iconst 1, 1) := by decide +kernel
theorem dX1_readAddress_54 : decode cX1_readAddress 54 = .ok (.iadd, 1) := by decide +kernel
theorem dX1_readAddress_55 : decode cX1_readAddress 55 = .ok (.invokestatic 40, 3) := by decide +kernel
theorem dX1_readAddress_58 : decode cX1_readAddress 58 = .ok (.putfield 36, 3) := by decide +kernel
theorem dX1_readAddress_61 : decode cX1_readAddress 61 = .ok (.iload_n 3, 1) := by decide +kernel
theorem dX1_readAddress_62 : decode cX1_readAddress 62 = .ok (.ireturn, 1) := by decide +kernel
theorem dX1_hasMatch_0 : decode cX1_hasMatch 0 = .ok (.iload_n 1, 1) := by decide +kernel
theorem dX1_hasMatch_1 : decode cX1_hasMatch 1 = .ok (.ifCond .lt 22, 3) := by decide +kernel
theorem dX1_hasMatch_4 : decode cX1_hasMatch 4 = .ok (.iload_n 1, 1) := by decide +kernel
theorem dX1_hasMatch_5 : decode cX1_hasMatch 5 = .ok (.bipush 12, 2) := by decide +kernel
theorem dX1_hasMatch_7 : decode cX1_hasMatch 7 = .ok (.if_icmp .ge 16, 3) := by decide +kernel
theorem dX1_hasMatch_10 : decode cX1_hasMatch 10 = .ok (.aload_n 0, 1) := by decide +kernel
theorem dX1_hasMatch_11 : decode cX1_hasMatch 11 = .ok (.getfield 22, 3) := by decide +kernel
theorem dX1_hasMatch_14 : decode cX1_hasMatch 14 = .ok (.iload_n 1, 1) := by decide +kernel
theorem dX1_hasMatch_15 : decode cX1_hasMatch 15 = .ok (.iaload, 1) := by decide +kernel
theorem dX1_hasMatch_16 : decode cX1_hasMatch 16 = .ok (.ifCond .eq 7, 3) := by decide +kernel
theorem dX1_hasMatch_19 : decode cX1_hasMatch 19 = .ok (.iconst 1, 1) := by decide +kernel
theorem dX1_hasMatch_20 : decode cX1_hasMatch 20 = .ok (.goto 4, 3) := by decide +kernel
theorem dX1_hasMatch_23 : decode cX1_hasMatch 23 = .ok (.iconst 0, 1) := by decide +kernel
theorem dX1_hasMatch_24 : decode cX1_hasMatch 24 = .ok (.ireturn, 1) := by decide +kernel
theorem dX1_areMatched_0 : decode cX1_areMatched 0 = .ok (.iload_n 1, 1) := by decide +kernel
theorem dX1_areMatched_1 : decode cX1_areMatched 1 = .ok (.ifCond .lt 26, 3) := by decide +kernel
theorem dX1_areMatched_4 : decode cX1_areMatched 4 = .ok (.iload_n 1, 1) := by decide +kernel
theorem dX1_areMatched_5 : decode cX1_areMatched 5 = .ok (.bipush 12, 2) := by decide +kernel
theorem dX1_areMatched_7 : decode cX1_areMatched 7 = .ok (.if_icmp .ge 20, 3) := by decide +kernel
theorem dX1_areMatched_10 : decode cX1_areMatched 10 = .ok (.aload_n 0, 1) := by decide +kernel
theorem dX1_areMatched_11 : decode cX1_areMatched 11 = .ok (.getfield 22, 3) := by decide +kernel
theorem dX1_areMatched_14 : decode cX1_areMatched 14 = .ok (.iload_n 1, 1) := by decide +kernel
theorem dX1_areMatched_15 : decode cX1_areMatched 15 = .ok (.iaload, 1) := by decide +kernel
theorem dX1_areMatched_16 : decode cX1_areMatched 16 = .ok (.iconst 1, 1) := by decide +kernel
theorem dX1_areMatched_17 : decode cX1_areMatched 17 = .ok (.iload_n 2, 1) := by decide +kernel
theorem dX1_areMatched_18 : decode cX1_areMatched 18 = .ok (.ishl, 1) := by decide +kernel
theorem dX1_areMatched_19 : decode cX1_areMatched 19 = .ok (.iand, 1) := by decide +kernel
theorem dX1_areMatched_20 : decode cX1_areMatched 20 = .ok (.ifCond .eq 7, 3) := by decide +kernel
theorem dX1_areMatched_23 : decode cX1_areMatched 23 = .ok (.iconst 1, 1) := by decide +kernel
theorem dX1_areMatched_24 : decode cX1_areMatched 24 = .ok (.goto 4, 3) := by decide +kernel
theorem dX1_areMatched_27 : decode cX1_areMatched 27 = .ok (.iconst 0, 1) := by decide +kernel
theorem dX1_areMatched_28 : decode cX1_areMatched 28 = .ok (.ireturn, 1) := by decide +kernel
theorem dX1_turnMatch_0 : decode cX1_turnMatch 0 = .ok (.iload_n 1, 1) := by decide +kernel
theorem dX1_turnMatch_1 : decode cX1_turnMatch 1 = .ok (.ifCond .lt 43, 3) := by decide +kernel
theorem dX1_turnMatch_4 : decode cX1_turnMatch 4 = .ok (.iload_n 1, 1) := by decide +kernel
theorem dX1_turnMatch_5 : decode cX1_turnMatch 5 = .ok (.bipush 12, 2) := by decide +kernel
theorem dX1_turnMatch_7 : decode cX1_turnMatch 7 = .ok (.if_icmp .ge 37, 3) := by decide +kernel
theorem dX1_turnMatch_10 : decode cX1_turnMatch 10 = .ok (.iload_n 2, 1) := by decide +kernel
theorem dX1_turnMatch_11 : decode cX1_turnMatch 11 = .ok (.ifCond .lt 33, 3) := by decide +kernel
theorem dX1_turnMatch_14 : decode cX1_turnMatch 14 = .ok (.iload_n 2, 1) := by decide +kernel
theorem dX1_turnMatch_15 : decode cX1_turnMatch 15 = .ok (.bipush 12, 2) := by decide +kernel
theorem dX1_turnMatch_17 : decode cX1_turnMatch 17 = .ok (.if_icmp .ge 27, 3) := by decide +kernel
theorem dX1_turnMatch_20 : decode cX1_turnMatch 20 = .ok (.aload_n 0, 1) := by decide +kernel
theorem dX1_turnMatch_21 : decode cX1_turnMatch 21 = .ok (.getfield 22, 3) := by decide +kernel
theorem dX1_turnMatch_24 : decode cX1_turnMatch 24 = .ok (.iload_n 1, 1) := by decide +kernel
theorem dX1_turnMatch_25 : decode cX1_turnMatch 25 = .ok (.dup2, 1) := by decide +kernel
theorem dX1_turnMatch_26 : decode cX1_turnMatch 26 = .ok (.iaload, 1) := by decide +kernel
theorem dX1_turnMatch_27 : decode cX1_turnMatch 27 = .ok (.iconst 1, 1) := by decide +kernel
theorem dX1_turnMatch_28 : decode cX1_turnMatch 28 = .ok (.iload_n 2, 1) := by decide +kernel
theorem dX1_turnMatch_29 : decode cX1_turnMatch 29 = .ok (.ishl, 1) := by decide +kernel
theorem dX1_turnMatch_30 : decode cX1_turnMatch 30 = .ok (.ixor, 1) := by decide +kernel
theorem dX1_turnMatch_31 : decode cX1_turnMatch 31 = .ok (.iastore, 1) := by decide +kernel
theorem dX1_turnMatch_32 : decode cX1_turnMatch 32 = .ok (.aload_n 0, 1) := by decide +kernel
theorem dX1_turnMatch_33 : decode cX1_turnMatch 33 = .ok (.getfield 22, 3) := by decide +kernel
theorem dX1_turnMatch_36 : decode cX1_turnMatch 36 = .ok (.iload_n 2, 1) := by decide +kernel
theorem dX1_turnMatch_37 : decode cX1_turnMatch 37 = .ok (.dup2, 1) := by decide +kernel
theorem dX1_turnMatch_38 : decode cX1_turnMatch 38 = .ok (.iaload, 1) := by decide +kernel
theorem dX1_turnMatch_39 : decode cX1_turnMatch 39 = .ok (.iconst 1, 1) := by decide +kernel
theorem dX1_turnMatch_40 : decode cX1_turnMatch 40 = .ok (.iload_n 1, 1) := by decide +kernel
theorem dX1_turnMatch_41 : decode cX1_turnMatch 41 = .ok (.ishl, 1) := by decide +kernel
theorem dX1_turnMatch_42 : decode cX1_turnMatch 42 = .ok (.ixor, 1) := by decide +kernel
theorem dX1_turnMatch_43 : decode cX1_turnMatch 43 = .ok (.iastore, 1) := by decide +kernel
theorem dX1_turnMatch_44 : decode cX1_turnMatch 44 = .ok (.return_, 1) := by decide +kernel
theorem dX1_groupOf_0 : decode cX1_groupOf 0 = .ok (.iconst 1, 1) := by decide +kernel
theorem dX1_groupOf_1 : decode cX1_groupOf 1 = .ok (.iload_n 1, 1) := by decide +kernel
theorem dX1_groupOf_2 : decode cX1_groupOf 2 = .ok (.ishl, 1) := by decide +kernel
theorem dX1_groupOf_3 : decode cX1_groupOf 3 = .ok (.istore_n 2, 1) := by decide +kernel
theorem dX1_groupOf_4 : decode cX1_groupOf 4 = .ok (.iconst 0, 1) := by decide +kernel
theorem dX1_groupOf_5 : decode cX1_groupOf 5 = .ok (.istore_n 3, 1) := by decide +kernel
theorem dX1_groupOf_6 : decode cX1_groupOf 6 = .ok (.iconst 0, 1) := by decide +kernel
theorem dX1_groupOf_7 : decode cX1_groupOf 7 = .ok (.istore 4, 2) := by decide +kernel
theorem dX1_groupOf_9 : decode cX1_groupOf 9 = .ok (.iload 4, 2) := by decide +kernel
theorem dX1_groupOf_11 : decode cX1_groupOf 11 = .ok (.bipush 12, 2) := by decide +kernel
theorem dX1_groupOf_13 : decode cX1_groupOf 13 = .ok (.if_icmp .ge 24, 3) := by decide +kernel
theorem dX1_groupOf_16 : decode cX1_groupOf 16 = .ok (.iload_n 2, 1) := by decide +kernel
theorem dX1_groupOf_17 : decode cX1_groupOf 17 = .ok (.iload_n 3, 1) := by decide +kernel
theorem dX1_groupOf_18 : decode cX1_groupOf 18 = .ok (.if_icmp .eq 19, 3) := by decide +kernel
theorem dX1_groupOf_21 : decode cX1_groupOf 21 = .ok (.iload_n 2, 1) := by decide +kernel
theorem dX1_groupOf_22 : decode cX1_groupOf 22 = .ok (.istore_n 3, 1) := by decide +kernel
theorem dX1_groupOf_23 : decode cX1_groupOf 23 = .ok (.iload_n 2, 1) := by decide +kernel
theorem dX1_groupOf_24 : decode cX1_groupOf 24 = .ok (.aload_n 0, 1) := by decide +kernel
theorem dX1_groupOf_25 : decode cX1_groupOf 25 = .ok (.iload_n 2, 1) := by decide +kernel
theorem dX1_groupOf_26 : decode cX1_groupOf 26 = .ok (.invokevirtual 46, 3) := by decide +kernel
theorem dX1_groupOf_29 : decode cX1_groupOf 29 = .ok (.ior, 1) := by decide +kernel
theorem dX1_groupOf_30 : decode cX1_groupOf 30 = .ok (.istore_n 2, 1) := by decide +kernel
theorem dX1_groupOf_31 : decode cX1_groupOf 31 = .ok (.iinc 4 1, 3) := by decide +kernel
theorem dX1_groupOf_34 : decode cX1_groupOf 34 = .ok (.goto (-25), 3) := by decide +kernel
theorem dX1_groupOf_37 : decode cX1_groupOf 37 = .ok (.iload_n 2, 1) := by decide +kernel
theorem dX1_groupOf_38 : decode cX1_groupOf 38 = .ok (.ireturn, 1) := by decide +kernel
theorem dX1_matchesOf_0 : decode cX1_matchesOf 0 = .ok (.iconst 0, 1) := by decide +kernel
theorem dX1_matchesOf_1 : decode cX1_matchesOf 1 = .ok (.istore_n 2, 1) := by decide +kernel
theorem dX1_matchesOf_2 : decode cX1_matchesOf 2 = .ok (.iconst 0, 1) := by decide +kernel
theorem dX1_matchesOf_3 : decode cX1_matchesOf 3 = .ok (.istore_n 3, 1) := by decide +kernel
theorem dX1_matchesOf_4 : decode cX1_matchesOf 4 = .ok (.iload_n 3, 1) := by decide +kernel
theorem dX1_matchesOf_5 : decode cX1_matchesOf 5 = .ok (.bipush 12, 2) := by decide +kernel
theorem dX1_matchesOf_7 : decode cX1_matchesOf 7 = .ok (.if_icmp .ge 26, 3) := by decide +kernel
theorem dX1_matchesOf_10 : decode cX1_matchesOf 10 = .ok (.iload_n 1, 1) := by decide +kernel
theorem dX1_matchesOf_11 : decode cX1_matchesOf 11 = .ok (.iconst 1, 1) := by decide +kernel
theorem dX1_matchesOf_12 : decode cX1_matchesOf 12 = .ok (.iload_n 3, 1) := by decide +kernel
theorem dX1_matchesOf_13 : decode cX1_matchesOf 13 = .ok (.ishl, 1) := by decide +kernel
theorem dX1_matchesOf_14 : decode cX1_matchesOf 14 = .ok (.iand, 1) := by decide +kernel
theorem dX1_matchesOf_15 : decode cX1_matchesOf 15 = .ok (.ifCond .eq 12, 3) := by decide +kernel
theorem dX1_matchesOf_18 : decode cX1_matchesOf 18 = .ok (.iload_n 2, 1) := by decide +kernel
theorem dX1_matchesOf_19 : decode cX1_matchesOf 19 = .ok (.aload_n 0, 1) := by decide +kernel
theorem dX1_matchesOf_20 : decode cX1_matchesOf 20 = .ok (.getfield 22, 3) := by decide +kernel
theorem dX1_matchesOf_23 : decode cX1_matchesOf 23 = .ok (.iload_n 3, 1) := by decide +kernel
theorem dX1_matchesOf_24 : decode cX1_matchesOf 24 = .ok (.iaload, 1) := by decide +kernel
theorem dX1_matchesOf_25 : decode cX1_matchesOf 25 = .ok (.ior, 1) := by decide +kernel
theorem dX1_matchesOf_26 : decode cX1_matchesOf 26 = .ok (.istore_n 2, 1) := by decide +kernel
theorem dX1_matchesOf_27 : decode cX1_matchesOf 27 = .ok (.iinc 3 1, 3) := by decide +kernel
theorem dX1_matchesOf_30 : decode cX1_matchesOf 30 = .ok (.goto (-26), 3) := by decide +kernel
theorem dX1_matchesOf_33 : decode cX1_matchesOf 33 = .ok (.iload_n 2, 1) := by decide +kernel
theorem dX1_matchesOf_34 : decode cX1_matchesOf 34 = .ok (.ireturn, 1) := by decide +kernel
theorem dX1_listDue_0 : decode cX1_listDue 0 = .ok (.iconst 0, 1) := by decide +kernel
theorem dX1_listDue_1 : decode cX1_listDue 1 = .ok (.istore_n 2, 1) := by decide +kernel
theorem dX1_listDue_2 : decode cX1_listDue 2 = .ok (.iconst 0, 1) := by decide +kernel
theorem dX1_listDue_3 : decode cX1_listDue 3 = .ok (.istore_n 3, 1) := by decide +kernel
theorem dX1_listDue_4 : decode cX1_listDue 4 = .ok (.iload_n 3, 1) := by decide +kernel
theorem dX1_listDue_5 : decode cX1_listDue 5 = .ok (.aload_n 0, 1) := by decide +kernel
theorem dX1_listDue_6 : decode cX1_listDue 6 = .ok (.getfield 36, 3) := by decide +kernel
theorem dX1_listDue_9 : decode cX1_listDue 9 = .ok (.if_icmp .ge 66, 3) := by decide +kernel
theorem dX1_listDue_12 : decode cX1_listDue 12 = .ok (.iload_n 2, 1) := by decide +kernel
theorem dX1_listDue_13 : decode cX1_listDue 13 = .ok (.bipush 12, 2) := by decide +kernel
theorem dX1_listDue_15 : decode cX1_listDue 15 = .ok (.if_icmp .ge 60, 3) := by decide +kernel
theorem dX1_listDue_18 : decode cX1_listDue 18 = .ok (.aload_n 0, 1) := by decide +kernel
theorem dX1_listDue_19 : decode cX1_listDue 19 = .ok (.iload_n 3, 1) := by decide +kernel
theorem dX1_listDue_20 : decode cX1_listDue 20 = .ok (.invokevirtual 50, 3) := by decide +kernel
theorem dX1_listDue_23 : decode cX1_listDue 23 = .ok (.istore 4, 2) := by decide +kernel
theorem dX1_listDue_25 : decode cX1_listDue 25 = .ok (.iload 4, 2) := by decide +kernel
theorem dX1_listDue_27 : decode cX1_listDue 27 = .ok (.iconst 1, 1) := by decide +kernel
theorem dX1_listDue_28 : decode cX1_listDue 28 = .ok (.iload_n 3, 1) := by decide +kernel
theorem dX1_listDue_29 : decode cX1_listDue 29 = .ok (.ishl, 1) := by decide +kernel
theorem dX1_listDue_30 : decode cX1_listDue 30 = .ok (.iconst 1, 1) := by decide +kernel
theorem dX1_listDue_31 : decode cX1_listDue 31 = .ok (.isub, 1) := by decide +kernel
theorem dX1_listDue_32 : decode cX1_listDue 32 = .ok (.iand, 1) := by decide +kernel
theorem dX1_listDue_33 : decode cX1_listDue 33 = .ok (.ifCond .ne 7, 3) := by decide +kernel
theorem dX1_listDue_36 : decode cX1_listDue 36 = .ok (.iconst 1, 1) := by decide +kernel
theorem dX1_listDue_37 : decode cX1_listDue 37 = .ok (.goto 4, 3) := by decide +kernel
theorem dX1_listDue_40 : decode cX1_listDue 40 = .ok (.iconst 0, 1) := by decide +kernel
theorem dX1_listDue_41 : decode cX1_listDue 41 = .ok (.istore 5, 2) := by decide +kernel
theorem dX1_listDue_43 : decode cX1_listDue 43 = .ok (.iload 5, 2) := by decide +kernel
theorem dX1_listDue_45 : decode cX1_listDue 45 = .ok (.ifCond .eq 24, 3) := by decide +kernel
theorem dX1_listDue_48 : decode cX1_listDue 48 = .ok (.aload_n 0, 1) := by decide +kernel
theorem dX1_listDue_49 : decode cX1_listDue 49 = .ok (.iload 4, 2) := by decide +kernel
theorem dX1_listDue_51 : decode cX1_listDue 51 = .ok (.iload_n 1, 1) := by decide +kernel
theorem dX1_listDue_52 : decode cX1_listDue 52 = .ok (.invokevirtual 53, 3) := by decide +kernel
theorem dX1_listDue_55 : decode cX1_listDue 55 = .ok (.ifCond .ne 14, 3) := by decide +kernel
theorem dX1_listDue_58 : decode cX1_listDue 58 = .ok (.aload_n 0, 1) := by decide +kernel
theorem dX1_listDue_59 : decode cX1_listDue 59 = .ok (.getfield 29, 3) := by decide +kernel
theorem dX1_listDue_62 : decode cX1_listDue 62 = .ok (.iload_n 2, 1) := by decide +kernel
theorem dX1_listDue_63 : decode cX1_listDue 63 = .ok (.iload 4, 2) := by decide +kernel
theorem dX1_listDue_65 : decode cX1_listDue 65 = .ok (.iastore, 1) := by decide +kernel
theorem dX1_listDue_66 : decode cX1_listDue 66 = .ok (.iinc 2 1, 3) := by decide +kernel
theorem dX1_listDue_69 : decode cX1_listDue 69 = .ok (.iinc 3 1, 3) := by decide +kernel
theorem dX1_listDue_72 : decode cX1_listDue 72 = .ok (.goto (-68), 3) := by decide +kernel
theorem dX1_listDue_75 : decode cX1_listDue 75 = .ok (.iload_n 2, 1) := by decide +kernel
theorem dX1_listDue_76 : decode cX1_listDue 76 = .ok (.ireturn, 1) := by decide +kernel
theorem dX1_dueAt_0 : decode cX1_dueAt 0 = .ok (.iload_n 1, 1) := by decide +kernel
theorem dX1_dueAt_1 : decode cX1_dueAt 1 = .ok (.ifCond .lt 18, 3) := by decide +kernel
theorem dX1_dueAt_4 : decode cX1_dueAt 4 = .ok (.iload_n 1, 1) := by decide +kernel
theorem dX1_dueAt_5 : decode cX1_dueAt 5 = .ok (.bipush 12, 2) := by decide +kernel
theorem dX1_dueAt_7 : decode cX1_dueAt 7 = .ok (.if_icmp .ge 12, 3) := by decide +kernel
theorem dX1_dueAt_10 : decode cX1_dueAt 10 = .ok (.aload_n 0, 1) := by decide +kernel
theorem dX1_dueAt_11 : decode cX1_dueAt 11 = .ok (.getfield 29, 3) := by decide +kernel
theorem dX1_dueAt_14 : decode cX1_dueAt 14 = .ok (.iload_n 1, 1) := by decide +kernel
theorem dX1_dueAt_15 : decode cX1_dueAt 15 = .ok (.iaload, 1) := by decide +kernel
theorem dX1_dueAt_16 : decode cX1_dueAt 16 = .ok (.goto 4, 3) := by decide +kernel
theorem dX1_dueAt_19 : decode cX1_dueAt 19 = .ok (.iconst 0, 1) := by decide +kernel
theorem dX1_dueAt_20 : decode cX1_dueAt 20 = .ok (.ireturn, 1) := by decide +kernel
theorem dX1_wasPosted_0 : decode cX1_wasPosted 0 = .ok (.iconst 0, 1) := by decide +kernel
theorem dX1_wasPosted_1 : decode cX1_wasPosted 1 = .ok (.istore_n 3, 1) := by decide +kernel
theorem dX1_wasPosted_2 : decode cX1_wasPosted 2 = .ok (.iload_n 3, 1) := by decide +kernel
theorem dX1_wasPosted_3 : decode cX1_wasPosted 3 = .ok (.bipush 12, 2) := by decide +kernel
theorem dX1_wasPosted_5 : decode cX1_wasPosted 5 = .ok (.if_icmp .ge 32, 3) := by decide +kernel
theorem dX1_wasPosted_8 : decode cX1_wasPosted 8 = .ok (.iload_n 1, 1) := by decide +kernel
theorem dX1_wasPosted_9 : decode cX1_wasPosted 9 = .ok (.iconst 1, 1) := by decide +kernel
theorem dX1_wasPosted_10 : decode cX1_wasPosted 10 = .ok (.iload_n 3, 1) := by decide +kernel
theorem dX1_wasPosted_11 : decode cX1_wasPosted 11 = .ok (.ishl, 1) := by decide +kernel
theorem dX1_wasPosted_12 : decode cX1_wasPosted 12 = .ok (.iand, 1) := by decide +kernel
theorem dX1_wasPosted_13 : decode cX1_wasPosted 13 = .ok (.ifCond .eq 18, 3) := by decide +kernel
theorem dX1_wasPosted_16 : decode cX1_wasPosted 16 = .ok (.aload_n 0, 1) := by decide +kernel
theorem dX1_wasPosted_17 : decode cX1_wasPosted 17 = .ok (.getfield 26, 3) := by decide +kernel
theorem dX1_wasPosted_20 : decode cX1_wasPosted 20 = .ok (.iload_n 3, 1) := by decide +kernel
theorem dX1_wasPosted_21 : decode cX1_wasPosted 21 = .ok (.iaload, 1) := by decide +kernel
theorem dX1_wasPosted_22 : decode cX1_wasPosted 22 = .ok (.iconst 1, 1) := by decide +kernel
theorem dX1_wasPosted_23 : decode cX1_wasPosted 23 = .ok (.iload_n 2, 1) := by decide +kernel
theorem dX1_wasPosted_24 : decode cX1_wasPosted 24 = .ok (.ishl, 1) := by decide +kernel
theorem dX1_wasPosted_25 : decode cX1_wasPosted 25 = .ok (.iand, 1) := by decide +kernel
theorem dX1_wasPosted_26 : decode cX1_wasPosted 26 = .ok (.ifCond .eq 5, 3) := by decide +kernel
theorem dX1_wasPosted_29 : decode cX1_wasPosted 29 = .ok (.iconst 1, 1) := by decide +kernel
theorem dX1_wasPosted_30 : decode cX1_wasPosted 30 = .ok (.ireturn, 1) := by decide +kernel
theorem dX1_wasPosted_31 : decode cX1_wasPosted 31 = .ok (.iinc 3 1, 3) := by decide +kernel
theorem dX1_wasPosted_34 : decode cX1_wasPosted 34 = .ok (.goto (-32), 3) := by decide +kernel
theorem dX1_wasPosted_37 : decode cX1_wasPosted 37 = .ok (.iconst 0, 1) := by decide +kernel
theorem dX1_wasPosted_38 : decode cX1_wasPosted 38 = .ok (.ireturn, 1) := by decide +kernel
theorem dX1_notePosted_0 : decode cX1_notePosted 0 = .ok (.iconst 0, 1) := by decide +kernel
theorem dX1_notePosted_1 : decode cX1_notePosted 1 = .ok (.istore_n 3, 1) := by decide +kernel
theorem dX1_notePosted_2 : decode cX1_notePosted 2 = .ok (.iload_n 3, 1) := by decide +kernel
theorem dX1_notePosted_3 : decode cX1_notePosted 3 = .ok (.bipush 12, 2) := by decide +kernel
theorem dX1_notePosted_5 : decode cX1_notePosted 5 = .ok (.if_icmp .ge 29, 3) := by decide +kernel
theorem dX1_notePosted_8 : decode cX1_notePosted 8 = .ok (.iload_n 1, 1) := by decide +kernel
theorem dX1_notePosted_9 : decode cX1_notePosted 9 = .ok (.iconst 1, 1) := by decide +kernel
theorem dX1_notePosted_10 : decode cX1_notePosted 10 = .ok (.iload_n 3, 1) := by decide +kernel
theorem dX1_notePosted_11 : decode cX1_notePosted 11 = .ok (.ishl, 1) := by decide +kernel
theorem dX1_notePosted_12 : decode cX1_notePosted 12 = .ok (.iand, 1) := by decide +kernel
theorem dX1_notePosted_13 : decode cX1_notePosted 13 = .ok (.ifCond .eq 15, 3) := by decide +kernel
theorem dX1_notePosted_16 : decode cX1_notePosted 16 = .ok (.aload_n 0, 1) := by decide +kernel
theorem dX1_notePosted_17 : decode cX1_notePosted 17 = .ok (.getfield 26, 3) := by decide +kernel
theorem dX1_notePosted_20 : decode cX1_notePosted 20 = .ok (.iload_n 3, 1) := by decide +kernel
theorem dX1_notePosted_21 : decode cX1_notePosted 21 = .ok (.dup2, 1) := by decide +kernel
theorem dX1_notePosted_22 : decode cX1_notePosted 22 = .ok (.iaload, 1) := by decide +kernel
theorem dX1_notePosted_23 : decode cX1_notePosted 23 = .ok (.iconst 1, 1) := by decide +kernel
theorem dX1_notePosted_24 : decode cX1_notePosted 24 = .ok (.iload_n 2, 1) := by decide +kernel
theorem dX1_notePosted_25 : decode cX1_notePosted 25 = .ok (.ishl, 1) := by decide +kernel
theorem dX1_notePosted_26 : decode cX1_notePosted 26 = .ok (.ior, 1) := by decide +kernel
theorem dX1_notePosted_27 : decode cX1_notePosted 27 = .ok (.iastore, 1) := by decide +kernel
theorem dX1_notePosted_28 : decode cX1_notePosted 28 = .ok (.iinc 3 1, 3) := by decide +kernel
theorem dX1_notePosted_31 : decode cX1_notePosted 31 = .ok (.goto (-29), 3) := by decide +kernel
theorem dX1_notePosted_34 : decode cX1_notePosted 34 = .ok (.return_, 1) := by decide +kernel
theorem dX2_init_0 : decode cX2_init 0 = .ok (.aload_n 0, 1) := by decide +kernel
theorem dX2_init_1 : decode cX2_init 1 = .ok (.invokespecial 3, 3) := by decide +kernel
theorem dX2_init_4 : decode cX2_init 4 = .ok (.aload_n 0, 1) := by decide +kernel
theorem dX2_init_5 : decode cX2_init 5 = .ok (.bipush 10, 2) := by decide +kernel
theorem dX2_init_7 : decode cX2_init 7 = .ok (.putfield 9, 3) := by decide +kernel
theorem dX2_init_10 : decode cX2_init 10 = .ok (.aload_n 0, 1) := by decide +kernel
theorem dX2_init_11 : decode cX2_init 11 = .ok (.iconst 5, 1) := by decide +kernel
theorem dX2_init_12 : decode cX2_init 12 = .ok (.putfield 15, 3) := by decide +kernel
theorem dX2_init_15 : decode cX2_init 15 = .ok (.return_, 1) := by decide +kernel
theorem dX2_weightOf_0 : decode cX2_weightOf 0 = .ok (.bipush 8, 2) := by decide +kernel
theorem dX2_weightOf_2 : decode cX2_weightOf 2 = .ok (.iconst 3, 1) := by decide +kernel
theorem dX2_weightOf_3 : decode cX2_weightOf 3 = .ok (.iload_n 1, 1) := by decide +kernel
theorem dX2_weightOf_4 : decode cX2_weightOf 4 = .ok (.bipush 19, 2) := by decide +kernel
theorem dX2_weightOf_6 : decode cX2_weightOf 6 = .ok (.iadd, 1) := by decide +kernel
theorem dX2_weightOf_7 : decode cX2_weightOf 7 = .ok (.bipush 20, 2) := by decide +kernel
theorem dX2_weightOf_9 : decode cX2_weightOf 9 = .ok (.idiv, 1) := by decide +kernel
theorem dX2_weightOf_10 : decode cX2_weightOf 10 = .ok (.imul, 1) := by decide +kernel
theorem dX2_weightOf_11 : decode cX2_weightOf 11 = .ok (.iadd, 1) := by decide +kernel
theorem dX2_weightOf_12 : decode cX2_weightOf 12 = .ok (.iconst 2, 1) := by decide +kernel
theorem dX2_weightOf_13 : decode cX2_weightOf 13 = .ok (.iload_n 2, 1) := by decide +kernel
theorem dX2_weightOf_14 : decode cX2_weightOf 14 = .ok (.iconst 1, 1) := by decide +kernel
theorem dX2_weightOf_15 : decode cX2_weightOf 15 = .ok (.isub, 1) := by decide +kernel
theorem dX2_weightOf_16 : decode cX2_weightOf 16 = .ok (.imul, 1) := by decide +kernel
theorem dX2_weightOf_17 : decode cX2_weightOf 17 = .ok (.iadd, 1) := by decide +kernel
theorem dX2_weightOf_18 : decode cX2_weightOf 18 = .ok (.ireturn, 1) := by decide +kernel
theorem dX2_costOf_0 : decode cX2_costOf 0 = .ok (.iload_n 1, 1) := by decide +kernel
theorem dX2_costOf_1 : decode cX2_costOf 1 = .ok (.bipush 20, 2) := by decide +kernel
theorem dX2_costOf_3 : decode cX2_costOf 3 = .ok (.if_icmp .le 17, 3) := by decide +kernel
theorem dX2_costOf_6 : decode cX2_costOf 6 = .ok (.iload_n 1, 1) := by decide +kernel
theorem dX2_costOf_7 : decode cX2_costOf 7 = .ok (.bipush 20, 2) := by decide +kernel
theorem dX2_costOf_9 : decode cX2_costOf 9 = .ok (.isub, 1) := by decide +kernel
theorem dX2_costOf_10 : decode cX2_costOf 10 = .ok (.bipush 9, 2) := by decide +kernel
theorem dX2_costOf_12 : decode cX2_costOf 12 = .ok (.iadd, 1) := by decide +kernel
theorem dX2_costOf_13 : decode cX2_costOf 13 = .ok (.bipush 10, 2) := by decide +kernel
theorem dX2_costOf_15 : decode cX2_costOf 15 = .ok (.idiv, 1) := by decide +kernel
theorem dX2_costOf_16 : decode cX2_costOf 16 = .ok (.i2l, 1) := by decide +kernel
theorem dX2_costOf_17 : decode cX2_costOf 17 = .ok (.goto 4, 3) := by decide +kernel
theorem dX2_costOf_20 : decode cX2_costOf 20 = .ok (.lconst 0, 1) := by decide +kernel
theorem dX2_costOf_21 : decode cX2_costOf 21 = .ok (.lstore_n 3, 1) := by decide +kernel
theorem dX2_costOf_22 : decode cX2_costOf 22 = .ok (.aload_n 0, 1) := by decide +kernel
theorem dX2_costOf_23 : decode cX2_costOf 23 = .ok (.getfield 9, 3) := by decide +kernel
theorem dX2_costOf_26 : decode cX2_costOf 26 = .ok (.i2l, 1) := by decide +kernel
theorem dX2_costOf_27 : decode cX2_costOf 27 = .ok (.aload_n 0, 1) := by decide +kernel
theorem dX2_costOf_28 : decode cX2_costOf 28 = .ok (.getfield 15, 3) := by decide +kernel
theorem dX2_costOf_31 : decode cX2_costOf 31 = .ok (.i2l, 1) := by decide +kernel
theorem dX2_costOf_32 : decode cX2_costOf 32 = .ok (.lload_n 3, 1) := by decide +kernel
theorem dX2_costOf_33 : decode cX2_costOf 33 = .ok (.lmul, 1) := by decide +kernel
theorem dX2_costOf_34 : decode cX2_costOf 34 = .ok (.ladd, 1) := by decide +kernel
theorem dX2_costOf_35 : decode cX2_costOf 35 = .ok (.iload_n 2, 1) := by decide +kernel
theorem dX2_costOf_36 : decode cX2_costOf 36 = .ok (.iconst 2, 1) := by decide +kernel
theorem dX2_costOf_37 : decode cX2_costOf 37 = .ok (.iadd, 1) := by decide +kernel
theorem dX2_costOf_38 : decode cX2_costOf 38 = .ok (.i2l, 1) := by decide +kernel
theorem dX2_costOf_39 : decode cX2_costOf 39 = .ok (.lmul, 1) := by decide +kernel
theorem dX2_costOf_40 : decode cX2_costOf 40 = .ok (.lstore 5, 2) := by decide +kernel
theorem dX2_costOf_42 : decode cX2_costOf 42 = .ok (.lload 5, 2) := by decide +kernel
theorem dX2_costOf_44 : decode cX2_costOf 44 = .ok (.ldc2_w 18, 3) := by decide +kernel
theorem dX2_costOf_47 : decode cX2_costOf 47 = .ok (.lcmp, 1) := by decide +kernel
theorem dX2_costOf_48 : decode cX2_costOf 48 = .ok (.ifCond .le 7, 3) := by decide +kernel
theorem dX2_costOf_51 : decode cX2_costOf 51 = .ok (.iconst (-1), 1) := by decide +kernel
theorem dX2_costOf_52 : decode cX2_costOf 52 = .ok (.goto 6, 3) := by decide +kernel
theorem dX2_costOf_55 : decode cX2_costOf 55 = .ok (.lload 5, 2) := by decide +kernel
theorem dX2_costOf_57 : decode cX2_costOf 57 = .ok (.l2i, 1) := by decide +kernel
theorem dX2_costOf_58 : decode cX2_costOf 58 = .ok (.ireturn, 1) := by decide +kernel
theorem dX3_init_0 : decode cX3_init 0 = .ok (.aload_n 0, 1) := by decide +kernel
theorem dX3_init_1 : decode cX3_init 1 = .ok (.invokespecial 3, 3) := by decide +kernel
theorem dX3_init_4 : decode cX3_init 4 = .ok (.aload_n 0, 1) := by decide +kernel
theorem dX3_init_5 : decode cX3_init 5 = .ok (.bipush 6, 2) := by decide +kernel
theorem dX3_init_7 : decode cX3_init 7 = .ok (.anewarray 9, 3) := by decide +kernel
theorem dX3_init_10 : decode cX3_init 10 = .ok (.putfield 11, 3) := by decide +kernel
theorem dX3_init_13 : decode cX3_init 13 = .ok (.aload_n 0, 1) := by decide +kernel
theorem dX3_init_14 : decode cX3_init 14 = .ok (.bipush 6, 2) := by decide +kernel
theorem dX3_init_16 : decode cX3_init 16 = .ok (.newarray .int, 2) := by decide +kernel
theorem dX3_init_18 : decode cX3_init 18 = .ok (.putfield 17, 3) := by decide +kernel
theorem dX3_init_21 : decode cX3_init 21 = .ok (.aload_n 0, 1) := by decide +kernel
theorem dX3_init_22 : decode cX3_init 22 = .ok (.new 9, 3) := by decide +kernel
theorem dX3_init_25 : decode cX3_init 25 = .ok (.dup, 1) := by decide +kernel
theorem dX3_init_26 : decode cX3_init 26 = .ok (.iconst 3, 1) := by decide +kernel
theorem dX3_init_27 : decode cX3_init 27 = .ok (.invokespecial 21, 3) := by decide +kernel
theorem dX3_init_30 : decode cX3_init 30 = .ok (.putfield 24, 3) := by decide +kernel
theorem dX3_init_33 : decode cX3_init 33 = .ok (.iconst 0, 1) := by decide +kernel
theorem dX3_init_34 : decode cX3_init 34 = .ok (.istore_n 1, 1) := by decide +kernel
theorem dX3_init_35 : decode cX3_init 35 = .ok (.iload_n 1, 1) := by decide +kernel
theorem dX3_init_36 : decode cX3_init 36 = .ok (.bipush 6, 2) := by decide +kernel
theorem dX3_init_38 : decode cX3_init 38 = .ok (.if_icmp .ge 43, 3) := by decide +kernel
theorem dX3_init_41 : decode cX3_init 41 = .ok (.aload_n 0, 1) := by decide +kernel
theorem dX3_init_42 : decode cX3_init 42 = .ok (.getfield 11, 3) := by decide +kernel
theorem dX3_init_45 : decode cX3_init 45 = .ok (.iload_n 1, 1) := by decide +kernel
theorem dX3_init_46 : decode cX3_init 46 = .ok (.new 9, 3) := by decide +kernel
theorem dX3_init_49 : decode cX3_init 49 = .ok (.dup, 1) := by decide +kernel
theorem dX3_init_50 : decode cX3_init 50 = .ok (.iload_n 1, 1) := by decide +kernel
theorem dX3_init_51 : decode cX3_init 51 = .ok (.ifCond .ne 9, 3) := by decide +kernel
theorem dX3_init_54 : decode cX3_init 54 = .ok (.sipush 177, 3) := by decide +kernel
theorem dX3_init_57 : decode cX3_init 57 = .ok (.goto 14, 3) := by decide +kernel
theorem dX3_init_60 : decode cX3_init 60 = .ok (.iload_n 1, 1) := by decide +kernel
theorem dX3_init_61 : decode cX3_init 61 = .ok (.iconst 1, 1) := by decide +kernel
theorem dX3_init_62 : decode cX3_init 62 = .ok (.if_icmp .ne 8, 3) := by decide +kernel
theorem dX3_init_65 : decode cX3_init 65 = .ok (.bipush 12, 2) := by decide +kernel
theorem dX3_init_67 : decode cX3_init 67 = .ok (.goto 4, 3) := by decide +kernel
theorem dX3_init_70 : decode cX3_init 70 = .ok (.iconst 4, 1) := by decide +kernel
theorem dX3_init_71 : decode cX3_init 71 = .ok (.invokespecial 21, 3) := by decide +kernel
theorem dX3_init_74 : decode cX3_init 74 = .ok (.aastore, 1) := by decide +kernel
theorem dX3_init_75 : decode cX3_init 75 = .ok (.iinc 1 1, 3) := by decide +kernel
theorem dX3_init_78 : decode cX3_init 78 = .ok (.goto (-43), 3) := by decide +kernel
theorem dX3_init_81 : decode cX3_init 81 = .ok (.aload_n 0, 1) := by decide +kernel
theorem dX3_init_82 : decode cX3_init 82 = .ok (.getfield 24, 3) := by decide +kernel
theorem dX3_init_85 : decode cX3_init 85 = .ok (.bipush 32, 2) := by decide +kernel
theorem dX3_init_87 : decode cX3_init 87 = .ok (.invokevirtual 28, 3) := by decide +kernel
theorem dX3_init_90 : decode cX3_init 90 = .ok (.aload_n 0, 1) := by decide +kernel
theorem dX3_init_91 : decode cX3_init 91 = .ok (.getfield 24, 3) := by decide +kernel
theorem dX3_init_94 : decode cX3_init 94 = .ok (.bipush 38, 2) := by decide +kernel
theorem dX3_init_96 : decode cX3_init 96 = .ok (.invokevirtual 28, 3) := by decide +kernel
theorem dX3_init_99 : decode cX3_init 99 = .ok (.aload_n 0, 1) := by decide +kernel
theorem dX3_init_100 : decode cX3_init 100 = .ok (.getfield 24, 3) := by decide +kernel
theorem dX3_init_103 : decode cX3_init 103 = .ok (.bipush 32, 2) := by decide +kernel
theorem dX3_init_105 : decode cX3_init 105 = .ok (.invokevirtual 28, 3) := by decide +kernel
theorem dX3_init_108 : decode cX3_init 108 = .ok (.return_, 1) := by decide +kernel
theorem dX3_gather_0 : decode cX3_gather 0 = .ok (.iconst 0, 1) := by decide +kernel
theorem dX3_gather_1 : decode cX3_gather 1 = .ok (.istore_n 3, 1) := by decide +kernel
theorem dX3_gather_2 : decode cX3_gather 2 = .ok (.iload_n 3, 1) := by decide +kernel
theorem dX3_gather_3 : decode cX3_gather 3 = .ok (.bipush 6, 2) := by decide +kernel
theorem dX3_gather_5 : decode cX3_gather 5 = .ok (.if_icmp .ge 26, 3) := by decide +kernel
theorem dX3_gather_8 : decode cX3_gather 8 = .ok (.aload_n 0, 1) := by decide +kernel
theorem dX3_gather_9 : decode cX3_gather 9 = .ok (.getfield 11, 3) := by decide +kernel
theorem dX3_gather_12 : decode cX3_gather 12 = .ok (.iload_n 3, 1) := by decide +kernel
theorem dX3_gather_13 : decode cX3_gather 13 = .ok (.aaload, 1) := by decide +kernel
theorem dX3_gather_14 : decode cX3_gather 14 = .ok (.iconst 0, 1) := by decide +kernel
theorem dX3_gather_15 : decode cX3_gather 15 = .ok (.putfield 32, 3) := by decide +kernel
theorem dX3_gather_18 : decode cX3_gather 18 = .ok (.aload_n 0, 1) := by decide +kernel
theorem dX3_gather_19 : decode cX3_gather 19 = .ok (.getfield 17, 3) := by decide +kernel
theorem dX3_gather_22 : decode cX3_gather 22 = .ok (.iload_n 3, 1) := by decide +kernel
theorem dX3_gather_23 : decode cX3_gather 23 = .ok (.iconst 0, 1) := by decide +kernel
theorem dX3_gather_24 : decode cX3_gather 24 = .ok (.iastore, 1) := by decide +kernel
theorem dX3_gather_25 : decode cX3_gather 25 = .ok (.iinc 3 1, 3) := by decide +kernel
theorem dX3_gather_28 : decode cX3_gather 28 = .ok (.goto (-26), 3) := by decide +kernel
theorem dX3_gather_31 : decode cX3_gather 31 = .ok (.iconst 0, 1) := by decide +kernel
theorem dX3_gather_32 : decode cX3_gather 32 = .ok (.istore_n 3, 1) := by decide +kernel
theorem dX3_gather_33 : decode cX3_gather 33 = .ok (.iload_n 3, 1) := by decide +kernel
theorem dX3_gather_34 : decode cX3_gather 34 = .ok (.bipush 12, 2) := by decide +kernel
theorem dX3_gather_36 : decode cX3_gather 36 = .ok (.if_icmp .ge 27, 3) := by decide +kernel
theorem dX3_gather_39 : decode cX3_gather 39 = .ok (.iload_n 2, 1) := by decide +kernel
theorem dX3_gather_40 : decode cX3_gather 40 = .ok (.iconst 1, 1) := by decide +kernel
theorem dX3_gather_41 : decode cX3_gather 41 = .ok (.iload_n 3, 1) := by decide +kernel
theorem dX3_gather_42 : decode cX3_gather 42 = .ok (.ishl, 1) := by decide +kernel
theorem dX3_gather_43 : decode cX3_gather 43 = .ok (.iand, 1) := by decide +kernel
theorem dX3_gather_44 : decode cX3_gather 44 = .ok (.ifCond .eq 13, 3) := by decide +kernel
theorem dX3_gather_47 : decode cX3_gather 47 = .ok (.aload_n 0, 1) := by decide +kernel
theorem dX3_gather_48 : decode cX3_gather 48 = .ok (.aload_n 1, 1) := by decide +kernel
theorem dX3_gather_49 : decode cX3_gather 49 = .ok (.getfield 36, 3) := by decide +kernel
theorem dX3_gather_52 : decode cX3_gather 52 = .ok (.iload_n 3, 1) := by decide +kernel
theorem dX3_gather_53 : decode cX3_gather 53 = .ok (.aaload, 1) := by decide +kernel
theorem dX3_gather_54 : decode cX3_gather 54 = .ok (.invokevirtual 42, 3) := by decide +kernel
theorem dX3_gather_57 : decode cX3_gather 57 = .ok (.iinc 3 1, 3) := by decide +kernel
theorem dX3_gather_60 : decode cX3_gather 60 = .ok (.goto (-27), 3) := by decide +kernel
theorem dX3_gather_63 : decode cX3_gather 63 = .ok (.aload_n 0, 1) := by decide +kernel
theorem dX3_gather_64 : decode cX3_gather 64 = .ok (.getfield 17, 3) := by decide +kernel
theorem dX3_gather_67 : decode cX3_gather 67 = .ok (.iconst 0, 1) := by decide +kernel
theorem dX3_gather_68 : decode cX3_gather 68 = .ok (.aload_n 0, 1) := by decide +kernel
theorem dX3_gather_69 : decode cX3_gather 69 = .ok (.getfield 11, 3) := by decide +kernel
theorem dX3_gather_72 : decode cX3_gather 72 = .ok (.iconst 0, 1) := by decide +kernel
theorem dX3_gather_73 : decode cX3_gather 73 = .ok (.aaload, 1) := by decide +kernel
theorem dX3_gather_74 : decode cX3_gather 74 = .ok (.getfield 32, 3) := by decide +kernel
theorem dX3_gather_77 : decode cX3_gather 77 = .ok (.iastore, 1) := by decide +kernel
theorem dX3_gather_78 : decode cX3_gather 78 = .ok (.aload_n 0, 1) := by decide +kernel
theorem dX3_gather_79 : decode cX3_gather 79 = .ok (.getfield 17, 3) := by decide +kernel
theorem dX3_gather_82 : decode cX3_gather 82 = .ok (.iconst 1, 1) := by decide +kernel
theorem dX3_gather_83 : decode cX3_gather 83 = .ok (.aload_n 0, 1) := by decide +kernel
theorem dX3_gather_84 : decode cX3_gather 84 = .ok (.getfield 11, 3) := by decide +kernel
theorem dX3_gather_87 : decode cX3_gather 87 = .ok (.iconst 1, 1) := by decide +kernel
theorem dX3_gather_88 : decode cX3_gather 88 = .ok (.aaload, 1) := by decide +kernel
theorem dX3_gather_89 : decode cX3_gather 89 = .ok (.getfield 32, 3) := by decide +kernel
theorem dX3_gather_92 : decode cX3_gather 92 = .ok (.iastore, 1) := by decide +kernel
theorem dX3_gather_93 : decode cX3_gather 93 = .ok (.iconst 2, 1) := by decide +kernel
theorem dX3_gather_94 : decode cX3_gather 94 = .ok (.istore_n 3, 1) := by decide +kernel
theorem dX3_gather_95 : decode cX3_gather 95 = .ok (.iload_n 3, 1) := by decide +kernel
theorem dX3_gather_96 : decode cX3_gather 96 = .ok (.bipush 6, 2) := by decide +kernel
theorem dX3_gather_98 : decode cX3_gather 98 = .ok (.if_icmp .ge 24, 3) := by decide +kernel
theorem dX3_gather_101 : decode cX3_gather 101 = .ok (.aload_n 0, 1) := by decide +kernel
theorem dX3_gather_102 : decode cX3_gather 102 = .ok (.getfield 11, 3) := by decide +kernel
theorem dX3_gather_105 : decode cX3_gather 105 = .ok (.iload_n 3, 1) := by decide +kernel
theorem dX3_gather_106 : decode cX3_gather 106 = .ok (.aaload, 1) := by decide +kernel
theorem dX3_gather_107 : decode cX3_gather 107 = .ok (.aload_n 0, 1) := by decide +kernel
theorem dX3_gather_108 : decode cX3_gather 108 = .ok (.getfield 17, 3) := by decide +kernel
theorem dX3_gather_111 : decode cX3_gather 111 = .ok (.iload_n 3, 1) := by decide +kernel
theorem dX3_gather_112 : decode cX3_gather 112 = .ok (.iaload, 1) := by decide +kernel
theorem dX3_gather_113 : decode cX3_gather 113 = .ok (.invokevirtual 46, 3) := by decide +kernel
theorem dX3_gather_116 : decode cX3_gather 116 = .ok (.iinc 3 1, 3) := by decide +kernel
theorem dX3_gather_119 : decode cX3_gather 119 = .ok (.goto (-24), 3) := by decide +kernel
theorem dX3_gather_122 : decode cX3_gather 122 = .ok (.return_, 1) := by decide +kernel
theorem dX3_addMember_0 : decode cX3_addMember 0 = .ok (.aload_n 0, 1) := by decide +kernel
theorem dX3_addMember_1 : decode cX3_addMember 1 = .ok (.getfield 17, 3) := by decide +kernel
theorem dX3_addMember_4 : decode cX3_addMember 4 = .ok (.iconst 5, 1) := by decide +kernel
theorem dX3_addMember_5 : decode cX3_addMember 5 = .ok (.iaload, 1) := by decide +kernel
theorem dX3_addMember_6 : decode cX3_addMember 6 = .ok (.ifCond .ne 39, 3) := by decide +kernel
theorem dX3_addMember_9 : decode cX3_addMember 9 = .ok (.aload_n 0, 1) := by decide +kernel
theorem dX3_addMember_10 : decode cX3_addMember 10 = .ok (.getfield 11, 3) := by decide +kernel
theorem dX3_addMember_13 : decode cX3_addMember 13 = .ok (.iconst 1, 1) := by decide +kernel
theorem dX3_addMember_14 : decode cX3_addMember 14 = .ok (.aaload, 1) := by decide +kernel
theorem dX3_addMember_15 : decode cX3_addMember 15 = .ok (.aload_n 1, 1) := by decide +kernel
theorem dX3_addMember_16 : decode cX3_addMember 16 = .ok (.getfield 49, 3) := by decide +kernel
theorem dX3_addMember_19 : decode cX3_addMember 19 = .ok (.invokevirtual 54, 3) := by decide +kernel
theorem dX3_addMember_22 : decode cX3_addMember 22 = .ok (.aload_n 0, 1) := by decide +kernel
theorem dX3_addMember_23 : decode cX3_addMember 23 = .ok (.getfield 17, 3) := by decide +kernel
theorem dX3_addMember_26 : decode cX3_addMember 26 = .ok (.iconst 2, 1) := by decide +kernel
theorem dX3_addMember_27 : decode cX3_addMember 27 = .ok (.aload_n 1, 1) := by decide +kernel
theorem dX3_addMember_28 : decode cX3_addMember 28 = .ok (.getfield 58, 3) := by decide +kernel
theorem dX3_addMember_31 : decode cX3_addMember 31 = .ok (.iastore, 1) := by decide +kernel
theorem dX3_addMember_32 : decode cX3_addMember 32 = .ok (.aload_n 0, 1) := by decide +kernel
theorem dX3_addMember_33 : decode cX3_addMember 33 = .ok (.getfield 17, 3) := by decide +kernel
theorem dX3_addMember_36 : decode cX3_addMember 36 = .ok (.iconst 3, 1) := by decide +kernel
theorem dX3_addMember_37 : decode cX3_addMember 37 = .ok (.aload_n 1, 1) := by decide +kernel
theorem dX3_addMember_38 : decode cX3_addMember 38 = .ok (.getfield 61, 3) := by decide +kernel
theorem dX3_addMember_41 : decode cX3_addMember 41 = .ok (.iastore, 1) := by decide +kernel
theorem dX3_addMember_42 : decode cX3_addMember 42 = .ok (.goto 16, 3) := by decide +kernel
theorem dX3_addMember_45 : decode cX3_addMember 45 = .ok (.aload_n 0, 1) := by decide +kernel
theorem dX3_addMember_46 : decode cX3_addMember 46 = .ok (.getfield 11, 3) := by decide +kernel
theorem dX3_addMember_49 : decode cX3_addMember 49 = .ok (.iconst 0, 1) := by decide +kernel
theorem dX3_addMember_50 : decode cX3_addMember 50 = .ok (.aaload, 1) := by decide +kernel
theorem dX3_addMember_51 : decode cX3_addMember 51 = .ok (.aload_n 0, 1) := by decide +kernel
theorem dX3_addMember_52 : decode cX3_addMember 52 = .ok (.getfield 24, 3) := by decide +kernel
theorem dX3_addMember_55 : decode cX3_addMember 55 = .ok (.invokevirtual 54, 3) := by decide +kernel
theorem dX3_addMember_58 : decode cX3_addMember 58 = .ok (.aload_n 0, 1) := by decide +kernel
theorem dX3_addMember_59 : decode cX3_addMember 59 = .ok (.getfield 11, 3) := by decide +kernel
theorem dX3_addMember_62 : decode cX3_addMember 62 = .ok (.iconst 0, 1) := by decide +kernel
theorem dX3_addMember_63 : decode cX3_addMember 63 = .ok (.aaload, 1) := by decide +kernel
theorem dX3_addMember_64 : decode cX3_addMember 64 = .ok (.aload_n 1, 1) := by decide +kernel
theorem dX3_addMember_65 : decode cX3_addMember 65 = .ok (.getfield 64, 3) := by decide +kernel
theorem dX3_addMember_68 : decode cX3_addMember 68 = .ok (.invokevirtual 54, 3) := by decide +kernel
theorem dX3_addMember_71 : decode cX3_addMember 71 = .ok (.aload_n 0, 1) := by decide +kernel
theorem dX3_addMember_72 : decode cX3_addMember 72 = .ok (.getfield 17, 3) := by decide +kernel
theorem dX3_addMember_75 : decode cX3_addMember 75 = .ok (.iconst 4, 1) := by decide +kernel
theorem dX3_addMember_76 : decode cX3_addMember 76 = .ok (.dup2, 1) := by decide +kernel
theorem dX3_addMember_77 : decode cX3_addMember 77 = .ok (.iaload, 1) := by decide +kernel
theorem dX3_addMember_78 : decode cX3_addMember 78 = .ok (.aload_n 1, 1) := by decide +kernel
theorem dX3_addMember_79 : decode cX3_addMember 79 = .ok (.getfield 67, 3) := by decide +kernel
theorem dX3_addMember_82 : decode cX3_addMember 82 = .ok (.iadd, 1) := by decide +kernel
theorem dX3_addMember_83 : decode cX3_addMember 83 = .ok (.iastore, 1) := by decide +kernel
theorem dX3_addMember_84 : decode cX3_addMember 84 = .ok (.aload_n 0, 1) := by decide +kernel
theorem dX3_addMember_85 : decode cX3_addMember 85 = .ok (.getfield 17, 3) := by decide +kernel
theorem dX3_addMember_88 : decode cX3_addMember 88 = .ok (.iconst 5, 1) := by decide +kernel
theorem dX3_addMember_89 : decode cX3_addMember 89 = .ok (.dup2, 1) := by decide +kernel
theorem dX3_addMember_90 : decode cX3_addMember 90 = .ok (.iaload, 1) := by decide +kernel
theorem dX3_addMember_91 : decode cX3_addMember 91 = .ok (.iconst 1, 1) := by decide +kernel
theorem dX3_addMember_92 : decode cX3_addMember 92 = .ok (.iadd, 1) := by decide +kernel
theorem dX3_addMember_93 : decode cX3_addMember 93 = .ok (.iastore, 1) := by decide +kernel
theorem dX3_addMember_94 : decode cX3_addMember 94 = .ok (.return_, 1) := by decide +kernel
theorem dX4_init_0 : decode cX4_init 0 = .ok (.aload_n 0, 1) := by decide +kernel
theorem dX4_init_1 : decode cX4_init 1 = .ok (.invokespecial 3, 3) := by decide +kernel
theorem dX4_init_4 : decode cX4_init 4 = .ok (.aload_n 0, 1) := by decide +kernel
theorem dX4_init_5 : decode cX4_init 5 = .ok (.new 9, 3) := by decide +kernel
theorem dX4_init_8 : decode cX4_init 8 = .ok (.dup, 1) := by decide +kernel
theorem dX4_init_9 : decode cX4_init 9 = .ok (.sipush 160, 3) := by decide +kernel
theorem dX4_init_12 : decode cX4_init 12 = .ok (.invokespecial 11, 3) := by decide +kernel
theorem dX4_init_15 : decode cX4_init 15 = .ok (.putfield 14, 3) := by decide +kernel
theorem dX4_init_18 : decode cX4_init 18 = .ok (.return_, 1) := by decide +kernel
theorem dX4_become_0 : decode cX4_become 0 = .ok (.aload_n 0, 1) := by decide +kernel
theorem dX4_become_1 : decode cX4_become 1 = .ok (.getfield 14, 3) := by decide +kernel
theorem dX4_become_4 : decode cX4_become 4 = .ok (.aload_n 1, 1) := by decide +kernel
theorem dX4_become_5 : decode cX4_become 5 = .ok (.getfield 14, 3) := by decide +kernel
theorem dX4_become_8 : decode cX4_become 8 = .ok (.invokevirtual 20, 3) := by decide +kernel
theorem dX4_become_11 : decode cX4_become 11 = .ok (.aload_n 0, 1) := by decide +kernel
theorem dX4_become_12 : decode cX4_become 12 = .ok (.aload_n 1, 1) := by decide +kernel
theorem dX4_become_13 : decode cX4_become 13 = .ok (.getfield 24, 3) := by decide +kernel
theorem dX4_become_16 : decode cX4_become 16 = .ok (.putfield 24, 3) := by decide +kernel
theorem dX4_become_19 : decode cX4_become 19 = .ok (.aload_n 0, 1) := by decide +kernel
theorem dX4_become_20 : decode cX4_become 20 = .ok (.aload_n 1, 1) := by decide +kernel
theorem dX4_become_21 : decode cX4_become 21 = .ok (.getfield 28, 3) := by decide +kernel
theorem dX4_become_24 : decode cX4_become 24 = .ok (.putfield 28, 3) := by decide +kernel
theorem dX4_become_27 : decode cX4_become 27 = .ok (.aload_n 0, 1) := by decide +kernel
theorem dX4_become_28 : decode cX4_become 28 = .ok (.aload_n 1, 1) := by decide +kernel
theorem dX4_become_29 : decode cX4_become 29 = .ok (.getfield 31, 3) := by decide +kernel
theorem dX4_become_32 : decode cX4_become 32 = .ok (.putfield 31, 3) := by decide +kernel
theorem dX4_become_35 : decode cX4_become 35 = .ok (.aload_n 0, 1) := by decide +kernel
theorem dX4_become_36 : decode cX4_become 36 = .ok (.aload_n 1, 1) := by decide +kernel
theorem dX4_become_37 : decode cX4_become 37 = .ok (.getfield 34, 3) := by decide +kernel
theorem dX4_become_40 : decode cX4_become 40 = .ok (.putfield 34, 3) := by decide +kernel
theorem dX4_become_43 : decode cX4_become 43 = .ok (.return_, 1) := by decide +kernel
theorem dX5_init_0 : decode cX5_init 0 = .ok (.aload_n 0, 1) := by decide +kernel
theorem dX5_init_1 : decode cX5_init 1 = .ok (.invokespecial 3, 3) := by decide +kernel
theorem dX5_init_4 : decode cX5_init 4 = .ok (.aload_n 0, 1) := by decide +kernel
theorem dX5_init_5 : decode cX5_init 5 = .ok (.bipush 13, 2) := by decide +kernel
theorem dX5_init_7 : decode cX5_init 7 = .ok (.newarray .int, 2) := by decide +kernel
theorem dX5_init_9 : decode cX5_init 9 = .ok (.putfield 9, 3) := by decide +kernel
theorem dX5_init_12 : decode cX5_init 12 = .ok (.return_, 1) := by decide +kernel
theorem dX5_distance_0 : decode cX5_distance 0 = .ok (.aload_n 2, 1) := by decide +kernel
theorem dX5_distance_1 : decode cX5_distance 1 = .ok (.getfield 15, 3) := by decide +kernel
theorem dX5_distance_4 : decode cX5_distance 4 = .ok (.bipush 12, 2) := by decide +kernel
theorem dX5_distance_6 : decode cX5_distance 6 = .ok (.invokestatic 21, 3) := by decide +kernel
theorem dX5_distance_9 : decode cX5_distance 9 = .ok (.istore_n 3, 1) := by decide +kernel
theorem dX5_distance_10 : decode cX5_distance 10 = .ok (.iconst 0, 1) := by decide +kernel
theorem dX5_distance_11 : decode cX5_distance 11 = .ok (.istore 4, 2) := by decide +kernel
theorem dX5_distance_13 : decode cX5_distance 13 = .ok (.iload 4, 2) := by decide +kernel
theorem dX5_distance_15 : decode cX5_distance 15 = .ok (.iload_n 3, 1) := by decide +kernel
theorem dX5_distance_16 : decode cX5_distance 16 = .ok (.if_icmp .gt 18, 3) := by decide +kernel
theorem dX5_distance_19 : decode cX5_distance 19 = .ok (.aload_n 0, 1) := by decide +kernel
theorem dX5_distance_20 : decode cX5_distance 20 = .ok (.getfield 9, 3) := by decide +kernel
theorem dX5_distance_23 : decode cX5_distance 23 = .ok (.iload 4, 2) := by decide +kernel
theorem dX5_distance_25 : decode cX5_distance 25 = .ok (.iload 4, 2) := by decide +kernel
theorem dX5_distance_27 : decode cX5_distance 27 = .ok (.iastore, 1) := by decide +kernel
theorem dX5_distance_28 : decode cX5_distance 28 = .ok (.iinc 4 1, 3) := by decide +kernel
theorem dX5_distance_31 : decode cX5_distance 31 = .ok (.goto (-18), 3) := by decide +kernel
theorem dX5_distance_34 : decode cX5_distance 34 = .ok (.iconst 0, 1) := by decide +kernel
theorem dX5_distance_35 : decode cX5_distance 35 = .ok (.istore 4, 2) := by decide +kernel
theorem dX5_distance_37 : decode cX5_distance 37 = .ok (.iload 4, 2) := by decide +kernel
theorem dX5_distance_39 : decode cX5_distance 39 = .ok (.aload_n 1, 1) := by decide +kernel
theorem dX5_distance_40 : decode cX5_distance 40 = .ok (.getfield 15, 3) := by decide +kernel
theorem dX5_distance_43 : decode cX5_distance 43 = .ok (.if_icmp .ge 21, 3) := by decide +kernel
theorem dX5_distance_46 : decode cX5_distance 46 = .ok (.aload_n 0, 1) := by decide +kernel
theorem dX5_distance_47 : decode cX5_distance 47 = .ok (.aload_n 1, 1) := by decide +kernel
theorem dX5_distance_48 : decode cX5_distance 48 = .ok (.iload 4, 2) := by decide +kernel
theorem dX5_distance_50 : decode cX5_distance 50 = .ok (.invokevirtual 27, 3) := by decide +kernel
theorem dX5_distance_53 : decode cX5_distance 53 = .ok (.aload_n 2, 1) := by decide +kernel
theorem dX5_distance_54 : decode cX5_distance 54 = .ok (.iload_n 3, 1) := by decide +kernel
theorem dX5_distance_55 : decode cX5_distance 55 = .ok (.invokevirtual 31, 3) := by decide +kernel
theorem dX5_distance_58 : decode cX5_distance 58 = .ok (.iinc 4 1, 3) := by decide +kernel
theorem dX5_distance_61 : decode cX5_distance 61 = .ok (.goto (-24), 3) := by decide +kernel
theorem dX5_distance_64 : decode cX5_distance 64 = .ok (.iload_n 3, 1) := by decide +kernel
theorem dX5_distance_65 : decode cX5_distance 65 = .ok (.ifCond .lt 12, 3) := by decide +kernel
theorem dX5_distance_68 : decode cX5_distance 68 = .ok (.aload_n 0, 1) := by decide +kernel
theorem dX5_distance_69 : decode cX5_distance 69 = .ok (.getfield 9, 3) := by decide +kernel
theorem dX5_distance_72 : decode cX5_distance 72 = .ok (.iload_n 3, 1) := by decide +kernel
theorem dX5_distance_73 : decode cX5_distance 73 = .ok (.iaload, 1) := by decide +kernel
theorem dX5_distance_74 : decode cX5_distance 74 = .ok (.goto 4, 3) := by decide +kernel
theorem dX5_distance_77 : decode cX5_distance 77 = .ok (.iconst 0, 1) := by decide +kernel
theorem dX5_distance_78 : decode cX5_distance 78 = .ok (.ireturn, 1) := by decide +kernel
theorem dX5_readSign_0 : decode cX5_readSign 0 = .ok (.aload_n 0, 1) := by decide +kernel
theorem dX5_readSign_1 : decode cX5_readSign 1 = .ok (.getfield 9, 3) := by decide +kernel
theorem dX5_readSign_4 : decode cX5_readSign 4 = .ok (.iconst 0, 1) := by decide +kernel
theorem dX5_readSign_5 : decode cX5_readSign 5 = .ok (.iaload, 1) := by decide +kernel
theorem dX5_readSign_6 : decode cX5_readSign 6 = .ok (.istore 4, 2) := by decide +kernel
theorem dX5_readSign_8 : decode cX5_readSign 8 = .ok (.aload_n 0, 1) := by decide +kernel
theorem dX5_readSign_9 : decode cX5_readSign 9 = .ok (.getfield 9, 3) := by decide +kernel
theorem dX5_readSign_12 : decode cX5_readSign 12 = .ok (.iconst 0, 1) := by decide +kernel
theorem dX5_readSign_13 : decode cX5_readSign 13 = .ok (.dup2, 1) := by decide +kernel
theorem dX5_readSign_14 : decode cX5_readSign 14 = .ok (.iaload, 1) := by decide +kernel
theorem dX5_readSign_15 : decode cX5_readSign 15 = .ok (.iconst 1, 1) := by decide +kernel
theorem dX5_readSign_16 : decode cX5_readSign 16 = .ok (.iadd, 1) := by decide +kernel
theorem dX5_readSign_17 : decode cX5_readSign 17 = .ok (.iastore, 1) := by decide +kernel
theorem dX5_readSign_18 : decode cX5_readSign 18 = .ok (.iconst 1, 1) := by decide +kernel
theorem dX5_readSign_19 : decode cX5_readSign 19 = .ok (.istore 5, 2) := by decide +kernel
theorem dX5_readSign_21 : decode cX5_readSign 21 = .ok (.iload 5, 2) := by decide +kernel
theorem dX5_readSign_23 : decode cX5_readSign 23 = .ok (.iload_n 3, 1) := by decide +kernel
theorem dX5_readSign_24 : decode cX5_readSign 24 = .ok (.if_icmp .gt 73, 3) := by decide +kernel
theorem dX5_readSign_27 : decode cX5_readSign 27 = .ok (.iload 4, 2) := by decide +kernel
theorem dX5_readSign_29 : decode cX5_readSign 29 = .ok (.aload_n 2, 1) := by decide +kernel
theorem dX5_readSign_30 : decode cX5_readSign 30 = .ok (.iload 5, 2) := by decide +kernel
theorem dX5_readSign_32 : decode cX5_readSign 32 = .ok (.iconst 1, 1) := by decide +kernel
theorem dX5_readSign_33 : decode cX5_readSign 33 = .ok (.isub, 1) := by decide +kernel
theorem dX5_readSign_34 : decode cX5_readSign 34 = .ok (.invokevirtual 27, 3) := by decide +kernel
theorem dX5_readSign_37 : decode cX5_readSign 37 = .ok (.iload_n 1, 1) := by decide +kernel
theorem dX5_readSign_38 : decode cX5_readSign 38 = .ok (.if_icmp .ne 7, 3) := by decide +kernel
theorem dX5_readSign_41 : decode cX5_readSign 41 = .ok (.iconst 0, 1) := by decide +kernel
theorem dX5_readSign_42 : decode cX5_readSign 42 = .ok (.goto 4, 3) := by decide +kernel
theorem dX5_readSign_45 : decode cX5_readSign 45 = .ok (.iconst 1, 1) := by decide +kernel
theorem dX5_readSign_46 : decode cX5_readSign 46 = .ok (.iadd, 1) := by decide +kernel
theorem dX5_readSign_47 : decode cX5_readSign 47 = .ok (.istore 6, 2) := by decide +kernel
theorem dX5_readSign_49 : decode cX5_readSign 49 = .ok (.aload_n 0, 1) := by decide +kernel
theorem dX5_readSign_50 : decode cX5_readSign 50 = .ok (.getfield 9, 3) := by decide +kernel
theorem dX5_readSign_53 : decode cX5_readSign 53 = .ok (.iload 5, 2) := by decide +kernel
theorem dX5_readSign_55 : decode cX5_readSign 55 = .ok (.iaload, 1) := by decide +kernel
theorem dX5_readSign_56 : decode cX5_readSign 56 = .ok (.istore 4, 2) := by decide +kernel
theorem dX5_readSign_58 : decode cX5_readSign 58 = .ok (.aload_n 0, 1) := by decide +kernel
theorem dX5_readSign_59 : decode cX5_readSign 59 = .ok (.getfield 9, 3) := by decide +kernel
theorem dX5_readSign_62 : decode cX5_readSign 62 = .ok (.iload 5, 2) := by decide +kernel
theorem dX5_readSign_64 : decode cX5_readSign 64 = .ok (.iload 6, 2) := by decide +kernel
theorem dX5_readSign_66 : decode cX5_readSign 66 = .ok (.iconst 1, 1) := by decide +kernel
theorem dX5_readSign_67 : decode cX5_readSign 67 = .ok (.aload_n 0, 1) := by decide +kernel
theorem dX5_readSign_68 : decode cX5_readSign 68 = .ok (.getfield 9, 3) := by decide +kernel
theorem dX5_readSign_71 : decode cX5_readSign 71 = .ok (.iload 5, 2) := by decide +kernel
theorem dX5_readSign_73 : decode cX5_readSign 73 = .ok (.iaload, 1) := by decide +kernel
theorem dX5_readSign_74 : decode cX5_readSign 74 = .ok (.aload_n 0, 1) := by decide +kernel
theorem dX5_readSign_75 : decode cX5_readSign 75 = .ok (.getfield 9, 3) := by decide +kernel
theorem dX5_readSign_78 : decode cX5_readSign 78 = .ok (.iload 5, 2) := by decide +kernel
theorem dX5_readSign_80 : decode cX5_readSign 80 = .ok (.iconst 1, 1) := by decide +kernel
theorem dX5_readSign_81 : decode cX5_readSign 81 = .ok (.isub, 1) := by decide +kernel
theorem dX5_readSign_82 : decode cX5_readSign 82 = .ok (.iaload, 1) := by decide +kernel
theorem dX5_readSign_83 : decode cX5_readSign 83 = .ok (.invokestatic 21, 3) := by decide +kernel
theorem dX5_readSign_86 : decode cX5_readSign 86 = .ok (.iadd, 1) := by decide +kernel
theorem dX5_readSign_87 : decode cX5_readSign 87 = .ok (.invokestatic 21, 3) := by decide +kernel
theorem dX5_readSign_90 : decode cX5_readSign 90 = .ok (.iastore, 1) := by decide +kernel
theorem dX5_readSign_91 : decode cX5_readSign 91 = .ok (.iinc 5 1, 3) := by decide +kernel
theorem dX5_readSign_94 : decode cX5_readSign 94 = .ok (.goto (-73), 3) := by decide +kernel
theorem dX5_readSign_97 : decode cX5_readSign 97 = .ok (.return_, 1) := by decide +kernel
theorem dX5_wordLikeness_0 : decode cX5_wordLikeness 0 = .ok (.aload_n 1, 1) := by decide +kernel
theorem dX5_wordLikeness_1 : decode cX5_wordLikeness 1 = .ok (.getfield 15, 3) := by decide +kernel
theorem dX5_wordLikeness_4 : decode cX5_wordLikeness 4 = .ok (.aload_n 2, 1) := by decide +kernel
theorem dX5_wordLikeness_5 : decode cX5_wordLikeness 5 = .ok (.getfield 15, 3) := by decide +kernel
theorem dX5_wordLikeness_8 : decode cX5_wordLikeness 8 = .ok (.invokestatic 35, 3) := by decide +kernel
theorem dX5_wordLikeness_11 : decode cX5_wordLikeness 11 = .ok (.istore_n 3, 1) := by decide +kernel
theorem dX5_wordLikeness_12 : decode cX5_wordLikeness 12 = .ok (.iload_n 3, 1) := by decide +kernel
theorem dX5_wordLikeness_13 : decode cX5_wordLikeness 13 = .ok (.ifCond .gt 5, 3) := by decide +kernel
theorem dX5_wordLikeness_16 : decode cX5_wordLikeness 16 = .ok (.fconst 1, 1) := by decide +kernel
theorem dX5_wordLikeness_17 : decode cX5_wordLikeness 17 = .ok (.freturn, 1) := by decide +kernel
theorem dX5_wordLikeness_18 : decode cX5_wordLikeness 18 = .ok (.fconst 1, 1) := by decide +kernel
theorem dX5_wordLikeness_19 : decode cX5_wordLikeness 19 = .ok (.aload_n 0, 1) := by decide +kernel
theorem dX5_wordLikeness_20 : decode cX5_wordLikeness 20 = .ok (.aload_n 1, 1) := by decide +kernel
theorem dX5_wordLikeness_21 : decode cX5_wordLikeness 21 = .ok (.aload_n 2, 1) := by decide +kernel
theorem dX5_wordLikeness_22 : decode cX5_wordLikeness 22 = .ok (.invokevirtual 38, 3) := by decide +kernel
theorem dX5_wordLikeness_25 : decode cX5_wordLikeness 25 = .ok (.i2f, 1) := by decide +kernel
theorem dX5_wordLikeness_26 : decode cX5_wordLikeness 26 = .ok (.iload_n 3, 1) := by decide +kernel
theorem dX5_wordLikeness_27 : decode cX5_wordLikeness 27 = .ok (.i2f, 1) := by decide +kernel
theorem dX5_wordLikeness_28 : decode cX5_wordLikeness 28 = .ok (.fdiv, 1) := by decide +kernel
theorem dX5_wordLikeness_29 : decode cX5_wordLikeness 29 = .ok (.fsub, 1) := by decide +kernel
theorem dX5_wordLikeness_30 : decode cX5_wordLikeness 30 = .ok (.freturn, 1) := by decide +kernel
theorem dX5_likenessOf_0 : decode cX5_likenessOf 0 = .ok (.aload_n 1, 1) := by decide +kernel
theorem dX5_likenessOf_1 : decode cX5_likenessOf 1 = .ok (.getfield 42, 3) := by decide +kernel
theorem dX5_likenessOf_4 : decode cX5_likenessOf 4 = .ok (.aload_n 2, 1) := by decide +kernel
theorem dX5_likenessOf_5 : decode cX5_likenessOf 5 = .ok (.getfield 42, 3) := by decide +kernel
theorem dX5_likenessOf_8 : decode cX5_likenessOf 8 = .ok (.if_icmp .ne 7, 3) := by decide +kernel
theorem dX5_likenessOf_11 : decode cX5_likenessOf 11 = .ok (.fconst 1, 1) := by decide +kernel
theorem dX5_likenessOf_12 : decode cX5_likenessOf 12 = .ok (.goto 4, 3) := by decide +kernel
theorem dX5_likenessOf_15 : decode cX5_likenessOf 15 = .ok (.fconst 0, 1) := by decide +kernel
theorem dX5_likenessOf_16 : decode cX5_likenessOf 16 = .ok (.fstore_n 3, 1) := by decide +kernel
theorem dX5_likenessOf_17 : decode cX5_likenessOf 17 = .ok (.aload_n 1, 1) := by decide +kernel
theorem dX5_likenessOf_18 : decode cX5_likenessOf 18 = .ok (.getfield 47, 3) := by decide +kernel
theorem dX5_likenessOf_21 : decode cX5_likenessOf 21 = .ok (.aload_n 2, 1) := by decide +kernel
theorem dX5_likenessOf_22 : decode cX5_likenessOf 22 = .ok (.getfield 47, 3) := by decide +kernel
theorem dX5_likenessOf_25 : decode cX5_likenessOf 25 = .ok (.if_icmp .ne 7, 3) := by decide +kernel
theorem dX5_likenessOf_28 : decode cX5_likenessOf 28 = .ok (.fconst 1, 1) := by decide +kernel
theorem dX5_likenessOf_29 : decode cX5_likenessOf 29 = .ok (.goto 4, 3) := by decide +kernel
theorem dX5_likenessOf_32 : decode cX5_likenessOf 32 = .ok (.fconst 0, 1) := by decide +kernel
theorem dX5_likenessOf_33 : decode cX5_likenessOf 33 = .ok (.fstore 4, 2) := by decide +kernel
theorem dX5_likenessOf_35 : decode cX5_likenessOf 35 = .ok (.ldc 50, 2) := by decide +kernel
theorem dX5_likenessOf_37 : decode cX5_likenessOf 37 = .ok (.aload_n 0, 1) := by decide +kernel
theorem dX5_likenessOf_38 : decode cX5_likenessOf 38 = .ok (.aload_n 1, 1) := by decide +kernel
theorem dX5_likenessOf_39 : decode cX5_likenessOf 39 = .ok (.getfield 51, 3) := by decide +kernel
theorem dX5_likenessOf_42 : decode cX5_likenessOf 42 = .ok (.aload_n 2, 1) := by decide +kernel
theorem dX5_likenessOf_43 : decode cX5_likenessOf 43 = .ok (.getfield 51, 3) := by decide +kernel
theorem dX5_likenessOf_46 : decode cX5_likenessOf 46 = .ok (.invokevirtual 55, 3) := by decide +kernel
theorem dX5_likenessOf_49 : decode cX5_likenessOf 49 = .ok (.fmul, 1) := by decide +kernel
theorem dX5_likenessOf_50 : decode cX5_likenessOf 50 = .ok (.fstore 5, 2) := by decide +kernel
theorem dX5_likenessOf_52 : decode cX5_likenessOf 52 = .ok (.fload 5, 2) := by decide +kernel
theorem dX5_likenessOf_54 : decode cX5_likenessOf 54 = .ok (.ldc 59, 2) := by decide +kernel
theorem dX5_likenessOf_56 : decode cX5_likenessOf 56 = .ok (.aload_n 0, 1) := by decide +kernel
theorem dX5_likenessOf_57 : decode cX5_likenessOf 57 = .ok (.aload_n 1, 1) := by decide +kernel
theorem dX5_likenessOf_58 : decode cX5_likenessOf 58 = .ok (.getfield 60, 3) := by decide +kernel
theorem dX5_likenessOf_61 : decode cX5_likenessOf 61 = .ok (.aload_n 2, 1) := by decide +kernel
theorem dX5_likenessOf_62 : decode cX5_likenessOf 62 = .ok (.getfield 60, 3) := by decide +kernel
theorem dX5_likenessOf_65 : decode cX5_likenessOf 65 = .ok (.invokevirtual 55, 3) := by decide +kernel
theorem dX5_likenessOf_68 : decode cX5_likenessOf 68 = .ok (.fmul, 1) := by decide +kernel
theorem dX5_likenessOf_69 : decode cX5_likenessOf 69 = .ok (.fadd, 1) := by decide +kernel
theorem dX5_likenessOf_70 : decode cX5_likenessOf 70 = .ok (.fstore 5, 2) := by decide +kernel
theorem dX5_likenessOf_72 : decode cX5_likenessOf 72 = .ok (.fload 5, 2) := by decide +kernel
theorem dX5_likenessOf_74 : decode cX5_likenessOf 74 = .ok (.ldc 63, 2) := by decide +kernel
theorem dX5_likenessOf_76 : decode cX5_likenessOf 76 = .ok (.fload_n 3, 1) := by decide +kernel
theorem dX5_likenessOf_77 : decode cX5_likenessOf 77 = .ok (.fmul, 1) := by decide +kernel
theorem dX5_likenessOf_78 : decode cX5_likenessOf 78 = .ok (.fadd, 1) := by decide +kernel
theorem dX5_likenessOf_79 : decode cX5_likenessOf 79 = .ok (.fstore 5, 2) := by decide +kernel
theorem dX5_likenessOf_81 : decode cX5_likenessOf 81 = .ok (.fload 5, 2) := by decide +kernel
theorem dX5_likenessOf_83 : decode cX5_likenessOf 83 = .ok (.ldc 64, 2) := by decide +kernel
theorem dX5_likenessOf_85 : decode cX5_likenessOf 85 = .ok (.fload 4, 2) := by decide +kernel
theorem dX5_likenessOf_87 : decode cX5_likenessOf 87 = .ok (.fmul, 1) := by decide +kernel
theorem dX5_likenessOf_88 : decode cX5_likenessOf 88 = .ok (.fadd, 1) := by decide +kernel
theorem dX5_likenessOf_89 : decode cX5_likenessOf 89 = .ok (.freturn, 1) := by decide +kernel
theorem dX6_init_0 : decode cX6_init 0 = .ok (.aload_n 0, 1) := by decide +kernel
theorem dX6_init_1 : decode cX6_init 1 = .ok (.invokespecial 3, 3) := by decide +kernel
theorem dX6_init_4 : decode cX6_init 4 = .ok (.aload_n 0, 1) := by decide +kernel
theorem dX6_init_5 : decode cX6_init 5 = .ok (.new 9, 3) := by decide +kernel
theorem dX6_init_8 : decode cX6_init 8 = .ok (.dup, 1) := by decide +kernel
theorem dX6_init_9 : decode cX6_init 9 = .ok (.bipush 96, 2) := by decide +kernel
theorem dX6_init_11 : decode cX6_init 11 = .ok (.invokespecial 11, 3) := by decide +kernel
theorem dX6_init_14 : decode cX6_init 14 = .ok (.putfield 14, 3) := by decide +kernel
theorem dX6_init_17 : decode cX6_init 17 = .ok (.return_, 1) := by decide +kernel
theorem dX6_clear_0 : decode cX6_clear 0 = .ok (.aload_n 0, 1) := by decide +kernel
theorem dX6_clear_1 : decode cX6_clear 1 = .ok (.getfield 14, 3) := by decide +kernel
theorem dX6_clear_4 : decode cX6_clear 4 = .ok (.iconst 0, 1) := by decide +kernel
theorem dX6_clear_5 : decode cX6_clear 5 = .ok (.putfield 20, 3) := by decide +kernel
theorem dX6_clear_8 : decode cX6_clear 8 = .ok (.return_, 1) := by decide +kernel
theorem dX6_here_0 : decode cX6_here 0 = .ok (.aload_n 0, 1) := by decide +kernel
theorem dX6_here_1 : decode cX6_here 1 = .ok (.getfield 14, 3) := by decide +kernel
theorem dX6_here_4 : decode cX6_here 4 = .ok (.aload_n 0, 1) := by decide +kernel
theorem dX6_here_5 : decode cX6_here 5 = .ok (.getfield 24, 3) := by decide +kernel
theorem dX6_here_8 : decode cX6_here 8 = .ok (.invokevirtual 27, 3) := by decide +kernel
theorem dX6_here_11 : decode cX6_here 11 = .ok (.ireturn, 1) := by decide +kernel
theorem dX6_atEnd_0 : decode cX6_atEnd 0 = .ok (.aload_n 0, 1) := by decide +kernel
theorem dX6_atEnd_1 : decode cX6_atEnd 1 = .ok (.getfield 24, 3) := by decide +kernel
theorem dX6_atEnd_4 : decode cX6_atEnd 4 = .ok (.aload_n 0, 1) := by decide +kernel
theorem dX6_atEnd_5 : decode cX6_atEnd 5 = .ok (.getfield 14, 3) := by decide +kernel
theorem dX6_atEnd_8 : decode cX6_atEnd 8 = .ok (.getfield 20, 3) := by decide +kernel
theorem dX6_atEnd_11 : decode cX6_atEnd 11 = .ok (.if_icmp .lt 7, 3) := by decide +kernel
theorem dX6_atEnd_14 : decode cX6_atEnd 14 = .ok (.iconst 1, 1) := by decide +kernel
theorem dX6_atEnd_15 : decode cX6_atEnd 15 = .ok (.goto 4, 3) := by decide +kernel
theorem dX6_atEnd_18 : decode cX6_atEnd 18 = .ok (.iconst 0, 1) := by decide +kernel
theorem dX6_atEnd_19 : decode cX6_atEnd 19 = .ok (.ireturn, 1) := by decide +kernel
theorem dX6_takeIf_0 : decode cX6_takeIf 0 = .ok (.iload_n 1, 1) := by decide +kernel
theorem dX6_takeIf_1 : decode cX6_takeIf 1 = .ok (.ifCond .eq 13, 3) := by decide +kernel
theorem dX6_takeIf_4 : decode cX6_takeIf 4 = .ok (.aload_n 0, 1) := by decide +kernel
theorem dX6_takeIf_5 : decode cX6_takeIf 5 = .ok (.dup, 1) := by decide +kernel
theorem dX6_takeIf_6 : decode cX6_takeIf 6 = .ok (.getfield 24, 3) := by decide +kernel
theorem dX6_takeIf_9 : decode cX6_takeIf 9 = .ok (.iconst 1, 1) := by decide +kernel
theorem dX6_takeIf_10 : decode cX6_takeIf 10 = .ok (.iadd, 1) := by decide +kernel
theorem dX6_takeIf_11 : decode cX6_takeIf 11 = .ok (.putfield 24, 3) := by decide +kernel
theorem dX6_takeIf_14 : decode cX6_takeIf 14 = .ok (.iload_n 1, 1) := by decide +kernel
theorem dX6_takeIf_15 : decode cX6_takeIf 15 = .ok (.ireturn, 1) := by decide +kernel
theorem dX6_take_0 : decode cX6_take 0 = .ok (.aload_n 0, 1) := by decide +kernel
theorem dX6_take_1 : decode cX6_take 1 = .ok (.aload_n 0, 1) := by decide +kernel
theorem dX6_take_2 : decode cX6_take 2 = .ok (.invokevirtual 31, 3) := by decide +kernel
theorem dX6_take_5 : decode cX6_take 5 = .ok (.ifCond .ne 15, 3) := by decide +kernel
theorem dX6_take_8 : decode cX6_take 8 = .ok (.aload_n 0, 1) := by decide +kernel
theorem dX6_take_9 : decode cX6_take 9 = .ok (.invokevirtual 35, 3) := by decide +kernel
theorem dX6_take_12 : decode cX6_take 12 = .ok (.iload_n 1, 1) := by decide +kernel
theorem dX6_take_13 : decode cX6_take 13 = .ok (.if_icmp .ne 7, 3) := by decide +kernel
theorem dX6_take_16 : decode cX6_take 16 = .ok (.iconst 1, 1) := by decide +kernel
theorem dX6_take_17 : decode cX6_take 17 = .ok (.goto 4, 3) := by decide +kernel
theorem dX6_take_20 : decode cX6_take 20 = .ok (.iconst 0, 1) := by decide +kernel
theorem dX6_take_21 : decode cX6_take 21 = .ok (.invokevirtual 39, 3) := by decide +kernel
theorem dX6_take_24 : decode cX6_take 24 = .ok (.ireturn, 1) := by decide +kernel
theorem dX6_takeDigit_0 : decode cX6_takeDigit 0 = .ok (.aload_n 0, 1) := by decide +kernel
theorem dX6_takeDigit_1 : decode cX6_takeDigit 1 = .ok (.aload_n 0, 1) := by decide +kernel
theorem dX6_takeDigit_2 : decode cX6_takeDigit 2 = .ok (.invokevirtual 35, 3) := by decide +kernel
theorem dX6_takeDigit_5 : decode cX6_takeDigit 5 = .ok (.iload_n 1, 1) := by decide +kernel
theorem dX6_takeDigit_6 : decode cX6_takeDigit 6 = .ok (.invokestatic 43, 3) := by decide +kernel
theorem dX6_takeDigit_9 : decode cX6_takeDigit 9 = .ok (.invokevirtual 39, 3) := by decide +kernel
theorem dX6_takeDigit_12 : decode cX6_takeDigit 12 = .ok (.ireturn, 1) := by decide +kernel
theorem dX6_takeField_0 : decode cX6_takeField 0 = .ok (.aload_n 0, 1) := by decide +kernel
theorem dX6_takeField_1 : decode cX6_takeField 1 = .ok (.ldc 47, 2) := by decide +kernel
theorem dX6_takeField_3 : decode cX6_takeField 3 = .ok (.aload_n 0, 1) := by decide +kernel
theorem dX6_takeField_4 : decode cX6_takeField 4 = .ok (.invokevirtual 35, 3) := by decide +kernel
theorem dX6_takeField_7 : decode cX6_takeField 7 = .ok (.invokevirtual 49, 3) := by decide +kernel
theorem dX6_takeField_10 : decode cX6_takeField 10 = .ok (.ifCond .lt 7, 3) := by decide +kernel
theorem dX6_takeField_13 : decode cX6_takeField 13 = .ok (.iconst 1, 1) := by decide +kernel
theorem dX6_takeField_14 : decode cX6_takeField 14 = .ok (.goto 4, 3) := by decide +kernel
theorem dX6_takeField_17 : decode cX6_takeField 17 = .ok (.iconst 0, 1) := by decide +kernel
theorem dX6_takeField_18 : decode cX6_takeField 18 = .ok (.invokevirtual 39, 3) := by decide +kernel
theorem dX6_takeField_21 : decode cX6_takeField 21 = .ok (.ireturn, 1) := by decide +kernel
theorem dX6_takeRelation_0 : decode cX6_takeRelation 0 = .ok (.aload_n 0, 1) := by decide +kernel
theorem dX6_takeRelation_1 : decode cX6_takeRelation 1 = .ok (.aload_n 0, 1) := by decide +kernel
theorem dX6_takeRelation_2 : decode cX6_takeRelation 2 = .ok (.invokevirtual 35, 3) := by decide +kernel
theorem dX6_takeRelation_5 : decode cX6_takeRelation 5 = .ok (.bipush 61, 2) := by decide +kernel
theorem dX6_takeRelation_7 : decode cX6_takeRelation 7 = .ok (.if_icmp .eq 21, 3) := by decide +kernel
theorem dX6_takeRelation_10 : decode cX6_takeRelation 10 = .ok (.aload_n 0, 1) := by decide +kernel
theorem dX6_takeRelation_11 : decode cX6_takeRelation 11 = .ok (.invokevirtual 35, 3) := by decide +kernel
theorem dX6_takeRelation_14 : decode cX6_takeRelation 14 = .ok (.bipush 60, 2) := by decide +kernel
theorem dX6_takeRelation_16 : decode cX6_takeRelation 16 = .ok (.if_icmp .eq 12, 3) := by decide +kernel
theorem dX6_takeRelation_19 : decode cX6_takeRelation 19 = .ok (.aload_n 0, 1) := by decide +kernel
theorem dX6_takeRelation_20 : decode cX6_takeRelation 20 = .ok (.invokevirtual 35, 3) := by decide +kernel
theorem dX6_takeRelation_23 : decode cX6_takeRelation 23 = .ok (.bipush 62, 2) := by decide +kernel
theorem dX6_takeRelation_25 : decode cX6_takeRelation 25 = .ok (.if_icmp .ne 7, 3) := by decide +kernel
theorem dX6_takeRelation_28 : decode cX6_takeRelation 28 = .ok (.iconst 1, 1) := by decide +kernel
theorem dX6_takeRelation_29 : decode cX6_takeRelation 29 = .ok (.goto 4, 3) := by decide +kernel
theorem dX6_takeRelation_32 : decode cX6_takeRelation 32 = .ok (.iconst 0, 1) := by decide +kernel
theorem dX6_takeRelation_33 : decode cX6_takeRelation 33 = .ok (.invokevirtual 39, 3) := by decide +kernel
theorem dX6_takeRelation_36 : decode cX6_takeRelation 36 = .ok (.ireturn, 1) := by decide +kernel
theorem dX6_takeNumber_0 : decode cX6_takeNumber 0 = .ok (.iconst (-1), 1) := by decide +kernel
theorem dX6_takeNumber_1 : decode cX6_takeNumber 1 = .ok (.istore_n 3, 1) := by decide +kernel
theorem dX6_takeNumber_2 : decode cX6_takeNumber 2 = .ok (.iconst 0, 1) := by decide +kernel
theorem dX6_takeNumber_3 : decode cX6_takeNumber 3 = .ok (.istore 4, 2) := by decide +kernel
theorem dX6_takeNumber_5 : decode cX6_takeNumber 5 = .ok (.iload 4, 2) := by decide +kernel
theorem dX6_takeNumber_7 : decode cX6_takeNumber 7 = .ok (.iload_n 1, 1) := by decide +kernel
theorem dX6_takeNumber_8 : decode cX6_takeNumber 8 = .ok (.if_icmp .ge 52, 3) := by decide +kernel
theorem dX6_takeNumber_11 : decode cX6_takeNumber 11 = .ok (.aload_n 0, 1) := by decide +kernel
theorem dX6_takeNumber_12 : decode cX6_takeNumber 12 = .ok (.invokevirtual 35, 3) := by decide +kernel
theorem dX6_takeNumber_15 : decode cX6_takeNumber 15 = .ok (.iload_n 2, 1) := by decide +kernel
theorem dX6_takeNumber_16 : decode cX6_takeNumber 16 = .ok (.invokestatic 43, 3) := by decide +kernel
theorem dX6_takeNumber_19 : decode cX6_takeNumber 19 = .ok (.ifCond .eq 41, 3) := by decide +kernel
theorem dX6_takeNumber_22 : decode cX6_takeNumber 22 = .ok (.iload_n 3, 1) := by decide +kernel
theorem dX6_takeNumber_23 : decode cX6_takeNumber 23 = .ok (.iconst (-1), 1) := by decide +kernel
theorem dX6_takeNumber_24 : decode cX6_takeNumber 24 = .ok (.if_icmp .ne 7, 3) := by decide +kernel
theorem dX6_takeNumber_27 : decode cX6_takeNumber 27 = .ok (.iconst 0, 1) := by decide +kernel
theorem dX6_takeNumber_28 : decode cX6_takeNumber 28 = .ok (.goto 7, 3) := by decide +kernel
theorem dX6_takeNumber_31 : decode cX6_takeNumber 31 = .ok (.iload_n 3, 1) := by decide +kernel
theorem dX6_takeNumber_32 : decode cX6_takeNumber 32 = .ok (.bipush 10, 2) := by decide +kernel
theorem dX6_takeNumber_34 : decode cX6_takeNumber 34 = .ok (.imul, 1) := by decide +kernel
theorem dX6_takeNumber_35 : decode cX6_takeNumber 35 = .ok (.aload_n 0, 1) := by decide +kernel
theorem dX6_takeNumber_36 : decode cX6_takeNumber 36 = .ok (.invokevirtual 35, 3) := by decide +kernel
theorem dX6_takeNumber_39 : decode cX6_takeNumber 39 = .ok (.bipush 48, 2) := by decide +kernel
theorem dX6_takeNumber_41 : decode cX6_takeNumber 41 = .ok (.isub, 1) := by decide +kernel
theorem dX6_takeNumber_42 : decode cX6_takeNumber 42 = .ok (.iadd, 1) := by decide +kernel
theorem dX6_takeNumber_43 : decode cX6_takeNumber 43 = .ok (.istore_n 3, 1) := by decide +kernel
theorem dX6_takeNumber_44 : decode cX6_takeNumber 44 = .ok (.aload_n 0, 1) := by decide +kernel
theorem dX6_takeNumber_45 : decode cX6_takeNumber 45 = .ok (.dup, 1) := by decide +kernel
theorem dX6_takeNumber_46 : decode cX6_takeNumber 46 = .ok (.getfield 24, 3) := by decide +kernel
theorem dX6_takeNumber_49 : decode cX6_takeNumber 49 = .ok (.iconst 1, 1) := by decide +kernel
theorem dX6_takeNumber_50 : decode cX6_takeNumber 50 = .ok (.iadd, 1) := by decide +kernel
theorem dX6_takeNumber_51 : decode cX6_takeNumber 51 = .ok (.putfield 24, 3) := by decide +kernel
theorem dX6_takeNumber_54 : decode cX6_takeNumber 54 = .ok (.iinc 4 1, 3) := by decide +kernel
theorem dX6_takeNumber_57 : decode cX6_takeNumber 57 = .ok (.goto (-52), 3) := by decide +kernel
theorem dX6_takeNumber_60 : decode cX6_takeNumber 60 = .ok (.iload_n 3, 1) := by decide +kernel
theorem dX6_takeNumber_61 : decode cX6_takeNumber 61 = .ok (.ireturn, 1) := by decide +kernel
theorem dX6_takeWord_0 : decode cX6_takeWord 0 = .ok (.aload_n 1, 1) := by decide +kernel
theorem dX6_takeWord_1 : decode cX6_takeWord 1 = .ok (.iconst 0, 1) := by decide +kernel
theorem dX6_takeWord_2 : decode cX6_takeWord 2 = .ok (.putfield 20, 3) := by decide +kernel
theorem dX6_takeWord_5 : decode cX6_takeWord 5 = .ok (.iconst 0, 1) := by decide +kernel
theorem dX6_takeWord_6 : decode cX6_takeWord 6 = .ok (.istore_n 2, 1) := by decide +kernel
theorem dX6_takeWord_7 : decode cX6_takeWord 7 = .ok (.iload_n 2, 1) := by decide +kernel
theorem dX6_takeWord_8 : decode cX6_takeWord 8 = .ok (.bipush 12, 2) := by decide +kernel
theorem dX6_takeWord_10 : decode cX6_takeWord 10 = .ok (.if_icmp .ge 43, 3) := by decide +kernel
theorem dX6_takeWord_13 : decode cX6_takeWord 13 = .ok (.aload_n 0, 1) := by decide +kernel
theorem dX6_takeWord_14 : decode cX6_takeWord 14 = .ok (.invokevirtual 31, 3) := by decide +kernel
theorem dX6_takeWord_17 : decode cX6_takeWord 17 = .ok (.ifCond .ne 36, 3) := by decide +kernel
theorem dX6_takeWord_20 : decode cX6_takeWord 20 = .ok (.aload_n 0, 1) := by decide +kernel
theorem dX6_takeWord_21 : decode cX6_takeWord 21 = .ok (.invokevirtual 35, 3) := by decide +kernel
theorem dX6_takeWord_24 : decode cX6_takeWord 24 = .ok (.bipush 44, 2) := by decide +kernel
theorem dX6_takeWord_26 : decode cX6_takeWord 26 = .ok (.if_icmp .eq 27, 3) := by decide +kernel
theorem dX6_takeWord_29 : decode cX6_takeWord 29 = .ok (.aload_n 1, 1) := by decide +kernel
theorem dX6_takeWord_30 : decode cX6_takeWord 30 = .ok (.aload_n 0, 1) := by decide +kernel
theorem dX6_takeWord_31 : decode cX6_takeWord 31 = .ok (.invokevirtual 35, 3) := by decide +kernel
theorem dX6_takeWord_34 : decode cX6_takeWord 34 = .ok (.invokevirtual 55, 3) := by decide +kernel
theorem dX6_takeWord_37 : decode cX6_takeWord 37 = .ok (.aload_n 0, 1) := by decide +kernel
theorem dX6_takeWord_38 : decode cX6_takeWord 38 = .ok (.dup, 1) := by decide +kernel
theorem dX6_takeWord_39 : decode cX6_takeWord 39 = .ok (.getfield 24, 3) := by decide +kernel
theorem dX6_takeWord_42 : decode cX6_takeWord 42 = .ok (.iconst 1, 1) := by decide +kernel
theorem dX6_takeWord_43 : decode cX6_takeWord 43 = .ok (.iadd, 1) := by decide +kernel
theorem dX6_takeWord_44 : decode cX6_takeWord 44 = .ok (.putfield 24, 3) := by decide +kernel
theorem dX6_takeWord_47 : decode cX6_takeWord 47 = .ok (.iinc 2 1, 3) := by decide +kernel
theorem dX6_takeWord_50 : decode cX6_takeWord 50 = .ok (.goto (-43), 3) := by decide +kernel
theorem dX6_takeWord_53 : decode cX6_takeWord 53 = .ok (.aload_n 1, 1) := by decide +kernel
theorem dX6_takeWord_54 : decode cX6_takeWord 54 = .ok (.getfield 20, 3) := by decide +kernel
theorem dX6_takeWord_57 : decode cX6_takeWord 57 = .ok (.ifCond .le 7, 3) := by decide +kernel
theorem dX6_takeWord_60 : decode cX6_takeWord 60 = .ok (.iconst 1, 1) := by decide +kernel
theorem dX6_takeWord_61 : decode cX6_takeWord 61 = .ok (.goto 4, 3) := by decide +kernel
theorem dX6_takeWord_64 : decode cX6_takeWord 64 = .ok (.iconst 0, 1) := by decide +kernel
theorem dX6_takeWord_65 : decode cX6_takeWord 65 = .ok (.ireturn, 1) := by decide +kernel
theorem dX7_init_0 : decode cX7_init 0 = .ok (.aload_n 0, 1) := by decide +kernel
theorem dX7_init_1 : decode cX7_init 1 = .ok (.invokespecial 3, 3) := by decide +kernel
theorem dX7_init_4 : decode cX7_init 4 = .ok (.aload_n 0, 1) := by decide +kernel
theorem dX7_init_5 : decode cX7_init 5 = .ok (.bipush 8, 2) := by decide +kernel
theorem dX7_init_7 : decode cX7_init 7 = .ok (.anewarray 9, 3) := by decide +kernel
theorem dX7_init_10 : decode cX7_init 10 = .ok (.putfield 11, 3) := by decide +kernel
theorem dX7_init_13 : decode cX7_init 13 = .ok (.aload_n 0, 1) := by decide +kernel
theorem dX7_init_14 : decode cX7_init 14 = .ok (.new 9, 3) := by decide +kernel
theorem dX7_init_17 : decode cX7_init 17 = .ok (.dup, 1) := by decide +kernel
theorem dX7_init_18 : decode cX7_init 18 = .ok (.invokespecial 17, 3) := by decide +kernel
theorem dX7_init_21 : decode cX7_init 21 = .ok (.putfield 18, 3) := by decide +kernel
theorem dX7_init_24 : decode cX7_init 24 = .ok (.aload_n 0, 1) := by decide +kernel
theorem dX7_init_25 : decode cX7_init 25 = .ok (.new 22, 3) := by decide +kernel
theorem dX7_init_28 : decode cX7_init 28 = .ok (.dup, 1) := by decide +kernel
theorem dX7_init_29 : decode cX7_init 29 = .ok (.invokespecial 24, 3) := by decide +kernel
theorem dX7_init_32 : decode cX7_init 32 = .ok (.putfield 25, 3) := by decide +kernel
theorem dX7_init_35 : decode cX7_init 35 = .ok (.aload_n 0, 1) := by decide +kernel
theorem dX7_init_36 : decode cX7_init 36 = .ok (.new 29, 3) := by decide +kernel
theorem dX7_init_39 : decode cX7_init 39 = .ok (.dup, 1) := by decide +kernel
theorem dX7_init_40 : decode cX7_init 40 = .ok (.invokespecial 31, 3) := by decide +kernel
theorem dX7_init_43 : decode cX7_init 43 = .ok (.putfield 32, 3) := by decide +kernel
theorem dX7_init_46 : decode cX7_init 46 = .ok (.aload_n 0, 1) := by decide +kernel
theorem dX7_init_47 : decode cX7_init 47 = .ok (.iconst 5, 1) := by decide +kernel
theorem dX7_init_48 : decode cX7_init 48 = .ok (.newarray .int, 2) := by decide +kernel
theorem dX7_init_50 : decode cX7_init 50 = .ok (.putfield 36, 3) := by decide +kernel
theorem dX7_init_53 : decode cX7_init 53 = .ok (.aload_n 0, 1) := by decide +kernel
theorem dX7_init_54 : decode cX7_init 54 = .ok (.iconst 5, 1) := by decide +kernel
theorem dX7_init_55 : decode cX7_init 55 = .ok (.newarray .int, 2) := by decide +kernel
theorem dX7_init_57 : decode cX7_init 57 = .ok (.putfield 40, 3) := by decide +kernel
theorem dX7_init_60 : decode cX7_init 60 = .ok (.aload_n 0, 1) := by decide +kernel
theorem dX7_init_61 : decode cX7_init 61 = .ok (.iconst 5, 1) := by decide +kernel
theorem dX7_init_62 : decode cX7_init 62 = .ok (.newarray .int, 2) := by decide +kernel
theorem dX7_init_64 : decode cX7_init 64 = .ok (.putfield 43, 3) := by decide +kernel
theorem dX7_init_67 : decode cX7_init 67 = .ok (.iconst 0, 1) := by decide +kernel
theorem dX7_init_68 : decode cX7_init 68 = .ok (.istore_n 1, 1) := by decide +kernel
theorem dX7_init_69 : decode cX7_init 69 = .ok (.iload_n 1, 1) := by decide +kernel
theorem dX7_init_70 : decode cX7_init 70 = .ok (.bipush 8, 2) := by decide +kernel
theorem dX7_init_72 : decode cX7_init 72 = .ok (.if_icmp .ge 22, 3) := by decide +kernel
theorem dX7_init_75 : decode cX7_init 75 = .ok (.aload_n 0, 1) := by decide +kernel
theorem dX7_init_76 : decode cX7_init 76 = .ok (.getfield 11, 3) := by decide +kernel
theorem dX7_init_79 : decode cX7_init 79 = .ok (.iload_n 1, 1) := by decide +kernel
theorem dX7_init_80 : decode cX7_init 80 = .ok (.new 9, 3) := by decide +kernel
theorem dX7_init_83 : decode cX7_init 83 = .ok (.dup, 1) := by decide +kernel
theorem dX7_init_84 : decode cX7_init 84 = .ok (.invokespecial 17, 3) := by decide +kernel
theorem dX7_init_87 : decode cX7_init 87 = .ok (.aastore, 1) := by decide +kernel
theorem dX7_init_88 : decode cX7_init 88 = .ok (.iinc 1 1, 3) := by decide +kernel
theorem dX7_init_91 : decode cX7_init 91 = .ok (.goto (-22), 3) := by decide +kernel
theorem dX7_init_94 : decode cX7_init 94 = .ok (.return_, 1) := by decide +kernel
theorem dX7_readTemplate_0 : decode cX7_readTemplate 0 = .ok (.aload_n 0, 1) := by decide +kernel
theorem dX7_readTemplate_1 : decode cX7_readTemplate 1 = .ok (.getfield 18, 3) := by decide +kernel
theorem dX7_readTemplate_4 : decode cX7_readTemplate 4 = .ok (.aload_n 1, 1) := by decide +kernel
theorem dX7_readTemplate_5 : decode cX7_readTemplate 5 = .ok (.invokevirtual 46, 3) := by decide +kernel
theorem dX7_readTemplate_8 : decode cX7_readTemplate 8 = .ok (.istore_n 3, 1) := by decide +kernel
theorem dX7_readTemplate_9 : decode cX7_readTemplate 9 = .ok (.iload_n 3, 1) := by decide +kernel
theorem dX7_readTemplate_10 : decode cX7_readTemplate 10 = .ok (.ifCond .eq 37, 3) := by decide +kernel
theorem dX7_readTemplate_13 : decode cX7_readTemplate 13 = .ok (.iload_n 2, 1) := by decide +kernel
theorem dX7_readTemplate_14 : decode cX7_readTemplate 14 = .ok (.ifCond .lt 33, 3) := by decide +kernel
theorem dX7_readTemplate_17 : decode cX7_readTemplate 17 = .ok (.iload_n 2, 1) := by decide +kernel
theorem dX7_readTemplate_18 : decode cX7_readTemplate 18 = .ok (.bipush 8, 2) := by decide +kernel
theorem dX7_readTemplate_20 : decode cX7_readTemplate 20 = .ok (.if_icmp .ge 27, 3) := by decide +kernel
theorem dX7_readTemplate_23 : decode cX7_readTemplate 23 = .ok (.aload_n 0, 1) := by decide +kernel
theorem dX7_readTemplate_24 : decode cX7_readTemplate 24 = .ok (.getfield 11, 3) := by decide +kernel
theorem dX7_readTemplate_27 : decode cX7_readTemplate 27 = .ok (.iload_n 2, 1) := by decide +kernel
theorem dX7_readTemplate_28 : decode cX7_readTemplate 28 = .ok (.aaload, 1) := by decide +kernel
theorem dX7_readTemplate_29 : decode cX7_readTemplate 29 = .ok (.astore 4, 2) := by decide +kernel
theorem dX7_readTemplate_31 : decode cX7_readTemplate 31 = .ok (.aload_n 0, 1) := by decide +kernel
theorem dX7_readTemplate_32 : decode cX7_readTemplate 32 = .ok (.getfield 11, 3) := by decide +kernel
theorem dX7_readTemplate_35 : decode cX7_readTemplate 35 = .ok (.iload_n 2, 1) := by decide +kernel
theorem dX7_readTemplate_36 : decode cX7_readTemplate 36 = .ok (.aload_n 0, 1) := by decide +kernel
theorem dX7_readTemplate_37 : decode cX7_readTemplate 37 = .ok (.getfield 18, 3) := by decide +kernel
theorem dX7_readTemplate_40 : decode cX7_readTemplate 40 = .ok (.aastore, 1) := by decide +kernel
theorem dX7_readTemplate_41 : decode cX7_readTemplate 41 = .ok (.aload_n 0, 1) := by decide +kernel
theorem dX7_readTemplate_42 : decode cX7_readTemplate 42 = .ok (.aload 4, 2) := by decide +kernel
theorem dX7_readTemplate_44 : decode cX7_readTemplate 44 = .ok (.putfield 18, 3) := by decide +kernel
theorem dX7_readTemplate_47 : decode cX7_readTemplate 47 = .ok (.iload_n 3, 1) := by decide +kernel
theorem dX7_readTemplate_48 : decode cX7_readTemplate 48 = .ok (.ireturn, 1) := by decide +kernel
theorem dX7_templateAt_0 : decode cX7_templateAt 0 = .ok (.iload_n 1, 1) := by decide +kernel
theorem dX7_templateAt_1 : decode cX7_templateAt 1 = .ok (.ifCond .lt 25, 3) := by decide +kernel
theorem dX7_templateAt_4 : decode cX7_templateAt 4 = .ok (.iload_n 1, 1) := by decide +kernel
theorem dX7_templateAt_5 : decode cX7_templateAt 5 = .ok (.aload_n 0, 1) := by decide +kernel
theorem dX7_templateAt_6 : decode cX7_templateAt 6 = .ok (.getfield 50, 3) := by decide +kernel
theorem dX7_templateAt_9 : decode cX7_templateAt 9 = .ok (.if_icmp .ge 17, 3) := by decide +kernel
theorem dX7_templateAt_12 : decode cX7_templateAt 12 = .ok (.iload_n 1, 1) := by decide +kernel
theorem dX7_templateAt_13 : decode cX7_templateAt 13 = .ok (.iconst 5, 1) := by decide +kernel
theorem dX7_templateAt_14 : decode cX7_templateAt 14 = .ok (.if_icmp .ge 12, 3) := by decide +kernel
theorem dX7_templateAt_17 : decode cX7_templateAt 17 = .ok (.aload_n 0, 1) := by decide +kernel
theorem dX7_templateAt_18 : decode cX7_templateAt 18 = .ok (.getfield 36, 3) := by decide +kernel
theorem dX7_templateAt_21 : decode cX7_templateAt 21 = .ok (.iload_n 1, 1) := by decide +kernel
theorem dX7_templateAt_22 : decode cX7_templateAt 22 = .ok (.iaload, 1) := by decide +kernel
theorem dX7_templateAt_23 : decode cX7_templateAt 23 = .ok (.goto 4, 3) := by decide +kernel
theorem dX7_templateAt_26 : decode cX7_templateAt 26 = .ok (.iconst (-1), 1) := by decide +kernel
theorem dX7_templateAt_27 : decode cX7_templateAt 27 = .ok (.ireturn, 1) := by decide +kernel
theorem dX7_placeAt_0 : decode cX7_placeAt 0 = .ok (.iload_n 1, 1) := by decide +kernel
theorem dX7_placeAt_1 : decode cX7_placeAt 1 = .ok (.ifCond .lt 25, 3) := by decide +kernel
theorem dX7_placeAt_4 : decode cX7_placeAt 4 = .ok (.iload_n 1, 1) := by decide +kernel
theorem dX7_placeAt_5 : decode cX7_placeAt 5 = .ok (.aload_n 0, 1) := by decide +kernel
theorem dX7_placeAt_6 : decode cX7_placeAt 6 = .ok (.getfield 50, 3) := by decide +kernel
theorem dX7_placeAt_9 : decode cX7_placeAt 9 = .ok (.if_icmp .ge 17, 3) := by decide +kernel
theorem dX7_placeAt_12 : decode cX7_placeAt 12 = .ok (.iload_n 1, 1) := by decide +kernel
theorem dX7_placeAt_13 : decode cX7_placeAt 13 = .ok (.iconst 5, 1) := by decide +kernel
theorem dX7_placeAt_14 : decode cX7_placeAt 14 = .ok (.if_icmp .ge 12, 3) := by decide +kernel
theorem dX7_placeAt_17 : decode cX7_placeAt 17 = .ok (.aload_n 0, 1) := by decide +kernel
theorem dX7_placeAt_18 : decode cX7_placeAt 18 = .ok (.getfield 40, 3) := by decide +kernel
theorem dX7_placeAt_21 : decode cX7_placeAt 21 = .ok (.iload_n 1, 1) := by decide +kernel
theorem dX7_placeAt_22 : decode cX7_placeAt 22 = .ok (.iaload, 1) := by decide +kernel
theorem dX7_placeAt_23 : decode cX7_placeAt 23 = .ok (.goto 4, 3) := by decide +kernel
theorem dX7_placeAt_26 : decode cX7_placeAt 26 = .ok (.iconst (-1), 1) := by decide +kernel
theorem dX7_placeAt_27 : decode cX7_placeAt 27 = .ok (.ireturn, 1) := by decide +kernel
theorem dX7_write_0 : decode cX7_write 0 = .ok (.aload_n 0, 1) := by decide +kernel
theorem dX7_write_1 : decode cX7_write 1 = .ok (.getfield 32, 3) := by decide +kernel
theorem dX7_write_4 : decode cX7_write 4 = .ok (.getfield 54, 3) := by decide +kernel
theorem dX7_write_7 : decode cX7_write 7 = .ok (.iconst 0, 1) := by decide +kernel
theorem dX7_write_8 : decode cX7_write 8 = .ok (.putfield 58, 3) := by decide +kernel
theorem dX7_write_11 : decode cX7_write 11 = .ok (.aload_n 0, 1) := by decide +kernel
theorem dX7_write_12 : decode cX7_write 12 = .ok (.getfield 32, 3) := by decide +kernel
theorem dX7_write_15 : decode cX7_write 15 = .ok (.iconst 0, 1) := by decide +kernel
theorem dX7_write_16 : decode cX7_write 16 = .ok (.putfield 63, 3) := by decide +kernel
theorem dX7_write_19 : decode cX7_write 19 = .ok (.aload_n 0, 1) := by decide +kernel
theorem dX7_write_20 : decode cX7_write 20 = .ok (.lconst 0, 1) := by decide +kernel
theorem dX7_write_21 : decode cX7_write 21 = .ok (.putfield 66, 3) := by decide +kernel
theorem dX7_write_24 : decode cX7_write 24 = .ok (.aload_n 0, 1) := by decide +kernel
theorem dX7_write_25 : decode cX7_write 25 = .ok (.iconst 0, 1) := by decide +kernel
theorem dX7_write_26 : decode cX7_write 26 = .ok (.putfield 50, 3) := by decide +kernel
theorem dX7_write_29 : decode cX7_write 29 = .ok (.aload_n 0, 1) := by decide +kernel
theorem dX7_write_30 : decode cX7_write 30 = .ok (.iload_n 1, 1) := by decide +kernel
theorem dX7_write_31 : decode cX7_write 31 = .ok (.invokevirtual 70, 3) := by decide +kernel
theorem dX7_write_34 : decode cX7_write 34 = .ok (.ifCond .ne 10, 3) := by decide +kernel
theorem dX7_write_37 : decode cX7_write 37 = .ok (.aload_n 0, 1) := by decide +kernel
theorem dX7_write_38 : decode cX7_write 38 = .ok (.iload_n 1, 1) := by decide +kernel
theorem dX7_write_39 : decode cX7_write 39 = .ok (.iconst 1, 1) := by decide +kernel
theorem dX7_write_40 : decode cX7_write 40 = .ok (.invokevirtual 74, 3) := by decide +kernel
theorem dX7_write_43 : decode cX7_write 43 = .ok (.return_, 1) := by decide +kernel
theorem dX7_write_44 : decode cX7_write 44 = .ok (.aload_n 0, 1) := by decide +kernel
theorem dX7_write_45 : decode cX7_write 45 = .ok (.iload_n 1, 1) := by decide +kernel
theorem dX7_write_46 : decode cX7_write 46 = .ok (.invokevirtual 78, 3) := by decide +kernel
theorem dX7_write_49 : decode cX7_write 49 = .ok (.iconst 0, 1) := by decide +kernel
theorem dX7_write_50 : decode cX7_write 50 = .ok (.istore_n 2, 1) := by decide +kernel
theorem dX7_write_51 : decode cX7_write 51 = .ok (.iload_n 2, 1) := by decide +kernel
theorem dX7_write_52 : decode cX7_write 52 = .ok (.ldc 82, 2) := by decide +kernel
theorem dX7_write_54 : decode cX7_write 54 = .ok (.if_icmp .ge 36, 3) := by decide +kernel
theorem dX7_write_57 : decode cX7_write 57 = .ok (.aload_n 0, 1) := by decide +kernel
theorem dX7_write_58 : decode cX7_write 58 = .ok (.getfield 50, 3) := by decide +kernel
theorem dX7_write_61 : decode cX7_write 61 = .ok (.ifCond .le 29, 3) := by decide +kernel
theorem dX7_write_64 : decode cX7_write 64 = .ok (.aload_n 0, 1) := by decide +kernel
theorem dX7_write_65 : decode cX7_write 65 = .ok (.getfield 32, 3) := by decide +kernel
theorem dX7_write_68 : decode cX7_write 68 = .ok (.getfield 63, 3) := by decide +kernel
theorem dX7_write_71 : decode cX7_write 71 = .ok (.ifCond .ne 19, 3) := by decide +kernel
theorem dX7_write_74 : decode cX7_write 74 = .ok (.aload_n 0, 1) := by decide +kernel
theorem dX7_write_75 : decode cX7_write 75 = .ok (.aload_n 0, 1) := by decide +kernel
theorem dX7_write_76 : decode cX7_write 76 = .ok (.getfield 50, 3) := by decide +kernel
theorem dX7_write_79 : decode cX7_write 79 = .ok (.iconst 1, 1) := by decide +kernel
theorem dX7_write_80 : decode cX7_write 80 = .ok (.isub, 1) := by decide +kernel
theorem dX7_write_81 : decode cX7_write 81 = .ok (.invokevirtual 83, 3) := by decide +kernel
theorem dX7_write_84 : decode cX7_write 84 = .ok (.iinc 2 1, 3) := by decide +kernel
theorem dX7_write_87 : decode cX7_write 87 = .ok (.goto (-36), 3) := by decide +kernel
theorem dX7_write_90 : decode cX7_write 90 = .ok (.return_, 1) := by decide +kernel
theorem dX7_blameWhole_0 : decode cX7_blameWhole 0 = .ok (.aload_n 0, 1) := by decide +kernel
theorem dX7_blameWhole_1 : decode cX7_blameWhole 1 = .ok (.iconst 0, 1) := by decide +kernel
theorem dX7_blameWhole_2 : decode cX7_blameWhole 2 = .ok (.putfield 50, 3) := by decide +kernel
theorem dX7_blameWhole_5 : decode cX7_blameWhole 5 = .ok (.aload_n 0, 1) := by decide +kernel
theorem dX7_blameWhole_6 : decode cX7_blameWhole 6 = .ok (.iload_n 1, 1) := by decide +kernel
theorem dX7_blameWhole_7 : decode cX7_blameWhole 7 = .ok (.invokevirtual 78, 3) := by decide +kernel
theorem dX7_blameWhole_10 : decode cX7_blameWhole 10 = .ok (.aload_n 0, 1) := by decide +kernel
theorem dX7_blameWhole_11 : decode cX7_blameWhole 11 = .ok (.getfield 32, 3) := by decide +kernel
theorem dX7_blameWhole_14 : decode cX7_blameWhole 14 = .ok (.iload_n 2, 1) := by decide +kernel
theorem dX7_blameWhole_15 : decode cX7_blameWhole 15 = .ok (.putfield 63, 3) := by decide +kernel
theorem dX7_blameWhole_18 : decode cX7_blameWhole 18 = .ok (.return_, 1) := by decide +kernel
theorem dX7_isTold_0 : decode cX7_isTold 0 = .ok (.iload_n 1, 1) := by decide +kernel
theorem dX7_isTold_1 : decode cX7_isTold 1 = .ok (.ifCond .lt 25, 3) := by decide +kernel
theorem dX7_isTold_4 : decode cX7_isTold 4 = .ok (.iload_n 1, 1) := by decide +kernel
theorem dX7_isTold_5 : decode cX7_isTold 5 = .ok (.bipush 8, 2) := by decide +kernel
theorem dX7_isTold_7 : decode cX7_isTold 7 = .ok (.if_icmp .ge 19, 3) := by decide +kernel
theorem dX7_isTold_10 : decode cX7_isTold 10 = .ok (.aload_n 0, 1) := by decide +kernel
theorem dX7_isTold_11 : decode cX7_isTold 11 = .ok (.getfield 11, 3) := by decide +kernel
theorem dX7_isTold_14 : decode cX7_isTold 14 = .ok (.iload_n 1, 1) := by decide +kernel
theorem dX7_isTold_15 : decode cX7_isTold 15 = .ok (.aaload, 1) := by decide +kernel
theorem dX7_isTold_16 : decode cX7_isTold 16 = .ok (.getfield 86, 3) := by decide +kernel
theorem dX7_isTold_19 : decode cX7_isTold 19 = .ok (.ifCond .eq 7, 3) := by decide +kernel
theorem dX7_isTold_22 : decode cX7_isTold 22 = .ok (.iconst 1, 1) := by decide +kernel
theorem dX7_isTold_23 : decode cX7_isTold 23 = .ok (.goto 4, 3) := by decide +kernel
theorem dX7_isTold_26 : decode cX7_isTold 26 = .ok (.iconst 0, 1) := by decide +kernel
theorem dX7_isTold_27 : decode cX7_isTold 27 = .ok (.ireturn, 1) := by decide +kernel
theorem dX7_open_0 : decode cX7_open 0 = .ok (.aload_n 0, 1) := by decide +kernel
theorem dX7_open_1 : decode cX7_open 1 = .ok (.getfield 50, 3) := by decide +kernel
theorem dX7_open_4 : decode cX7_open 4 = .ok (.ifCond .lt 60, 3) := by decide +kernel
theorem dX7_open_7 : decode cX7_open 7 = .ok (.aload_n 0, 1) := by decide +kernel
theorem dX7_open_8 : decode cX7_open 8 = .ok (.getfield 50, 3) := by decide +kernel
theorem dX7_open_11 : decode cX7_open 11 = .ok (.iconst 5, 1) := by decide +kernel
theorem dX7_open_12 : decode cX7_open 12 = .ok (.if_icmp .ge 52, 3) := by decide +kernel
theorem dX7_open_15 : decode cX7_open 15 = .ok (.aload_n 0, 1) := by decide +kernel
theorem dX7_open_16 : decode cX7_open 16 = .ok (.getfield 36, 3) := by decide +kernel
theorem dX7_open_19 : decode cX7_open 19 = .ok (.aload_n 0, 1) := by decide +kernel
theorem dX7_open_20 : decode cX7_open 20 = .ok (.getfield 50, 3) := by decide +kernel
theorem dX7_open_23 : decode cX7_open 23 = .ok (.iload_n 1, 1) := by decide +kernel
theorem dX7_open_24 : decode cX7_open 24 = .ok (.iastore, 1) := by decide +kernel
theorem dX7_open_25 : decode cX7_open 25 = .ok (.aload_n 0, 1) := by decide +kernel
theorem dX7_open_26 : decode cX7_open 26 = .ok (.getfield 40, 3) := by decide +kernel
theorem dX7_open_29 : decode cX7_open 29 = .ok (.aload_n 0, 1) := by decide +kernel
theorem dX7_open_30 : decode cX7_open 30 = .ok (.getfield 50, 3) := by decide +kernel
theorem dX7_open_33 : decode cX7_open 33 = .ok (.iconst 0, 1) := by decide +kernel
theorem dX7_open_34 : decode cX7_open 34 = .ok (.iastore, 1) := by decide +kernel
theorem dX7_open_35 : decode cX7_open 35 = .ok (.aload_n 0, 1) := by decide +kernel
theorem dX7_open_36 : decode cX7_open 36 = .ok (.getfield 43, 3) := by decide +kernel
theorem dX7_open_39 : decode cX7_open 39 = .ok (.aload_n 0, 1) := by decide +kernel
theorem dX7_open_40 : decode cX7_open 40 = .ok (.getfield 50, 3) := by decide +kernel
theorem dX7_open_43 : decode cX7_open 43 = .ok (.aload_n 0, 1) := by decide +kernel
theorem dX7_open_44 : decode cX7_open 44 = .ok (.getfield 32, 3) := by decide +kernel
theorem dX7_open_47 : decode cX7_open 47 = .ok (.getfield 54, 3) := by decide +kernel
theorem dX7_open_50 : decode cX7_open 50 = .ok (.getfield 58, 3) := by decide +kernel
theorem dX7_open_53 : decode cX7_open 53 = .ok (.iastore, 1) := by decide +kernel
theorem dX7_open_54 : decode cX7_open 54 = .ok (.aload_n 0, 1) := by decide +kernel
theorem dX7_open_55 : decode cX7_open 55 = .ok (.dup, 1) := by decide +kernel
theorem dX7_open_56 : decode cX7_open 56 = .ok (.getfield 50, 3) := by decide +kernel
theorem dX7_open_59 : decode cX7_open 59 = .ok (.iconst 1, 1) := by decide +kernel
theorem dX7_open_60 : decode cX7_open 60 = .ok (.iadd, 1) := by decide +kernel
theorem dX7_open_61 : decode cX7_open 61 = .ok (.putfield 50, 3) := by decide +kernel
theorem dX7_open_64 : decode cX7_open 64 = .ok (.return_, 1) := by decide +kernel
theorem dX7_writePart_0 : decode cX7_writePart 0 = .ok (.iload_n 1, 1) := by decide +kernel
theorem dX7_writePart_1 : decode cX7_writePart 1 = .ok (.ifCond .lt 21, 3) := by decide +kernel
theorem dX7_writePart_4 : decode cX7_writePart 4 = .ok (.iload_n 1, 1) := by decide +kernel
theorem dX7_writePart_5 : decode cX7_writePart 5 = .ok (.iconst 5, 1) := by decide +kernel
theorem dX7_writePart_6 : decode cX7_writePart 6 = .ok (.if_icmp .ge 16, 3) := by decide +kernel
theorem dX7_writePart_9 : decode cX7_writePart 9 = .ok (.aload_n 0, 1) := by decide +kernel
theorem dX7_writePart_10 : decode cX7_writePart 10 = .ok (.aload_n 0, 1) := by decide +kernel
theorem dX7_writePart_11 : decode cX7_writePart 11 = .ok (.getfield 36, 3) := by decide +kernel
theorem dX7_writePart_14 : decode cX7_writePart 14 = .ok (.iload_n 1, 1) := by decide +kernel
theorem dX7_writePart_15 : decode cX7_writePart 15 = .ok (.iaload, 1) := by decide +kernel
theorem dX7_writePart_16 : decode cX7_writePart 16 = .ok (.invokevirtual 70, 3) := by decide +kernel
theorem dX7_writePart_19 : decode cX7_writePart 19 = .ok (.ifCond .ne 4, 3) := by decide +kernel
theorem dX7_writePart_22 : decode cX7_writePart 22 = .ok (.return_, 1) := by decide +kernel
theorem dX7_writePart_23 : decode cX7_writePart 23 = .ok (.aload_n 0, 1) := by decide +kernel
theorem dX7_writePart_24 : decode cX7_writePart 24 = .ok (.getfield 11, 3) := by decide +kernel
theorem dX7_writePart_27 : decode cX7_writePart 27 = .ok (.aload_n 0, 1) := by decide +kernel
theorem dX7_writePart_28 : decode cX7_writePart 28 = .ok (.getfield 36, 3) := by decide +kernel
theorem dX7_writePart_31 : decode cX7_writePart 31 = .ok (.iload_n 1, 1) := by decide +kernel
theorem dX7_writePart_32 : decode cX7_writePart 32 = .ok (.iaload, 1) := by decide +kernel
theorem dX7_writePart_33 : decode cX7_writePart 33 = .ok (.aaload, 1) := by decide +kernel
theorem dX7_writePart_34 : decode cX7_writePart 34 = .ok (.astore_n 2, 1) := by decide +kernel
theorem dX7_writePart_35 : decode cX7_writePart 35 = .ok (.aload_n 0, 1) := by decide +kernel
theorem dX7_writePart_36 : decode cX7_writePart 36 = .ok (.getfield 40, 3) := by decide +kernel
theorem dX7_writePart_39 : decode cX7_writePart 39 = .ok (.iload_n 1, 1) := by decide +kernel
theorem dX7_writePart_40 : decode cX7_writePart 40 = .ok (.iaload, 1) := by decide +kernel
theorem dX7_writePart_41 : decode cX7_writePart 41 = .ok (.istore_n 3, 1) := by decide +kernel
theorem dX7_writePart_42 : decode cX7_writePart 42 = .ok (.aload_n 2, 1) := by decide +kernel
theorem dX7_writePart_43 : decode cX7_writePart 43 = .ok (.getfield 90, 3) := by decide +kernel
theorem dX7_writePart_46 : decode cX7_writePart 46 = .ok (.iload_n 3, 1) := by decide +kernel
theorem dX7_writePart_47 : decode cX7_writePart 47 = .ok (.invokevirtual 93, 3) := by decide +kernel
theorem dX7_writePart_50 : decode cX7_writePart 50 = .ok (.istore 4, 2) := by decide +kernel
theorem dX7_writePart_52 : decode cX7_writePart 52 = .ok (.iload_n 3, 1) := by decide +kernel
theorem dX7_writePart_53 : decode cX7_writePart 53 = .ok (.aload_n 2, 1) := by decide +kernel
theorem dX7_writePart_54 : decode cX7_writePart 54 = .ok (.getfield 90, 3) := by decide +kernel
theorem dX7_writePart_57 : decode cX7_writePart 57 = .ok (.getfield 58, 3) := by decide +kernel
theorem dX7_writePart_60 : decode cX7_writePart 60 = .ok (.if_icmp .lt 11, 3) := by decide +kernel
theorem dX7_writePart_63 : decode cX7_writePart 63 = .ok (.aload_n 0, 1) := by decide +kernel
theorem dX7_writePart_64 : decode cX7_writePart 64 = .ok (.iload_n 1, 1) := by decide +kernel
theorem dX7_writePart_65 : decode cX7_writePart 65 = .ok (.invokevirtual 97, 3) := by decide +kernel
theorem dX7_writePart_68 : decode cX7_writePart 68 = .ok (.goto 120, 3) := by decide +kernel
theorem dX7_writePart_71 : decode cX7_writePart 71 = .ok (.iload 4, 2) := by decide +kernel
theorem dX7_writePart_73 : decode cX7_writePart 73 = .ok (.bipush 64, 2) := by decide +kernel
theorem dX7_writePart_75 : decode cX7_writePart 75 = .ok (.if_icmp .ne 24, 3) := by decide +kernel
theorem dX7_writePart_78 : decode cX7_writePart 78 = .ok (.aload_n 0, 1) := by decide +kernel
theorem dX7_writePart_79 : decode cX7_writePart 79 = .ok (.iload_n 1, 1) := by decide +kernel
theorem dX7_writePart_80 : decode cX7_writePart 80 = .ok (.aload_n 2, 1) := by decide +kernel
theorem dX7_writePart_81 : decode cX7_writePart 81 = .ok (.getfield 90, 3) := by decide +kernel
theorem dX7_writePart_84 : decode cX7_writePart 84 = .ok (.iload_n 3, 1) := by decide +kernel
theorem dX7_writePart_85 : decode cX7_writePart 85 = .ok (.iconst 1, 1) := by decide +kernel
theorem dX7_writePart_86 : decode cX7_writePart 86 = .ok (.iadd, 1) := by decide +kernel
theorem dX7_writePart_87 : decode cX7_writePart 87 = .ok (.invokevirtual 93, 3) := by decide +kernel
theorem dX7_writePart_90 : decode cX7_writePart 90 = .ok (.bipush 48, 2) := by decide +kernel
theorem dX7_writePart_92 : decode cX7_writePart 92 = .ok (.isub, 1) := by decide +kernel
theorem dX7_writePart_93 : decode cX7_writePart 93 = .ok (.invokevirtual 100, 3) := by decide +kernel
theorem dX7_writePart_96 : decode cX7_writePart 96 = .ok (.goto 92, 3) := by decide +kernel
theorem dX7_writePart_99 : decode cX7_writePart 99 = .ok (.iload 4, 2) := by decide +kernel
theorem dX7_writePart_101 : decode cX7_writePart 101 = .ok (.bipush 60, 2) := by decide +kernel
theorem dX7_writePart_103 : decode cX7_writePart 103 = .ok (.if_icmp .ne 21, 3) := by decide +kernel
theorem dX7_writePart_106 : decode cX7_writePart 106 = .ok (.aload_n 0, 1) := by decide +kernel
theorem dX7_writePart_107 : decode cX7_writePart 107 = .ok (.iload_n 1, 1) := by decide +kernel
theorem dX7_writePart_108 : decode cX7_writePart 108 = .ok (.aload_n 2, 1) := by decide +kernel
theorem dX7_writePart_109 : decode cX7_writePart 109 = .ok (.getfield 90, 3) := by decide +kernel
theorem dX7_writePart_112 : decode cX7_writePart 112 = .ok (.iload_n 3, 1) := by decide +kernel
theorem dX7_writePart_113 : decode cX7_writePart 113 = .ok (.iconst 1, 1) := by decide +kernel
theorem dX7_writePart_114 : decode cX7_writePart 114 = .ok (.iadd, 1) := by decide +kernel
theorem dX7_writePart_115 : decode cX7_writePart 115 = .ok (.invokevirtual 93, 3) := by decide +kernel
theorem dX7_writePart_118 : decode cX7_writePart 118 = .ok (.invokevirtual 103, 3) := by decide +kernel
theorem dX7_writePart_121 : decode cX7_writePart 121 = .ok (.goto 67, 3) := by decide +kernel
theorem dX7_writePart_124 : decode cX7_writePart 124 = .ok (.iload 4, 2) := by decide +kernel
theorem dX7_writePart_126 : decode cX7_writePart 126 = .ok (.bipush 91, 2) := by decide +kernel
theorem dX7_writePart_128 : decode cX7_writePart 128 = .ok (.if_icmp .ne 12, 3) := by decide +kernel
theorem dX7_writePart_131 : decode cX7_writePart 131 = .ok (.aload_n 0, 1) := by decide +kernel
theorem dX7_writePart_132 : decode cX7_writePart 132 = .ok (.iload_n 1, 1) := by decide +kernel
theorem dX7_writePart_133 : decode cX7_writePart 133 = .ok (.aload_n 2, 1) := by decide +kernel
theorem dX7_writePart_134 : decode cX7_writePart 134 = .ok (.invokevirtual 107, 3) := by decide +kernel
theorem dX7_writePart_137 : decode cX7_writePart 137 = .ok (.goto 51, 3) := by decide +kernel
theorem dX7_writePart_140 : decode cX7_writePart 140 = .ok (.iload 4, 2) := by decide +kernel
theorem dX7_writePart_142 : decode cX7_writePart 142 = .ok (.bipush 124, 2) := by decide +kernel
theorem dX7_writePart_144 : decode cX7_writePart 144 = .ok (.if_icmp .ne 17, 3) := by decide +kernel
theorem dX7_writePart_147 : decode cX7_writePart 147 = .ok (.aload_n 0, 1) := by decide +kernel
theorem dX7_writePart_148 : decode cX7_writePart 148 = .ok (.getfield 40, 3) := by decide +kernel
theorem dX7_writePart_151 : decode cX7_writePart 151 = .ok (.iload_n 1, 1) := by decide +kernel
theorem dX7_writePart_152 : decode cX7_writePart 152 = .ok (.aload_n 2, 1) := by decide +kernel
theorem dX7_writePart_153 : decode cX7_writePart 153 = .ok (.iload_n 3, 1) := by decide +kernel
theorem dX7_writePart_154 : decode cX7_writePart 154 = .ok (.invokevirtual 111, 3) := by decide +kernel
theorem dX7_writePart_157 : decode cX7_writePart 157 = .ok (.iastore, 1) := by decide +kernel
theorem dX7_writePart_158 : decode cX7_writePart 158 = .ok (.goto 30, 3) := by decide +kernel
theorem dX7_writePart_161 : decode cX7_writePart 161 = .ok (.iload 4, 2) := by decide +kernel
theorem dX7_writePart_163 : decode cX7_writePart 163 = .ok (.bipush 93, 2) := by decide +kernel
theorem dX7_writePart_165 : decode cX7_writePart 165 = .ok (.if_icmp .ne 16, 3) := by decide +kernel
theorem dX7_writePart_168 : decode cX7_writePart 168 = .ok (.aload_n 0, 1) := by decide +kernel
theorem dX7_writePart_169 : decode cX7_writePart 169 = .ok (.getfield 40, 3) := by decide +kernel
theorem dX7_writePart_172 : decode cX7_writePart 172 = .ok (.iload_n 1, 1) := by decide +kernel
theorem dX7_writePart_173 : decode cX7_writePart 173 = .ok (.dup2, 1) := by decide +kernel
theorem dX7_writePart_174 : decode cX7_writePart 174 = .ok (.iaload, 1) := by decide +kernel
theorem dX7_writePart_175 : decode cX7_writePart 175 = .ok (.iconst 1, 1) := by decide +kernel
theorem dX7_writePart_176 : decode cX7_writePart 176 = .ok (.iadd, 1) := by decide +kernel
theorem dX7_writePart_177 : decode cX7_writePart 177 = .ok (.iastore, 1) := by decide +kernel
theorem dX7_writePart_178 : decode cX7_writePart 178 = .ok (.goto 10, 3) := by decide +kernel
theorem dX7_writePart_181 : decode cX7_writePart 181 = .ok (.aload_n 0, 1) := by decide +kernel
theorem dX7_writePart_182 : decode cX7_writePart 182 = .ok (.iload_n 1, 1) := by decide +kernel
theorem dX7_writePart_183 : decode cX7_writePart 183 = .ok (.iload 4, 2) := by decide +kernel
theorem dX7_writePart_185 : decode cX7_writePart 185 = .ok (.invokevirtual 115, 3) := by decide +kernel
theorem dX7_writePart_188 : decode cX7_writePart 188 = .ok (.return_, 1) := by decide +kernel
theorem dX7_close_0 : decode cX7_close 0 = .ok (.aload_n 0, 1) := by decide +kernel
theorem dX7_close_1 : decode cX7_close 1 = .ok (.getfield 32, 3) := by decide +kernel
theorem dX7_close_4 : decode cX7_close 4 = .ok (.getfield 54, 3) := by decide +kernel
theorem dX7_close_7 : decode cX7_close 7 = .ok (.getfield 58, 3) := by decide +kernel
theorem dX7_close_10 : decode cX7_close 10 = .ok (.aload_n 0, 1) := by decide +kernel
theorem dX7_close_11 : decode cX7_close 11 = .ok (.getfield 43, 3) := by decide +kernel
theorem dX7_close_14 : decode cX7_close 14 = .ok (.iload_n 1, 1) := by decide +kernel
theorem dX7_close_15 : decode cX7_close 15 = .ok (.iaload, 1) := by decide +kernel
theorem dX7_close_16 : decode cX7_close 16 = .ok (.if_icmp .ne 22, 3) := by decide +kernel
theorem dX7_close_19 : decode cX7_close 19 = .ok (.aload_n 0, 1) := by decide +kernel
theorem dX7_close_20 : decode cX7_close 20 = .ok (.dup, 1) := by decide +kernel
theorem dX7_close_21 : decode cX7_close 21 = .ok (.getfield 66, 3) := by decide +kernel
theorem dX7_close_24 : decode cX7_close 24 = .ok (.iload_n 1, 1) := by decide +kernel
theorem dX7_close_25 : decode cX7_close 25 = .ok (.aload_n 0, 1) := by decide +kernel
theorem dX7_close_26 : decode cX7_close 26 = .ok (.getfield 36, 3) := by decide +kernel
theorem dX7_close_29 : decode cX7_close 29 = .ok (.iload_n 1, 1) := by decide +kernel
theorem dX7_close_30 : decode cX7_close 30 = .ok (.iaload, 1) := by decide +kernel
theorem dX7_close_31 : decode cX7_close 31 = .ok (.invokestatic 118, 3) := by decide +kernel
theorem dX7_close_34 : decode cX7_close 34 = .ok (.lor, 1) := by decide +kernel
theorem dX7_close_35 : decode cX7_close 35 = .ok (.putfield 66, 3) := by decide +kernel
theorem dX7_close_38 : decode cX7_close 38 = .ok (.aload_n 0, 1) := by decide +kernel
theorem dX7_close_39 : decode cX7_close 39 = .ok (.iload_n 1, 1) := by decide +kernel
theorem dX7_close_40 : decode cX7_close 40 = .ok (.putfield 50, 3) := by decide +kernel
theorem dX7_close_43 : decode cX7_close 43 = .ok (.iload_n 1, 1) := by decide +kernel
theorem dX7_close_44 : decode cX7_close 44 = .ok (.ifCond .le 15, 3) := by decide +kernel
theorem dX7_close_47 : decode cX7_close 47 = .ok (.aload_n 0, 1) := by decide +kernel
theorem dX7_close_48 : decode cX7_close 48 = .ok (.getfield 40, 3) := by decide +kernel
theorem dX7_close_51 : decode cX7_close 51 = .ok (.iload_n 1, 1) := by decide +kernel
theorem dX7_close_52 : decode cX7_close 52 = .ok (.iconst 1, 1) := by decide +kernel
theorem dX7_close_53 : decode cX7_close 53 = .ok (.isub, 1) := by decide +kernel
theorem dX7_close_54 : decode cX7_close 54 = .ok (.dup2, 1) := by decide +kernel
theorem dX7_close_55 : decode cX7_close 55 = .ok (.iaload, 1) := by decide +kernel
theorem dX7_close_56 : decode cX7_close 56 = .ok (.iconst 2, 1) := by decide +kernel
theorem dX7_close_57 : decode cX7_close 57 = .ok (.iadd, 1) := by decide +kernel
theorem dX7_close_58 : decode cX7_close 58 = .ok (.iastore, 1) := by decide +kernel
theorem dX7_close_59 : decode cX7_close 59 = .ok (.return_, 1) := by decide +kernel
theorem dX7_enter_0 : decode cX7_enter 0 = .ok (.aload_n 0, 1) := by decide +kernel
theorem dX7_enter_1 : decode cX7_enter 1 = .ok (.iload_n 2, 1) := by decide +kernel
theorem dX7_enter_2 : decode cX7_enter 2 = .ok (.invokevirtual 70, 3) := by decide +kernel
theorem dX7_enter_5 : decode cX7_enter 5 = .ok (.ifCond .ne 14, 3) := by decide +kernel
theorem dX7_enter_8 : decode cX7_enter 8 = .ok (.aload_n 0, 1) := by decide +kernel
theorem dX7_enter_9 : decode cX7_enter 9 = .ok (.getfield 32, 3) := by decide +kernel
theorem dX7_enter_12 : decode cX7_enter 12 = .ok (.iconst 1, 1) := by decide +kernel
theorem dX7_enter_13 : decode cX7_enter 13 = .ok (.putfield 63, 3) := by decide +kernel
theorem dX7_enter_16 : decode cX7_enter 16 = .ok (.goto 58, 3) := by decide +kernel
theorem dX7_enter_19 : decode cX7_enter 19 = .ok (.aload_n 0, 1) := by decide +kernel
theorem dX7_enter_20 : decode cX7_enter 20 = .ok (.getfield 50, 3) := by decide +kernel
theorem dX7_enter_23 : decode cX7_enter 23 = .ok (.iconst 5, 1) := by decide +kernel
theorem dX7_enter_24 : decode cX7_enter 24 = .ok (.if_icmp .lt 14, 3) := by decide +kernel
theorem dX7_enter_27 : decode cX7_enter 27 = .ok (.aload_n 0, 1) := by decide +kernel
theorem dX7_enter_28 : decode cX7_enter 28 = .ok (.getfield 32, 3) := by decide +kernel
theorem dX7_enter_31 : decode cX7_enter 31 = .ok (.iconst 2, 1) := by decide +kernel
theorem dX7_enter_32 : decode cX7_enter 32 = .ok (.putfield 63, 3) := by decide +kernel
theorem dX7_enter_35 : decode cX7_enter 35 = .ok (.goto 39, 3) := by decide +kernel
theorem dX7_enter_38 : decode cX7_enter 38 = .ok (.aload_n 0, 1) := by decide +kernel
theorem dX7_enter_39 : decode cX7_enter 39 = .ok (.getfield 66, 3) := by decide +kernel
theorem dX7_enter_42 : decode cX7_enter 42 = .ok (.aload_n 0, 1) := by decide +kernel
theorem dX7_enter_43 : decode cX7_enter 43 = .ok (.getfield 50, 3) := by decide +kernel
theorem dX7_enter_46 : decode cX7_enter 46 = .ok (.iload_n 2, 1) := by decide +kernel
theorem dX7_enter_47 : decode cX7_enter 47 = .ok (.invokestatic 118, 3) := by decide +kernel
theorem dX7_enter_50 : decode cX7_enter 50 = .ok (.land, 1) := by decide +kernel
theorem dX7_enter_51 : decode cX7_enter 51 = .ok (.lconst 0, 1) := by decide +kernel
theorem dX7_enter_52 : decode cX7_enter 52 = .ok (.lcmp, 1) := by decide +kernel
theorem dX7_enter_53 : decode cX7_enter 53 = .ok (.ifCond .eq 16, 3) := by decide +kernel
theorem dX7_enter_56 : decode cX7_enter 56 = .ok (.aload_n 0, 1) := by decide +kernel
theorem dX7_enter_57 : decode cX7_enter 57 = .ok (.getfield 40, 3) := by decide +kernel
theorem dX7_enter_60 : decode cX7_enter 60 = .ok (.iload_n 1, 1) := by decide +kernel
theorem dX7_enter_61 : decode cX7_enter 61 = .ok (.dup2, 1) := by decide +kernel
theorem dX7_enter_62 : decode cX7_enter 62 = .ok (.iaload, 1) := by decide +kernel
theorem dX7_enter_63 : decode cX7_enter 63 = .ok (.iconst 2, 1) := by decide +kernel
theorem dX7_enter_64 : decode cX7_enter 64 = .ok (.iadd, 1) := by decide +kernel
theorem dX7_enter_65 : decode cX7_enter 65 = .ok (.iastore, 1) := by decide +kernel
theorem dX7_enter_66 : decode cX7_enter 66 = .ok (.goto 8, 3) := by decide +kernel
theorem dX7_enter_69 : decode cX7_enter 69 = .ok (.aload_n 0, 1) := by decide +kernel
theorem dX7_enter_70 : decode cX7_enter 70 = .ok (.iload_n 2, 1) := by decide +kernel
theorem dX7_enter_71 : decode cX7_enter 71 = .ok (.invokevirtual 78, 3) := by decide +kernel
theorem dX7_enter_74 : decode cX7_enter 74 = .ok (.return_, 1) := by decide +kernel
theorem dX7_silentBit_0 : decode cX7_silentBit 0 = .ok (.lconst 1, 1) := by decide +kernel
theorem dX7_silentBit_1 : decode cX7_silentBit 1 = .ok (.iload_n 0, 1) := by decide +kernel
theorem dX7_silentBit_2 : decode cX7_silentBit 2 = .ok (.bipush 8, 2) := by decide +kernel
theorem dX7_silentBit_4 : decode cX7_silentBit 4 = .ok (.imul, 1) := by decide +kernel
theorem dX7_silentBit_5 : decode cX7_silentBit 5 = .ok (.iload_n 1, 1) := by decide +kernel
theorem dX7_silentBit_6 : decode cX7_silentBit 6 = .ok (.iadd, 1) := by decide +kernel
theorem dX7_silentBit_7 : decode cX7_silentBit 7 = .ok (.lshl, 1) := by decide +kernel
theorem dX7_silentBit_8 : decode cX7_silentBit 8 = .ok (.lreturn, 1) := by decide +kernel
theorem dX7_choose_0 : decode cX7_choose 0 = .ok (.aload_n 0, 1) := by decide +kernel
theorem dX7_choose_1 : decode cX7_choose 1 = .ok (.getfield 40, 3) := by decide +kernel
theorem dX7_choose_4 : decode cX7_choose 4 = .ok (.iload_n 1, 1) := by decide +kernel
theorem dX7_choose_5 : decode cX7_choose 5 = .ok (.iaload, 1) := by decide +kernel
theorem dX7_choose_6 : decode cX7_choose 6 = .ok (.istore_n 3, 1) := by decide +kernel
theorem dX7_choose_7 : decode cX7_choose 7 = .ok (.ldc 122, 2) := by decide +kernel
theorem dX7_choose_9 : decode cX7_choose 9 = .ok (.aload_n 2, 1) := by decide +kernel
theorem dX7_choose_10 : decode cX7_choose 10 = .ok (.getfield 90, 3) := by decide +kernel
theorem dX7_choose_13 : decode cX7_choose 13 = .ok (.iload_n 3, 1) := by decide +kernel
theorem dX7_choose_14 : decode cX7_choose 14 = .ok (.iconst 1, 1) := by decide +kernel
theorem dX7_choose_15 : decode cX7_choose 15 = .ok (.iadd, 1) := by decide +kernel
theorem dX7_choose_16 : decode cX7_choose 16 = .ok (.invokevirtual 93, 3) := by decide +kernel
theorem dX7_choose_19 : decode cX7_choose 19 = .ok (.invokevirtual 124, 3) := by decide +kernel
theorem dX7_choose_22 : decode cX7_choose 22 = .ok (.istore 4, 2) := by decide +kernel
theorem dX7_choose_24 : decode cX7_choose 24 = .ok (.aload_n 2, 1) := by decide +kernel
theorem dX7_choose_25 : decode cX7_choose 25 = .ok (.getfield 90, 3) := by decide +kernel
theorem dX7_choose_28 : decode cX7_choose 28 = .ok (.iload_n 3, 1) := by decide +kernel
theorem dX7_choose_29 : decode cX7_choose 29 = .ok (.iconst 2, 1) := by decide +kernel
theorem dX7_choose_30 : decode cX7_choose 30 = .ok (.iadd, 1) := by decide +kernel
theorem dX7_choose_31 : decode cX7_choose 31 = .ok (.invokevirtual 93, 3) := by decide +kernel
theorem dX7_choose_34 : decode cX7_choose 34 = .ok (.istore 5, 2) := by decide +kernel
theorem dX7_choose_36 : decode cX7_choose 36 = .ok (.iload_n 3, 1) := by decide +kernel
theorem dX7_choose_37 : decode cX7_choose 37 = .ok (.iconst 3, 1) := by decide +kernel
theorem dX7_choose_38 : decode cX7_choose 38 = .ok (.iadd, 1) := by decide +kernel
theorem dX7_choose_39 : decode cX7_choose 39 = .ok (.istore 6, 2) := by decide +kernel
theorem dX7_choose_41 : decode cX7_choose 41 = .ok (.iconst 0, 1) := by decide +kernel
theorem dX7_choose_42 : decode cX7_choose 42 = .ok (.istore 7, 2) := by decide +kernel
theorem dX7_choose_44 : decode cX7_choose 44 = .ok (.iconst 0, 1) := by decide +kernel
theorem dX7_choose_45 : decode cX7_choose 45 = .ok (.istore 8, 2) := by decide +kernel
theorem dX7_choose_47 : decode cX7_choose 47 = .ok (.iload 8, 2) := by decide +kernel
theorem dX7_choose_49 : decode cX7_choose 49 = .ok (.iconst 3, 1) := by decide +kernel
theorem dX7_choose_50 : decode cX7_choose 50 = .ok (.if_icmp .ge 49, 3) := by decide +kernel
theorem dX7_choose_53 : decode cX7_choose 53 = .ok (.aload_n 2, 1) := by decide +kernel
theorem dX7_choose_54 : decode cX7_choose 54 = .ok (.getfield 90, 3) := by decide +kernel
theorem dX7_choose_57 : decode cX7_choose 57 = .ok (.iload 6, 2) := by decide +kernel
theorem dX7_choose_59 : decode cX7_choose 59 = .ok (.invokevirtual 93, 3) := by decide +kernel
theorem dX7_choose_62 : decode cX7_choose 62 = .ok (.bipush 57, 2) := by decide +kernel
theorem dX7_choose_64 : decode cX7_choose 64 = .ok (.invokestatic 129, 3) := by decide +kernel
theorem dX7_choose_67 : decode cX7_choose 67 = .ok (.ifCond .eq 32, 3) := by decide +kernel
theorem dX7_choose_70 : decode cX7_choose 70 = .ok (.iload 7, 2) := by decide +kernel
theorem dX7_choose_72 : decode cX7_choose 72 = .ok (.bipush 10, 2) := by decide +kernel
theorem dX7_choose_74 : decode cX7_choose 74 = .ok (.imul, 1) := by decide +kernel
theorem dX7_choose_75 : decode cX7_choose 75 = .ok (.aload_n 2, 1) := by decide +kernel
theorem dX7_choose_76 : decode cX7_choose 76 = .ok (.getfield 90, 3) := by decide +kernel
theorem dX7_choose_79 : decode cX7_choose 79 = .ok (.iload 6, 2) := by decide +kernel
theorem dX7_choose_81 : decode cX7_choose 81 = .ok (.invokevirtual 93, 3) := by decide +kernel
theorem dX7_choose_84 : decode cX7_choose 84 = .ok (.bipush 48, 2) := by decide +kernel
theorem dX7_choose_86 : decode cX7_choose 86 = .ok (.isub, 1) := by decide +kernel
theorem dX7_choose_87 : decode cX7_choose 87 = .ok (.iadd, 1) := by decide +kernel
theorem dX7_choose_88 : decode cX7_choose 88 = .ok (.istore 7, 2) := by decide +kernel
theorem dX7_choose_90 : decode cX7_choose 90 = .ok (.iinc 6 1, 3) := by decide +kernel
theorem dX7_choose_93 : decode cX7_choose 93 = .ok (.iinc 8 1, 3) := by decide +kernel
theorem dX7_choose_96 : decode cX7_choose 96 = .ok (.goto (-49), 3) := by decide +kernel
theorem dX7_choose_99 : decode cX7_choose 99 = .ok (.iload 4, 2) := by decide +kernel
theorem dX7_choose_101 : decode cX7_choose 101 = .ok (.ifCond .lt 23, 3) := by decide +kernel
theorem dX7_choose_104 : decode cX7_choose 104 = .ok (.iload 4, 2) := by decide +kernel
theorem dX7_choose_106 : decode cX7_choose 106 = .ok (.bipush 6, 2) := by decide +kernel
theorem dX7_choose_108 : decode cX7_choose 108 = .ok (.if_icmp .ge 16, 3) := by decide +kernel
theorem dX7_choose_111 : decode cX7_choose 111 = .ok (.aload_n 0, 1) := by decide +kernel
theorem dX7_choose_112 : decode cX7_choose 112 = .ok (.getfield 25, 3) := by decide +kernel
theorem dX7_choose_115 : decode cX7_choose 115 = .ok (.getfield 133, 3) := by decide +kernel
theorem dX7_choose_118 : decode cX7_choose 118 = .ok (.iload 4, 2) := by decide +kernel
theorem dX7_choose_120 : decode cX7_choose 120 = .ok (.iaload, 1) := by decide +kernel
theorem dX7_choose_121 : decode cX7_choose 121 = .ok (.goto 4, 3) := by decide +kernel
theorem dX7_choose_124 : decode cX7_choose 124 = .ok (.iconst 0, 1) := by decide +kernel
theorem dX7_choose_125 : decode cX7_choose 125 = .ok (.istore 8, 2) := by decide +kernel
theorem dX7_choose_127 : decode cX7_choose 127 = .ok (.aload_n 0, 1) := by decide +kernel
theorem dX7_choose_128 : decode cX7_choose 128 = .ok (.getfield 40, 3) := by decide +kernel
theorem dX7_choose_131 : decode cX7_choose 131 = .ok (.iload_n 1, 1) := by decide +kernel
theorem dX7_choose_132 : decode cX7_choose 132 = .ok (.iload 8, 2) := by decide +kernel
theorem dX7_choose_134 : decode cX7_choose 134 = .ok (.iload 5, 2) := by decide +kernel
theorem dX7_choose_136 : decode cX7_choose 136 = .ok (.iload 7, 2) := by decide +kernel
theorem dX7_choose_138 : decode cX7_choose 138 = .ok (.invokestatic 136, 3) := by decide +kernel
theorem dX7_choose_141 : decode cX7_choose 141 = .ok (.ifCond .eq 10, 3) := by decide +kernel
theorem dX7_choose_144 : decode cX7_choose 144 = .ok (.iload 6, 2) := by decide +kernel
theorem dX7_choose_146 : decode cX7_choose 146 = .ok (.iconst 1, 1) := by decide +kernel
theorem dX7_choose_147 : decode cX7_choose 147 = .ok (.iadd, 1) := by decide +kernel
theorem dX7_choose_148 : decode cX7_choose 148 = .ok (.goto 8, 3) := by decide +kernel
theorem dX7_choose_151 : decode cX7_choose 151 = .ok (.aload_n 2, 1) := by decide +kernel
theorem dX7_choose_152 : decode cX7_choose 152 = .ok (.iload_n 3, 1) := by decide +kernel
theorem dX7_choose_153 : decode cX7_choose 153 = .ok (.invokevirtual 111, 3) := by decide +kernel
theorem dX7_choose_156 : decode cX7_choose 156 = .ok (.iastore, 1) := by decide +kernel
theorem dX7_choose_157 : decode cX7_choose 157 = .ok (.return_, 1) := by decide +kernel
theorem dX7_holds_0 : decode cX7_holds 0 = .ok (.iload_n 1, 1) := by decide +kernel
theorem dX7_holds_1 : decode cX7_holds 1 = .ok (.bipush 61, 2) := by decide +kernel
theorem dX7_holds_3 : decode cX7_holds 3 = .ok (.if_icmp .ne 16, 3) := by decide +kernel
theorem dX7_holds_6 : decode cX7_holds 6 = .ok (.iload_n 0, 1) := by decide +kernel
theorem dX7_holds_7 : decode cX7_holds 7 = .ok (.iload_n 2, 1) := by decide +kernel
theorem dX7_holds_8 : decode cX7_holds 8 = .ok (.if_icmp .ne 7, 3) := by decide +kernel
theorem dX7_holds_11 : decode cX7_holds 11 = .ok (.iconst 1, 1) := by decide +kernel
theorem dX7_holds_12 : decode cX7_holds 12 = .ok (.goto 36, 3) := by decide +kernel
theorem dX7_holds_15 : decode cX7_holds 15 = .ok (.iconst 0, 1) := by decide +kernel
theorem dX7_holds_16 : decode cX7_holds 16 = .ok (.goto 32, 3) := by decide +kernel
theorem dX7_holds_19 : decode cX7_holds 19 = .ok (.iload_n 1, 1) := by decide +kernel
theorem dX7_holds_20 : decode cX7_holds 20 = .ok (.bipush 60, 2) := by decide +kernel
theorem dX7_holds_22 : decode cX7_holds 22 = .ok (.if_icmp .ne 16, 3) := by decide +kernel
theorem dX7_holds_25 : decode cX7_holds 25 = .ok (.iload_n 0, 1) := by decide +kernel
theorem dX7_holds_26 : decode cX7_holds 26 = .ok (.iload_n 2, 1) := by decide +kernel
theorem dX7_holds_27 : decode cX7_holds 27 = .ok (.if_icmp .ge 7, 3) := by decide +kernel
theorem dX7_holds_30 : decode cX7_holds 30 = .ok (.iconst 1, 1) := by decide +kernel
theorem dX7_holds_31 : decode cX7_holds 31 = .ok (.goto 17, 3) := by decide +kernel
theorem dX7_holds_34 : decode cX7_holds 34 = .ok (.iconst 0, 1) := by decide +kernel
theorem dX7_holds_35 : decode cX7_holds 35 = .ok (.goto 13, 3) := by decide +kernel
theorem dX7_holds_38 : decode cX7_holds 38 = .ok (.iload_n 0, 1) := by decide +kernel
theorem dX7_holds_39 : decode cX7_holds 39 = .ok (.iload_n 2, 1) := by decide +kernel
theorem dX7_holds_40 : decode cX7_holds 40 = .ok (.if_icmp .le 7, 3) := by decide +kernel
theorem dX7_holds_43 : decode cX7_holds 43 = .ok (.iconst 1, 1) := by decide +kernel
theorem dX7_holds_44 : decode cX7_holds 44 = .ok (.goto 4, 3) := by decide +kernel
theorem dX7_holds_47 : decode cX7_holds 47 = .ok (.iconst 0, 1) := by decide +kernel
theorem dX7_holds_48 : decode cX7_holds 48 = .ok (.ireturn, 1) := by decide +kernel
theorem dX7_writeField_0 : decode cX7_writeField 0 = .ok (.ldc 122, 2) := by decide +kernel
theorem dX7_writeField_2 : decode cX7_writeField 2 = .ok (.iload_n 2, 1) := by decide +kernel
theorem dX7_writeField_3 : decode cX7_writeField 3 = .ok (.invokevirtual 124, 3) := by decide +kernel
theorem dX7_writeField_6 : decode cX7_writeField 6 = .ok (.istore_n 3, 1) := by decide +kernel
theorem dX7_writeField_7 : decode cX7_writeField 7 = .ok (.iload_n 3, 1) := by decide +kernel
theorem dX7_writeField_8 : decode cX7_writeField 8 = .ok (.ifCond .lt 34, 3) := by decide +kernel
theorem dX7_writeField_11 : decode cX7_writeField 11 = .ok (.iload_n 3, 1) := by decide +kernel
theorem dX7_writeField_12 : decode cX7_writeField 12 = .ok (.bipush 6, 2) := by decide +kernel
theorem dX7_writeField_14 : decode cX7_writeField 14 = .ok (.if_icmp .ge 28, 3) := by decide +kernel
theorem dX7_writeField_17 : decode cX7_writeField 17 = .ok (.aload_n 0, 1) := by decide +kernel
theorem dX7_writeField_18 : decode cX7_writeField 18 = .ok (.getfield 25, 3) := by decide +kernel
theorem dX7_writeField_21 : decode cX7_writeField 21 = .ok (.getfield 140, 3) := by decide +kernel
theorem dX7_writeField_24 : decode cX7_writeField 24 = .ok (.iload_n 3, 1) := by decide +kernel
theorem dX7_writeField_25 : decode cX7_writeField 25 = .ok (.aaload, 1) := by decide +kernel
theorem dX7_writeField_26 : decode cX7_writeField 26 = .ok (.getfield 58, 3) := by decide +kernel
theorem dX7_writeField_29 : decode cX7_writeField 29 = .ok (.aload_n 0, 1) := by decide +kernel
theorem dX7_writeField_30 : decode cX7_writeField 30 = .ok (.getfield 32, 3) := by decide +kernel
theorem dX7_writeField_33 : decode cX7_writeField 33 = .ok (.getfield 54, 3) := by decide +kernel
theorem dX7_writeField_36 : decode cX7_writeField 36 = .ok (.invokevirtual 144, 3) := by decide +kernel
theorem dX7_writeField_39 : decode cX7_writeField 39 = .ok (.if_icmp .le 12, 3) := by decide +kernel
theorem dX7_writeField_42 : decode cX7_writeField 42 = .ok (.aload_n 0, 1) := by decide +kernel
theorem dX7_writeField_43 : decode cX7_writeField 43 = .ok (.getfield 32, 3) := by decide +kernel
theorem dX7_writeField_46 : decode cX7_writeField 46 = .ok (.iconst 3, 1) := by decide +kernel
theorem dX7_writeField_47 : decode cX7_writeField 47 = .ok (.putfield 63, 3) := by decide +kernel
theorem dX7_writeField_50 : decode cX7_writeField 50 = .ok (.return_, 1) := by decide +kernel
theorem dX7_writeField_51 : decode cX7_writeField 51 = .ok (.aload_n 0, 1) := by decide +kernel
theorem dX7_writeField_52 : decode cX7_writeField 52 = .ok (.getfield 32, 3) := by decide +kernel
theorem dX7_writeField_55 : decode cX7_writeField 55 = .ok (.getfield 54, 3) := by decide +kernel
theorem dX7_writeField_58 : decode cX7_writeField 58 = .ok (.aload_n 0, 1) := by decide +kernel
theorem dX7_writeField_59 : decode cX7_writeField 59 = .ok (.getfield 25, 3) := by decide +kernel
theorem dX7_writeField_62 : decode cX7_writeField 62 = .ok (.getfield 140, 3) := by decide +kernel
theorem dX7_writeField_65 : decode cX7_writeField 65 = .ok (.iload_n 3, 1) := by decide +kernel
theorem dX7_writeField_66 : decode cX7_writeField 66 = .ok (.aaload, 1) := by decide +kernel
theorem dX7_writeField_67 : decode cX7_writeField 67 = .ok (.invokevirtual 148, 3) := by decide +kernel
theorem dX7_writeField_70 : decode cX7_writeField 70 = .ok (.aload_n 0, 1) := by decide +kernel
theorem dX7_writeField_71 : decode cX7_writeField 71 = .ok (.getfield 40, 3) := by decide +kernel
theorem dX7_writeField_74 : decode cX7_writeField 74 = .ok (.iload_n 1, 1) := by decide +kernel
theorem dX7_writeField_75 : decode cX7_writeField 75 = .ok (.dup2, 1) := by decide +kernel
theorem dX7_writeField_76 : decode cX7_writeField 76 = .ok (.iaload, 1) := by decide +kernel
theorem dX7_writeField_77 : decode cX7_writeField 77 = .ok (.iconst 3, 1) := by decide +kernel
theorem dX7_writeField_78 : decode cX7_writeField 78 = .ok (.iadd, 1) := by decide +kernel
theorem dX7_writeField_79 : decode cX7_writeField 79 = .ok (.iastore, 1) := by decide +kernel
theorem dX7_writeField_80 : decode cX7_writeField 80 = .ok (.return_, 1) := by decide +kernel
theorem dX7_writeSign_0 : decode cX7_writeSign 0 = .ok (.aload_n 0, 1) := by decide +kernel
theorem dX7_writeSign_1 : decode cX7_writeSign 1 = .ok (.getfield 32, 3) := by decide +kernel
theorem dX7_writeSign_4 : decode cX7_writeSign 4 = .ok (.getfield 54, 3) := by decide +kernel
theorem dX7_writeSign_7 : decode cX7_writeSign 7 = .ok (.invokevirtual 144, 3) := by decide +kernel
theorem dX7_writeSign_10 : decode cX7_writeSign 10 = .ok (.iconst 1, 1) := by decide +kernel
theorem dX7_writeSign_11 : decode cX7_writeSign 11 = .ok (.if_icmp .ge 12, 3) := by decide +kernel
theorem dX7_writeSign_14 : decode cX7_writeSign 14 = .ok (.aload_n 0, 1) := by decide +kernel
theorem dX7_writeSign_15 : decode cX7_writeSign 15 = .ok (.getfield 32, 3) := by decide +kernel
theorem dX7_writeSign_18 : decode cX7_writeSign 18 = .ok (.iconst 3, 1) := by decide +kernel
theorem dX7_writeSign_19 : decode cX7_writeSign 19 = .ok (.putfield 63, 3) := by decide +kernel
theorem dX7_writeSign_22 : decode cX7_writeSign 22 = .ok (.return_, 1) := by decide +kernel
theorem dX7_writeSign_23 : decode cX7_writeSign 23 = .ok (.aload_n 0, 1) := by decide +kernel
theorem dX7_writeSign_24 : decode cX7_writeSign 24 = .ok (.getfield 32, 3) := by decide +kernel
theorem dX7_writeSign_27 : decode cX7_writeSign 27 = .ok (.getfield 54, 3) := by decide +kernel
theorem dX7_writeSign_30 : decode cX7_writeSign 30 = .ok (.iload_n 2, 1) := by decide +kernel
theorem dX7_writeSign_31 : decode cX7_writeSign 31 = .ok (.invokevirtual 152, 3) := by decide +kernel
theorem dX7_writeSign_34 : decode cX7_writeSign 34 = .ok (.aload_n 0, 1) := by decide +kernel
theorem dX7_writeSign_35 : decode cX7_writeSign 35 = .ok (.getfield 40, 3) := by decide +kernel
theorem dX7_writeSign_38 : decode cX7_writeSign 38 = .ok (.iload_n 1, 1) := by decide +kernel
theorem dX7_writeSign_39 : decode cX7_writeSign 39 = .ok (.dup2, 1) := by decide +kernel
theorem dX7_writeSign_40 : decode cX7_writeSign 40 = .ok (.iaload, 1) := by decide +kernel
theorem dX7_writeSign_41 : decode cX7_writeSign 41 = .ok (.iconst 1, 1) := by decide +kernel
theorem dX7_writeSign_42 : decode cX7_writeSign 42 = .ok (.iadd, 1) := by decide +kernel
theorem dX7_writeSign_43 : decode cX7_writeSign 43 = .ok (.iastore, 1) := by decide +kernel
theorem dX7_writeSign_44 : decode cX7_writeSign 44 = .ok (.return_, 1) := by decide +kernel
theorem dX8_init_0 : decode cX8_init 0 = .ok (.aload_n 0, 1) := by decide +kernel
theorem dX8_init_1 : decode cX8_init 1 = .ok (.invokespecial 3, 3) := by decide +kernel
theorem dX8_init_4 : decode cX8_init 4 = .ok (.aload_n 0, 1) := by decide +kernel
theorem dX8_init_5 : decode cX8_init 5 = .ok (.bipush 12, 2) := by decide +kernel
theorem dX8_init_7 : decode cX8_init 7 = .ok (.anewarray 9, 3) := by decide +kernel
theorem dX8_init_10 : decode cX8_init 10 = .ok (.putfield 11, 3) := by decide +kernel
theorem dX8_init_13 : decode cX8_init 13 = .ok (.iconst 0, 1) := by decide +kernel
theorem dX8_init_14 : decode cX8_init 14 = .ok (.istore_n 1, 1) := by decide +kernel
theorem dX8_init_15 : decode cX8_init 15 = .ok (.iload_n 1, 1) := by decide +kernel
theorem dX8_init_16 : decode cX8_init 16 = .ok (.bipush 12, 2) := by decide +kernel
theorem dX8_init_18 : decode cX8_init 18 = .ok (.if_icmp .ge 22, 3) := by decide +kernel
theorem dX8_init_21 : decode cX8_init 21 = .ok (.aload_n 0, 1) := by decide +kernel
theorem dX8_init_22 : decode cX8_init 22 = .ok (.getfield 11, 3) := by decide +kernel
theorem dX8_init_25 : decode cX8_init 25 = .ok (.iload_n 1, 1) := by decide +kernel
theorem dX8_init_26 : decode cX8_init 26 = .ok (.new 9, 3) := by decide +kernel
theorem dX8_init_29 : decode cX8_init 29 = .ok (.dup, 1) := by decide +kernel
theorem dX8_init_30 : decode cX8_init 30 = .ok (.invokespecial 17, 3) := by decide +kernel
theorem dX8_init_33 : decode cX8_init 33 = .ok (.aastore, 1) := by decide +kernel
theorem dX8_init_34 : decode cX8_init 34 = .ok (.iinc 1 1, 3) := by decide +kernel
theorem dX8_init_37 : decode cX8_init 37 = .ok (.goto (-22), 3) := by decide +kernel
theorem dX8_init_40 : decode cX8_init 40 = .ok (.return_, 1) := by decide +kernel
theorem dX8_keep_0 : decode cX8_keep 0 = .ok (.aload_n 0, 1) := by decide +kernel
theorem dX8_keep_1 : decode cX8_keep 1 = .ok (.getfield 18, 3) := by decide +kernel
theorem dX8_keep_4 : decode cX8_keep 4 = .ok (.ifCond .lt 35, 3) := by decide +kernel
theorem dX8_keep_7 : decode cX8_keep 7 = .ok (.aload_n 0, 1) := by decide +kernel
theorem dX8_keep_8 : decode cX8_keep 8 = .ok (.getfield 18, 3) := by decide +kernel
theorem dX8_keep_11 : decode cX8_keep 11 = .ok (.bipush 12, 2) := by decide +kernel
theorem dX8_keep_13 : decode cX8_keep 13 = .ok (.if_icmp .ge 26, 3) := by decide +kernel
theorem dX8_keep_16 : decode cX8_keep 16 = .ok (.aload_n 0, 1) := by decide +kernel
theorem dX8_keep_17 : decode cX8_keep 17 = .ok (.getfield 11, 3) := by decide +kernel
theorem dX8_keep_20 : decode cX8_keep 20 = .ok (.aload_n 0, 1) := by decide +kernel
theorem dX8_keep_21 : decode cX8_keep 21 = .ok (.getfield 18, 3) := by decide +kernel
theorem dX8_keep_24 : decode cX8_keep 24 = .ok (.aaload, 1) := by decide +kernel
theorem dX8_keep_25 : decode cX8_keep 25 = .ok (.aload_n 1, 1) := by decide +kernel
theorem dX8_keep_26 : decode cX8_keep 26 = .ok (.invokevirtual 22, 3) := by decide +kernel
theorem dX8_keep_29 : decode cX8_keep 29 = .ok (.aload_n 0, 1) := by decide +kernel
theorem dX8_keep_30 : decode cX8_keep 30 = .ok (.dup, 1) := by decide +kernel
theorem dX8_keep_31 : decode cX8_keep 31 = .ok (.getfield 18, 3) := by decide +kernel
theorem dX8_keep_34 : decode cX8_keep 34 = .ok (.iconst 1, 1) := by decide +kernel
theorem dX8_keep_35 : decode cX8_keep 35 = .ok (.iadd, 1) := by decide +kernel
theorem dX8_keep_36 : decode cX8_keep 36 = .ok (.putfield 18, 3) := by decide +kernel
theorem dX8_keep_39 : decode cX8_keep 39 = .ok (.return_, 1) := by decide +kernel
theorem dX9_init_0 : decode cX9_init 0 = .ok (.aload_n 0, 1) := by decide +kernel
theorem dX9_init_1 : decode cX9_init 1 = .ok (.invokespecial 1, 3) := by decide +kernel
theorem dX9_init_4 : decode cX9_init 4 = .ok (.aload_n 0, 1) := by decide +kernel
theorem dX9_init_5 : decode cX9_init 5 = .ok (.iload_n 1, 1) := by decide +kernel
theorem dX9_init_6 : decode cX9_init 6 = .ok (.ifCond .le 7, 3) := by decide +kernel
theorem dX9_init_9 : decode cX9_init 9 = .ok (.iload_n 1, 1) := by decide +kernel
theorem dX9_init_10 : decode cX9_init 10 = .ok (.goto 4, 3) := by decide +kernel
theorem dX9_init_13 : decode cX9_init 13 = .ok (.iconst 0, 1) := by decide +kernel
theorem dX9_init_14 : decode cX9_init 14 = .ok (.newarray .char, 2) := by decide +kernel
theorem dX9_init_16 : decode cX9_init 16 = .ok (.putfield 7, 3) := by decide +kernel
theorem dX9_init_19 : decode cX9_init 19 = .ok (.return_, 1) := by decide +kernel
theorem dX9_signAt_0 : decode cX9_signAt 0 = .ok (.iload_n 1, 1) := by decide +kernel
theorem dX9_signAt_1 : decode cX9_signAt 1 = .ok (.ifCond .lt 29, 3) := by decide +kernel
theorem dX9_signAt_4 : decode cX9_signAt 4 = .ok (.iload_n 1, 1) := by decide +kernel
theorem dX9_signAt_5 : decode cX9_signAt 5 = .ok (.aload_n 0, 1) := by decide +kernel
theorem dX9_signAt_6 : decode cX9_signAt 6 = .ok (.getfield 13, 3) := by decide +kernel
theorem dX9_signAt_9 : decode cX9_signAt 9 = .ok (.if_icmp .ge 21, 3) := by decide +kernel
theorem dX9_signAt_12 : decode cX9_signAt 12 = .ok (.iload_n 1, 1) := by decide +kernel
theorem dX9_signAt_13 : decode cX9_signAt 13 = .ok (.aload_n 0, 1) := by decide +kernel
theorem dX9_signAt_14 : decode cX9_signAt 14 = .ok (.getfield 7, 3) := by decide +kernel
theorem dX9_signAt_17 : decode cX9_signAt 17 = .ok (.arraylength, 1) := by decide +kernel
theorem dX9_signAt_18 : decode cX9_signAt 18 = .ok (.if_icmp .ge 12, 3) := by decide +kernel
theorem dX9_signAt_21 : decode cX9_signAt 21 = .ok (.aload_n 0, 1) := by decide +kernel
theorem dX9_signAt_22 : decode cX9_signAt 22 = .ok (.getfield 7, 3) := by decide +kernel
theorem dX9_signAt_25 : decode cX9_signAt 25 = .ok (.iload_n 1, 1) := by decide +kernel
theorem dX9_signAt_26 : decode cX9_signAt 26 = .ok (.caload, 1) := by decide +kernel
theorem dX9_signAt_27 : decode cX9_signAt 27 = .ok (.goto 4, 3) := by decide +kernel
theorem dX9_signAt_30 : decode cX9_signAt 30 = .ok (.iconst 0, 1) := by decide +kernel
theorem dX9_signAt_31 : decode cX9_signAt 31 = .ok (.ireturn, 1) := by decide +kernel
theorem dX9_room_0 : decode cX9_room 0 = .ok (.aload_n 0, 1) := by decide +kernel
theorem dX9_room_1 : decode cX9_room 1 = .ok (.getfield 7, 3) := by decide +kernel
theorem dX9_room_4 : decode cX9_room 4 = .ok (.arraylength, 1) := by decide +kernel
theorem dX9_room_5 : decode cX9_room 5 = .ok (.aload_n 0, 1) := by decide +kernel
theorem dX9_room_6 : decode cX9_room 6 = .ok (.getfield 13, 3) := by decide +kernel
theorem dX9_room_9 : decode cX9_room 9 = .ok (.isub, 1) := by decide +kernel
theorem dX9_room_10 : decode cX9_room 10 = .ok (.ireturn, 1) := by decide +kernel
theorem dX9_add_0 : decode cX9_add 0 = .ok (.aload_n 0, 1) := by decide +kernel
theorem dX9_add_1 : decode cX9_add 1 = .ok (.getfield 13, 3) := by decide +kernel
theorem dX9_add_4 : decode cX9_add 4 = .ok (.ifCond .lt 35, 3) := by decide +kernel
theorem dX9_add_7 : decode cX9_add 7 = .ok (.aload_n 0, 1) := by decide +kernel
theorem dX9_add_8 : decode cX9_add 8 = .ok (.getfield 13, 3) := by decide +kernel
theorem dX9_add_11 : decode cX9_add 11 = .ok (.aload_n 0, 1) := by decide +kernel
theorem dX9_add_12 : decode cX9_add 12 = .ok (.getfield 7, 3) := by decide +kernel
theorem dX9_add_15 : decode cX9_add 15 = .ok (.arraylength, 1) := by decide +kernel
theorem dX9_add_16 : decode cX9_add 16 = .ok (.if_icmp .ge 23, 3) := by decide +kernel
theorem dX9_add_19 : decode cX9_add 19 = .ok (.aload_n 0, 1) := by decide +kernel
theorem dX9_add_20 : decode cX9_add 20 = .ok (.getfield 7, 3) := by decide +kernel
theorem dX9_add_23 : decode cX9_add 23 = .ok (.aload_n 0, 1) := by decide +kernel
theorem dX9_add_24 : decode cX9_add 24 = .ok (.getfield 13, 3) := by decide +kernel
theorem dX9_add_27 : decode cX9_add 27 = .ok (.iload_n 1, 1) := by decide +kernel
theorem dX9_add_28 : decode cX9_add 28 = .ok (.castore, 1) := by decide +kernel
theorem dX9_add_29 : decode cX9_add 29 = .ok (.aload_n 0, 1) := by decide +kernel
theorem dX9_add_30 : decode cX9_add 30 = .ok (.dup, 1) := by decide +kernel
theorem dX9_add_31 : decode cX9_add 31 = .ok (.getfield 13, 3) := by decide +kernel
theorem dX9_add_34 : decode cX9_add 34 = .ok (.iconst 1, 1) := by decide +kernel
theorem dX9_add_35 : decode cX9_add 35 = .ok (.iadd, 1) := by decide +kernel
theorem dX9_add_36 : decode cX9_add 36 = .ok (.putfield 13, 3) := by decide +kernel
theorem dX9_add_39 : decode cX9_add 39 = .ok (.return_, 1) := by decide +kernel
theorem dX9_addAll_0 : decode cX9_addAll 0 = .ok (.aload_n 1, 1) := by decide +kernel
theorem dX9_addAll_1 : decode cX9_addAll 1 = .ok (.getfield 13, 3) := by decide +kernel
theorem dX9_addAll_4 : decode cX9_addAll 4 = .ok (.aload_n 0, 1) := by decide +kernel
theorem dX9_addAll_5 : decode cX9_addAll 5 = .ok (.getfield 7, 3) := by decide +kernel
theorem dX9_addAll_8 : decode cX9_addAll 8 = .ok (.arraylength, 1) := by decide +kernel
theorem dX9_addAll_9 : decode cX9_addAll 9 = .ok (.aload_n 0, 1) := by decide +kernel
theorem dX9_addAll_10 : decode cX9_addAll 10 = .ok (.getfield 13, 3) := by decide +kernel
theorem dX9_addAll_13 : decode cX9_addAll 13 = .ok (.isub, 1) := by decide +kernel
theorem dX9_addAll_14 : decode cX9_addAll 14 = .ok (.invokestatic 17, 3) := by decide +kernel
theorem dX9_addAll_17 : decode cX9_addAll 17 = .ok (.istore_n 2, 1) := by decide +kernel
theorem dX9_addAll_18 : decode cX9_addAll 18 = .ok (.iload_n 2, 1) := by decide +kernel
theorem dX9_addAll_19 : decode cX9_addAll 19 = .ok (.ifCond .le 30, 3) := by decide +kernel
theorem dX9_addAll_22 : decode cX9_addAll 22 = .ok (.aload_n 1, 1) := by decide +kernel
theorem dX9_addAll_23 : decode cX9_addAll 23 = .ok (.getfield 7, 3) := by decide +kernel
theorem dX9_addAll_26 : decode cX9_addAll 26 = .ok (.iconst 0, 1) := by decide +kernel
theorem dX9_addAll_27 : decode cX9_addAll 27 = .ok (.aload_n 0, 1) := by decide +kernel
theorem dX9_addAll_28 : decode cX9_addAll 28 = .ok (.getfield 7, 3) := by decide +kernel
theorem dX9_addAll_31 : decode cX9_addAll 31 = .ok (.aload_n 0, 1) := by decide +kernel
theorem dX9_addAll_32 : decode cX9_addAll 32 = .ok (.getfield 13, 3) := by decide +kernel
theorem dX9_addAll_35 : decode cX9_addAll 35 = .ok (.iload_n 2, 1) := by decide +kernel
theorem dX9_addAll_36 : decode cX9_addAll 36 = .ok (.invokestatic 23, 3) := by decide +kernel
theorem dX9_addAll_39 : decode cX9_addAll 39 = .ok (.aload_n 0, 1) := by decide +kernel
theorem dX9_addAll_40 : decode cX9_addAll 40 = .ok (.dup, 1) := by decide +kernel
theorem dX9_addAll_41 : decode cX9_addAll 41 = .ok (.getfield 13, 3) := by decide +kernel
theorem dX9_addAll_44 : decode cX9_addAll 44 = .ok (.iload_n 2, 1) := by decide +kernel
theorem dX9_addAll_45 : decode cX9_addAll 45 = .ok (.iadd, 1) := by decide +kernel
theorem dX9_addAll_46 : decode cX9_addAll 46 = .ok (.putfield 13, 3) := by decide +kernel
theorem dX9_addAll_49 : decode cX9_addAll 49 = .ok (.return_, 1) := by decide +kernel
theorem dX9_addNumber_0 : decode cX9_addNumber 0 = .ok (.iload_n 1, 1) := by decide +kernel
theorem dX9_addNumber_1 : decode cX9_addNumber 1 = .ok (.sipush 1000, 3) := by decide +kernel
theorem dX9_addNumber_4 : decode cX9_addNumber 4 = .ok (.if_icmp .lt 9, 3) := by decide +kernel
theorem dX9_addNumber_7 : decode cX9_addNumber 7 = .ok (.sipush 1000, 3) := by decide +kernel
theorem dX9_addNumber_10 : decode cX9_addNumber 10 = .ok (.goto 26, 3) := by decide +kernel
theorem dX9_addNumber_13 : decode cX9_addNumber 13 = .ok (.iload_n 1, 1) := by decide +kernel
theorem dX9_addNumber_14 : decode cX9_addNumber 14 = .ok (.bipush 100, 2) := by decide +kernel
theorem dX9_addNumber_16 : decode cX9_addNumber 16 = .ok (.if_icmp .lt 8, 3) := by decide +kernel
theorem dX9_addNumber_19 : decode cX9_addNumber 19 = .ok (.bipush 100, 2) := by decide +kernel
theorem dX9_addNumber_21 : decode cX9_addNumber 21 = .ok (.goto 15, 3) := by decide +kernel
theorem dX9_addNumber_24 : decode cX9_addNumber 24 = .ok (.iload_n 1, 1) := by decide +kernel
theorem dX9_addNumber_25 : decode cX9_addNumber 25 = .ok (.bipush 10, 2) := by decide +kernel
theorem dX9_addNumber_27 : decode cX9_addNumber 27 = .ok (.if_icmp .lt 8, 3) := by decide +kernel
theorem dX9_addNumber_30 : decode cX9_addNumber 30 = .ok (.bipush 10, 2) := by decide +kernel
theorem dX9_addNumber_32 : decode cX9_addNumber 32 = .ok (.goto 4, 3) := by decide +kernel
theorem dX9_addNumber_35 : decode cX9_addNumber 35 = .ok (.iconst 1, 1) := by decide +kernel
theorem dX9_addNumber_36 : decode cX9_addNumber 36 = .ok (.istore_n 2, 1) := by decide +kernel
theorem dX9_addNumber_37 : decode cX9_addNumber 37 = .ok (.iload_n 2, 1) := by decide +kernel
theorem dX9_addNumber_38 : decode cX9_addNumber 38 = .ok (.ifCond .le 25, 3) := by decide +kernel
theorem dX9_addNumber_41 : decode cX9_addNumber 41 = .ok (.aload_n 0, 1) := by decide +kernel
theorem dX9_addNumber_42 : decode cX9_addNumber 42 = .ok (.bipush 48, 2) := by decide +kernel
theorem dX9_addNumber_44 : decode cX9_addNumber 44 = .ok (.iload_n 1, 1) := by decide +kernel
theorem dX9_addNumber_45 : decode cX9_addNumber 45 = .ok (.iload_n 2, 1) := by decide +kernel
theorem dX9_addNumber_46 : decode cX9_addNumber 46 = .ok (.idiv, 1) := by decide +kernel
theorem dX9_addNumber_47 : decode cX9_addNumber 47 = .ok (.bipush 10, 2) := by decide +kernel
theorem dX9_addNumber_49 : decode cX9_addNumber 49 = .ok (.irem, 1) := by decide +kernel
theorem dX9_addNumber_50 : decode cX9_addNumber 50 = .ok (.iadd, 1) := by decide +kernel
theorem dX9_addNumber_51 : decode cX9_addNumber 51 = .ok (.i2c, 1) := by decide +kernel
theorem dX9_addNumber_52 : decode cX9_addNumber 52 = .ok (.invokevirtual 29, 3) := by decide +kernel
theorem dX9_addNumber_55 : decode cX9_addNumber 55 = .ok (.iload_n 2, 1) := by decide +kernel
theorem dX9_addNumber_56 : decode cX9_addNumber 56 = .ok (.bipush 10, 2) := by decide +kernel
theorem dX9_addNumber_58 : decode cX9_addNumber 58 = .ok (.idiv, 1) := by decide +kernel
theorem dX9_addNumber_59 : decode cX9_addNumber 59 = .ok (.istore_n 2, 1) := by decide +kernel
theorem dX9_addNumber_60 : decode cX9_addNumber 60 = .ok (.goto (-23), 3) := by decide +kernel
theorem dX9_addNumber_63 : decode cX9_addNumber 63 = .ok (.return_, 1) := by decide +kernel
theorem dX9_become_0 : decode cX9_become 0 = .ok (.aload_n 0, 1) := by decide +kernel
theorem dX9_become_1 : decode cX9_become 1 = .ok (.iconst 0, 1) := by decide +kernel
theorem dX9_become_2 : decode cX9_become 2 = .ok (.putfield 13, 3) := by decide +kernel
theorem dX9_become_5 : decode cX9_become 5 = .ok (.aload_n 0, 1) := by decide +kernel
theorem dX9_become_6 : decode cX9_become 6 = .ok (.aload_n 1, 1) := by decide +kernel
theorem dX9_become_7 : decode cX9_become 7 = .ok (.invokevirtual 33, 3) := by decide +kernel
theorem dX9_become_10 : decode cX9_become 10 = .ok (.return_, 1) := by decide +kernel
theorem dX9_becomeCleaned_0 : decode cX9_becomeCleaned 0 = .ok (.aload_n 0, 1) := by decide +kernel
theorem dX9_becomeCleaned_1 : decode cX9_becomeCleaned 1 = .ok (.iconst 0, 1) := by decide +kernel
theorem dX9_becomeCleaned_2 : decode cX9_becomeCleaned 2 = .ok (.putfield 13, 3) := by decide +kernel
theorem dX9_becomeCleaned_5 : decode cX9_becomeCleaned 5 = .ok (.iconst 0, 1) := by decide +kernel
theorem dX9_becomeCleaned_6 : decode cX9_becomeCleaned 6 = .ok (.istore_n 2, 1) := by decide +kernel
theorem dX9_becomeCleaned_7 : decode cX9_becomeCleaned 7 = .ok (.iload_n 2, 1) := by decide +kernel
theorem dX9_becomeCleaned_8 : decode cX9_becomeCleaned 8 = .ok (.aload_n 1, 1) := by decide +kernel
theorem dX9_becomeCleaned_9 : decode cX9_becomeCleaned 9 = .ok (.getfield 13, 3) := by decide +kernel
theorem dX9_becomeCleaned_12 : decode cX9_becomeCleaned 12 = .ok (.if_icmp .ge 68, 3) := by decide +kernel
theorem dX9_becomeCleaned_15 : decode cX9_becomeCleaned 15 = .ok (.aload_n 1, 1) := by decide +kernel
theorem dX9_becomeCleaned_16 : decode cX9_becomeCleaned 16 = .ok (.iload_n 2, 1) := by decide +kernel
theorem dX9_becomeCleaned_17 : decode cX9_becomeCleaned 17 = .ok (.invokevirtual 37, 3) := by decide +kernel
theorem dX9_becomeCleaned_20 : decode cX9_becomeCleaned 20 = .ok (.istore_n 3, 1) := by decide +kernel
theorem dX9_becomeCleaned_21 : decode cX9_becomeCleaned 21 = .ok (.iload_n 3, 1) := by decide +kernel
theorem dX9_becomeCleaned_22 : decode cX9_becomeCleaned 22 = .ok (.bipush 65, 2) := by decide +kernel
theorem dX9_becomeCleaned_24 : decode cX9_becomeCleaned 24 = .ok (.if_icmp .lt 24, 3) := by decide +kernel
theorem dX9_becomeCleaned_27 : decode cX9_becomeCleaned 27 = .ok (.iload_n 3, 1) := by decide +kernel
theorem dX9_becomeCleaned_28 : decode cX9_becomeCleaned 28 = .ok (.bipush 90, 2) := by decide +kernel
theorem dX9_becomeCleaned_30 : decode cX9_becomeCleaned 30 = .ok (.if_icmp .gt 18, 3) := by decide +kernel
theorem dX9_becomeCleaned_33 : decode cX9_becomeCleaned 33 = .ok (.aload_n 0, 1) := by decide +kernel
theorem dX9_becomeCleaned_34 : decode cX9_becomeCleaned 34 = .ok (.iload_n 3, 1) := by decide +kernel
theorem dX9_becomeCleaned_35 : decode cX9_becomeCleaned 35 = .ok (.bipush 65, 2) := by decide +kernel
theorem dX9_becomeCleaned_37 : decode cX9_becomeCleaned 37 = .ok (.isub, 1) := by decide +kernel
theorem dX9_becomeCleaned_38 : decode cX9_becomeCleaned 38 = .ok (.bipush 97, 2) := by decide +kernel
theorem dX9_becomeCleaned_40 : decode cX9_becomeCleaned 40 = .ok (.iadd, 1) := by decide +kernel
theorem dX9_becomeCleaned_41 : decode cX9_becomeCleaned 41 = .ok (.i2c, 1) := by decide +kernel
theorem dX9_becomeCleaned_42 : decode cX9_becomeCleaned 42 = .ok (.invokevirtual 29, 3) := by decide +kernel
theorem dX9_becomeCleaned_45 : decode cX9_becomeCleaned 45 = .ok (.goto 29, 3) := by decide +kernel
theorem dX9_becomeCleaned_48 : decode cX9_becomeCleaned 48 = .ok (.iload_n 3, 1) := by decide +kernel
theorem dX9_becomeCleaned_49 : decode cX9_becomeCleaned 49 = .ok (.bipush 97, 2) := by decide +kernel
theorem dX9_becomeCleaned_51 : decode cX9_becomeCleaned 51 = .ok (.if_icmp .lt 9, 3) := by decide +kernel
theorem dX9_becomeCleaned_54 : decode cX9_becomeCleaned 54 = .ok (.iload_n 3, 1) := by decide +kernel
theorem dX9_becomeCleaned_55 : decode cX9_becomeCleaned 55 = .ok (.bipush 122, 2) := by decide +kernel
theorem dX9_becomeCleaned_57 : decode cX9_becomeCleaned 57 = .ok (.if_icmp .le 12, 3) := by decide +kernel
theorem dX9_becomeCleaned_60 : decode cX9_becomeCleaned 60 = .ok (.iload_n 3, 1) := by decide +kernel
theorem dX9_becomeCleaned_61 : decode cX9_becomeCleaned 61 = .ok (.bipush 57, 2) := by decide +kernel
theorem dX9_becomeCleaned_63 : decode cX9_becomeCleaned 63 = .ok (.invokestatic 41, 3) := by decide +kernel
theorem dX9_becomeCleaned_66 : decode cX9_becomeCleaned 66 = .ok (.ifCond .eq 8, 3) := by decide +kernel
theorem dX9_becomeCleaned_69 : decode cX9_becomeCleaned 69 = .ok (.aload_n 0, 1) := by decide +kernel
theorem dX9_becomeCleaned_70 : decode cX9_becomeCleaned 70 = .ok (.iload_n 3, 1) := by decide +kernel
theorem dX9_becomeCleaned_71 : decode cX9_becomeCleaned 71 = .ok (.invokevirtual 29, 3) := by decide +kernel
theorem dX9_becomeCleaned_74 : decode cX9_becomeCleaned 74 = .ok (.iinc 2 1, 3) := by decide +kernel
theorem dX9_becomeCleaned_77 : decode cX9_becomeCleaned 77 = .ok (.goto (-70), 3) := by decide +kernel
theorem dX9_becomeCleaned_80 : decode cX9_becomeCleaned 80 = .ok (.return_, 1) := by decide +kernel
theorem dX9_unlikeSigns_0 : decode cX9_unlikeSigns 0 = .ok (.iconst 0, 1) := by decide +kernel
theorem dX9_unlikeSigns_1 : decode cX9_unlikeSigns 1 = .ok (.istore_n 2, 1) := by decide +kernel
theorem dX9_unlikeSigns_2 : decode cX9_unlikeSigns 2 = .ok (.iconst 0, 1) := by decide +kernel
theorem dX9_unlikeSigns_3 : decode cX9_unlikeSigns 3 = .ok (.istore_n 3, 1) := by decide +kernel
theorem dX9_unlikeSigns_4 : decode cX9_unlikeSigns 4 = .ok (.iload_n 3, 1) := by decide +kernel
theorem dX9_unlikeSigns_5 : decode cX9_unlikeSigns 5 = .ok (.aload_n 0, 1) := by decide +kernel
theorem dX9_unlikeSigns_6 : decode cX9_unlikeSigns 6 = .ok (.getfield 13, 3) := by decide +kernel
theorem dX9_unlikeSigns_9 : decode cX9_unlikeSigns 9 = .ok (.aload_n 1, 1) := by decide +kernel
theorem dX9_unlikeSigns_10 : decode cX9_unlikeSigns 10 = .ok (.getfield 13, 3) := by decide +kernel
theorem dX9_unlikeSigns_13 : decode cX9_unlikeSigns 13 = .ok (.invokestatic 47, 3) := by decide +kernel
theorem dX9_unlikeSigns_16 : decode cX9_unlikeSigns 16 = .ok (.if_icmp .ge 25, 3) := by decide +kernel
theorem dX9_unlikeSigns_19 : decode cX9_unlikeSigns 19 = .ok (.aload_n 0, 1) := by decide +kernel
theorem dX9_unlikeSigns_20 : decode cX9_unlikeSigns 20 = .ok (.iload_n 3, 1) := by decide +kernel
theorem dX9_unlikeSigns_21 : decode cX9_unlikeSigns 21 = .ok (.invokevirtual 37, 3) := by decide +kernel
theorem dX9_unlikeSigns_24 : decode cX9_unlikeSigns 24 = .ok (.aload_n 1, 1) := by decide +kernel
theorem dX9_unlikeSigns_25 : decode cX9_unlikeSigns 25 = .ok (.iload_n 3, 1) := by decide +kernel
theorem dX9_unlikeSigns_26 : decode cX9_unlikeSigns 26 = .ok (.invokevirtual 37, 3) := by decide +kernel
theorem dX9_unlikeSigns_29 : decode cX9_unlikeSigns 29 = .ok (.if_icmp .eq 6, 3) := by decide +kernel
theorem dX9_unlikeSigns_32 : decode cX9_unlikeSigns 32 = .ok (.iinc 2 1, 3) := by decide +kernel
theorem dX9_unlikeSigns_35 : decode cX9_unlikeSigns 35 = .ok (.iinc 3 1, 3) := by decide +kernel
theorem dX9_unlikeSigns_38 : decode cX9_unlikeSigns 38 = .ok (.goto (-34), 3) := by decide +kernel
theorem dX9_unlikeSigns_41 : decode cX9_unlikeSigns 41 = .ok (.iload_n 2, 1) := by decide +kernel
theorem dX9_unlikeSigns_42 : decode cX9_unlikeSigns 42 = .ok (.ireturn, 1) := by decide +kernel
theorem dX10_init_0 : decode cX10_init 0 = .ok (.aload_n 0, 1) := by decide +kernel
theorem dX10_init_1 : decode cX10_init 1 = .ok (.invokespecial 3, 3) := by decide +kernel
theorem dX10_init_4 : decode cX10_init 4 = .ok (.aload_n 0, 1) := by decide +kernel
theorem dX10_init_5 : decode cX10_init 5 = .ok (.new 9, 3) := by decide +kernel
theorem dX10_init_8 : decode cX10_init 8 = .ok (.dup, 1) := by decide +kernel
theorem dX10_init_9 : decode cX10_init 9 = .ok (.bipush 96, 2) := by decide +kernel
theorem dX10_init_11 : decode cX10_init 11 = .ok (.invokespecial 11, 3) := by decide +kernel
theorem dX10_init_14 : decode cX10_init 14 = .ok (.putfield 14, 3) := by decide +kernel
theorem dX10_init_17 : decode cX10_init 17 = .ok (.aload_n 0, 1) := by decide +kernel
theorem dX10_init_18 : decode cX10_init 18 = .ok (.bipush 96, 2) := by decide +kernel
theorem dX10_init_20 : decode cX10_init 20 = .ok (.newarray .int, 2) := by decide +kernel
theorem dX10_init_22 : decode cX10_init 22 = .ok (.putfield 20, 3) := by decide +kernel
theorem dX10_init_25 : decode cX10_init 25 = .ok (.aload_n 0, 1) := by decide +kernel
theorem dX10_init_26 : decode cX10_init 26 = .ok (.iconst 5, 1) := by decide +kernel
theorem dX10_init_27 : decode cX10_init 27 = .ok (.newarray .int, 2) := by decide +kernel
theorem dX10_init_29 : decode cX10_init 29 = .ok (.putfield 24, 3) := by decide +kernel
theorem dX10_init_32 : decode cX10_init 32 = .ok (.return_, 1) := by decide +kernel
theorem dX10_jumpAt_0 : decode cX10_jumpAt 0 = .ok (.iload_n 1, 1) := by decide +kernel
theorem dX10_jumpAt_1 : decode cX10_jumpAt 1 = .ok (.ifCond .lt 18, 3) := by decide +kernel
theorem dX10_jumpAt_4 : decode cX10_jumpAt 4 = .ok (.iload_n 1, 1) := by decide +kernel
theorem dX10_jumpAt_5 : decode cX10_jumpAt 5 = .ok (.bipush 96, 2) := by decide +kernel
theorem dX10_jumpAt_7 : decode cX10_jumpAt 7 = .ok (.if_icmp .ge 12, 3) := by decide +kernel
theorem dX10_jumpAt_10 : decode cX10_jumpAt 10 = .ok (.aload_n 0, 1) := by decide +kernel
theorem dX10_jumpAt_11 : decode cX10_jumpAt 11 = .ok (.getfield 20, 3) := by decide +kernel
theorem dX10_jumpAt_14 : decode cX10_jumpAt 14 = .ok (.iload_n 1, 1) := by decide +kernel
theorem dX10_jumpAt_15 : decode cX10_jumpAt 15 = .ok (.iaload, 1) := by decide +kernel
theorem dX10_jumpAt_16 : decode cX10_jumpAt 16 = .ok (.goto 5, 3) := by decide +kernel
theorem dX10_jumpAt_19 : decode cX10_jumpAt 19 = .ok (.bipush 96, 2) := by decide +kernel
theorem dX10_jumpAt_21 : decode cX10_jumpAt 21 = .ok (.ireturn, 1) := by decide +kernel
theorem dX10_read_0 : decode cX10_read 0 = .ok (.aload_n 1, 1) := by decide +kernel
theorem dX10_read_1 : decode cX10_read 1 = .ok (.iconst 0, 1) := by decide +kernel
theorem dX10_read_2 : decode cX10_read 2 = .ok (.putfield 27, 3) := by decide +kernel
theorem dX10_read_5 : decode cX10_read 5 = .ok (.aload_n 0, 1) := by decide +kernel
theorem dX10_read_6 : decode cX10_read 6 = .ok (.iconst 0, 1) := by decide +kernel
theorem dX10_read_7 : decode cX10_read 7 = .ok (.putfield 33, 3) := by decide +kernel
theorem dX10_read_10 : decode cX10_read 10 = .ok (.iconst 0, 1) := by decide +kernel
theorem dX10_read_11 : decode cX10_read 11 = .ok (.istore_n 2, 1) := by decide +kernel
theorem dX10_read_12 : decode cX10_read 12 = .ok (.iload_n 2, 1) := by decide +kernel
theorem dX10_read_13 : decode cX10_read 13 = .ok (.bipush 96, 2) := by decide +kernel
theorem dX10_read_15 : decode cX10_read 15 = .ok (.if_icmp .ge 26, 3) := by decide +kernel
theorem dX10_read_18 : decode cX10_read 18 = .ok (.aload_n 1, 1) := by decide +kernel
theorem dX10_read_19 : decode cX10_read 19 = .ok (.invokevirtual 36, 3) := by decide +kernel
theorem dX10_read_22 : decode cX10_read 22 = .ok (.ifCond .ne 19, 3) := by decide +kernel
theorem dX10_read_25 : decode cX10_read 25 = .ok (.aload_n 0, 1) := by decide +kernel
theorem dX10_read_26 : decode cX10_read 26 = .ok (.aload_n 1, 1) := by decide +kernel
theorem dX10_read_27 : decode cX10_read 27 = .ok (.invokevirtual 40, 3) := by decide +kernel
theorem dX10_read_30 : decode cX10_read 30 = .ok (.ifCond .ne 5, 3) := by decide +kernel
theorem dX10_read_33 : decode cX10_read 33 = .ok (.iconst 0, 1) := by decide +kernel
theorem dX10_read_34 : decode cX10_read 34 = .ok (.ireturn, 1) := by decide +kernel
theorem dX10_read_35 : decode cX10_read 35 = .ok (.iinc 2 1, 3) := by decide +kernel
theorem dX10_read_38 : decode cX10_read 38 = .ok (.goto (-26), 3) := by decide +kernel
theorem dX10_read_41 : decode cX10_read 41 = .ok (.aload_n 0, 1) := by decide +kernel
theorem dX10_read_42 : decode cX10_read 42 = .ok (.getfield 14, 3) := by decide +kernel
theorem dX10_read_45 : decode cX10_read 45 = .ok (.aload_n 1, 1) := by decide +kernel
theorem dX10_read_46 : decode cX10_read 46 = .ok (.getfield 44, 3) := by decide +kernel
theorem dX10_read_49 : decode cX10_read 49 = .ok (.invokevirtual 45, 3) := by decide +kernel
theorem dX10_read_52 : decode cX10_read 52 = .ok (.aload_n 0, 1) := by decide +kernel
theorem dX10_read_53 : decode cX10_read 53 = .ok (.aload_n 0, 1) := by decide +kernel
theorem dX10_read_54 : decode cX10_read 54 = .ok (.getfield 33, 3) := by decide +kernel
theorem dX10_read_57 : decode cX10_read 57 = .ok (.ifCond .ne 7, 3) := by decide +kernel
theorem dX10_read_60 : decode cX10_read 60 = .ok (.iconst 1, 1) := by decide +kernel
theorem dX10_read_61 : decode cX10_read 61 = .ok (.goto 4, 3) := by decide +kernel
theorem dX10_read_64 : decode cX10_read 64 = .ok (.iconst 0, 1) := by decide +kernel
theorem dX10_read_65 : decode cX10_read 65 = .ok (.putfield 49, 3) := by decide +kernel
theorem dX10_read_68 : decode cX10_read 68 = .ok (.aload_n 0, 1) := by decide +kernel
theorem dX10_read_69 : decode cX10_read 69 = .ok (.getfield 49, 3) := by decide +kernel
theorem dX10_read_72 : decode cX10_read 72 = .ok (.ireturn, 1) := by decide +kernel
theorem dX10_readPart_0 : decode cX10_readPart 0 = .ok (.aload_n 1, 1) := by decide +kernel
theorem dX10_readPart_1 : decode cX10_readPart 1 = .ok (.invokevirtual 53, 3) := by decide +kernel
theorem dX10_readPart_4 : decode cX10_readPart 4 = .ok (.istore_n 2, 1) := by decide +kernel
theorem dX10_readPart_5 : decode cX10_readPart 5 = .ok (.iload_n 2, 1) := by decide +kernel
theorem dX10_readPart_6 : decode cX10_readPart 6 = .ok (.bipush 60, 2) := by decide +kernel
theorem dX10_readPart_8 : decode cX10_readPart 8 = .ok (.if_icmp .ne 33, 3) := by decide +kernel
theorem dX10_readPart_11 : decode cX10_readPart 11 = .ok (.aload_n 1, 1) := by decide +kernel
theorem dX10_readPart_12 : decode cX10_readPart 12 = .ok (.iload_n 2, 1) := by decide +kernel
theorem dX10_readPart_13 : decode cX10_readPart 13 = .ok (.invokevirtual 57, 3) := by decide +kernel
theorem dX10_readPart_16 : decode cX10_readPart 16 = .ok (.ifCond .eq 23, 3) := by decide +kernel
theorem dX10_readPart_19 : decode cX10_readPart 19 = .ok (.aload_n 1, 1) := by decide +kernel
theorem dX10_readPart_20 : decode cX10_readPart 20 = .ok (.invokevirtual 61, 3) := by decide +kernel
theorem dX10_readPart_23 : decode cX10_readPart 23 = .ok (.ifCond .eq 16, 3) := by decide +kernel
theorem dX10_readPart_26 : decode cX10_readPart 26 = .ok (.aload_n 1, 1) := by decide +kernel
theorem dX10_readPart_27 : decode cX10_readPart 27 = .ok (.bipush 62, 2) := by decide +kernel
theorem dX10_readPart_29 : decode cX10_readPart 29 = .ok (.invokevirtual 57, 3) := by decide +kernel
theorem dX10_readPart_32 : decode cX10_readPart 32 = .ok (.ifCond .eq 7, 3) := by decide +kernel
theorem dX10_readPart_35 : decode cX10_readPart 35 = .ok (.iconst 1, 1) := by decide +kernel
theorem dX10_readPart_36 : decode cX10_readPart 36 = .ok (.goto 4, 3) := by decide +kernel
theorem dX10_readPart_39 : decode cX10_readPart 39 = .ok (.iconst 0, 1) := by decide +kernel
theorem dX10_readPart_40 : decode cX10_readPart 40 = .ok (.ireturn, 1) := by decide +kernel
theorem dX10_readPart_41 : decode cX10_readPart 41 = .ok (.iload_n 2, 1) := by decide +kernel
theorem dX10_readPart_42 : decode cX10_readPart 42 = .ok (.bipush 64, 2) := by decide +kernel
theorem dX10_readPart_44 : decode cX10_readPart 44 = .ok (.if_icmp .ne 26, 3) := by decide +kernel
theorem dX10_readPart_47 : decode cX10_readPart 47 = .ok (.aload_n 1, 1) := by decide +kernel
theorem dX10_readPart_48 : decode cX10_readPart 48 = .ok (.iload_n 2, 1) := by decide +kernel
theorem dX10_readPart_49 : decode cX10_readPart 49 = .ok (.invokevirtual 57, 3) := by decide +kernel
theorem dX10_readPart_52 : decode cX10_readPart 52 = .ok (.ifCond .eq 16, 3) := by decide +kernel
theorem dX10_readPart_55 : decode cX10_readPart 55 = .ok (.aload_n 1, 1) := by decide +kernel
theorem dX10_readPart_56 : decode cX10_readPart 56 = .ok (.bipush 55, 2) := by decide +kernel
theorem dX10_readPart_58 : decode cX10_readPart 58 = .ok (.invokevirtual 64, 3) := by decide +kernel
theorem dX10_readPart_61 : decode cX10_readPart 61 = .ok (.ifCond .eq 7, 3) := by decide +kernel
theorem dX10_readPart_64 : decode cX10_readPart 64 = .ok (.iconst 1, 1) := by decide +kernel
theorem dX10_readPart_65 : decode cX10_readPart 65 = .ok (.goto 4, 3) := by decide +kernel
theorem dX10_readPart_68 : decode cX10_readPart 68 = .ok (.iconst 0, 1) := by decide +kernel
theorem dX10_readPart_69 : decode cX10_readPart 69 = .ok (.ireturn, 1) := by decide +kernel
theorem dX10_readPart_70 : decode cX10_readPart 70 = .ok (.iload_n 2, 1) := by decide +kernel
theorem dX10_readPart_71 : decode cX10_readPart 71 = .ok (.bipush 91, 2) := by decide +kernel
theorem dX10_readPart_73 : decode cX10_readPart 73 = .ok (.if_icmp .ne 9, 3) := by decide +kernel
theorem dX10_readPart_76 : decode cX10_readPart 76 = .ok (.aload_n 0, 1) := by decide +kernel
theorem dX10_readPart_77 : decode cX10_readPart 77 = .ok (.aload_n 1, 1) := by decide +kernel
theorem dX10_readPart_78 : decode cX10_readPart 78 = .ok (.invokevirtual 67, 3) := by decide +kernel
theorem dX10_readPart_81 : decode cX10_readPart 81 = .ok (.ireturn, 1) := by decide +kernel
theorem dX10_readPart_82 : decode cX10_readPart 82 = .ok (.iload_n 2, 1) := by decide +kernel
theorem dX10_readPart_83 : decode cX10_readPart 83 = .ok (.bipush 124, 2) := by decide +kernel
theorem dX10_readPart_85 : decode cX10_readPart 85 = .ok (.if_icmp .ne 9, 3) := by decide +kernel
theorem dX10_readPart_88 : decode cX10_readPart 88 = .ok (.aload_n 0, 1) := by decide +kernel
theorem dX10_readPart_89 : decode cX10_readPart 89 = .ok (.aload_n 1, 1) := by decide +kernel
theorem dX10_readPart_90 : decode cX10_readPart 90 = .ok (.invokevirtual 70, 3) := by decide +kernel
theorem dX10_readPart_93 : decode cX10_readPart 93 = .ok (.ireturn, 1) := by decide +kernel
theorem dX10_readPart_94 : decode cX10_readPart 94 = .ok (.iload_n 2, 1) := by decide +kernel
theorem dX10_readPart_95 : decode cX10_readPart 95 = .ok (.bipush 93, 2) := by decide +kernel
theorem dX10_readPart_97 : decode cX10_readPart 97 = .ok (.if_icmp .ne 9, 3) := by decide +kernel
theorem dX10_readPart_100 : decode cX10_readPart 100 = .ok (.aload_n 0, 1) := by decide +kernel
theorem dX10_readPart_101 : decode cX10_readPart 101 = .ok (.aload_n 1, 1) := by decide +kernel
theorem dX10_readPart_102 : decode cX10_readPart 102 = .ok (.invokevirtual 73, 3) := by decide +kernel
theorem dX10_readPart_105 : decode cX10_readPart 105 = .ok (.ireturn, 1) := by decide +kernel
theorem dX10_readPart_106 : decode cX10_readPart 106 = .ok (.aload_n 1, 1) := by decide +kernel
theorem dX10_readPart_107 : decode cX10_readPart 107 = .ok (.iload_n 2, 1) := by decide +kernel
theorem dX10_readPart_108 : decode cX10_readPart 108 = .ok (.invokevirtual 57, 3) := by decide +kernel
theorem dX10_readPart_111 : decode cX10_readPart 111 = .ok (.ireturn, 1) := by decide +kernel
theorem dX10_openChoice_0 : decode cX10_openChoice 0 = .ok (.aload_n 0, 1) := by decide +kernel
theorem dX10_openChoice_1 : decode cX10_openChoice 1 = .ok (.getfield 33, 3) := by decide +kernel
theorem dX10_openChoice_4 : decode cX10_openChoice 4 = .ok (.ifCond .lt 11, 3) := by decide +kernel
theorem dX10_openChoice_7 : decode cX10_openChoice 7 = .ok (.aload_n 0, 1) := by decide +kernel
theorem dX10_openChoice_8 : decode cX10_openChoice 8 = .ok (.getfield 33, 3) := by decide +kernel
theorem dX10_openChoice_11 : decode cX10_openChoice 11 = .ok (.iconst 5, 1) := by decide +kernel
theorem dX10_openChoice_12 : decode cX10_openChoice 12 = .ok (.if_icmp .lt 5, 3) := by decide +kernel
theorem dX10_openChoice_15 : decode cX10_openChoice 15 = .ok (.iconst 0, 1) := by decide +kernel
theorem dX10_openChoice_16 : decode cX10_openChoice 16 = .ok (.ireturn, 1) := by decide +kernel
theorem dX10_openChoice_17 : decode cX10_openChoice 17 = .ok (.aload_n 0, 1) := by decide +kernel
theorem dX10_openChoice_18 : decode cX10_openChoice 18 = .ok (.getfield 24, 3) := by decide +kernel
theorem dX10_openChoice_21 : decode cX10_openChoice 21 = .ok (.aload_n 0, 1) := by decide +kernel
theorem dX10_openChoice_22 : decode cX10_openChoice 22 = .ok (.getfield 33, 3) := by decide +kernel
theorem dX10_openChoice_25 : decode cX10_openChoice 25 = .ok (.aload_n 1, 1) := by decide +kernel
theorem dX10_openChoice_26 : decode cX10_openChoice 26 = .ok (.getfield 27, 3) := by decide +kernel
theorem dX10_openChoice_29 : decode cX10_openChoice 29 = .ok (.iastore, 1) := by decide +kernel
theorem dX10_openChoice_30 : decode cX10_openChoice 30 = .ok (.aload_n 0, 1) := by decide +kernel
theorem dX10_openChoice_31 : decode cX10_openChoice 31 = .ok (.dup, 1) := by decide +kernel
theorem dX10_openChoice_32 : decode cX10_openChoice 32 = .ok (.getfield 33, 3) := by decide +kernel
theorem dX10_openChoice_35 : decode cX10_openChoice 35 = .ok (.iconst 1, 1) := by decide +kernel
theorem dX10_openChoice_36 : decode cX10_openChoice 36 = .ok (.iadd, 1) := by decide +kernel
theorem dX10_openChoice_37 : decode cX10_openChoice 37 = .ok (.putfield 33, 3) := by decide +kernel
theorem dX10_openChoice_40 : decode cX10_openChoice 40 = .ok (.aload_n 1, 1) := by decide +kernel
theorem dX10_openChoice_41 : decode cX10_openChoice 41 = .ok (.bipush 91, 2) := by decide +kernel
theorem dX10_openChoice_43 : decode cX10_openChoice 43 = .ok (.invokevirtual 57, 3) := by decide +kernel
theorem dX10_openChoice_46 : decode cX10_openChoice 46 = .ok (.ifCond .eq 41, 3) := by decide +kernel
theorem dX10_openChoice_49 : decode cX10_openChoice 49 = .ok (.aload_n 1, 1) := by decide +kernel
theorem dX10_openChoice_50 : decode cX10_openChoice 50 = .ok (.invokevirtual 61, 3) := by decide +kernel
theorem dX10_openChoice_53 : decode cX10_openChoice 53 = .ok (.ifCond .eq 34, 3) := by decide +kernel
theorem dX10_openChoice_56 : decode cX10_openChoice 56 = .ok (.aload_n 1, 1) := by decide +kernel
theorem dX10_openChoice_57 : decode cX10_openChoice 57 = .ok (.invokevirtual 76, 3) := by decide +kernel
theorem dX10_openChoice_60 : decode cX10_openChoice 60 = .ok (.ifCond .eq 27, 3) := by decide +kernel
theorem dX10_openChoice_63 : decode cX10_openChoice 63 = .ok (.aload_n 1, 1) := by decide +kernel
theorem dX10_openChoice_64 : decode cX10_openChoice 64 = .ok (.iconst 3, 1) := by decide +kernel
theorem dX10_openChoice_65 : decode cX10_openChoice 65 = .ok (.bipush 57, 2) := by decide +kernel
theorem dX10_openChoice_67 : decode cX10_openChoice 67 = .ok (.invokevirtual 79, 3) := by decide +kernel
theorem dX10_openChoice_70 : decode cX10_openChoice 70 = .ok (.iconst (-1), 1) := by decide +kernel
theorem dX10_openChoice_71 : decode cX10_openChoice 71 = .ok (.if_icmp .eq 16, 3) := by decide +kernel
theorem dX10_openChoice_74 : decode cX10_openChoice 74 = .ok (.aload_n 1, 1) := by decide +kernel
theorem dX10_openChoice_75 : decode cX10_openChoice 75 = .ok (.bipush 63, 2) := by decide +kernel
theorem dX10_openChoice_77 : decode cX10_openChoice 77 = .ok (.invokevirtual 57, 3) := by decide +kernel
theorem dX10_openChoice_80 : decode cX10_openChoice 80 = .ok (.ifCond .eq 7, 3) := by decide +kernel
theorem dX10_openChoice_83 : decode cX10_openChoice 83 = .ok (.iconst 1, 1) := by decide +kernel
theorem dX10_openChoice_84 : decode cX10_openChoice 84 = .ok (.goto 4, 3) := by decide +kernel
theorem dX10_openChoice_87 : decode cX10_openChoice 87 = .ok (.iconst 0, 1) := by decide +kernel
theorem dX10_openChoice_88 : decode cX10_openChoice 88 = .ok (.ireturn, 1) := by decide +kernel
theorem dX10_turnChoice_0 : decode cX10_turnChoice 0 = .ok (.aload_n 0, 1) := by decide +kernel
theorem dX10_turnChoice_1 : decode cX10_turnChoice 1 = .ok (.aload_n 1, 1) := by decide +kernel
theorem dX10_turnChoice_2 : decode cX10_turnChoice 2 = .ok (.bipush 91, 2) := by decide +kernel
theorem dX10_turnChoice_4 : decode cX10_turnChoice 4 = .ok (.invokevirtual 83, 3) := by decide +kernel
theorem dX10_turnChoice_7 : decode cX10_turnChoice 7 = .ok (.ifCond .ne 5, 3) := by decide +kernel
theorem dX10_turnChoice_10 : decode cX10_turnChoice 10 = .ok (.iconst 0, 1) := by decide +kernel
theorem dX10_turnChoice_11 : decode cX10_turnChoice 11 = .ok (.ireturn, 1) := by decide +kernel
theorem dX10_turnChoice_12 : decode cX10_turnChoice 12 = .ok (.aload_n 0, 1) := by decide +kernel
theorem dX10_turnChoice_13 : decode cX10_turnChoice 13 = .ok (.getfield 24, 3) := by decide +kernel
theorem dX10_turnChoice_16 : decode cX10_turnChoice 16 = .ok (.aload_n 0, 1) := by decide +kernel
theorem dX10_turnChoice_17 : decode cX10_turnChoice 17 = .ok (.getfield 33, 3) := by decide +kernel
theorem dX10_turnChoice_20 : decode cX10_turnChoice 20 = .ok (.iconst 1, 1) := by decide +kernel
theorem dX10_turnChoice_21 : decode cX10_turnChoice 21 = .ok (.isub, 1) := by decide +kernel
theorem dX10_turnChoice_22 : decode cX10_turnChoice 22 = .ok (.aload_n 1, 1) := by decide +kernel
theorem dX10_turnChoice_23 : decode cX10_turnChoice 23 = .ok (.getfield 27, 3) := by decide +kernel
theorem dX10_turnChoice_26 : decode cX10_turnChoice 26 = .ok (.iastore, 1) := by decide +kernel
theorem dX10_turnChoice_27 : decode cX10_turnChoice 27 = .ok (.aload_n 1, 1) := by decide +kernel
theorem dX10_turnChoice_28 : decode cX10_turnChoice 28 = .ok (.bipush 124, 2) := by decide +kernel
theorem dX10_turnChoice_30 : decode cX10_turnChoice 30 = .ok (.invokevirtual 57, 3) := by decide +kernel
theorem dX10_turnChoice_33 : decode cX10_turnChoice 33 = .ok (.ireturn, 1) := by decide +kernel
theorem dX10_closeChoice_0 : decode cX10_closeChoice 0 = .ok (.aload_n 0, 1) := by decide +kernel
theorem dX10_closeChoice_1 : decode cX10_closeChoice 1 = .ok (.aload_n 1, 1) := by decide +kernel
theorem dX10_closeChoice_2 : decode cX10_closeChoice 2 = .ok (.bipush 124, 2) := by decide +kernel
theorem dX10_closeChoice_4 : decode cX10_closeChoice 4 = .ok (.invokevirtual 83, 3) := by decide +kernel
theorem dX10_closeChoice_7 : decode cX10_closeChoice 7 = .ok (.ifCond .ne 5, 3) := by decide +kernel
theorem dX10_closeChoice_10 : decode cX10_closeChoice 10 = .ok (.iconst 0, 1) := by decide +kernel
theorem dX10_closeChoice_11 : decode cX10_closeChoice 11 = .ok (.ireturn, 1) := by decide +kernel
theorem dX10_closeChoice_12 : decode cX10_closeChoice 12 = .ok (.aload_n 0, 1) := by decide +kernel
theorem dX10_closeChoice_13 : decode cX10_closeChoice 13 = .ok (.dup, 1) := by decide +kernel
theorem dX10_closeChoice_14 : decode cX10_closeChoice 14 = .ok (.getfield 33, 3) := by decide +kernel
theorem dX10_closeChoice_17 : decode cX10_closeChoice 17 = .ok (.iconst 1, 1) := by decide +kernel
theorem dX10_closeChoice_18 : decode cX10_closeChoice 18 = .ok (.isub, 1) := by decide +kernel
theorem dX10_closeChoice_19 : decode cX10_closeChoice 19 = .ok (.putfield 33, 3) := by decide +kernel
theorem dX10_closeChoice_22 : decode cX10_closeChoice 22 = .ok (.aload_n 1, 1) := by decide +kernel
theorem dX10_closeChoice_23 : decode cX10_closeChoice 23 = .ok (.bipush 93, 2) := by decide +kernel
theorem dX10_closeChoice_25 : decode cX10_closeChoice 25 = .ok (.invokevirtual 57, 3) := by decide +kernel
theorem dX10_closeChoice_28 : decode cX10_closeChoice 28 = .ok (.ireturn, 1) := by decide +kernel
theorem dX10_jumpFromMark_0 : decode cX10_jumpFromMark 0 = .ok (.aload_n 0, 1) := by decide +kernel
theorem dX10_jumpFromMark_1 : decode cX10_jumpFromMark 1 = .ok (.getfield 33, 3) := by decide +kernel
theorem dX10_jumpFromMark_4 : decode cX10_jumpFromMark 4 = .ok (.ifCond .le 11, 3) := by decide +kernel
theorem dX10_jumpFromMark_7 : decode cX10_jumpFromMark 7 = .ok (.aload_n 0, 1) := by decide +kernel
theorem dX10_jumpFromMark_8 : decode cX10_jumpFromMark 8 = .ok (.getfield 33, 3) := by decide +kernel
theorem dX10_jumpFromMark_11 : decode cX10_jumpFromMark 11 = .ok (.iconst 5, 1) := by decide +kernel
theorem dX10_jumpFromMark_12 : decode cX10_jumpFromMark 12 = .ok (.if_icmp .le 5, 3) := by decide +kernel
theorem dX10_jumpFromMark_15 : decode cX10_jumpFromMark 15 = .ok (.iconst 0, 1) := by decide +kernel
theorem dX10_jumpFromMark_16 : decode cX10_jumpFromMark 16 = .ok (.ireturn, 1) := by decide +kernel
theorem dX10_jumpFromMark_17 : decode cX10_jumpFromMark 17 = .ok (.aload_n 0, 1) := by decide +kernel
theorem dX10_jumpFromMark_18 : decode cX10_jumpFromMark 18 = .ok (.getfield 24, 3) := by decide +kernel
theorem dX10_jumpFromMark_21 : decode cX10_jumpFromMark 21 = .ok (.aload_n 0, 1) := by decide +kernel
theorem dX10_jumpFromMark_22 : decode cX10_jumpFromMark 22 = .ok (.getfield 33, 3) := by decide +kernel
theorem dX10_jumpFromMark_25 : decode cX10_jumpFromMark 25 = .ok (.iconst 1, 1) := by decide +kernel
theorem dX10_jumpFromMark_26 : decode cX10_jumpFromMark 26 = .ok (.isub, 1) := by decide +kernel
theorem dX10_jumpFromMark_27 : decode cX10_jumpFromMark 27 = .ok (.iaload, 1) := by decide +kernel
theorem dX10_jumpFromMark_28 : decode cX10_jumpFromMark 28 = .ok (.istore_n 3, 1) := by decide +kernel
theorem dX10_jumpFromMark_29 : decode cX10_jumpFromMark 29 = .ok (.iload_n 3, 1) := by decide +kernel
theorem dX10_jumpFromMark_30 : decode cX10_jumpFromMark 30 = .ok (.ifCond .lt 21, 3) := by decide +kernel
theorem dX10_jumpFromMark_33 : decode cX10_jumpFromMark 33 = .ok (.iload_n 3, 1) := by decide +kernel
theorem dX10_jumpFromMark_34 : decode cX10_jumpFromMark 34 = .ok (.bipush 96, 2) := by decide +kernel
theorem dX10_jumpFromMark_36 : decode cX10_jumpFromMark 36 = .ok (.if_icmp .ge 15, 3) := by decide +kernel
theorem dX10_jumpFromMark_39 : decode cX10_jumpFromMark 39 = .ok (.aload_n 1, 1) := by decide +kernel
theorem dX10_jumpFromMark_40 : decode cX10_jumpFromMark 40 = .ok (.getfield 44, 3) := by decide +kernel
theorem dX10_jumpFromMark_43 : decode cX10_jumpFromMark 43 = .ok (.iload_n 3, 1) := by decide +kernel
theorem dX10_jumpFromMark_44 : decode cX10_jumpFromMark 44 = .ok (.invokevirtual 87, 3) := by decide +kernel
theorem dX10_jumpFromMark_47 : decode cX10_jumpFromMark 47 = .ok (.iload_n 2, 1) := by decide +kernel
theorem dX10_jumpFromMark_48 : decode cX10_jumpFromMark 48 = .ok (.if_icmp .eq 5, 3) := by decide +kernel
theorem dX10_jumpFromMark_51 : decode cX10_jumpFromMark 51 = .ok (.iconst 0, 1) := by decide +kernel
theorem dX10_jumpFromMark_52 : decode cX10_jumpFromMark 52 = .ok (.ireturn, 1) := by decide +kernel
theorem dX10_jumpFromMark_53 : decode cX10_jumpFromMark 53 = .ok (.aload_n 0, 1) := by decide +kernel
theorem dX10_jumpFromMark_54 : decode cX10_jumpFromMark 54 = .ok (.getfield 20, 3) := by decide +kernel
theorem dX10_jumpFromMark_57 : decode cX10_jumpFromMark 57 = .ok (.iload_n 3, 1) := by decide +kernel
theorem dX10_jumpFromMark_58 : decode cX10_jumpFromMark 58 = .ok (.aload_n 1, 1) := by decide +kernel
theorem dX10_jumpFromMark_59 : decode cX10_jumpFromMark 59 = .ok (.getfield 27, 3) := by decide +kernel
theorem dX10_jumpFromMark_62 : decode cX10_jumpFromMark 62 = .ok (.iconst 1, 1) := by decide +kernel
theorem dX10_jumpFromMark_63 : decode cX10_jumpFromMark 63 = .ok (.iadd, 1) := by decide +kernel
theorem dX10_jumpFromMark_64 : decode cX10_jumpFromMark 64 = .ok (.iastore, 1) := by decide +kernel
theorem dX10_jumpFromMark_65 : decode cX10_jumpFromMark 65 = .ok (.iconst 1, 1) := by decide +kernel
theorem dX10_jumpFromMark_66 : decode cX10_jumpFromMark 66 = .ok (.ireturn, 1) := by decide +kernel
theorem dX11_init_0 : decode cX11_init 0 = .ok (.aload_n 0, 1) := by decide +kernel
theorem dX11_init_1 : decode cX11_init 1 = .ok (.invokespecial 3, 3) := by decide +kernel
theorem dX11_init_4 : decode cX11_init 4 = .ok (.aload_n 0, 1) := by decide +kernel
theorem dX11_init_5 : decode cX11_init 5 = .ok (.new 9, 3) := by decide +kernel
theorem dX11_init_8 : decode cX11_init 8 = .ok (.dup, 1) := by decide +kernel
theorem dX11_init_9 : decode cX11_init 9 = .ok (.invokespecial 11, 3) := by decide +kernel
theorem dX11_init_12 : decode cX11_init 12 = .ok (.putfield 12, 3) := by decide +kernel
theorem dX11_init_15 : decode cX11_init 15 = .ok (.aload_n 0, 1) := by decide +kernel
theorem dX11_init_16 : decode cX11_init 16 = .ok (.new 16, 3) := by decide +kernel
theorem dX11_init_19 : decode cX11_init 19 = .ok (.dup, 1) := by decide +kernel
theorem dX11_init_20 : decode cX11_init 20 = .ok (.invokespecial 18, 3) := by decide +kernel
theorem dX11_init_23 : decode cX11_init 23 = .ok (.putfield 19, 3) := by decide +kernel
theorem dX11_init_26 : decode cX11_init 26 = .ok (.aload_n 0, 1) := by decide +kernel
theorem dX11_init_27 : decode cX11_init 27 = .ok (.new 23, 3) := by decide +kernel
theorem dX11_init_30 : decode cX11_init 30 = .ok (.dup, 1) := by decide +kernel
theorem dX11_init_31 : decode cX11_init 31 = .ok (.invokespecial 25, 3) := by decide +kernel
theorem dX11_init_34 : decode cX11_init 34 = .ok (.putfield 26, 3) := by decide +kernel
theorem dX11_init_37 : decode cX11_init 37 = .ok (.aload_n 0, 1) := by decide +kernel
theorem dX11_init_38 : decode cX11_init 38 = .ok (.new 30, 3) := by decide +kernel
theorem dX11_init_41 : decode cX11_init 41 = .ok (.dup, 1) := by decide +kernel
theorem dX11_init_42 : decode cX11_init 42 = .ok (.invokespecial 32, 3) := by decide +kernel
theorem dX11_init_45 : decode cX11_init 45 = .ok (.putfield 33, 3) := by decide +kernel
theorem dX11_init_48 : decode cX11_init 48 = .ok (.aload_n 0, 1) := by decide +kernel
theorem dX11_init_49 : decode cX11_init 49 = .ok (.new 37, 3) := by decide +kernel
theorem dX11_init_52 : decode cX11_init 52 = .ok (.dup, 1) := by decide +kernel
theorem dX11_init_53 : decode cX11_init 53 = .ok (.invokespecial 39, 3) := by decide +kernel
theorem dX11_init_56 : decode cX11_init 56 = .ok (.putfield 40, 3) := by decide +kernel
theorem dX11_init_59 : decode cX11_init 59 = .ok (.aload_n 0, 1) := by decide +kernel
theorem dX11_init_60 : decode cX11_init 60 = .ok (.bipush 8, 2) := by decide +kernel
theorem dX11_init_62 : decode cX11_init 62 = .ok (.anewarray 44, 3) := by decide +kernel
theorem dX11_init_65 : decode cX11_init 65 = .ok (.putfield 46, 3) := by decide +kernel
theorem dX11_init_68 : decode cX11_init 68 = .ok (.iconst 0, 1) := by decide +kernel
theorem dX11_init_69 : decode cX11_init 69 = .ok (.istore_n 1, 1) := by decide +kernel
theorem dX11_init_70 : decode cX11_init 70 = .ok (.iload_n 1, 1) := by decide +kernel
theorem dX11_init_71 : decode cX11_init 71 = .ok (.bipush 8, 2) := by decide +kernel
theorem dX11_init_73 : decode cX11_init 73 = .ok (.if_icmp .ge 22, 3) := by decide +kernel
theorem dX11_init_76 : decode cX11_init 76 = .ok (.aload_n 0, 1) := by decide +kernel
theorem dX11_init_77 : decode cX11_init 77 = .ok (.getfield 46, 3) := by decide +kernel
theorem dX11_init_80 : decode cX11_init 80 = .ok (.iload_n 1, 1) := by decide +kernel
theorem dX11_init_81 : decode cX11_init 81 = .ok (.new 44, 3) := by decide +kernel
theorem dX11_init_84 : decode cX11_init 84 = .ok (.dup, 1) := by decide +kernel
theorem dX11_init_85 : decode cX11_init 85 = .ok (.invokespecial 50, 3) := by decide +kernel
theorem dX11_init_88 : decode cX11_init 88 = .ok (.aastore, 1) := by decide +kernel
theorem dX11_init_89 : decode cX11_init 89 = .ok (.iinc 1 1, 3) := by decide +kernel
theorem dX11_init_92 : decode cX11_init 92 = .ok (.goto (-22), 3) := by decide +kernel
theorem dX11_init_95 : decode cX11_init 95 = .ok (.return_, 1) := by decide +kernel
theorem dX11_type_0 : decode cX11_type 0 = .ok (.lload_n 1, 1) := by decide +kernel
theorem dX11_type_1 : decode cX11_type 1 = .ok (.invokestatic 51, 3) := by decide +kernel
theorem dX11_type_4 : decode cX11_type 4 = .ok (.istore_n 3, 1) := by decide +kernel
theorem dX11_type_5 : decode cX11_type 5 = .ok (.iload_n 3, 1) := by decide +kernel
theorem dX11_type_6 : decode cX11_type 6 = .ok (.iconst (-1), 1) := by decide +kernel
theorem dX11_type_7 : decode cX11_type 7 = .ok (.if_icmp .ne 13, 3) := by decide +kernel
theorem dX11_type_10 : decode cX11_type 10 = .ok (.new 55, 3) := by decide +kernel
theorem dX11_type_13 : decode cX11_type 13 = .ok (.dup, 1) := by decide +kernel
theorem dX11_type_14 : decode cX11_type 14 = .ok (.ldc 57, 2) := by decide +kernel
theorem dX11_type_16 : decode cX11_type 16 = .ok (.invokespecial 59, 3) := by decide +kernel
theorem dX11_type_19 : decode cX11_type 19 = .ok (.athrow, 1) := by decide +kernel
theorem dX11_type_20 : decode cX11_type 20 = .ok (.aload_n 0, 1) := by decide +kernel
theorem dX11_type_21 : decode cX11_type 21 = .ok (.getfield 12, 3) := by decide +kernel
theorem dX11_type_24 : decode cX11_type 24 = .ok (.getfield 62, 3) := by decide +kernel
theorem dX11_type_27 : decode cX11_type 27 = .ok (.getfield 66, 3) := by decide +kernel
theorem dX11_type_30 : decode cX11_type 30 = .ok (.iload_n 3, 1) := by decide +kernel
theorem dX11_type_31 : decode cX11_type 31 = .ok (.iadd, 1) := by decide +kernel
theorem dX11_type_32 : decode cX11_type 32 = .ok (.bipush 96, 2) := by decide +kernel
theorem dX11_type_34 : decode cX11_type 34 = .ok (.if_icmp .le 13, 3) := by decide +kernel
theorem dX11_type_37 : decode cX11_type 37 = .ok (.new 72, 3) := by decide +kernel
theorem dX11_type_40 : decode cX11_type 40 = .ok (.dup, 1) := by decide +kernel
theorem dX11_type_41 : decode cX11_type 41 = .ok (.ldc 74, 2) := by decide +kernel
theorem dX11_type_43 : decode cX11_type 43 = .ok (.invokespecial 76, 3) := by decide +kernel
theorem dX11_type_46 : decode cX11_type 46 = .ok (.athrow, 1) := by decide +kernel
theorem dX11_type_47 : decode cX11_type 47 = .ok (.iconst 0, 1) := by decide +kernel
theorem dX11_type_48 : decode cX11_type 48 = .ok (.istore 4, 2) := by decide +kernel
theorem dX11_type_50 : decode cX11_type 50 = .ok (.iload 4, 2) := by decide +kernel
theorem dX11_type_52 : decode cX11_type 52 = .ok (.iload_n 3, 1) := by decide +kernel
theorem dX11_type_53 : decode cX11_type 53 = .ok (.if_icmp .ge 25, 3) := by decide +kernel
theorem dX11_type_56 : decode cX11_type 56 = .ok (.aload_n 0, 1) := by decide +kernel
theorem dX11_type_57 : decode cX11_type 57 = .ok (.getfield 12, 3) := by decide +kernel
theorem dX11_type_60 : decode cX11_type 60 = .ok (.getfield 62, 3) := by decide +kernel
theorem dX11_type_63 : decode cX11_type 63 = .ok (.lload_n 1, 1) := by decide +kernel
theorem dX11_type_64 : decode cX11_type 64 = .ok (.iload 4, 2) := by decide +kernel
theorem dX11_type_66 : decode cX11_type 66 = .ok (.invokestatic 77, 3) := by decide +kernel
theorem dX11_type_69 : decode cX11_type 69 = .ok (.invokevirtual 81, 3) := by decide +kernel
theorem dX11_type_72 : decode cX11_type 72 = .ok (.iinc 4 1, 3) := by decide +kernel
theorem dX11_type_75 : decode cX11_type 75 = .ok (.goto (-25), 3) := by decide +kernel
theorem dX11_type_78 : decode cX11_type 78 = .ok (.aload_n 0, 1) := by decide +kernel
theorem dX11_type_79 : decode cX11_type 79 = .ok (.getfield 12, 3) := by decide +kernel
theorem dX11_type_82 : decode cX11_type 82 = .ok (.getfield 62, 3) := by decide +kernel
theorem dX11_type_85 : decode cX11_type 85 = .ok (.getfield 66, 3) := by decide +kernel
theorem dX11_type_88 : decode cX11_type 88 = .ok (.ireturn, 1) := by decide +kernel
theorem dX11_template_0 : decode cX11_template 0 = .ok (.aload_n 0, 1) := by decide +kernel
theorem dX11_template_1 : decode cX11_template 1 = .ok (.iload_n 1, 1) := by decide +kernel
theorem dX11_template_2 : decode cX11_template 2 = .ok (.invokevirtual 85, 3) := by decide +kernel
theorem dX11_template_5 : decode cX11_template 5 = .ok (.aload_n 0, 1) := by decide +kernel
theorem dX11_template_6 : decode cX11_template 6 = .ok (.getfield 19, 3) := by decide +kernel
theorem dX11_template_9 : decode cX11_template 9 = .ok (.aload_n 0, 1) := by decide +kernel
theorem dX11_template_10 : decode cX11_template 10 = .ok (.getfield 12, 3) := by decide +kernel
theorem dX11_template_13 : decode cX11_template 13 = .ok (.iload_n 1, 1) := by decide +kernel
theorem dX11_template_14 : decode cX11_template 14 = .ok (.invokevirtual 89, 3) := by decide +kernel
theorem dX11_template_17 : decode cX11_template 17 = .ok (.istore_n 2, 1) := by decide +kernel
theorem dX11_template_18 : decode cX11_template 18 = .ok (.iload_n 2, 1) := by decide +kernel
theorem dX11_template_19 : decode cX11_template 19 = .ok (.ifCond .eq 16, 3) := by decide +kernel
theorem dX11_template_22 : decode cX11_template 22 = .ok (.aload_n 0, 1) := by decide +kernel
theorem dX11_template_23 : decode cX11_template 23 = .ok (.getfield 12, 3) := by decide +kernel
theorem dX11_template_26 : decode cX11_template 26 = .ok (.getfield 62, 3) := by decide +kernel
theorem dX11_template_29 : decode cX11_template 29 = .ok (.getfield 66, 3) := by decide +kernel
theorem dX11_template_32 : decode cX11_template 32 = .ok (.goto 12, 3) := by decide +kernel
theorem dX11_template_35 : decode cX11_template 35 = .ok (.iconst (-1), 1) := by decide +kernel
theorem dX11_template_36 : decode cX11_template 36 = .ok (.aload_n 0, 1) := by decide +kernel
theorem dX11_template_37 : decode cX11_template 37 = .ok (.getfield 12, 3) := by decide +kernel
theorem dX11_template_40 : decode cX11_template 40 = .ok (.getfield 93, 3) := by decide +kernel
theorem dX11_template_43 : decode cX11_template 43 = .ok (.isub, 1) := by decide +kernel
theorem dX11_template_44 : decode cX11_template 44 = .ok (.istore_n 3, 1) := by decide +kernel
theorem dX11_template_45 : decode cX11_template 45 = .ok (.aload_n 0, 1) := by decide +kernel
theorem dX11_template_46 : decode cX11_template 46 = .ok (.getfield 12, 3) := by decide +kernel
theorem dX11_template_49 : decode cX11_template 49 = .ok (.invokevirtual 96, 3) := by decide +kernel
theorem dX11_template_52 : decode cX11_template 52 = .ok (.iload_n 3, 1) := by decide +kernel
theorem dX11_template_53 : decode cX11_template 53 = .ok (.ireturn, 1) := by decide +kernel
theorem dX11_address_0 : decode cX11_address 0 = .ok (.iload_n 1, 1) := by decide +kernel
theorem dX11_address_1 : decode cX11_address 1 = .ok (.ifCond .lt 14, 3) := by decide +kernel
theorem dX11_address_4 : decode cX11_address 4 = .ok (.iload_n 1, 1) := by decide +kernel
theorem dX11_address_5 : decode cX11_address 5 = .ok (.aload_n 0, 1) := by decide +kernel
theorem dX11_address_6 : decode cX11_address 6 = .ok (.getfield 26, 3) := by decide +kernel
theorem dX11_address_9 : decode cX11_address 9 = .ok (.getfield 99, 3) := by decide +kernel
theorem dX11_address_12 : decode cX11_address 12 = .ok (.if_icmp .le 13, 3) := by decide +kernel
theorem dX11_address_15 : decode cX11_address 15 = .ok (.new 102, 3) := by decide +kernel
theorem dX11_address_18 : decode cX11_address 18 = .ok (.dup, 1) := by decide +kernel
theorem dX11_address_19 : decode cX11_address 19 = .ok (.ldc 104, 2) := by decide +kernel
theorem dX11_address_21 : decode cX11_address 21 = .ok (.invokespecial 106, 3) := by decide +kernel
theorem dX11_address_24 : decode cX11_address 24 = .ok (.athrow, 1) := by decide +kernel
theorem dX11_address_25 : decode cX11_address 25 = .ok (.iload_n 1, 1) := by decide +kernel
theorem dX11_address_26 : decode cX11_address 26 = .ok (.bipush 12, 2) := by decide +kernel
theorem dX11_address_28 : decode cX11_address 28 = .ok (.if_icmp .ge 14, 3) := by decide +kernel
theorem dX11_address_31 : decode cX11_address 31 = .ok (.aload_n 0, 1) := by decide +kernel
theorem dX11_address_32 : decode cX11_address 32 = .ok (.getfield 26, 3) := by decide +kernel
theorem dX11_address_35 : decode cX11_address 35 = .ok (.iload_n 1, 1) := by decide +kernel
theorem dX11_address_36 : decode cX11_address 36 = .ok (.invokevirtual 107, 3) := by decide +kernel
theorem dX11_address_39 : decode cX11_address 39 = .ok (.ifCond .eq 13, 3) := by decide +kernel
theorem dX11_address_42 : decode cX11_address 42 = .ok (.new 72, 3) := by decide +kernel
theorem dX11_address_45 : decode cX11_address 45 = .ok (.dup, 1) := by decide +kernel
theorem dX11_address_46 : decode cX11_address 46 = .ok (.ldc 111, 2) := by decide +kernel
theorem dX11_address_48 : decode cX11_address 48 = .ok (.invokespecial 76, 3) := by decide +kernel
theorem dX11_address_51 : decode cX11_address 51 = .ok (.athrow, 1) := by decide +kernel
theorem dX11_address_52 : decode cX11_address 52 = .ok (.aload_n 0, 1) := by decide +kernel
theorem dX11_address_53 : decode cX11_address 53 = .ok (.getfield 26, 3) := by decide +kernel
theorem dX11_address_56 : decode cX11_address 56 = .ok (.aload_n 0, 1) := by decide +kernel
theorem dX11_address_57 : decode cX11_address 57 = .ok (.getfield 12, 3) := by decide +kernel
theorem dX11_address_60 : decode cX11_address 60 = .ok (.iload_n 1, 1) := by decide +kernel
theorem dX11_address_61 : decode cX11_address 61 = .ok (.invokevirtual 113, 3) := by decide +kernel
theorem dX11_address_64 : decode cX11_address 64 = .ok (.istore_n 2, 1) := by decide +kernel
theorem dX11_address_65 : decode cX11_address 65 = .ok (.iload_n 2, 1) := by decide +kernel
theorem dX11_address_66 : decode cX11_address 66 = .ok (.ifCond .eq 7, 3) := by decide +kernel
theorem dX11_address_69 : decode cX11_address 69 = .ok (.iload_n 1, 1) := by decide +kernel
theorem dX11_address_70 : decode cX11_address 70 = .ok (.goto 12, 3) := by decide +kernel
theorem dX11_address_73 : decode cX11_address 73 = .ok (.iconst (-1), 1) := by decide +kernel
theorem dX11_address_74 : decode cX11_address 74 = .ok (.aload_n 0, 1) := by decide +kernel
theorem dX11_address_75 : decode cX11_address 75 = .ok (.getfield 12, 3) := by decide +kernel
theorem dX11_address_78 : decode cX11_address 78 = .ok (.getfield 93, 3) := by decide +kernel
theorem dX11_address_81 : decode cX11_address 81 = .ok (.isub, 1) := by decide +kernel
theorem dX11_address_82 : decode cX11_address 82 = .ok (.istore_n 3, 1) := by decide +kernel
theorem dX11_address_83 : decode cX11_address 83 = .ok (.aload_n 0, 1) := by decide +kernel
theorem dX11_address_84 : decode cX11_address 84 = .ok (.getfield 12, 3) := by decide +kernel
theorem dX11_address_87 : decode cX11_address 87 = .ok (.invokevirtual 96, 3) := by decide +kernel
theorem dX11_address_90 : decode cX11_address 90 = .ok (.iload_n 3, 1) := by decide +kernel
theorem dX11_address_91 : decode cX11_address 91 = .ok (.ireturn, 1) := by decide +kernel
theorem dX11_addresses_0 : decode cX11_addresses 0 = .ok (.aload_n 0, 1) := by decide +kernel
theorem dX11_addresses_1 : decode cX11_addresses 1 = .ok (.getfield 26, 3) := by decide +kernel
theorem dX11_addresses_4 : decode cX11_addresses 4 = .ok (.getfield 99, 3) := by decide +kernel
theorem dX11_addresses_7 : decode cX11_addresses 7 = .ok (.ireturn, 1) := by decide +kernel
theorem dX11_cleaned_0 : decode cX11_cleaned 0 = .ok (.aload_n 0, 1) := by decide +kernel
theorem dX11_cleaned_1 : decode cX11_cleaned 1 = .ok (.iload_n 1, 1) := by decide +kernel
theorem dX11_cleaned_2 : decode cX11_cleaned 2 = .ok (.invokevirtual 116, 3) := by decide +kernel
theorem dX11_cleaned_5 : decode cX11_cleaned 5 = .ok (.iload_n 3, 1) := by decide +kernel
theorem dX11_cleaned_6 : decode cX11_cleaned 6 = .ok (.ifCond .ge 13, 3) := by decide +kernel
theorem dX11_cleaned_9 : decode cX11_cleaned 9 = .ok (.new 102, 3) := by decide +kernel
theorem dX11_cleaned_12 : decode cX11_cleaned 12 = .ok (.dup, 1) := by decide +kernel
theorem dX11_cleaned_13 : decode cX11_cleaned 13 = .ok (.ldc 119, 2) := by decide +kernel
theorem dX11_cleaned_15 : decode cX11_cleaned 15 = .ok (.invokespecial 106, 3) := by decide +kernel
theorem dX11_cleaned_18 : decode cX11_cleaned 18 = .ok (.athrow, 1) := by decide +kernel
theorem dX11_cleaned_19 : decode cX11_cleaned 19 = .ok (.aload_n 0, 1) := by decide +kernel
theorem dX11_cleaned_20 : decode cX11_cleaned 20 = .ok (.getfield 26, 3) := by decide +kernel
theorem dX11_cleaned_23 : decode cX11_cleaned 23 = .ok (.getfield 121, 3) := by decide +kernel
theorem dX11_cleaned_26 : decode cX11_cleaned 26 = .ok (.iload_n 1, 1) := by decide +kernel
theorem dX11_cleaned_27 : decode cX11_cleaned 27 = .ok (.aaload, 1) := by decide +kernel
theorem dX11_cleaned_28 : decode cX11_cleaned 28 = .ok (.iload_n 2, 1) := by decide +kernel
theorem dX11_cleaned_29 : decode cX11_cleaned 29 = .ok (.invokevirtual 125, 3) := by decide +kernel
theorem dX11_cleaned_32 : decode cX11_cleaned 32 = .ok (.iload_n 3, 1) := by decide +kernel
theorem dX11_cleaned_33 : decode cX11_cleaned 33 = .ok (.invokevirtual 131, 3) := by decide +kernel
theorem dX11_cleaned_36 : decode cX11_cleaned 36 = .ok (.istore 4, 2) := by decide +kernel
theorem dX11_cleaned_38 : decode cX11_cleaned 38 = .ok (.iload 4, 2) := by decide +kernel
theorem dX11_cleaned_40 : decode cX11_cleaned 40 = .ok (.ifCond .ne 8, 3) := by decide +kernel
theorem dX11_cleaned_43 : decode cX11_cleaned 43 = .ok (.bipush 32, 2) := by decide +kernel
theorem dX11_cleaned_45 : decode cX11_cleaned 45 = .ok (.goto 5, 3) := by decide +kernel
theorem dX11_cleaned_48 : decode cX11_cleaned 48 = .ok (.iload 4, 2) := by decide +kernel
theorem dX11_cleaned_50 : decode cX11_cleaned 50 = .ok (.ireturn, 1) := by decide +kernel
theorem dX11_apart_0 : decode cX11_apart 0 = .ok (.aload_n 0, 1) := by decide +kernel
theorem dX11_apart_1 : decode cX11_apart 1 = .ok (.iload_n 1, 1) := by decide +kernel
theorem dX11_apart_2 : decode cX11_apart 2 = .ok (.invokevirtual 116, 3) := by decide +kernel
theorem dX11_apart_5 : decode cX11_apart 5 = .ok (.aload_n 0, 1) := by decide +kernel
theorem dX11_apart_6 : decode cX11_apart 6 = .ok (.iload_n 2, 1) := by decide +kernel
theorem dX11_apart_7 : decode cX11_apart 7 = .ok (.invokevirtual 116, 3) := by decide +kernel
theorem dX11_apart_10 : decode cX11_apart 10 = .ok (.aload_n 0, 1) := by decide +kernel
theorem dX11_apart_11 : decode cX11_apart 11 = .ok (.getfield 33, 3) := by decide +kernel
theorem dX11_apart_14 : decode cX11_apart 14 = .ok (.aload_n 0, 1) := by decide +kernel
theorem dX11_apart_15 : decode cX11_apart 15 = .ok (.getfield 26, 3) := by decide +kernel
theorem dX11_apart_18 : decode cX11_apart 18 = .ok (.getfield 121, 3) := by decide +kernel
theorem dX11_apart_21 : decode cX11_apart 21 = .ok (.iload_n 1, 1) := by decide +kernel
theorem dX11_apart_22 : decode cX11_apart 22 = .ok (.aaload, 1) := by decide +kernel
theorem dX11_apart_23 : decode cX11_apart 23 = .ok (.iload_n 3, 1) := by decide +kernel
theorem dX11_apart_24 : decode cX11_apart 24 = .ok (.invokevirtual 125, 3) := by decide +kernel
theorem dX11_apart_27 : decode cX11_apart 27 = .ok (.aload_n 0, 1) := by decide +kernel
theorem dX11_apart_28 : decode cX11_apart 28 = .ok (.getfield 26, 3) := by decide +kernel
theorem dX11_apart_31 : decode cX11_apart 31 = .ok (.getfield 121, 3) := by decide +kernel
theorem dX11_apart_34 : decode cX11_apart 34 = .ok (.iload_n 2, 1) := by decide +kernel
theorem dX11_apart_35 : decode cX11_apart 35 = .ok (.aaload, 1) := by decide +kernel
theorem dX11_apart_36 : decode cX11_apart 36 = .ok (.iload_n 3, 1) := by decide +kernel
theorem dX11_apart_37 : decode cX11_apart 37 = .ok (.invokevirtual 125, 3) := by decide +kernel
theorem dX11_apart_40 : decode cX11_apart 40 = .ok (.invokevirtual 135, 3) := by decide +kernel
theorem dX11_apart_43 : decode cX11_apart 43 = .ok (.ireturn, 1) := by decide +kernel
theorem dX11_likeness_0 : decode cX11_likeness 0 = .ok (.aload_n 0, 1) := by decide +kernel
theorem dX11_likeness_1 : decode cX11_likeness 1 = .ok (.iload_n 1, 1) := by decide +kernel
theorem dX11_likeness_2 : decode cX11_likeness 2 = .ok (.invokevirtual 116, 3) := by decide +kernel
theorem dX11_likeness_5 : decode cX11_likeness 5 = .ok (.aload_n 0, 1) := by decide +kernel
theorem dX11_likeness_6 : decode cX11_likeness 6 = .ok (.iload_n 2, 1) := by decide +kernel
theorem dX11_likeness_7 : decode cX11_likeness 7 = .ok (.invokevirtual 116, 3) := by decide +kernel
theorem dX11_likeness_10 : decode cX11_likeness 10 = .ok (.aload_n 0, 1) := by decide +kernel
theorem dX11_likeness_11 : decode cX11_likeness 11 = .ok (.getfield 33, 3) := by decide +kernel
theorem dX11_likeness_14 : decode cX11_likeness 14 = .ok (.aload_n 0, 1) := by decide +kernel
theorem dX11_likeness_15 : decode cX11_likeness 15 = .ok (.getfield 26, 3) := by decide +kernel
theorem dX11_likeness_18 : decode cX11_likeness 18 = .ok (.getfield 121, 3) := by decide +kernel
theorem dX11_likeness_21 : decode cX11_likeness 21 = .ok (.iload_n 1, 1) := by decide +kernel
theorem dX11_likeness_22 : decode cX11_likeness 22 = .ok (.aaload, 1) := by decide +kernel
theorem dX11_likeness_23 : decode cX11_likeness 23 = .ok (.aload_n 0, 1) := by decide +kernel
theorem dX11_likeness_24 : decode cX11_likeness 24 = .ok (.getfield 26, 3) := by decide +kernel
theorem dX11_likeness_27 : decode cX11_likeness 27 = .ok (.getfield 121, 3) := by decide +kernel
theorem dX11_likeness_30 : decode cX11_likeness 30 = .ok (.iload_n 2, 1) := by decide +kernel
theorem dX11_likeness_31 : decode cX11_likeness 31 = .ok (.aaload, 1) := by decide +kernel
theorem dX11_likeness_32 : decode cX11_likeness 32 = .ok (.invokevirtual 139, 3) := by decide +kernel
theorem dX11_likeness_35 : decode cX11_likeness 35 = .ok (.invokestatic 143, 3) := by decide +kernel
theorem dX11_likeness_38 : decode cX11_likeness 38 = .ok (.ireturn, 1) := by decide +kernel
theorem dX11_pairs_0 : decode cX11_pairs 0 = .ok (.iload_n 1, 1) := by decide +kernel
theorem dX11_pairs_1 : decode cX11_pairs 1 = .ok (.ifCond .lt 9, 3) := by decide +kernel
theorem dX11_pairs_4 : decode cX11_pairs 4 = .ok (.iload_n 1, 1) := by decide +kernel
theorem dX11_pairs_5 : decode cX11_pairs 5 = .ok (.bipush 100, 2) := by decide +kernel
theorem dX11_pairs_7 : decode cX11_pairs 7 = .ok (.if_icmp .le 13, 3) := by decide +kernel
theorem dX11_pairs_10 : decode cX11_pairs 10 = .ok (.new 55, 3) := by decide +kernel
theorem dX11_pairs_13 : decode cX11_pairs 13 = .ok (.dup, 1) := by decide +kernel
theorem dX11_pairs_14 : decode cX11_pairs 14 = .ok (.ldc 147, 2) := by decide +kernel
theorem dX11_pairs_16 : decode cX11_pairs 16 = .ok (.invokespecial 59, 3) := by decide +kernel
theorem dX11_pairs_19 : decode cX11_pairs 19 = .ok (.athrow, 1) := by decide +kernel
theorem dX11_pairs_20 : decode cX11_pairs 20 = .ok (.iload_n 1, 1) := by decide +kernel
theorem dX11_pairs_21 : decode cX11_pairs 21 = .ok (.i2f, 1) := by decide +kernel
theorem dX11_pairs_22 : decode cX11_pairs 22 = .ok (.ldc 149, 2) := by decide +kernel
theorem dX11_pairs_24 : decode cX11_pairs 24 = .ok (.fdiv, 1) := by decide +kernel
theorem dX11_pairs_25 : decode cX11_pairs 25 = .ok (.fstore_n 2, 1) := by decide +kernel
theorem dX11_pairs_26 : decode cX11_pairs 26 = .ok (.iconst 0, 1) := by decide +kernel
theorem dX11_pairs_27 : decode cX11_pairs 27 = .ok (.istore_n 3, 1) := by decide +kernel
theorem dX11_pairs_28 : decode cX11_pairs 28 = .ok (.iconst 0, 1) := by decide +kernel
theorem dX11_pairs_29 : decode cX11_pairs 29 = .ok (.istore 4, 2) := by decide +kernel
theorem dX11_pairs_31 : decode cX11_pairs 31 = .ok (.iload 4, 2) := by decide +kernel
theorem dX11_pairs_33 : decode cX11_pairs 33 = .ok (.aload_n 0, 1) := by decide +kernel
theorem dX11_pairs_34 : decode cX11_pairs 34 = .ok (.getfield 26, 3) := by decide +kernel
theorem dX11_pairs_37 : decode cX11_pairs 37 = .ok (.getfield 99, 3) := by decide +kernel
theorem dX11_pairs_40 : decode cX11_pairs 40 = .ok (.if_icmp .ge 60, 3) := by decide +kernel
theorem dX11_pairs_43 : decode cX11_pairs 43 = .ok (.iconst 0, 1) := by decide +kernel
theorem dX11_pairs_44 : decode cX11_pairs 44 = .ok (.istore 5, 2) := by decide +kernel
theorem dX11_pairs_46 : decode cX11_pairs 46 = .ok (.iload 5, 2) := by decide +kernel
theorem dX11_pairs_48 : decode cX11_pairs 48 = .ok (.iload 4, 2) := by decide +kernel
theorem dX11_pairs_50 : decode cX11_pairs 50 = .ok (.if_icmp .ge 44, 3) := by decide +kernel
theorem dX11_pairs_53 : decode cX11_pairs 53 = .ok (.aload_n 0, 1) := by decide +kernel
theorem dX11_pairs_54 : decode cX11_pairs 54 = .ok (.getfield 33, 3) := by decide +kernel
theorem dX11_pairs_57 : decode cX11_pairs 57 = .ok (.aload_n 0, 1) := by decide +kernel
theorem dX11_pairs_58 : decode cX11_pairs 58 = .ok (.getfield 26, 3) := by decide +kernel
theorem dX11_pairs_61 : decode cX11_pairs 61 = .ok (.getfield 121, 3) := by decide +kernel
theorem dX11_pairs_64 : decode cX11_pairs 64 = .ok (.iload 5, 2) := by decide +kernel
theorem dX11_pairs_66 : decode cX11_pairs 66 = .ok (.aaload, 1) := by decide +kernel
theorem dX11_pairs_67 : decode cX11_pairs 67 = .ok (.aload_n 0, 1) := by decide +kernel
theorem dX11_pairs_68 : decode cX11_pairs 68 = .ok (.getfield 26, 3) := by decide +kernel
theorem dX11_pairs_71 : decode cX11_pairs 71 = .ok (.getfield 121, 3) := by decide +kernel
theorem dX11_pairs_74 : decode cX11_pairs 74 = .ok (.iload 4, 2) := by decide +kernel
theorem dX11_pairs_76 : decode cX11_pairs 76 = .ok (.aaload, 1) := by decide +kernel
theorem dX11_pairs_77 : decode cX11_pairs 77 = .ok (.invokevirtual 139, 3) := by decide +kernel
theorem dX11_pairs_80 : decode cX11_pairs 80 = .ok (.fload_n 2, 1) := by decide +kernel
theorem dX11_pairs_81 : decode cX11_pairs 81 = .ok (.fcmp .l, 1) := by decide +kernel
theorem dX11_pairs_82 : decode cX11_pairs 82 = .ok (.ifCond .lt 6, 3) := by decide +kernel
theorem dX11_pairs_85 : decode cX11_pairs 85 = .ok (.iinc 3 1, 3) := by decide +kernel
theorem dX11_pairs_88 : decode cX11_pairs 88 = .ok (.iinc 5 1, 3) := by decide +kernel
theorem dX11_pairs_91 : decode cX11_pairs 91 = .ok (.goto (-45), 3) := by decide +kernel
theorem dX11_pairs_94 : decode cX11_pairs 94 = .ok (.iinc 4 1, 3) := by decide +kernel
theorem dX11_pairs_97 : decode cX11_pairs 97 = .ok (.goto (-66), 3) := by decide +kernel
theorem dX11_pairs_100 : decode cX11_pairs 100 = .ok (.iload_n 3, 1) := by decide +kernel
theorem dX11_pairs_101 : decode cX11_pairs 101 = .ok (.ireturn, 1) := by decide +kernel
theorem dX11_match_0 : decode cX11_match 0 = .ok (.aload_n 0, 1) := by decide +kernel
theorem dX11_match_1 : decode cX11_match 1 = .ok (.iload_n 1, 1) := by decide +kernel
theorem dX11_match_2 : decode cX11_match 2 = .ok (.invokevirtual 116, 3) := by decide +kernel
theorem dX11_match_5 : decode cX11_match 5 = .ok (.aload_n 0, 1) := by decide +kernel
theorem dX11_match_6 : decode cX11_match 6 = .ok (.iload_n 2, 1) := by decide +kernel
theorem dX11_match_7 : decode cX11_match 7 = .ok (.invokevirtual 116, 3) := by decide +kernel
theorem dX11_match_10 : decode cX11_match 10 = .ok (.aload_n 0, 1) := by decide +kernel
theorem dX11_match_11 : decode cX11_match 11 = .ok (.getfield 26, 3) := by decide +kernel
theorem dX11_match_14 : decode cX11_match 14 = .ok (.iload_n 1, 1) := by decide +kernel
theorem dX11_match_15 : decode cX11_match 15 = .ok (.iload_n 2, 1) := by decide +kernel
theorem dX11_match_16 : decode cX11_match 16 = .ok (.invokevirtual 150, 3) := by decide +kernel
theorem dX11_match_19 : decode cX11_match 19 = .ok (.istore_n 3, 1) := by decide +kernel
theorem dX11_match_20 : decode cX11_match 20 = .ok (.iload_n 1, 1) := by decide +kernel
theorem dX11_match_21 : decode cX11_match 21 = .ok (.iload_n 2, 1) := by decide +kernel
theorem dX11_match_22 : decode cX11_match 22 = .ok (.if_icmp .eq 16, 3) := by decide +kernel
theorem dX11_match_25 : decode cX11_match 25 = .ok (.iload_n 3, 1) := by decide +kernel
theorem dX11_match_26 : decode cX11_match 26 = .ok (.ifCond .ne 22, 3) := by decide +kernel
theorem dX11_match_29 : decode cX11_match 29 = .ok (.aload_n 0, 1) := by decide +kernel
theorem dX11_match_30 : decode cX11_match 30 = .ok (.iload_n 1, 1) := by decide +kernel
theorem dX11_match_31 : decode cX11_match 31 = .ok (.iload_n 2, 1) := by decide +kernel
theorem dX11_match_32 : decode cX11_match 32 = .ok (.invokevirtual 154, 3) := by decide +kernel
theorem dX11_match_35 : decode cX11_match 35 = .ok (.ifCond .ne 13, 3) := by decide +kernel
theorem dX11_match_38 : decode cX11_match 38 = .ok (.new 72, 3) := by decide +kernel
theorem dX11_match_41 : decode cX11_match 41 = .ok (.dup, 1) := by decide +kernel
theorem dX11_match_42 : decode cX11_match 42 = .ok (.ldc 157, 2) := by decide +kernel
theorem dX11_match_44 : decode cX11_match 44 = .ok (.invokespecial 76, 3) := by decide +kernel
theorem dX11_match_47 : decode cX11_match 47 = .ok (.athrow, 1) := by decide +kernel
theorem dX11_match_48 : decode cX11_match 48 = .ok (.aload_n 0, 1) := by decide +kernel
theorem dX11_match_49 : decode cX11_match 49 = .ok (.getfield 26, 3) := by decide +kernel
theorem dX11_match_52 : decode cX11_match 52 = .ok (.iload_n 1, 1) := by decide +kernel
theorem dX11_match_53 : decode cX11_match 53 = .ok (.iload_n 2, 1) := by decide +kernel
theorem dX11_match_54 : decode cX11_match 54 = .ok (.invokevirtual 159, 3) := by decide +kernel
theorem dX11_match_57 : decode cX11_match 57 = .ok (.iload_n 3, 1) := by decide +kernel
theorem dX11_match_58 : decode cX11_match 58 = .ok (.ifCond .ne 7, 3) := by decide +kernel
theorem dX11_match_61 : decode cX11_match 61 = .ok (.iconst 1, 1) := by decide +kernel
theorem dX11_match_62 : decode cX11_match 62 = .ok (.goto 4, 3) := by decide +kernel
theorem dX11_match_65 : decode cX11_match 65 = .ok (.iconst 0, 1) := by decide +kernel
theorem dX11_match_66 : decode cX11_match 66 = .ok (.ireturn, 1) := by decide +kernel
theorem dX11_group_0 : decode cX11_group 0 = .ok (.aload_n 0, 1) := by decide +kernel
theorem dX11_group_1 : decode cX11_group 1 = .ok (.iload_n 1, 1) := by decide +kernel
theorem dX11_group_2 : decode cX11_group 2 = .ok (.invokevirtual 116, 3) := by decide +kernel
theorem dX11_group_5 : decode cX11_group 5 = .ok (.aload_n 0, 1) := by decide +kernel
theorem dX11_group_6 : decode cX11_group 6 = .ok (.getfield 26, 3) := by decide +kernel
theorem dX11_group_9 : decode cX11_group 9 = .ok (.iload_n 1, 1) := by decide +kernel
theorem dX11_group_10 : decode cX11_group 10 = .ok (.invokevirtual 163, 3) := by decide +kernel
theorem dX11_group_13 : decode cX11_group 13 = .ok (.ireturn, 1) := by decide +kernel
theorem dX11_franking_0 : decode cX11_franking 0 = .ok (.iload_n 1, 1) := by decide +kernel
theorem dX11_franking_1 : decode cX11_franking 1 = .ok (.ifCond .lt 19, 3) := by decide +kernel
theorem dX11_franking_4 : decode cX11_franking 4 = .ok (.iload_n 1, 1) := by decide +kernel
theorem dX11_franking_5 : decode cX11_franking 5 = .ok (.ldc 167, 2) := by decide +kernel
theorem dX11_franking_7 : decode cX11_franking 7 = .ok (.if_icmp .gt 13, 3) := by decide +kernel
theorem dX11_franking_10 : decode cX11_franking 10 = .ok (.iload_n 2, 1) := by decide +kernel
theorem dX11_franking_11 : decode cX11_franking 11 = .ok (.ifCond .lt 9, 3) := by decide +kernel
theorem dX11_franking_14 : decode cX11_franking 14 = .ok (.iload_n 2, 1) := by decide +kernel
theorem dX11_franking_15 : decode cX11_franking 15 = .ok (.ldc 167, 2) := by decide +kernel
theorem dX11_franking_17 : decode cX11_franking 17 = .ok (.if_icmp .le 13, 3) := by decide +kernel
theorem dX11_franking_20 : decode cX11_franking 20 = .ok (.new 55, 3) := by decide +kernel
theorem dX11_franking_23 : decode cX11_franking 23 = .ok (.dup, 1) := by decide +kernel
theorem dX11_franking_24 : decode cX11_franking 24 = .ok (.ldc 168, 2) := by decide +kernel
theorem dX11_franking_26 : decode cX11_franking 26 = .ok (.invokespecial 59, 3) := by decide +kernel
theorem dX11_franking_29 : decode cX11_franking 29 = .ok (.athrow, 1) := by decide +kernel
theorem dX11_franking_30 : decode cX11_franking 30 = .ok (.aload_n 0, 1) := by decide +kernel
theorem dX11_franking_31 : decode cX11_franking 31 = .ok (.getfield 40, 3) := by decide +kernel
theorem dX11_franking_34 : decode cX11_franking 34 = .ok (.iload_n 1, 1) := by decide +kernel
theorem dX11_franking_35 : decode cX11_franking 35 = .ok (.putfield 170, 3) := by decide +kernel
theorem dX11_franking_38 : decode cX11_franking 38 = .ok (.aload_n 0, 1) := by decide +kernel
theorem dX11_franking_39 : decode cX11_franking 39 = .ok (.getfield 40, 3) := by decide +kernel
theorem dX11_franking_42 : decode cX11_franking 42 = .ok (.iload_n 2, 1) := by decide +kernel
theorem dX11_franking_43 : decode cX11_franking 43 = .ok (.putfield 173, 3) := by decide +kernel
theorem dX11_franking_46 : decode cX11_franking 46 = .ok (.aload_n 0, 1) := by decide +kernel
theorem dX11_franking_47 : decode cX11_franking 47 = .ok (.getfield 40, 3) := by decide +kernel
theorem dX11_franking_50 : decode cX11_franking 50 = .ok (.aload_n 0, 1) := by decide +kernel
theorem dX11_franking_51 : decode cX11_franking 51 = .ok (.getfield 40, 3) := by decide +kernel
theorem dX11_franking_54 : decode cX11_franking 54 = .ok (.bipush 20, 2) := by decide +kernel
theorem dX11_franking_56 : decode cX11_franking 56 = .ok (.iconst 1, 1) := by decide +kernel
theorem dX11_franking_57 : decode cX11_franking 57 = .ok (.invokevirtual 176, 3) := by decide +kernel
theorem dX11_franking_60 : decode cX11_franking 60 = .ok (.iconst 5, 1) := by decide +kernel
theorem dX11_franking_61 : decode cX11_franking 61 = .ok (.invokevirtual 180, 3) := by decide +kernel
theorem dX11_franking_64 : decode cX11_franking 64 = .ok (.ireturn, 1) := by decide +kernel
theorem dX11_run_0 : decode cX11_run 0 = .ok (.aload_n 0, 1) := by decide +kernel
theorem dX11_run_1 : decode cX11_run 1 = .ok (.iload_n 1, 1) := by decide +kernel
theorem dX11_run_2 : decode cX11_run 2 = .ok (.invokevirtual 85, 3) := by decide +kernel
theorem dX11_run_5 : decode cX11_run 5 = .ok (.iload_n 2, 1) := by decide +kernel
theorem dX11_run_6 : decode cX11_run 6 = .ok (.ifCond .lt 9, 3) := by decide +kernel
theorem dX11_run_9 : decode cX11_run 9 = .ok (.iload_n 2, 1) := by decide +kernel
theorem dX11_run_10 : decode cX11_run 10 = .ok (.bipush 8, 2) := by decide +kernel
theorem dX11_run_12 : decode cX11_run 12 = .ok (.if_icmp .lt 13, 3) := by decide +kernel
theorem dX11_run_15 : decode cX11_run 15 = .ok (.new 55, 3) := by decide +kernel
theorem dX11_run_18 : decode cX11_run 18 = .ok (.dup, 1) := by decide +kernel
theorem dX11_run_19 : decode cX11_run 19 = .ok (.ldc 183, 2) := by decide +kernel
theorem dX11_run_21 : decode cX11_run 21 = .ok (.invokespecial 59, 3) := by decide +kernel
theorem dX11_run_24 : decode cX11_run 24 = .ok (.athrow, 1) := by decide +kernel
theorem dX11_run_25 : decode cX11_run 25 = .ok (.aload_n 0, 1) := by decide +kernel
theorem dX11_run_26 : decode cX11_run 26 = .ok (.getfield 185, 3) := by decide +kernel
theorem dX11_run_29 : decode cX11_run 29 = .ok (.bipush 8, 2) := by decide +kernel
theorem dX11_run_31 : decode cX11_run 31 = .ok (.if_icmp .lt 13, 3) := by decide +kernel
theorem dX11_run_34 : decode cX11_run 34 = .ok (.new 72, 3) := by decide +kernel
theorem dX11_run_37 : decode cX11_run 37 = .ok (.dup, 1) := by decide +kernel
theorem dX11_run_38 : decode cX11_run 38 = .ok (.ldc 188, 2) := by decide +kernel
theorem dX11_run_40 : decode cX11_run 40 = .ok (.invokespecial 76, 3) := by decide +kernel
theorem dX11_run_43 : decode cX11_run 43 = .ok (.athrow, 1) := by decide +kernel
theorem dX11_run_44 : decode cX11_run 44 = .ok (.aload_n 0, 1) := by decide +kernel
theorem dX11_run_45 : decode cX11_run 45 = .ok (.getfield 46, 3) := by decide +kernel
theorem dX11_run_48 : decode cX11_run 48 = .ok (.aload_n 0, 1) := by decide +kernel
theorem dX11_run_49 : decode cX11_run 49 = .ok (.getfield 185, 3) := by decide +kernel
theorem dX11_run_52 : decode cX11_run 52 = .ok (.aaload, 1) := by decide +kernel
theorem dX11_run_53 : decode cX11_run 53 = .ok (.iload_n 1, 1) := by decide +kernel
theorem dX11_run_54 : decode cX11_run 54 = .ok (.putfield 190, 3) := by decide +kernel
theorem dX11_run_57 : decode cX11_run 57 = .ok (.aload_n 0, 1) := by decide +kernel
theorem dX11_run_58 : decode cX11_run 58 = .ok (.getfield 46, 3) := by decide +kernel
theorem dX11_run_61 : decode cX11_run 61 = .ok (.aload_n 0, 1) := by decide +kernel
theorem dX11_run_62 : decode cX11_run 62 = .ok (.getfield 185, 3) := by decide +kernel
theorem dX11_run_65 : decode cX11_run 65 = .ok (.aaload, 1) := by decide +kernel
theorem dX11_run_66 : decode cX11_run 66 = .ok (.iload_n 2, 1) := by decide +kernel
theorem dX11_run_67 : decode cX11_run 67 = .ok (.putfield 193, 3) := by decide +kernel
theorem dX11_run_70 : decode cX11_run 70 = .ok (.aload_n 0, 1) := by decide +kernel
theorem dX11_run_71 : decode cX11_run 71 = .ok (.dup, 1) := by decide +kernel
theorem dX11_run_72 : decode cX11_run 72 = .ok (.getfield 185, 3) := by decide +kernel
theorem dX11_run_75 : decode cX11_run 75 = .ok (.iconst 1, 1) := by decide +kernel
theorem dX11_run_76 : decode cX11_run 76 = .ok (.iadd, 1) := by decide +kernel
theorem dX11_run_77 : decode cX11_run 77 = .ok (.putfield 185, 3) := by decide +kernel
theorem dX11_run_80 : decode cX11_run 80 = .ok (.aload_n 0, 1) := by decide +kernel
theorem dX11_run_81 : decode cX11_run 81 = .ok (.getfield 185, 3) := by decide +kernel
theorem dX11_run_84 : decode cX11_run 84 = .ok (.iconst 1, 1) := by decide +kernel
theorem dX11_run_85 : decode cX11_run 85 = .ok (.isub, 1) := by decide +kernel
theorem dX11_run_86 : decode cX11_run 86 = .ok (.ireturn, 1) := by decide +kernel
theorem dX11_letters_0 : decode cX11_letters 0 = .ok (.aload_n 0, 1) := by decide +kernel
theorem dX11_letters_1 : decode cX11_letters 1 = .ok (.iload_n 1, 1) := by decide +kernel
theorem dX11_letters_2 : decode cX11_letters 2 = .ok (.invokevirtual 196, 3) := by decide +kernel
theorem dX11_letters_5 : decode cX11_letters 5 = .ok (.aload_n 0, 1) := by decide +kernel
theorem dX11_letters_6 : decode cX11_letters 6 = .ok (.aload_n 0, 1) := by decide +kernel
theorem dX11_letters_7 : decode cX11_letters 7 = .ok (.getfield 46, 3) := by decide +kernel
theorem dX11_letters_10 : decode cX11_letters 10 = .ok (.iload_n 1, 1) := by decide +kernel
theorem dX11_letters_11 : decode cX11_letters 11 = .ok (.aaload, 1) := by decide +kernel
theorem dX11_letters_12 : decode cX11_letters 12 = .ok (.invokevirtual 199, 3) := by decide +kernel
theorem dX11_letters_15 : decode cX11_letters 15 = .ok (.ireturn, 1) := by decide +kernel
theorem dX11_letter_0 : decode cX11_letter 0 = .ok (.aload_n 0, 1) := by decide +kernel
theorem dX11_letter_1 : decode cX11_letter 1 = .ok (.iload_n 1, 1) := by decide +kernel
theorem dX11_letter_2 : decode cX11_letter 2 = .ok (.iload_n 2, 1) := by decide +kernel
theorem dX11_letter_3 : decode cX11_letter 3 = .ok (.invokevirtual 203, 3) := by decide +kernel
theorem dX11_letter_6 : decode cX11_letter 6 = .ok (.iload_n 3, 1) := by decide +kernel
theorem dX11_letter_7 : decode cX11_letter 7 = .ok (.ifCond .lt 8, 3) := by decide +kernel
theorem dX11_letter_10 : decode cX11_letter 10 = .ok (.iload_n 3, 1) := by decide +kernel
theorem dX11_letter_11 : decode cX11_letter 11 = .ok (.iconst 4, 1) := by decide +kernel
theorem dX11_letter_12 : decode cX11_letter 12 = .ok (.if_icmp .le 13, 3) := by decide +kernel
theorem dX11_letter_15 : decode cX11_letter 15 = .ok (.new 55, 3) := by decide +kernel
theorem dX11_letter_18 : decode cX11_letter 18 = .ok (.dup, 1) := by decide +kernel
theorem dX11_letter_19 : decode cX11_letter 19 = .ok (.ldc 206, 2) := by decide +kernel
theorem dX11_letter_21 : decode cX11_letter 21 = .ok (.invokespecial 59, 3) := by decide +kernel
theorem dX11_letter_24 : decode cX11_letter 24 = .ok (.athrow, 1) := by decide +kernel
theorem dX11_letter_25 : decode cX11_letter 25 = .ok (.aload_n 0, 1) := by decide +kernel
theorem dX11_letter_26 : decode cX11_letter 26 = .ok (.aload_n 0, 1) := by decide +kernel
theorem dX11_letter_27 : decode cX11_letter 27 = .ok (.getfield 46, 3) := by decide +kernel
theorem dX11_letter_30 : decode cX11_letter 30 = .ok (.iload_n 1, 1) := by decide +kernel
theorem dX11_letter_31 : decode cX11_letter 31 = .ok (.aaload, 1) := by decide +kernel
theorem dX11_letter_32 : decode cX11_letter 32 = .ok (.iload_n 2, 1) := by decide +kernel
theorem dX11_letter_33 : decode cX11_letter 33 = .ok (.invokevirtual 208, 3) := by decide +kernel
theorem dX11_letter_36 : decode cX11_letter 36 = .ok (.astore 4, 2) := by decide +kernel
theorem dX11_letter_38 : decode cX11_letter 38 = .ok (.iload_n 3, 1) := by decide +kernel
theorem dX11_letter_39 : decode cX11_letter 39 = .ok (.ifCond .ne 9, 3) := by decide +kernel
theorem dX11_letter_42 : decode cX11_letter 42 = .ok (.aload 4, 2) := by decide +kernel
theorem dX11_letter_44 : decode cX11_letter 44 = .ok (.getfield 212, 3) := by decide +kernel
theorem dX11_letter_47 : decode cX11_letter 47 = .ok (.ireturn, 1) := by decide +kernel
theorem dX11_letter_48 : decode cX11_letter 48 = .ok (.iload_n 3, 1) := by decide +kernel
theorem dX11_letter_49 : decode cX11_letter 49 = .ok (.iconst 1, 1) := by decide +kernel
theorem dX11_letter_50 : decode cX11_letter 50 = .ok (.if_icmp .ne 9, 3) := by decide +kernel
theorem dX11_letter_53 : decode cX11_letter 53 = .ok (.aload 4, 2) := by decide +kernel
theorem dX11_letter_55 : decode cX11_letter 55 = .ok (.getfield 217, 3) := by decide +kernel
theorem dX11_letter_58 : decode cX11_letter 58 = .ok (.ireturn, 1) := by decide +kernel
theorem dX11_letter_59 : decode cX11_letter 59 = .ok (.aload 4, 2) := by decide +kernel
theorem dX11_letter_61 : decode cX11_letter 61 = .ok (.getfield 217, 3) := by decide +kernel
theorem dX11_letter_64 : decode cX11_letter 64 = .ok (.ifCond .eq 5, 3) := by decide +kernel
theorem dX11_letter_67 : decode cX11_letter 67 = .ok (.iconst (-1), 1) := by decide +kernel
theorem dX11_letter_68 : decode cX11_letter 68 = .ok (.ireturn, 1) := by decide +kernel
theorem dX11_letter_69 : decode cX11_letter 69 = .ok (.iload_n 3, 1) := by decide +kernel
theorem dX11_letter_70 : decode cX11_letter 70 = .ok (.iconst 2, 1) := by decide +kernel
theorem dX11_letter_71 : decode cX11_letter 71 = .ok (.if_icmp .ne 14, 3) := by decide +kernel
theorem dX11_letter_74 : decode cX11_letter 74 = .ok (.aload 4, 2) := by decide +kernel
theorem dX11_letter_76 : decode cX11_letter 76 = .ok (.getfield 220, 3) := by decide +kernel
theorem dX11_letter_79 : decode cX11_letter 79 = .ok (.getfield 66, 3) := by decide +kernel
theorem dX11_letter_82 : decode cX11_letter 82 = .ok (.goto 21, 3) := by decide +kernel
theorem dX11_letter_85 : decode cX11_letter 85 = .ok (.iload_n 3, 1) := by decide +kernel
theorem dX11_letter_86 : decode cX11_letter 86 = .ok (.iconst 3, 1) := by decide +kernel
theorem dX11_letter_87 : decode cX11_letter 87 = .ok (.if_icmp .ne 11, 3) := by decide +kernel
theorem dX11_letter_90 : decode cX11_letter 90 = .ok (.aload 4, 2) := by decide +kernel
theorem dX11_letter_92 : decode cX11_letter 92 = .ok (.getfield 223, 3) := by decide +kernel
theorem dX11_letter_95 : decode cX11_letter 95 = .ok (.goto 8, 3) := by decide +kernel
theorem dX11_letter_98 : decode cX11_letter 98 = .ok (.aload 4, 2) := by decide +kernel
theorem dX11_letter_100 : decode cX11_letter 100 = .ok (.getfield 226, 3) := by decide +kernel
theorem dX11_letter_103 : decode cX11_letter 103 = .ok (.ireturn, 1) := by decide +kernel
theorem dX11_sign_0 : decode cX11_sign 0 = .ok (.aload_n 0, 1) := by decide +kernel
theorem dX11_sign_1 : decode cX11_sign 1 = .ok (.iload_n 1, 1) := by decide +kernel
theorem dX11_sign_2 : decode cX11_sign 2 = .ok (.iload_n 2, 1) := by decide +kernel
theorem dX11_sign_3 : decode cX11_sign 3 = .ok (.invokevirtual 203, 3) := by decide +kernel
theorem dX11_sign_6 : decode cX11_sign 6 = .ok (.iload_n 3, 1) := by decide +kernel
theorem dX11_sign_7 : decode cX11_sign 7 = .ok (.ifCond .ge 13, 3) := by decide +kernel
theorem dX11_sign_10 : decode cX11_sign 10 = .ok (.new 102, 3) := by decide +kernel
theorem dX11_sign_13 : decode cX11_sign 13 = .ok (.dup, 1) := by decide +kernel
theorem dX11_sign_14 : decode cX11_sign 14 = .ok (.ldc 119, 2) := by decide +kernel
theorem dX11_sign_16 : decode cX11_sign 16 = .ok (.invokespecial 106, 3) := by decide +kernel
theorem dX11_sign_19 : decode cX11_sign 19 = .ok (.athrow, 1) := by decide +kernel
theorem dX11_sign_20 : decode cX11_sign 20 = .ok (.aload_n 0, 1) := by decide +kernel
theorem dX11_sign_21 : decode cX11_sign 21 = .ok (.aload_n 0, 1) := by decide +kernel
theorem dX11_sign_22 : decode cX11_sign 22 = .ok (.getfield 46, 3) := by decide +kernel
theorem dX11_sign_25 : decode cX11_sign 25 = .ok (.iload_n 1, 1) := by decide +kernel
theorem dX11_sign_26 : decode cX11_sign 26 = .ok (.aaload, 1) := by decide +kernel
theorem dX11_sign_27 : decode cX11_sign 27 = .ok (.iload_n 2, 1) := by decide +kernel
theorem dX11_sign_28 : decode cX11_sign 28 = .ok (.invokevirtual 208, 3) := by decide +kernel
theorem dX11_sign_31 : decode cX11_sign 31 = .ok (.astore 4, 2) := by decide +kernel
theorem dX11_sign_33 : decode cX11_sign 33 = .ok (.aload 4, 2) := by decide +kernel
theorem dX11_sign_35 : decode cX11_sign 35 = .ok (.getfield 217, 3) := by decide +kernel
theorem dX11_sign_38 : decode cX11_sign 38 = .ok (.ifCond .eq 7, 3) := by decide +kernel
theorem dX11_sign_41 : decode cX11_sign 41 = .ok (.iconst 0, 1) := by decide +kernel
theorem dX11_sign_42 : decode cX11_sign 42 = .ok (.goto 12, 3) := by decide +kernel
theorem dX11_sign_45 : decode cX11_sign 45 = .ok (.aload 4, 2) := by decide +kernel
theorem dX11_sign_47 : decode cX11_sign 47 = .ok (.getfield 220, 3) := by decide +kernel
theorem dX11_sign_50 : decode cX11_sign 50 = .ok (.iload_n 3, 1) := by decide +kernel
theorem dX11_sign_51 : decode cX11_sign 51 = .ok (.invokevirtual 131, 3) := by decide +kernel
theorem dX11_sign_54 : decode cX11_sign 54 = .ok (.ireturn, 1) := by decide +kernel
theorem dX11_anew_0 : decode cX11_anew 0 = .ok (.aload_n 0, 1) := by decide +kernel
theorem dX11_anew_1 : decode cX11_anew 1 = .ok (.iload_n 1, 1) := by decide +kernel
theorem dX11_anew_2 : decode cX11_anew 2 = .ok (.iload_n 2, 1) := by decide +kernel
theorem dX11_anew_3 : decode cX11_anew 3 = .ok (.invokevirtual 203, 3) := by decide +kernel
theorem dX11_anew_6 : decode cX11_anew 6 = .ok (.aload_n 0, 1) := by decide +kernel
theorem dX11_anew_7 : decode cX11_anew 7 = .ok (.aload_n 0, 1) := by decide +kernel
theorem dX11_anew_8 : decode cX11_anew 8 = .ok (.getfield 46, 3) := by decide +kernel
theorem dX11_anew_11 : decode cX11_anew 11 = .ok (.iload_n 1, 1) := by decide +kernel
theorem dX11_anew_12 : decode cX11_anew 12 = .ok (.aaload, 1) := by decide +kernel
theorem dX11_anew_13 : decode cX11_anew 13 = .ok (.iload_n 2, 1) := by decide +kernel
theorem dX11_anew_14 : decode cX11_anew 14 = .ok (.invokevirtual 208, 3) := by decide +kernel
theorem dX11_anew_17 : decode cX11_anew 17 = .ok (.astore_n 3, 1) := by decide +kernel
theorem dX11_anew_18 : decode cX11_anew 18 = .ok (.aload_n 3, 1) := by decide +kernel
theorem dX11_anew_19 : decode cX11_anew 19 = .ok (.getfield 217, 3) := by decide +kernel
theorem dX11_anew_22 : decode cX11_anew 22 = .ok (.ifCond .eq 5, 3) := by decide +kernel
theorem dX11_anew_25 : decode cX11_anew 25 = .ok (.iconst 0, 1) := by decide +kernel
theorem dX11_anew_26 : decode cX11_anew 26 = .ok (.ireturn, 1) := by decide +kernel
theorem dX11_anew_27 : decode cX11_anew 27 = .ok (.aload_n 0, 1) := by decide +kernel
theorem dX11_anew_28 : decode cX11_anew 28 = .ok (.aload_n 0, 1) := by decide +kernel
theorem dX11_anew_29 : decode cX11_anew 29 = .ok (.getfield 46, 3) := by decide +kernel
theorem dX11_anew_32 : decode cX11_anew 32 = .ok (.iload_n 1, 1) := by decide +kernel
theorem dX11_anew_33 : decode cX11_anew 33 = .ok (.aaload, 1) := by decide +kernel
theorem dX11_anew_34 : decode cX11_anew 34 = .ok (.getfield 190, 3) := by decide +kernel
theorem dX11_anew_37 : decode cX11_anew 37 = .ok (.aload_n 3, 1) := by decide +kernel
theorem dX11_anew_38 : decode cX11_anew 38 = .ok (.getfield 212, 3) := by decide +kernel
theorem dX11_anew_41 : decode cX11_anew 41 = .ok (.invokevirtual 229, 3) := by decide +kernel
theorem dX11_anew_44 : decode cX11_anew 44 = .ok (.astore 4, 2) := by decide +kernel
theorem dX11_anew_46 : decode cX11_anew 46 = .ok (.aload 4, 2) := by decide +kernel
theorem dX11_anew_48 : decode cX11_anew 48 = .ok (.getfield 217, 3) := by decide +kernel
theorem dX11_anew_51 : decode cX11_anew 51 = .ok (.ifCond .eq 7, 3) := by decide +kernel
theorem dX11_anew_54 : decode cX11_anew 54 = .ok (.iconst (-1), 1) := by decide +kernel
theorem dX11_anew_55 : decode cX11_anew 55 = .ok (.goto 15, 3) := by decide +kernel
theorem dX11_anew_58 : decode cX11_anew 58 = .ok (.aload_n 3, 1) := by decide +kernel
theorem dX11_anew_59 : decode cX11_anew 59 = .ok (.getfield 220, 3) := by decide +kernel
theorem dX11_anew_62 : decode cX11_anew 62 = .ok (.aload 4, 2) := by decide +kernel
theorem dX11_anew_64 : decode cX11_anew 64 = .ok (.getfield 220, 3) := by decide +kernel
theorem dX11_anew_67 : decode cX11_anew 67 = .ok (.invokevirtual 233, 3) := by decide +kernel
theorem dX11_anew_70 : decode cX11_anew 70 = .ok (.ireturn, 1) := by decide +kernel
theorem dX11_trouble_0 : decode cX11_trouble 0 = .ok (.aload_n 0, 1) := by decide +kernel
theorem dX11_trouble_1 : decode cX11_trouble 1 = .ok (.iload_n 1, 1) := by decide +kernel
theorem dX11_trouble_2 : decode cX11_trouble 2 = .ok (.iload_n 2, 1) := by decide +kernel
theorem dX11_trouble_3 : decode cX11_trouble 3 = .ok (.invokevirtual 203, 3) := by decide +kernel
theorem dX11_trouble_6 : decode cX11_trouble 6 = .ok (.iload_n 3, 1) := by decide +kernel
theorem dX11_trouble_7 : decode cX11_trouble 7 = .ok (.ifCond .ge 13, 3) := by decide +kernel
theorem dX11_trouble_10 : decode cX11_trouble 10 = .ok (.new 102, 3) := by decide +kernel
theorem dX11_trouble_13 : decode cX11_trouble 13 = .ok (.dup, 1) := by decide +kernel
theorem dX11_trouble_14 : decode cX11_trouble 14 = .ok (.ldc 237, 2) := by decide +kernel
theorem dX11_trouble_16 : decode cX11_trouble 16 = .ok (.invokespecial 106, 3) := by decide +kernel
theorem dX11_trouble_19 : decode cX11_trouble 19 = .ok (.athrow, 1) := by decide +kernel
theorem dX11_trouble_20 : decode cX11_trouble 20 = .ok (.aload_n 0, 1) := by decide +kernel
theorem dX11_trouble_21 : decode cX11_trouble 21 = .ok (.aload_n 0, 1) := by decide +kernel
theorem dX11_trouble_22 : decode cX11_trouble 22 = .ok (.getfield 46, 3) := by decide +kernel
theorem dX11_trouble_25 : decode cX11_trouble 25 = .ok (.iload_n 1, 1) := by decide +kernel
theorem dX11_trouble_26 : decode cX11_trouble 26 = .ok (.aaload, 1) := by decide +kernel
theorem dX11_trouble_27 : decode cX11_trouble 27 = .ok (.iload_n 2, 1) := by decide +kernel
theorem dX11_trouble_28 : decode cX11_trouble 28 = .ok (.invokevirtual 208, 3) := by decide +kernel
theorem dX11_trouble_31 : decode cX11_trouble 31 = .ok (.getfield 217, 3) := by decide +kernel
theorem dX11_trouble_34 : decode cX11_trouble 34 = .ok (.ifCond .ne 5, 3) := by decide +kernel
theorem dX11_trouble_37 : decode cX11_trouble 37 = .ok (.iconst (-1), 1) := by decide +kernel
theorem dX11_trouble_38 : decode cX11_trouble 38 = .ok (.ireturn, 1) := by decide +kernel
theorem dX11_trouble_39 : decode cX11_trouble 39 = .ok (.iload 4, 2) := by decide +kernel
theorem dX11_trouble_41 : decode cX11_trouble 41 = .ok (.ifCond .eq 14, 3) := by decide +kernel
theorem dX11_trouble_44 : decode cX11_trouble 44 = .ok (.aload_n 0, 1) := by decide +kernel
theorem dX11_trouble_45 : decode cX11_trouble 45 = .ok (.getfield 19, 3) := by decide +kernel
theorem dX11_trouble_48 : decode cX11_trouble 48 = .ok (.iload_n 3, 1) := by decide +kernel
theorem dX11_trouble_49 : decode cX11_trouble 49 = .ok (.invokevirtual 239, 3) := by decide +kernel
theorem dX11_trouble_52 : decode cX11_trouble 52 = .ok (.goto 11, 3) := by decide +kernel
theorem dX11_trouble_55 : decode cX11_trouble 55 = .ok (.aload_n 0, 1) := by decide +kernel
theorem dX11_trouble_56 : decode cX11_trouble 56 = .ok (.getfield 19, 3) := by decide +kernel
theorem dX11_trouble_59 : decode cX11_trouble 59 = .ok (.iload_n 3, 1) := by decide +kernel
theorem dX11_trouble_60 : decode cX11_trouble 60 = .ok (.invokevirtual 242, 3) := by decide +kernel
theorem dX11_trouble_63 : decode cX11_trouble 63 = .ok (.ireturn, 1) := by decide +kernel
theorem dX11_post_0 : decode cX11_post 0 = .ok (.aload_n 0, 1) := by decide +kernel
theorem dX11_post_1 : decode cX11_post 1 = .ok (.iload_n 1, 1) := by decide +kernel
theorem dX11_post_2 : decode cX11_post 2 = .ok (.invokevirtual 196, 3) := by decide +kernel
theorem dX11_post_5 : decode cX11_post 5 = .ok (.aload_n 0, 1) := by decide +kernel
theorem dX11_post_6 : decode cX11_post 6 = .ok (.getfield 46, 3) := by decide +kernel
theorem dX11_post_9 : decode cX11_post 9 = .ok (.iload_n 1, 1) := by decide +kernel
theorem dX11_post_10 : decode cX11_post 10 = .ok (.aaload, 1) := by decide +kernel
theorem dX11_post_11 : decode cX11_post 11 = .ok (.astore_n 2, 1) := by decide +kernel
theorem dX11_post_12 : decode cX11_post 12 = .ok (.aload_n 2, 1) := by decide +kernel
theorem dX11_post_13 : decode cX11_post 13 = .ok (.getfield 245, 3) := by decide +kernel
theorem dX11_post_16 : decode cX11_post 16 = .ok (.ifCond .eq 13, 3) := by decide +kernel
theorem dX11_post_19 : decode cX11_post 19 = .ok (.new 72, 3) := by decide +kernel
theorem dX11_post_22 : decode cX11_post 22 = .ok (.dup, 1) := by decide +kernel
theorem dX11_post_23 : decode cX11_post 23 = .ok (.ldc 249, 2) := by decide +kernel
theorem dX11_post_25 : decode cX11_post 25 = .ok (.invokespecial 76, 3) := by decide +kernel
theorem dX11_post_28 : decode cX11_post 28 = .ok (.athrow, 1) := by decide +kernel
theorem dX11_post_29 : decode cX11_post 29 = .ok (.aload_n 0, 1) := by decide +kernel
theorem dX11_post_30 : decode cX11_post 30 = .ok (.getfield 26, 3) := by decide +kernel
theorem dX11_post_33 : decode cX11_post 33 = .ok (.aload_n 2, 1) := by decide +kernel
theorem dX11_post_34 : decode cX11_post 34 = .ok (.getfield 193, 3) := by decide +kernel
theorem dX11_post_37 : decode cX11_post 37 = .ok (.invokevirtual 251, 3) := by decide +kernel
theorem dX11_post_40 : decode cX11_post 40 = .ok (.istore_n 3, 1) := by decide +kernel
theorem dX11_post_41 : decode cX11_post 41 = .ok (.iconst 0, 1) := by decide +kernel
theorem dX11_post_42 : decode cX11_post 42 = .ok (.istore 4, 2) := by decide +kernel
theorem dX11_post_44 : decode cX11_post 44 = .ok (.iload 4, 2) := by decide +kernel
theorem dX11_post_46 : decode cX11_post 46 = .ok (.iload_n 3, 1) := by decide +kernel
theorem dX11_post_47 : decode cX11_post 47 = .ok (.if_icmp .ge 67, 3) := by decide +kernel
theorem dX11_post_50 : decode cX11_post 50 = .ok (.aload_n 0, 1) := by decide +kernel
theorem dX11_post_51 : decode cX11_post 51 = .ok (.aload_n 2, 1) := by decide +kernel
theorem dX11_post_52 : decode cX11_post 52 = .ok (.getfield 190, 3) := by decide +kernel
theorem dX11_post_55 : decode cX11_post 55 = .ok (.aload_n 0, 1) := by decide +kernel
theorem dX11_post_56 : decode cX11_post 56 = .ok (.getfield 26, 3) := by decide +kernel
theorem dX11_post_59 : decode cX11_post 59 = .ok (.iload 4, 2) := by decide +kernel
theorem dX11_post_61 : decode cX11_post 61 = .ok (.invokevirtual 254, 3) := by decide +kernel
theorem dX11_post_64 : decode cX11_post 64 = .ok (.invokevirtual 229, 3) := by decide +kernel
theorem dX11_post_67 : decode cX11_post 67 = .ok (.astore 5, 2) := by decide +kernel
theorem dX11_post_69 : decode cX11_post 69 = .ok (.aload 5, 2) := by decide +kernel
theorem dX11_post_71 : decode cX11_post 71 = .ok (.getfield 217, 3) := by decide +kernel
theorem dX11_post_74 : decode cX11_post 74 = .ok (.ifCond .ne 34, 3) := by decide +kernel
theorem dX11_post_77 : decode cX11_post 77 = .ok (.aload_n 2, 1) := by decide +kernel
theorem dX11_post_78 : decode cX11_post 78 = .ok (.aload 5, 2) := by decide +kernel
theorem dX11_post_80 : decode cX11_post 80 = .ok (.invokevirtual 257, 3) := by decide +kernel
theorem dX11_post_83 : decode cX11_post 83 = .ok (.aload_n 0, 1) := by decide +kernel
theorem dX11_post_84 : decode cX11_post 84 = .ok (.getfield 26, 3) := by decide +kernel
theorem dX11_post_87 : decode cX11_post 87 = .ok (.aload 5, 2) := by decide +kernel
theorem dX11_post_89 : decode cX11_post 89 = .ok (.getfield 212, 3) := by decide +kernel
theorem dX11_post_92 : decode cX11_post 92 = .ok (.aload_n 2, 1) := by decide +kernel
theorem dX11_post_93 : decode cX11_post 93 = .ok (.getfield 193, 3) := by decide +kernel
theorem dX11_post_96 : decode cX11_post 96 = .ok (.invokevirtual 261, 3) := by decide +kernel
theorem dX11_post_99 : decode cX11_post 99 = .ok (.aload_n 0, 1) := by decide +kernel
theorem dX11_post_100 : decode cX11_post 100 = .ok (.aload 5, 2) := by decide +kernel
theorem dX11_post_102 : decode cX11_post 102 = .ok (.getfield 226, 3) := by decide +kernel
theorem dX11_post_105 : decode cX11_post 105 = .ok (.invokevirtual 264, 3) := by decide +kernel
theorem dX11_post_108 : decode cX11_post 108 = .ok (.iinc 4 1, 3) := by decide +kernel
theorem dX11_post_111 : decode cX11_post 111 = .ok (.goto (-67), 3) := by decide +kernel
theorem dX11_post_114 : decode cX11_post 114 = .ok (.aload_n 2, 1) := by decide +kernel
theorem dX11_post_115 : decode cX11_post 115 = .ok (.iconst 1, 1) := by decide +kernel
theorem dX11_post_116 : decode cX11_post 116 = .ok (.putfield 245, 3) := by decide +kernel
theorem dX11_post_119 : decode cX11_post 119 = .ok (.aload_n 2, 1) := by decide +kernel
theorem dX11_post_120 : decode cX11_post 120 = .ok (.getfield 267, 3) := by decide +kernel
theorem dX11_post_123 : decode cX11_post 123 = .ok (.ireturn, 1) := by decide +kernel
theorem dX11_spent_0 : decode cX11_spent 0 = .ok (.aload_n 0, 1) := by decide +kernel
theorem dX11_spent_1 : decode cX11_spent 1 = .ok (.getfield 268, 3) := by decide +kernel
theorem dX11_spent_4 : decode cX11_spent 4 = .ok (.ireturn, 1) := by decide +kernel
theorem dX11_reasons_0 : decode cX11_reasons 0 = .ok (.aload_n 0, 1) := by decide +kernel
theorem dX11_reasons_1 : decode cX11_reasons 1 = .ok (.iload_n 1, 1) := by decide +kernel
theorem dX11_reasons_2 : decode cX11_reasons 2 = .ok (.invokevirtual 116, 3) := by decide +kernel
theorem dX11_reasons_5 : decode cX11_reasons 5 = .ok (.aload_n 0, 1) := by decide +kernel
theorem dX11_reasons_6 : decode cX11_reasons 6 = .ok (.getfield 26, 3) := by decide +kernel
theorem dX11_reasons_9 : decode cX11_reasons 9 = .ok (.getfield 271, 3) := by decide +kernel
theorem dX11_reasons_12 : decode cX11_reasons 12 = .ok (.iload_n 1, 1) := by decide +kernel
theorem dX11_reasons_13 : decode cX11_reasons 13 = .ok (.iaload, 1) := by decide +kernel
theorem dX11_reasons_14 : decode cX11_reasons 14 = .ok (.ireturn, 1) := by decide +kernel
theorem dX11_checkTemplate_0 : decode cX11_checkTemplate 0 = .ok (.iload_n 1, 1) := by decide +kernel
theorem dX11_checkTemplate_1 : decode cX11_checkTemplate 1 = .ok (.ifCond .lt 9, 3) := by decide +kernel
theorem dX11_checkTemplate_4 : decode cX11_checkTemplate 4 = .ok (.iload_n 1, 1) := by decide +kernel
theorem dX11_checkTemplate_5 : decode cX11_checkTemplate 5 = .ok (.bipush 8, 2) := by decide +kernel
theorem dX11_checkTemplate_7 : decode cX11_checkTemplate 7 = .ok (.if_icmp .lt 14, 3) := by decide +kernel
theorem dX11_checkTemplate_10 : decode cX11_checkTemplate 10 = .ok (.new 102, 3) := by decide +kernel
theorem dX11_checkTemplate_13 : decode cX11_checkTemplate 13 = .ok (.dup, 1) := by decide +kernel
theorem dX11_checkTemplate_14 : decode cX11_checkTemplate 14 = .ok (.ldc_w 274, 3) := by decide +kernel
theorem dX11_checkTemplate_17 : decode cX11_checkTemplate 17 = .ok (.invokespecial 106, 3) := by decide +kernel
theorem dX11_checkTemplate_20 : decode cX11_checkTemplate 20 = .ok (.athrow, 1) := by decide +kernel
theorem dX11_checkTemplate_21 : decode cX11_checkTemplate 21 = .ok (.return_, 1) := by decide +kernel
theorem dX11_checkAddress_0 : decode cX11_checkAddress 0 = .ok (.iload_n 1, 1) := by decide +kernel
theorem dX11_checkAddress_1 : decode cX11_checkAddress 1 = .ok (.ifCond .lt 20, 3) := by decide +kernel
theorem dX11_checkAddress_4 : decode cX11_checkAddress 4 = .ok (.iload_n 1, 1) := by decide +kernel
theorem dX11_checkAddress_5 : decode cX11_checkAddress 5 = .ok (.aload_n 0, 1) := by decide +kernel
theorem dX11_checkAddress_6 : decode cX11_checkAddress 6 = .ok (.getfield 26, 3) := by decide +kernel
theorem dX11_checkAddress_9 : decode cX11_checkAddress 9 = .ok (.getfield 99, 3) := by decide +kernel
theorem dX11_checkAddress_12 : decode cX11_checkAddress 12 = .ok (.if_icmp .ge 9, 3) := by decide +kernel
theorem dX11_checkAddress_15 : decode cX11_checkAddress 15 = .ok (.iload_n 1, 1) := by decide +kernel
theorem dX11_checkAddress_16 : decode cX11_checkAddress 16 = .ok (.bipush 12, 2) := by decide +kernel
theorem dX11_checkAddress_18 : decode cX11_checkAddress 18 = .ok (.if_icmp .lt 13, 3) := by decide +kernel
theorem dX11_checkAddress_21 : decode cX11_checkAddress 21 = .ok (.new 102, 3) := by decide +kernel
theorem dX11_checkAddress_24 : decode cX11_checkAddress 24 = .ok (.dup, 1) := by decide +kernel
theorem dX11_checkAddress_25 : decode cX11_checkAddress 25 = .ok (.ldc 104, 2) := by decide +kernel
theorem dX11_checkAddress_27 : decode cX11_checkAddress 27 = .ok (.invokespecial 106, 3) := by decide +kernel
theorem dX11_checkAddress_30 : decode cX11_checkAddress 30 = .ok (.athrow, 1) := by decide +kernel
theorem dX11_checkAddress_31 : decode cX11_checkAddress 31 = .ok (.return_, 1) := by decide +kernel
theorem dX11_checkRun_0 : decode cX11_checkRun 0 = .ok (.iload_n 1, 1) := by decide +kernel
theorem dX11_checkRun_1 : decode cX11_checkRun 1 = .ok (.ifCond .lt 17, 3) := by decide +kernel
theorem dX11_checkRun_4 : decode cX11_checkRun 4 = .ok (.iload_n 1, 1) := by decide +kernel
theorem dX11_checkRun_5 : decode cX11_checkRun 5 = .ok (.aload_n 0, 1) := by decide +kernel
theorem dX11_checkRun_6 : decode cX11_checkRun 6 = .ok (.getfield 185, 3) := by decide +kernel
theorem dX11_checkRun_9 : decode cX11_checkRun 9 = .ok (.if_icmp .ge 9, 3) := by decide +kernel
theorem dX11_checkRun_12 : decode cX11_checkRun 12 = .ok (.iload_n 1, 1) := by decide +kernel
theorem dX11_checkRun_13 : decode cX11_checkRun 13 = .ok (.bipush 8, 2) := by decide +kernel
theorem dX11_checkRun_15 : decode cX11_checkRun 15 = .ok (.if_icmp .lt 14, 3) := by decide +kernel
theorem dX11_checkRun_18 : decode cX11_checkRun 18 = .ok (.new 102, 3) := by decide +kernel
theorem dX11_checkRun_21 : decode cX11_checkRun 21 = .ok (.dup, 1) := by decide +kernel
theorem dX11_checkRun_22 : decode cX11_checkRun 22 = .ok (.ldc_w 276, 3) := by decide +kernel
theorem dX11_checkRun_25 : decode cX11_checkRun 25 = .ok (.invokespecial 106, 3) := by decide +kernel
theorem dX11_checkRun_28 : decode cX11_checkRun 28 = .ok (.athrow, 1) := by decide +kernel
theorem dX11_checkRun_29 : decode cX11_checkRun 29 = .ok (.return_, 1) := by decide +kernel
theorem dX11_checkLetter_0 : decode cX11_checkLetter 0 = .ok (.aload_n 0, 1) := by decide +kernel
theorem dX11_checkLetter_1 : decode cX11_checkLetter 1 = .ok (.iload_n 1, 1) := by decide +kernel
theorem dX11_checkLetter_2 : decode cX11_checkLetter 2 = .ok (.invokevirtual 196, 3) := by decide +kernel
theorem dX11_checkLetter_5 : decode cX11_checkLetter 5 = .ok (.iload_n 2, 1) := by decide +kernel
theorem dX11_checkLetter_6 : decode cX11_checkLetter 6 = .ok (.ifCond .lt 17, 3) := by decide +kernel
theorem dX11_checkLetter_9 : decode cX11_checkLetter 9 = .ok (.iload_n 2, 1) := by decide +kernel
theorem dX11_checkLetter_10 : decode cX11_checkLetter 10 = .ok (.aload_n 0, 1) := by decide +kernel
theorem dX11_checkLetter_11 : decode cX11_checkLetter 11 = .ok (.aload_n 0, 1) := by decide +kernel
theorem dX11_checkLetter_12 : decode cX11_checkLetter 12 = .ok (.getfield 46, 3) := by decide +kernel
theorem dX11_checkLetter_15 : decode cX11_checkLetter 15 = .ok (.iload_n 1, 1) := by decide +kernel
theorem dX11_checkLetter_16 : decode cX11_checkLetter 16 = .ok (.aaload, 1) := by decide +kernel
theorem dX11_checkLetter_17 : decode cX11_checkLetter 17 = .ok (.invokevirtual 199, 3) := by decide +kernel
theorem dX11_checkLetter_20 : decode cX11_checkLetter 20 = .ok (.if_icmp .lt 14, 3) := by decide +kernel
theorem dX11_checkLetter_23 : decode cX11_checkLetter 23 = .ok (.new 102, 3) := by decide +kernel
theorem dX11_checkLetter_26 : decode cX11_checkLetter 26 = .ok (.dup, 1) := by decide +kernel
theorem dX11_checkLetter_27 : decode cX11_checkLetter 27 = .ok (.ldc_w 278, 3) := by decide +kernel
theorem dX11_checkLetter_30 : decode cX11_checkLetter 30 = .ok (.invokespecial 106, 3) := by decide +kernel
theorem dX11_checkLetter_33 : decode cX11_checkLetter 33 = .ok (.athrow, 1) := by decide +kernel
theorem dX11_checkLetter_34 : decode cX11_checkLetter 34 = .ok (.return_, 1) := by decide +kernel
theorem dX11_countLetters_0 : decode cX11_countLetters 0 = .ok (.aload_n 1, 1) := by decide +kernel
theorem dX11_countLetters_1 : decode cX11_countLetters 1 = .ok (.getfield 245, 3) := by decide +kernel
theorem dX11_countLetters_4 : decode cX11_countLetters 4 = .ok (.ifCond .eq 10, 3) := by decide +kernel
theorem dX11_countLetters_7 : decode cX11_countLetters 7 = .ok (.aload_n 1, 1) := by decide +kernel
theorem dX11_countLetters_8 : decode cX11_countLetters 8 = .ok (.getfield 267, 3) := by decide +kernel
theorem dX11_countLetters_11 : decode cX11_countLetters 11 = .ok (.goto 14, 3) := by decide +kernel
theorem dX11_countLetters_14 : decode cX11_countLetters 14 = .ok (.aload_n 0, 1) := by decide +kernel
theorem dX11_countLetters_15 : decode cX11_countLetters 15 = .ok (.getfield 26, 3) := by decide +kernel
theorem dX11_countLetters_18 : decode cX11_countLetters 18 = .ok (.aload_n 1, 1) := by decide +kernel
theorem dX11_countLetters_19 : decode cX11_countLetters 19 = .ok (.getfield 193, 3) := by decide +kernel
theorem dX11_countLetters_22 : decode cX11_countLetters 22 = .ok (.invokevirtual 251, 3) := by decide +kernel
theorem dX11_countLetters_25 : decode cX11_countLetters 25 = .ok (.ireturn, 1) := by decide +kernel
theorem dX11_findLetter_0 : decode cX11_findLetter 0 = .ok (.aload_n 1, 1) := by decide +kernel
theorem dX11_findLetter_1 : decode cX11_findLetter 1 = .ok (.getfield 245, 3) := by decide +kernel
theorem dX11_findLetter_4 : decode cX11_findLetter 4 = .ok (.ifCond .eq 20, 3) := by decide +kernel
theorem dX11_findLetter_7 : decode cX11_findLetter 7 = .ok (.iload_n 2, 1) := by decide +kernel
theorem dX11_findLetter_8 : decode cX11_findLetter 8 = .ok (.ifCond .lt 16, 3) := by decide +kernel
theorem dX11_findLetter_11 : decode cX11_findLetter 11 = .ok (.iload_n 2, 1) := by decide +kernel
theorem dX11_findLetter_12 : decode cX11_findLetter 12 = .ok (.bipush 12, 2) := by decide +kernel
theorem dX11_findLetter_14 : decode cX11_findLetter 14 = .ok (.if_icmp .ge 10, 3) := by decide +kernel
theorem dX11_findLetter_17 : decode cX11_findLetter 17 = .ok (.aload_n 1, 1) := by decide +kernel
theorem dX11_findLetter_18 : decode cX11_findLetter 18 = .ok (.getfield 280, 3) := by decide +kernel
theorem dX11_findLetter_21 : decode cX11_findLetter 21 = .ok (.iload_n 2, 1) := by decide +kernel
theorem dX11_findLetter_22 : decode cX11_findLetter 22 = .ok (.aaload, 1) := by decide +kernel
theorem dX11_findLetter_23 : decode cX11_findLetter 23 = .ok (.areturn, 1) := by decide +kernel
theorem dX11_findLetter_24 : decode cX11_findLetter 24 = .ok (.aload_n 0, 1) := by decide +kernel
theorem dX11_findLetter_25 : decode cX11_findLetter 25 = .ok (.aload_n 1, 1) := by decide +kernel
theorem dX11_findLetter_26 : decode cX11_findLetter 26 = .ok (.getfield 190, 3) := by decide +kernel
theorem dX11_findLetter_29 : decode cX11_findLetter 29 = .ok (.aload_n 0, 1) := by decide +kernel
theorem dX11_findLetter_30 : decode cX11_findLetter 30 = .ok (.getfield 26, 3) := by decide +kernel
theorem dX11_findLetter_33 : decode cX11_findLetter 33 = .ok (.iload_n 2, 1) := by decide +kernel
theorem dX11_findLetter_34 : decode cX11_findLetter 34 = .ok (.invokevirtual 254, 3) := by decide +kernel
theorem dX11_findLetter_37 : decode cX11_findLetter 37 = .ok (.invokevirtual 229, 3) := by decide +kernel
theorem dX11_findLetter_40 : decode cX11_findLetter 40 = .ok (.areturn, 1) := by decide +kernel
theorem dX11_compose_0 : decode cX11_compose 0 = .ok (.aload_n 0, 1) := by decide +kernel
theorem dX11_compose_1 : decode cX11_compose 1 = .ok (.getfield 19, 3) := by decide +kernel
theorem dX11_compose_4 : decode cX11_compose 4 = .ok (.getfield 284, 3) := by decide +kernel
theorem dX11_compose_7 : decode cX11_compose 7 = .ok (.aload_n 0, 1) := by decide +kernel
theorem dX11_compose_8 : decode cX11_compose 8 = .ok (.getfield 26, 3) := by decide +kernel
theorem dX11_compose_11 : decode cX11_compose 11 = .ok (.iload_n 2, 1) := by decide +kernel
theorem dX11_compose_12 : decode cX11_compose 12 = .ok (.invokevirtual 288, 3) := by decide +kernel
theorem dX11_compose_15 : decode cX11_compose 15 = .ok (.aload_n 0, 1) := by decide +kernel
theorem dX11_compose_16 : decode cX11_compose 16 = .ok (.getfield 19, 3) := by decide +kernel
theorem dX11_compose_19 : decode cX11_compose 19 = .ok (.iload_n 1, 1) := by decide +kernel
theorem dX11_compose_20 : decode cX11_compose 20 = .ok (.invokevirtual 294, 3) := by decide +kernel
theorem dX11_compose_23 : decode cX11_compose 23 = .ok (.aload_n 0, 1) := by decide +kernel
theorem dX11_compose_24 : decode cX11_compose 24 = .ok (.getfield 19, 3) := by decide +kernel
theorem dX11_compose_27 : decode cX11_compose 27 = .ok (.getfield 297, 3) := by decide +kernel
theorem dX11_compose_30 : decode cX11_compose 30 = .ok (.astore_n 3, 1) := by decide +kernel
theorem dX11_compose_31 : decode cX11_compose 31 = .ok (.aload_n 3, 1) := by decide +kernel
theorem dX11_compose_32 : decode cX11_compose 32 = .ok (.iload_n 2, 1) := by decide +kernel
theorem dX11_compose_33 : decode cX11_compose 33 = .ok (.putfield 212, 3) := by decide +kernel
theorem dX11_compose_36 : decode cX11_compose 36 = .ok (.aload_n 3, 1) := by decide +kernel
theorem dX11_compose_37 : decode cX11_compose 37 = .ok (.getfield 217, 3) := by decide +kernel
theorem dX11_compose_40 : decode cX11_compose 40 = .ok (.ifCond .ne 77, 3) := by decide +kernel
theorem dX11_compose_43 : decode cX11_compose 43 = .ok (.aload_n 3, 1) := by decide +kernel
theorem dX11_compose_44 : decode cX11_compose 44 = .ok (.aload_n 0, 1) := by decide +kernel
theorem dX11_compose_45 : decode cX11_compose 45 = .ok (.getfield 40, 3) := by decide +kernel
theorem dX11_compose_48 : decode cX11_compose 48 = .ok (.aload_n 3, 1) := by decide +kernel
theorem dX11_compose_49 : decode cX11_compose 49 = .ok (.getfield 220, 3) := by decide +kernel
theorem dX11_compose_52 : decode cX11_compose 52 = .ok (.getfield 66, 3) := by decide +kernel
theorem dX11_compose_55 : decode cX11_compose 55 = .ok (.aload_n 0, 1) := by decide +kernel
theorem dX11_compose_56 : decode cX11_compose 56 = .ok (.getfield 19, 3) := by decide +kernel
theorem dX11_compose_59 : decode cX11_compose 59 = .ok (.getfield 284, 3) := by decide +kernel
theorem dX11_compose_62 : decode cX11_compose 62 = .ok (.getfield 301, 3) := by decide +kernel
theorem dX11_compose_65 : decode cX11_compose 65 = .ok (.iconst 5, 1) := by decide +kernel
theorem dX11_compose_66 : decode cX11_compose 66 = .ok (.iaload, 1) := by decide +kernel
theorem dX11_compose_67 : decode cX11_compose 67 = .ok (.invokevirtual 176, 3) := by decide +kernel
theorem dX11_compose_70 : decode cX11_compose 70 = .ok (.putfield 223, 3) := by decide +kernel
theorem dX11_compose_73 : decode cX11_compose 73 = .ok (.aload_n 3, 1) := by decide +kernel
theorem dX11_compose_74 : decode cX11_compose 74 = .ok (.aload_n 0, 1) := by decide +kernel
theorem dX11_compose_75 : decode cX11_compose 75 = .ok (.getfield 40, 3) := by decide +kernel
theorem dX11_compose_78 : decode cX11_compose 78 = .ok (.aload_n 3, 1) := by decide +kernel
theorem dX11_compose_79 : decode cX11_compose 79 = .ok (.getfield 223, 3) := by decide +kernel
theorem dX11_compose_82 : decode cX11_compose 82 = .ok (.aload_n 0, 1) := by decide +kernel
theorem dX11_compose_83 : decode cX11_compose 83 = .ok (.getfield 19, 3) := by decide +kernel
theorem dX11_compose_86 : decode cX11_compose 86 = .ok (.getfield 284, 3) := by decide +kernel
theorem dX11_compose_89 : decode cX11_compose 89 = .ok (.getfield 301, 3) := by decide +kernel
theorem dX11_compose_92 : decode cX11_compose 92 = .ok (.iconst 3, 1) := by decide +kernel
theorem dX11_compose_93 : decode cX11_compose 93 = .ok (.iaload, 1) := by decide +kernel
theorem dX11_compose_94 : decode cX11_compose 94 = .ok (.invokevirtual 180, 3) := by decide +kernel
theorem dX11_compose_97 : decode cX11_compose 97 = .ok (.putfield 226, 3) := by decide +kernel
theorem dX11_compose_100 : decode cX11_compose 100 = .ok (.aload_n 3, 1) := by decide +kernel
theorem dX11_compose_101 : decode cX11_compose 101 = .ok (.getfield 226, 3) := by decide +kernel
theorem dX11_compose_104 : decode cX11_compose 104 = .ok (.iconst (-1), 1) := by decide +kernel
theorem dX11_compose_105 : decode cX11_compose 105 = .ok (.if_icmp .ne 12, 3) := by decide +kernel
theorem dX11_compose_108 : decode cX11_compose 108 = .ok (.aload_n 0, 1) := by decide +kernel
theorem dX11_compose_109 : decode cX11_compose 109 = .ok (.getfield 19, 3) := by decide +kernel
theorem dX11_compose_112 : decode cX11_compose 112 = .ok (.iload_n 1, 1) := by decide +kernel
theorem dX11_compose_113 : decode cX11_compose 113 = .ok (.iconst 4, 1) := by decide +kernel
theorem dX11_compose_114 : decode cX11_compose 114 = .ok (.invokevirtual 304, 3) := by decide +kernel
theorem dX11_compose_117 : decode cX11_compose 117 = .ok (.aload_n 3, 1) := by decide +kernel
theorem dX11_compose_118 : decode cX11_compose 118 = .ok (.areturn, 1) := by decide +kernel
theorem dX11_pay_0 : decode cX11_pay 0 = .ok (.aload_n 0, 1) := by decide +kernel
theorem dX11_pay_1 : decode cX11_pay 1 = .ok (.iload_n 1, 1) := by decide +kernel
theorem dX11_pay_2 : decode cX11_pay 2 = .ok (.ldc_w 307, 3) := by decide +kernel
theorem dX11_pay_5 : decode cX11_pay 5 = .ok (.aload_n 0, 1) := by decide +kernel
theorem dX11_pay_6 : decode cX11_pay 6 = .ok (.getfield 268, 3) := by decide +kernel
theorem dX11_pay_9 : decode cX11_pay 9 = .ok (.isub, 1) := by decide +kernel
theorem dX11_pay_10 : decode cX11_pay 10 = .ok (.if_icmp .le 9, 3) := by decide +kernel
theorem dX11_pay_13 : decode cX11_pay 13 = .ok (.ldc_w 307, 3) := by decide +kernel
theorem dX11_pay_16 : decode cX11_pay 16 = .ok (.goto 9, 3) := by decide +kernel
theorem dX11_pay_19 : decode cX11_pay 19 = .ok (.aload_n 0, 1) := by decide +kernel
theorem dX11_pay_20 : decode cX11_pay 20 = .ok (.getfield 268, 3) := by decide +kernel
theorem dX11_pay_23 : decode cX11_pay 23 = .ok (.iload_n 1, 1) := by decide +kernel
theorem dX11_pay_24 : decode cX11_pay 24 = .ok (.iadd, 1) := by decide +kernel
theorem dX11_pay_25 : decode cX11_pay 25 = .ok (.putfield 268, 3) := by decide +kernel
theorem dX11_pay_28 : decode cX11_pay 28 = .ok (.return_, 1) := by decide +kernel
theorem dX11_canBeMatched_0 : decode cX11_canBeMatched 0 = .ok (.aload_n 0, 1) := by decide +kernel
theorem dX11_canBeMatched_1 : decode cX11_canBeMatched 1 = .ok (.getfield 33, 3) := by decide +kernel
theorem dX11_canBeMatched_4 : decode cX11_canBeMatched 4 = .ok (.aload_n 0, 1) := by decide +kernel
theorem dX11_canBeMatched_5 : decode cX11_canBeMatched 5 = .ok (.getfield 26, 3) := by decide +kernel
theorem dX11_canBeMatched_8 : decode cX11_canBeMatched 8 = .ok (.getfield 121, 3) := by decide +kernel
theorem dX11_canBeMatched_11 : decode cX11_canBeMatched 11 = .ok (.iload_n 1, 1) := by decide +kernel
theorem dX11_canBeMatched_12 : decode cX11_canBeMatched 12 = .ok (.aaload, 1) := by decide +kernel
theorem dX11_canBeMatched_13 : decode cX11_canBeMatched 13 = .ok (.aload_n 0, 1) := by decide +kernel
theorem dX11_canBeMatched_14 : decode cX11_canBeMatched 14 = .ok (.getfield 26, 3) := by decide +kernel
theorem dX11_canBeMatched_17 : decode cX11_canBeMatched 17 = .ok (.getfield 121, 3) := by decide +kernel
theorem dX11_canBeMatched_20 : decode cX11_canBeMatched 20 = .ok (.iload_n 2, 1) := by decide +kernel
theorem dX11_canBeMatched_21 : decode cX11_canBeMatched 21 = .ok (.aaload, 1) := by decide +kernel
theorem dX11_canBeMatched_22 : decode cX11_canBeMatched 22 = .ok (.invokevirtual 139, 3) := by decide +kernel
theorem dX11_canBeMatched_25 : decode cX11_canBeMatched 25 = .ok (.ldc_w 308, 3) := by decide +kernel
theorem dX11_canBeMatched_28 : decode cX11_canBeMatched 28 = .ok (.fcmp .l, 1) := by decide +kernel
theorem dX11_canBeMatched_29 : decode cX11_canBeMatched 29 = .ok (.ifCond .lt 7, 3) := by decide +kernel
theorem dX11_canBeMatched_32 : decode cX11_canBeMatched 32 = .ok (.iconst 1, 1) := by decide +kernel
theorem dX11_canBeMatched_33 : decode cX11_canBeMatched 33 = .ok (.goto 4, 3) := by decide +kernel
theorem dX11_canBeMatched_36 : decode cX11_canBeMatched 36 = .ok (.iconst 0, 1) := by decide +kernel
theorem dX11_canBeMatched_37 : decode cX11_canBeMatched 37 = .ok (.ireturn, 1) := by decide +kernel
theorem dX11_signOf_0 : decode cX11_signOf 0 = .ok (.lload_n 0, 1) := by decide +kernel
theorem dX11_signOf_1 : decode cX11_signOf 1 = .ok (.bipush 8, 2) := by decide +kernel
theorem dX11_signOf_3 : decode cX11_signOf 3 = .ok (.iload_n 2, 1) := by decide +kernel
theorem dX11_signOf_4 : decode cX11_signOf 4 = .ok (.imul, 1) := by decide +kernel
theorem dX11_signOf_5 : decode cX11_signOf 5 = .ok (.lushr, 1) := by decide +kernel
theorem dX11_signOf_6 : decode cX11_signOf 6 = .ok (.ldc2_w 309, 3) := by decide +kernel
theorem dX11_signOf_9 : decode cX11_signOf 9 = .ok (.land, 1) := by decide +kernel
theorem dX11_signOf_10 : decode cX11_signOf 10 = .ok (.l2i, 1) := by decide +kernel
theorem dX11_signOf_11 : decode cX11_signOf 11 = .ok (.i2c, 1) := by decide +kernel
theorem dX11_signOf_12 : decode cX11_signOf 12 = .ok (.ireturn, 1) := by decide +kernel
theorem dX11_countSigns_0 : decode cX11_countSigns 0 = .ok (.iconst 0, 1) := by decide +kernel
theorem dX11_countSigns_1 : decode cX11_countSigns 1 = .ok (.istore_n 2, 1) := by decide +kernel
theorem dX11_countSigns_2 : decode cX11_countSigns 2 = .ok (.iconst 0, 1) := by decide +kernel
theorem dX11_countSigns_3 : decode cX11_countSigns 3 = .ok (.istore_n 3, 1) := by decide +kernel
theorem dX11_countSigns_4 : decode cX11_countSigns 4 = .ok (.iload_n 3, 1) := by decide +kernel
theorem dX11_countSigns_5 : decode cX11_countSigns 5 = .ok (.bipush 8, 2) := by decide +kernel
theorem dX11_countSigns_7 : decode cX11_countSigns 7 = .ok (.if_icmp .ge 50, 3) := by decide +kernel
theorem dX11_countSigns_10 : decode cX11_countSigns 10 = .ok (.lload_n 0, 1) := by decide +kernel
theorem dX11_countSigns_11 : decode cX11_countSigns 11 = .ok (.iload_n 3, 1) := by decide +kernel
theorem dX11_countSigns_12 : decode cX11_countSigns 12 = .ok (.invokestatic 77, 3) := by decide +kernel
theorem dX11_countSigns_15 : decode cX11_countSigns 15 = .ok (.istore 4, 2) := by decide +kernel
theorem dX11_countSigns_17 : decode cX11_countSigns 17 = .ok (.iload 4, 2) := by decide +kernel
theorem dX11_countSigns_19 : decode cX11_countSigns 19 = .ok (.ifCond .eq 24, 3) := by decide +kernel
theorem dX11_countSigns_22 : decode cX11_countSigns 22 = .ok (.iload 4, 2) := by decide +kernel
theorem dX11_countSigns_24 : decode cX11_countSigns 24 = .ok (.bipush 32, 2) := by decide +kernel
theorem dX11_countSigns_26 : decode cX11_countSigns 26 = .ok (.if_icmp .lt 15, 3) := by decide +kernel
theorem dX11_countSigns_29 : decode cX11_countSigns 29 = .ok (.iload 4, 2) := by decide +kernel
theorem dX11_countSigns_31 : decode cX11_countSigns 31 = .ok (.bipush 126, 2) := by decide +kernel
theorem dX11_countSigns_33 : decode cX11_countSigns 33 = .ok (.if_icmp .gt 8, 3) := by decide +kernel
theorem dX11_countSigns_36 : decode cX11_countSigns 36 = .ok (.iload_n 2, 1) := by decide +kernel
theorem dX11_countSigns_37 : decode cX11_countSigns 37 = .ok (.iload_n 3, 1) := by decide +kernel
theorem dX11_countSigns_38 : decode cX11_countSigns 38 = .ok (.if_icmp .ge 5, 3) := by decide +kernel
theorem dX11_countSigns_41 : decode cX11_countSigns 41 = .ok (.iconst (-1), 1) := by decide +kernel
theorem dX11_countSigns_42 : decode cX11_countSigns 42 = .ok (.ireturn, 1) := by decide +kernel
theorem dX11_countSigns_43 : decode cX11_countSigns 43 = .ok (.iload 4, 2) := by decide +kernel
theorem dX11_countSigns_45 : decode cX11_countSigns 45 = .ok (.ifCond .eq 6, 3) := by decide +kernel
theorem dX11_countSigns_48 : decode cX11_countSigns 48 = .ok (.iinc 2 1, 3) := by decide +kernel
theorem dX11_countSigns_51 : decode cX11_countSigns 51 = .ok (.iinc 3 1, 3) := by decide +kernel
theorem dX11_countSigns_54 : decode cX11_countSigns 54 = .ok (.goto (-50), 3) := by decide +kernel
theorem dX11_countSigns_57 : decode cX11_countSigns 57 = .ok (.iload_n 2, 1) := by decide +kernel
theorem dX11_countSigns_58 : decode cX11_countSigns 58 = .ok (.ireturn, 1) := by decide +kernel
theorem dX11_isDigit_0 : decode cX11_isDigit 0 = .ok (.iload_n 0, 1) := by decide +kernel
theorem dX11_isDigit_1 : decode cX11_isDigit 1 = .ok (.bipush 48, 2) := by decide +kernel
theorem dX11_isDigit_3 : decode cX11_isDigit 3 = .ok (.if_icmp .lt 12, 3) := by decide +kernel
theorem dX11_isDigit_6 : decode cX11_isDigit 6 = .ok (.iload_n 0, 1) := by decide +kernel
theorem dX11_isDigit_7 : decode cX11_isDigit 7 = .ok (.iload_n 1, 1) := by decide +kernel
theorem dX11_isDigit_8 : decode cX11_isDigit 8 = .ok (.if_icmp .gt 7, 3) := by decide +kernel
theorem dX11_isDigit_11 : decode cX11_isDigit 11 = .ok (.iconst 1, 1) := by decide +kernel
theorem dX11_isDigit_12 : decode cX11_isDigit 12 = .ok (.goto 4, 3) := by decide +kernel
theorem dX11_isDigit_15 : decode cX11_isDigit 15 = .ok (.iconst 0, 1) := by decide +kernel
theorem dX11_isDigit_16 : decode cX11_isDigit 16 = .ok (.ireturn, 1) := by decide +kernel
theorem dX11_bitsOf_0 : decode cX11_bitsOf 0 = .ok (.fload_n 0, 1) := by decide +kernel
theorem dX11_bitsOf_1 : decode cX11_bitsOf 1 = .ok (.fconst 0, 1) := by decide +kernel
theorem dX11_bitsOf_2 : decode cX11_bitsOf 2 = .ok (.fcmp .l, 1) := by decide +kernel
theorem dX11_bitsOf_3 : decode cX11_bitsOf 3 = .ok (.ifCond .gt 5, 3) := by decide +kernel
theorem dX11_bitsOf_6 : decode cX11_bitsOf 6 = .ok (.iconst 0, 1) := by decide +kernel
theorem dX11_bitsOf_7 : decode cX11_bitsOf 7 = .ok (.ireturn, 1) := by decide +kernel
theorem dX11_bitsOf_8 : decode cX11_bitsOf 8 = .ok (.fload_n 0, 1) := by decide +kernel
theorem dX11_bitsOf_9 : decode cX11_bitsOf 9 = .ok (.fstore_n 1, 1) := by decide +kernel
theorem dX11_bitsOf_10 : decode cX11_bitsOf 10 = .ok (.bipush 127, 2) := by decide +kernel
theorem dX11_bitsOf_12 : decode cX11_bitsOf 12 = .ok (.istore_n 2, 1) := by decide +kernel
theorem dX11_bitsOf_13 : decode cX11_bitsOf 13 = .ok (.fload_n 1, 1) := by decide +kernel
theorem dX11_bitsOf_14 : decode cX11_bitsOf 14 = .ok (.fconst 1, 1) := by decide +kernel
theorem dX11_bitsOf_15 : decode cX11_bitsOf 15 = .ok (.fcmp .g, 1) := by decide +kernel
theorem dX11_bitsOf_16 : decode cX11_bitsOf 16 = .ok (.ifCond .ge 18, 3) := by decide +kernel
theorem dX11_bitsOf_19 : decode cX11_bitsOf 19 = .ok (.iload_n 2, 1) := by decide +kernel
theorem dX11_bitsOf_20 : decode cX11_bitsOf 20 = .ok (.iconst 1, 1) := by decide +kernel
theorem dX11_bitsOf_21 : decode cX11_bitsOf 21 = .ok (.if_icmp .le 13, 3) := by decide +kernel
theorem dX11_bitsOf_24 : decode cX11_bitsOf 24 = .ok (.fload_n 1, 1) := by decide +kernel
theorem dX11_bitsOf_25 : decode cX11_bitsOf 25 = .ok (.fconst 2, 1) := by decide +kernel
theorem dX11_bitsOf_26 : decode cX11_bitsOf 26 = .ok (.fmul, 1) := by decide +kernel
theorem dX11_bitsOf_27 : decode cX11_bitsOf 27 = .ok (.fstore_n 1, 1) := by decide +kernel
theorem dX11_bitsOf_28 : decode cX11_bitsOf 28 = .ok (.iinc 2 (-1), 3) := by decide +kernel
theorem dX11_bitsOf_31 : decode cX11_bitsOf 31 = .ok (.goto (-18), 3) := by decide +kernel
theorem dX11_bitsOf_34 : decode cX11_bitsOf 34 = .ok (.iload_n 2, 1) := by decide +kernel
theorem dX11_bitsOf_35 : decode cX11_bitsOf 35 = .ok (.bipush 23, 2) := by decide +kernel
theorem dX11_bitsOf_37 : decode cX11_bitsOf 37 = .ok (.ishl, 1) := by decide +kernel
theorem dX11_bitsOf_38 : decode cX11_bitsOf 38 = .ok (.fload_n 1, 1) := by decide +kernel
theorem dX11_bitsOf_39 : decode cX11_bitsOf 39 = .ok (.fconst 1, 1) := by decide +kernel
theorem dX11_bitsOf_40 : decode cX11_bitsOf 40 = .ok (.fsub, 1) := by decide +kernel
theorem dX11_bitsOf_41 : decode cX11_bitsOf 41 = .ok (.ldc_w 311, 3) := by decide +kernel
theorem dX11_bitsOf_44 : decode cX11_bitsOf 44 = .ok (.fmul, 1) := by decide +kernel
theorem dX11_bitsOf_45 : decode cX11_bitsOf 45 = .ok (.f2i, 1) := by decide +kernel
theorem dX11_bitsOf_46 : decode cX11_bitsOf 46 = .ok (.iadd, 1) := by decide +kernel
theorem dX11_bitsOf_47 : decode cX11_bitsOf 47 = .ok (.ireturn, 1) := by decide +kernel
theorem dX12_init_0 : decode cX12_init 0 = .ok (.aload_n 0, 1) := by decide +kernel
theorem dX12_init_1 : decode cX12_init 1 = .ok (.invokespecial 1, 3) := by decide +kernel
theorem dX12_init_4 : decode cX12_init 4 = .ok (.aload_n 0, 1) := by decide +kernel
theorem dX12_init_5 : decode cX12_init 5 = .ok (.bipush 96, 2) := by decide +kernel
theorem dX12_init_7 : decode cX12_init 7 = .ok (.newarray .int, 2) := by decide +kernel
theorem dX12_init_9 : decode cX12_init 9 = .ok (.putfield 7, 3) := by decide +kernel
theorem dX12_init_12 : decode cX12_init 12 = .ok (.aload_n 0, 1) := by decide +kernel
theorem dX12_init_13 : decode cX12_init 13 = .ok (.sipush 768, 3) := by decide +kernel
theorem dX12_init_16 : decode cX12_init 16 = .ok (.newarray .int, 2) := by decide +kernel
theorem dX12_init_18 : decode cX12_init 18 = .ok (.putfield 13, 3) := by decide +kernel
theorem dX12_init_21 : decode cX12_init 21 = .ok (.aload_n 0, 1) := by decide +kernel
theorem dX12_init_22 : decode cX12_init 22 = .ok (.bipush 8, 2) := by decide +kernel
theorem dX12_init_24 : decode cX12_init 24 = .ok (.newarray .int, 2) := by decide +kernel
theorem dX12_init_26 : decode cX12_init 26 = .ok (.dup, 1) := by decide +kernel
theorem dX12_init_27 : decode cX12_init 27 = .ok (.iconst 0, 1) := by decide +kernel
theorem dX12_init_28 : decode cX12_init 28 = .ok (.iconst (-1), 1) := by decide +kernel
theorem dX12_init_29 : decode cX12_init 29 = .ok (.iastore, 1) := by decide +kernel
theorem dX12_init_30 : decode cX12_init 30 = .ok (.dup, 1) := by decide +kernel
theorem dX12_init_31 : decode cX12_init 31 = .ok (.iconst 1, 1) := by decide +kernel
theorem dX12_init_32 : decode cX12_init 32 = .ok (.iconst (-1), 1) := by decide +kernel
theorem dX12_init_33 : decode cX12_init 33 = .ok (.iastore, 1) := by decide +kernel
theorem dX12_init_34 : decode cX12_init 34 = .ok (.dup, 1) := by decide +kernel
theorem dX12_init_35 : decode cX12_init 35 = .ok (.iconst 2, 1) := by decide +kernel
theorem dX12_init_36 : decode cX12_init 36 = .ok (.iconst (-1), 1) := by decide +kernel
theorem dX12_init_37 : decode cX12_init 37 = .ok (.iastore, 1) := by decide +kernel
theorem dX12_init_38 : decode cX12_init 38 = .ok (.dup, 1) := by decide +kernel
theorem dX12_init_39 : decode cX12_init 39 = .ok (.iconst 3, 1) := by decide +kernel
theorem dX12_init_40 : decode cX12_init 40 = .ok (.iconst (-1), 1) := by decide +kernel
theorem dX12_init_41 : decode cX12_init 41 = .ok (.iastore, 1) := by decide +kernel
theorem dX12_init_42 : decode cX12_init 42 = .ok (.dup, 1) := by decide +kernel
theorem dX12_init_43 : decode cX12_init 43 = .ok (.iconst 4, 1) := by decide +kernel
theorem dX12_init_44 : decode cX12_init 44 = .ok (.iconst (-1), 1) := by decide +kernel
theorem dX12_init_45 : decode cX12_init 45 = .ok (.iastore, 1) := by decide +kernel
theorem dX12_init_46 : decode cX12_init 46 = .ok (.dup, 1) := by decide +kernel
theorem dX12_init_47 : decode cX12_init 47 = .ok (.iconst 5, 1) := by decide +kernel
theorem dX12_init_48 : decode cX12_init 48 = .ok (.iconst (-1), 1) := by decide +kernel
theorem dX12_init_49 : decode cX12_init 49 = .ok (.iastore, 1) := by decide +kernel
theorem dX12_init_50 : decode cX12_init 50 = .ok (.dup, 1) := by decide +kernel
theorem dX12_init_51 : decode cX12_init 51 = .ok (.bipush 6, 2) := by decide +kernel
theorem dX12_init_53 : decode cX12_init 53 = .ok (.iconst (-1), 1) := by decide +kernel
theorem dX12_init_54 : decode cX12_init 54 = .ok (.iastore, 1) := by decide +kernel
theorem dX12_init_55 : decode cX12_init 55 = .ok (.dup, 1) := by decide +kernel
theorem dX12_init_56 : decode cX12_init 56 = .ok (.bipush 7, 2) := by decide +kernel
theorem dX12_init_58 : decode cX12_init 58 = .ok (.iconst (-1), 1) := by decide +kernel
theorem dX12_init_59 : decode cX12_init 59 = .ok (.iastore, 1) := by decide +kernel
theorem dX12_init_60 : decode cX12_init 60 = .ok (.putfield 16, 3) := by decide +kernel
theorem dX12_init_63 : decode cX12_init 63 = .ok (.aload_n 0, 1) := by decide +kernel
theorem dX12_init_64 : decode cX12_init 64 = .ok (.sipush 144, 3) := by decide +kernel
theorem dX12_init_67 : decode cX12_init 67 = .ok (.newarray .int, 2) := by decide +kernel
theorem dX12_init_69 : decode cX12_init 69 = .ok (.putfield 19, 3) := by decide +kernel
theorem dX12_init_72 : decode cX12_init 72 = .ok (.aload_n 0, 1) := by decide +kernel
theorem dX12_init_73 : decode cX12_init 73 = .ok (.bipush 12, 2) := by decide +kernel
theorem dX12_init_75 : decode cX12_init 75 = .ok (.newarray .int, 2) := by decide +kernel
theorem dX12_init_77 : decode cX12_init 77 = .ok (.putfield 22, 3) := by decide +kernel
theorem dX12_init_80 : decode cX12_init 80 = .ok (.aload_n 0, 1) := by decide +kernel
theorem dX12_init_81 : decode cX12_init 81 = .ok (.sipush 144, 3) := by decide +kernel
theorem dX12_init_84 : decode cX12_init 84 = .ok (.newarray .int, 2) := by decide +kernel
theorem dX12_init_86 : decode cX12_init 86 = .ok (.putfield 25, 3) := by decide +kernel
theorem dX12_init_89 : decode cX12_init 89 = .ok (.aload_n 0, 1) := by decide +kernel
theorem dX12_init_90 : decode cX12_init 90 = .ok (.bipush 12, 2) := by decide +kernel
theorem dX12_init_92 : decode cX12_init 92 = .ok (.newarray .int, 2) := by decide +kernel
theorem dX12_init_94 : decode cX12_init 94 = .ok (.putfield 28, 3) := by decide +kernel
theorem dX12_init_97 : decode cX12_init 97 = .ok (.aload_n 0, 1) := by decide +kernel
theorem dX12_init_98 : decode cX12_init 98 = .ok (.sipush 144, 3) := by decide +kernel
theorem dX12_init_101 : decode cX12_init 101 = .ok (.newarray .int, 2) := by decide +kernel
theorem dX12_init_103 : decode cX12_init 103 = .ok (.putfield 31, 3) := by decide +kernel
theorem dX12_init_106 : decode cX12_init 106 = .ok (.aload_n 0, 1) := by decide +kernel
theorem dX12_init_107 : decode cX12_init 107 = .ok (.bipush 12, 2) := by decide +kernel
theorem dX12_init_109 : decode cX12_init 109 = .ok (.newarray .int, 2) := by decide +kernel
theorem dX12_init_111 : decode cX12_init 111 = .ok (.putfield 34, 3) := by decide +kernel
theorem dX12_init_114 : decode cX12_init 114 = .ok (.aload_n 0, 1) := by decide +kernel
theorem dX12_init_115 : decode cX12_init 115 = .ok (.sipush 144, 3) := by decide +kernel
theorem dX12_init_118 : decode cX12_init 118 = .ok (.newarray .int, 2) := by decide +kernel
theorem dX12_init_120 : decode cX12_init 120 = .ok (.putfield 37, 3) := by decide +kernel
theorem dX12_init_123 : decode cX12_init 123 = .ok (.aload_n 0, 1) := by decide +kernel
theorem dX12_init_124 : decode cX12_init 124 = .ok (.bipush 12, 2) := by decide +kernel
theorem dX12_init_126 : decode cX12_init 126 = .ok (.newarray .int, 2) := by decide +kernel
theorem dX12_init_128 : decode cX12_init 128 = .ok (.putfield 40, 3) := by decide +kernel
theorem dX12_init_131 : decode cX12_init 131 = .ok (.aload_n 0, 1) := by decide +kernel
theorem dX12_init_132 : decode cX12_init 132 = .ok (.bipush 12, 2) := by decide +kernel
theorem dX12_init_134 : decode cX12_init 134 = .ok (.newarray .int, 2) := by decide +kernel
theorem dX12_init_136 : decode cX12_init 136 = .ok (.putfield 43, 3) := by decide +kernel
theorem dX12_init_139 : decode cX12_init 139 = .ok (.aload_n 0, 1) := by decide +kernel
theorem dX12_init_140 : decode cX12_init 140 = .ok (.bipush 12, 2) := by decide +kernel
theorem dX12_init_142 : decode cX12_init 142 = .ok (.newarray .int, 2) := by decide +kernel
theorem dX12_init_144 : decode cX12_init 144 = .ok (.putfield 46, 3) := by decide +kernel
theorem dX12_init_147 : decode cX12_init 147 = .ok (.aload_n 0, 1) := by decide +kernel
theorem dX12_init_148 : decode cX12_init 148 = .ok (.bipush 12, 2) := by decide +kernel
theorem dX12_init_150 : decode cX12_init 150 = .ok (.newarray .int, 2) := by decide +kernel
theorem dX12_init_152 : decode cX12_init 152 = .ok (.putfield 49, 3) := by decide +kernel
theorem dX12_init_155 : decode cX12_init 155 = .ok (.aload_n 0, 1) := by decide +kernel
theorem dX12_init_156 : decode cX12_init 156 = .ok (.sipush 144, 3) := by decide +kernel
theorem dX12_init_159 : decode cX12_init 159 = .ok (.newarray .boolean, 2) := by decide +kernel
theorem dX12_init_161 : decode cX12_init 161 = .ok (.putfield 52, 3) := by decide +kernel
theorem dX12_init_164 : decode cX12_init 164 = .ok (.aload_n 0, 1) := by decide +kernel
theorem dX12_init_165 : decode cX12_init 165 = .ok (.bipush 12, 2) := by decide +kernel
theorem dX12_init_167 : decode cX12_init 167 = .ok (.newarray .int, 2) := by decide +kernel
theorem dX12_init_169 : decode cX12_init 169 = .ok (.putfield 56, 3) := by decide +kernel
theorem dX12_init_172 : decode cX12_init 172 = .ok (.aload_n 0, 1) := by decide +kernel
theorem dX12_init_173 : decode cX12_init 173 = .ok (.bipush 10, 2) := by decide +kernel
theorem dX12_init_175 : decode cX12_init 175 = .ok (.putfield 59, 3) := by decide +kernel
theorem dX12_init_178 : decode cX12_init 178 = .ok (.aload_n 0, 1) := by decide +kernel
theorem dX12_init_179 : decode cX12_init 179 = .ok (.iconst 5, 1) := by decide +kernel
theorem dX12_init_180 : decode cX12_init 180 = .ok (.putfield 63, 3) := by decide +kernel
theorem dX12_init_183 : decode cX12_init 183 = .ok (.aload_n 0, 1) := by decide +kernel
theorem dX12_init_184 : decode cX12_init 184 = .ok (.bipush 8, 2) := by decide +kernel
theorem dX12_init_186 : decode cX12_init 186 = .ok (.newarray .int, 2) := by decide +kernel
theorem dX12_init_188 : decode cX12_init 188 = .ok (.putfield 66, 3) := by decide +kernel
theorem dX12_init_191 : decode cX12_init 191 = .ok (.aload_n 0, 1) := by decide +kernel
theorem dX12_init_192 : decode cX12_init 192 = .ok (.bipush 8, 2) := by decide +kernel
theorem dX12_init_194 : decode cX12_init 194 = .ok (.newarray .int, 2) := by decide +kernel
theorem dX12_init_196 : decode cX12_init 196 = .ok (.putfield 69, 3) := by decide +kernel
theorem dX12_init_199 : decode cX12_init 199 = .ok (.aload_n 0, 1) := by decide +kernel
theorem dX12_init_200 : decode cX12_init 200 = .ok (.bipush 8, 2) := by decide +kernel
theorem dX12_init_202 : decode cX12_init 202 = .ok (.newarray .boolean, 2) := by decide +kernel
theorem dX12_init_204 : decode cX12_init 204 = .ok (.putfield 72, 3) := by decide +kernel
theorem dX12_init_207 : decode cX12_init 207 = .ok (.aload_n 0, 1) := by decide +kernel
theorem dX12_init_208 : decode cX12_init 208 = .ok (.bipush 8, 2) := by decide +kernel
theorem dX12_init_210 : decode cX12_init 210 = .ok (.newarray .int, 2) := by decide +kernel
theorem dX12_init_212 : decode cX12_init 212 = .ok (.putfield 75, 3) := by decide +kernel
theorem dX12_init_215 : decode cX12_init 215 = .ok (.aload_n 0, 1) := by decide +kernel
theorem dX12_init_216 : decode cX12_init 216 = .ok (.bipush 96, 2) := by decide +kernel
theorem dX12_init_218 : decode cX12_init 218 = .ok (.newarray .int, 2) := by decide +kernel
theorem dX12_init_220 : decode cX12_init 220 = .ok (.putfield 78, 3) := by decide +kernel
theorem dX12_init_223 : decode cX12_init 223 = .ok (.aload_n 0, 1) := by decide +kernel
theorem dX12_init_224 : decode cX12_init 224 = .ok (.bipush 96, 2) := by decide +kernel
theorem dX12_init_226 : decode cX12_init 226 = .ok (.newarray .int, 2) := by decide +kernel
theorem dX12_init_228 : decode cX12_init 228 = .ok (.putfield 81, 3) := by decide +kernel
theorem dX12_init_231 : decode cX12_init 231 = .ok (.aload_n 0, 1) := by decide +kernel
theorem dX12_init_232 : decode cX12_init 232 = .ok (.bipush 96, 2) := by decide +kernel
theorem dX12_init_234 : decode cX12_init 234 = .ok (.newarray .int, 2) := by decide +kernel
theorem dX12_init_236 : decode cX12_init 236 = .ok (.putfield 84, 3) := by decide +kernel
theorem dX12_init_239 : decode cX12_init 239 = .ok (.aload_n 0, 1) := by decide +kernel
theorem dX12_init_240 : decode cX12_init 240 = .ok (.sipush 15360, 3) := by decide +kernel
theorem dX12_init_243 : decode cX12_init 243 = .ok (.newarray .int, 2) := by decide +kernel
theorem dX12_init_245 : decode cX12_init 245 = .ok (.putfield 87, 3) := by decide +kernel
theorem dX12_init_248 : decode cX12_init 248 = .ok (.aload_n 0, 1) := by decide +kernel
theorem dX12_init_249 : decode cX12_init 249 = .ok (.sipush 160, 3) := by decide +kernel
theorem dX12_init_252 : decode cX12_init 252 = .ok (.newarray .int, 2) := by decide +kernel
theorem dX12_init_254 : decode cX12_init 254 = .ok (.putfield 90, 3) := by decide +kernel
theorem dX12_init_257 : decode cX12_init 257 = .ok (.aload_n 0, 1) := by decide +kernel
theorem dX12_init_258 : decode cX12_init 258 = .ok (.iconst 5, 1) := by decide +kernel
theorem dX12_init_259 : decode cX12_init 259 = .ok (.newarray .int, 2) := by decide +kernel
theorem dX12_init_261 : decode cX12_init 261 = .ok (.putfield 93, 3) := by decide +kernel
theorem dX12_init_264 : decode cX12_init 264 = .ok (.aload_n 0, 1) := by decide +kernel
theorem dX12_init_265 : decode cX12_init 265 = .ok (.iconst 5, 1) := by decide +kernel
theorem dX12_init_266 : decode cX12_init 266 = .ok (.newarray .int, 2) := by decide +kernel
theorem dX12_init_268 : decode cX12_init 268 = .ok (.putfield 96, 3) := by decide +kernel
theorem dX12_init_271 : decode cX12_init 271 = .ok (.aload_n 0, 1) := by decide +kernel
theorem dX12_init_272 : decode cX12_init 272 = .ok (.iconst 5, 1) := by decide +kernel
theorem dX12_init_273 : decode cX12_init 273 = .ok (.newarray .int, 2) := by decide +kernel
theorem dX12_init_275 : decode cX12_init 275 = .ok (.putfield 99, 3) := by decide +kernel
theorem dX12_init_278 : decode cX12_init 278 = .ok (.aload_n 0, 1) := by decide +kernel
theorem dX12_init_279 : decode cX12_init 279 = .ok (.iconst 5, 1) := by decide +kernel
theorem dX12_init_280 : decode cX12_init 280 = .ok (.newarray .int, 2) := by decide +kernel
theorem dX12_init_282 : decode cX12_init 282 = .ok (.putfield 102, 3) := by decide +kernel
theorem dX12_init_285 : decode cX12_init 285 = .ok (.aload_n 0, 1) := by decide +kernel
theorem dX12_init_286 : decode cX12_init 286 = .ok (.iconst 5, 1) := by decide +kernel
theorem dX12_init_287 : decode cX12_init 287 = .ok (.newarray .int, 2) := by decide +kernel
theorem dX12_init_289 : decode cX12_init 289 = .ok (.putfield 105, 3) := by decide +kernel
theorem dX12_init_292 : decode cX12_init 292 = .ok (.aload_n 0, 1) := by decide +kernel
theorem dX12_init_293 : decode cX12_init 293 = .ok (.iconst 5, 1) := by decide +kernel
theorem dX12_init_294 : decode cX12_init 294 = .ok (.newarray .int, 2) := by decide +kernel
theorem dX12_init_296 : decode cX12_init 296 = .ok (.putfield 108, 3) := by decide +kernel
theorem dX12_init_299 : decode cX12_init 299 = .ok (.aload_n 0, 1) := by decide +kernel
theorem dX12_init_300 : decode cX12_init 300 = .ok (.sipush 200, 3) := by decide +kernel
theorem dX12_init_303 : decode cX12_init 303 = .ok (.newarray .int, 2) := by decide +kernel
theorem dX12_init_305 : decode cX12_init 305 = .ok (.putfield 111, 3) := by decide +kernel
theorem dX12_init_308 : decode cX12_init 308 = .ok (.aload_n 0, 1) := by decide +kernel
theorem dX12_init_309 : decode cX12_init 309 = .ok (.bipush 13, 2) := by decide +kernel
theorem dX12_init_311 : decode cX12_init 311 = .ok (.newarray .int, 2) := by decide +kernel
theorem dX12_init_313 : decode cX12_init 313 = .ok (.putfield 114, 3) := by decide +kernel
theorem dX12_init_316 : decode cX12_init 316 = .ok (.aload_n 0, 1) := by decide +kernel
theorem dX12_init_317 : decode cX12_init 317 = .ok (.sipush 160, 3) := by decide +kernel
theorem dX12_init_320 : decode cX12_init 320 = .ok (.newarray .int, 2) := by decide +kernel
theorem dX12_init_322 : decode cX12_init 322 = .ok (.putfield 117, 3) := by decide +kernel
theorem dX12_init_325 : decode cX12_init 325 = .ok (.return_, 1) := by decide +kernel
theorem dX12_thrown_0 : decode cX12_thrown 0 = .ok (.aload_n 0, 1) := by decide +kernel
theorem dX12_thrown_1 : decode cX12_thrown 1 = .ok (.getfield 120, 3) := by decide +kernel
theorem dX12_thrown_4 : decode cX12_thrown 4 = .ok (.ireturn, 1) := by decide +kernel
theorem dX12_fails_0 : decode cX12_fails 0 = .ok (.aload_n 0, 1) := by decide +kernel
theorem dX12_fails_1 : decode cX12_fails 1 = .ok (.iload_n 1, 1) := by decide +kernel
theorem dX12_fails_2 : decode cX12_fails 2 = .ok (.putfield 120, 3) := by decide +kernel
theorem dX12_fails_5 : decode cX12_fails 5 = .ok (.iload_n 1, 1) := by decide +kernel
theorem dX12_fails_6 : decode cX12_fails 6 = .ok (.ifCond .le 7, 3) := by decide +kernel
theorem dX12_fails_9 : decode cX12_fails 9 = .ok (.iconst 1, 1) := by decide +kernel
theorem dX12_fails_10 : decode cX12_fails 10 = .ok (.goto 4, 3) := by decide +kernel
theorem dX12_fails_13 : decode cX12_fails 13 = .ok (.iconst 0, 1) := by decide +kernel
theorem dX12_fails_14 : decode cX12_fails 14 = .ok (.ireturn, 1) := by decide +kernel
theorem dX12_type_0 : decode cX12_type 0 = .ok (.iconst 0, 1) := by decide +kernel
theorem dX12_type_1 : decode cX12_type 1 = .ok (.istore_n 3, 1) := by decide +kernel
theorem dX12_type_2 : decode cX12_type 2 = .ok (.iconst 0, 1) := by decide +kernel
theorem dX12_type_3 : decode cX12_type 3 = .ok (.istore 4, 2) := by decide +kernel
theorem dX12_type_5 : decode cX12_type 5 = .ok (.iconst 1, 1) := by decide +kernel
theorem dX12_type_6 : decode cX12_type 6 = .ok (.istore 5, 2) := by decide +kernel
theorem dX12_type_8 : decode cX12_type 8 = .ok (.iconst 0, 1) := by decide +kernel
theorem dX12_type_9 : decode cX12_type 9 = .ok (.istore 6, 2) := by decide +kernel
theorem dX12_type_11 : decode cX12_type 11 = .ok (.iload 6, 2) := by decide +kernel
theorem dX12_type_13 : decode cX12_type 13 = .ok (.bipush 8, 2) := by decide +kernel
theorem dX12_type_15 : decode cX12_type 15 = .ok (.if_icmp .ge 89, 3) := by decide +kernel
theorem dX12_type_18 : decode cX12_type 18 = .ok (.lload_n 1, 1) := by decide +kernel
theorem dX12_type_19 : decode cX12_type 19 = .ok (.bipush 8, 2) := by decide +kernel
theorem dX12_type_21 : decode cX12_type 21 = .ok (.iload 6, 2) := by decide +kernel
theorem dX12_type_23 : decode cX12_type 23 = .ok (.imul, 1) := by decide +kernel
theorem dX12_type_24 : decode cX12_type 24 = .ok (.lushr, 1) := by decide +kernel
theorem dX12_type_25 : decode cX12_type 25 = .ok (.ldc2_w 123, 3) := by decide +kernel
theorem dX12_type_28 : decode cX12_type 28 = .ok (.land, 1) := by decide +kernel
theorem dX12_type_29 : decode cX12_type 29 = .ok (.l2i, 1) := by decide +kernel
theorem dX12_type_30 : decode cX12_type 30 = .ok (.istore 7, 2) := by decide +kernel
theorem dX12_type_32 : decode cX12_type 32 = .ok (.iload 4, 2) := by decide +kernel
theorem dX12_type_34 : decode cX12_type 34 = .ok (.ifCond .ne 8, 3) := by decide +kernel
theorem dX12_type_37 : decode cX12_type 37 = .ok (.iload 7, 2) := by decide +kernel
theorem dX12_type_39 : decode cX12_type 39 = .ok (.ifCond .ne 7, 3) := by decide +kernel
theorem dX12_type_42 : decode cX12_type 42 = .ok (.iconst 1, 1) := by decide +kernel
theorem dX12_type_43 : decode cX12_type 43 = .ok (.goto 4, 3) := by decide +kernel
theorem dX12_type_46 : decode cX12_type 46 = .ok (.iconst 0, 1) := by decide +kernel
theorem dX12_type_47 : decode cX12_type 47 = .ok (.istore 4, 2) := by decide +kernel
theorem dX12_type_49 : decode cX12_type 49 = .ok (.iload 5, 2) := by decide +kernel
theorem dX12_type_51 : decode cX12_type 51 = .ok (.ifCond .eq 31, 3) := by decide +kernel
theorem dX12_type_54 : decode cX12_type 54 = .ok (.iload 7, 2) := by decide +kernel
theorem dX12_type_56 : decode cX12_type 56 = .ok (.ifCond .eq 22, 3) := by decide +kernel
theorem dX12_type_59 : decode cX12_type 59 = .ok (.iload 4, 2) := by decide +kernel
theorem dX12_type_61 : decode cX12_type 61 = .ok (.ifCond .ne 21, 3) := by decide +kernel
theorem dX12_type_64 : decode cX12_type 64 = .ok (.iload 7, 2) := by decide +kernel
theorem dX12_type_66 : decode cX12_type 66 = .ok (.bipush 32, 2) := by decide +kernel
theorem dX12_type_68 : decode cX12_type 68 = .ok (.if_icmp .lt 14, 3) := by decide +kernel
theorem dX12_type_71 : decode cX12_type 71 = .ok (.iload 7, 2) := by decide +kernel
theorem dX12_type_73 : decode cX12_type 73 = .ok (.bipush 126, 2) := by decide +kernel
theorem dX12_type_75 : decode cX12_type 75 = .ok (.if_icmp .gt 7, 3) := by decide +kernel
theorem dX12_type_78 : decode cX12_type 78 = .ok (.iconst 1, 1) := by decide +kernel
theorem dX12_type_79 : decode cX12_type 79 = .ok (.goto 4, 3) := by decide +kernel
theorem dX12_type_82 : decode cX12_type 82 = .ok (.iconst 0, 1) := by decide +kernel
theorem dX12_type_83 : decode cX12_type 83 = .ok (.istore 5, 2) := by decide +kernel
theorem dX12_type_85 : decode cX12_type 85 = .ok (.iload_n 3, 1) := by decide +kernel
theorem dX12_type_86 : decode cX12_type 86 = .ok (.iload 7, 2) := by decide +kernel
theorem dX12_type_88 : decode cX12_type 88 = .ok (.ifCond .ne 7, 3) := by decide +kernel
theorem dX12_type_91 : decode cX12_type 91 = .ok (.iconst 0, 1) := by decide +kernel
theorem dX12_type_92 : decode cX12_type 92 = .ok (.goto 4, 3) := by decide +kernel
theorem dX12_type_95 : decode cX12_type 95 = .ok (.iconst 1, 1) := by decide +kernel
theorem dX12_type_96 : decode cX12_type 96 = .ok (.iadd, 1) := by decide +kernel
theorem dX12_type_97 : decode cX12_type 97 = .ok (.istore_n 3, 1) := by decide +kernel
theorem dX12_type_98 : decode cX12_type 98 = .ok (.iinc 6 1, 3) := by decide +kernel
theorem dX12_type_101 : decode cX12_type 101 = .ok (.goto (-90), 3) := by decide +kernel
theorem dX12_type_104 : decode cX12_type 104 = .ok (.aload_n 0, 1) := by decide +kernel
theorem dX12_type_105 : decode cX12_type 105 = .ok (.iload 5, 2) := by decide +kernel
theorem dX12_type_107 : decode cX12_type 107 = .ok (.ifCond .ne 7, 3) := by decide +kernel
theorem dX12_type_110 : decode cX12_type 110 = .ok (.iconst 1, 1) := by decide +kernel
theorem dX12_type_111 : decode cX12_type 111 = .ok (.goto 19, 3) := by decide +kernel
theorem dX12_type_114 : decode cX12_type 114 = .ok (.aload_n 0, 1) := by decide +kernel
theorem dX12_type_115 : decode cX12_type 115 = .ok (.getfield 125, 3) := by decide +kernel
theorem dX12_type_118 : decode cX12_type 118 = .ok (.iload_n 3, 1) := by decide +kernel
theorem dX12_type_119 : decode cX12_type 119 = .ok (.iadd, 1) := by decide +kernel
theorem dX12_type_120 : decode cX12_type 120 = .ok (.bipush 96, 2) := by decide +kernel
theorem dX12_type_122 : decode cX12_type 122 = .ok (.if_icmp .le 7, 3) := by decide +kernel
theorem dX12_type_125 : decode cX12_type 125 = .ok (.iconst 2, 1) := by decide +kernel
theorem dX12_type_126 : decode cX12_type 126 = .ok (.goto 4, 3) := by decide +kernel
theorem dX12_type_129 : decode cX12_type 129 = .ok (.iconst 0, 1) := by decide +kernel
theorem dX12_type_130 : decode cX12_type 130 = .ok (.invokevirtual 128, 3) := by decide +kernel
theorem dX12_type_133 : decode cX12_type 133 = .ok (.ifCond .eq 5, 3) := by decide +kernel
theorem dX12_type_136 : decode cX12_type 136 = .ok (.iconst 0, 1) := by decide +kernel
theorem dX12_type_137 : decode cX12_type 137 = .ok (.ireturn, 1) := by decide +kernel
theorem dX12_type_138 : decode cX12_type 138 = .ok (.iconst 0, 1) := by decide +kernel
theorem dX12_type_139 : decode cX12_type 139 = .ok (.istore 6, 2) := by decide +kernel
theorem dX12_type_141 : decode cX12_type 141 = .ok (.iload 6, 2) := by decide +kernel
theorem dX12_type_143 : decode cX12_type 143 = .ok (.iload_n 3, 1) := by decide +kernel
theorem dX12_type_144 : decode cX12_type 144 = .ok (.if_icmp .ge 40, 3) := by decide +kernel
theorem dX12_type_147 : decode cX12_type 147 = .ok (.aload_n 0, 1) := by decide +kernel
theorem dX12_type_148 : decode cX12_type 148 = .ok (.getfield 7, 3) := by decide +kernel
theorem dX12_type_151 : decode cX12_type 151 = .ok (.aload_n 0, 1) := by decide +kernel
theorem dX12_type_152 : decode cX12_type 152 = .ok (.getfield 125, 3) := by decide +kernel
theorem dX12_type_155 : decode cX12_type 155 = .ok (.lload_n 1, 1) := by decide +kernel
theorem dX12_type_156 : decode cX12_type 156 = .ok (.bipush 8, 2) := by decide +kernel
theorem dX12_type_158 : decode cX12_type 158 = .ok (.iload 6, 2) := by decide +kernel
theorem dX12_type_160 : decode cX12_type 160 = .ok (.imul, 1) := by decide +kernel
theorem dX12_type_161 : decode cX12_type 161 = .ok (.lushr, 1) := by decide +kernel
theorem dX12_type_162 : decode cX12_type 162 = .ok (.ldc2_w 123, 3) := by decide +kernel
theorem dX12_type_165 : decode cX12_type 165 = .ok (.land, 1) := by decide +kernel
theorem dX12_type_166 : decode cX12_type 166 = .ok (.l2i, 1) := by decide +kernel
theorem dX12_type_167 : decode cX12_type 167 = .ok (.iastore, 1) := by decide +kernel
theorem dX12_type_168 : decode cX12_type 168 = .ok (.aload_n 0, 1) := by decide +kernel
theorem dX12_type_169 : decode cX12_type 169 = .ok (.dup, 1) := by decide +kernel
theorem dX12_type_170 : decode cX12_type 170 = .ok (.getfield 125, 3) := by decide +kernel
theorem dX12_type_173 : decode cX12_type 173 = .ok (.iconst 1, 1) := by decide +kernel
theorem dX12_type_174 : decode cX12_type 174 = .ok (.iadd, 1) := by decide +kernel
theorem dX12_type_175 : decode cX12_type 175 = .ok (.putfield 125, 3) := by decide +kernel
theorem dX12_type_178 : decode cX12_type 178 = .ok (.iinc 6 1, 3) := by decide +kernel
theorem dX12_type_181 : decode cX12_type 181 = .ok (.goto (-40), 3) := by decide +kernel
theorem dX12_type_184 : decode cX12_type 184 = .ok (.aload_n 0, 1) := by decide +kernel
theorem dX12_type_185 : decode cX12_type 185 = .ok (.getfield 125, 3) := by decide +kernel
theorem dX12_type_188 : decode cX12_type 188 = .ok (.ireturn, 1) := by decide +kernel
theorem dX12_signAt_0 : decode cX12_signAt 0 = .ok (.iload_n 1, 1) := by decide +kernel
theorem dX12_signAt_1 : decode cX12_signAt 1 = .ok (.aload_n 0, 1) := by decide +kernel
theorem dX12_signAt_2 : decode cX12_signAt 2 = .ok (.getfield 125, 3) := by decide +kernel
theorem dX12_signAt_5 : decode cX12_signAt 5 = .ok (.if_icmp .ge 12, 3) := by decide +kernel
theorem dX12_signAt_8 : decode cX12_signAt 8 = .ok (.aload_n 0, 1) := by decide +kernel
theorem dX12_signAt_9 : decode cX12_signAt 9 = .ok (.getfield 7, 3) := by decide +kernel
theorem dX12_signAt_12 : decode cX12_signAt 12 = .ok (.iload_n 1, 1) := by decide +kernel
theorem dX12_signAt_13 : decode cX12_signAt 13 = .ok (.iaload, 1) := by decide +kernel
theorem dX12_signAt_14 : decode cX12_signAt 14 = .ok (.goto 4, 3) := by decide +kernel
theorem dX12_signAt_17 : decode cX12_signAt 17 = .ok (.iconst (-1), 1) := by decide +kernel
theorem dX12_signAt_18 : decode cX12_signAt 18 = .ok (.ireturn, 1) := by decide +kernel
theorem dX12_isDigit_0 : decode cX12_isDigit 0 = .ok (.iload_n 0, 1) := by decide +kernel
theorem dX12_isDigit_1 : decode cX12_isDigit 1 = .ok (.bipush 48, 2) := by decide +kernel
theorem dX12_isDigit_3 : decode cX12_isDigit 3 = .ok (.if_icmp .lt 13, 3) := by decide +kernel
theorem dX12_isDigit_6 : decode cX12_isDigit 6 = .ok (.iload_n 0, 1) := by decide +kernel
theorem dX12_isDigit_7 : decode cX12_isDigit 7 = .ok (.bipush 57, 2) := by decide +kernel
theorem dX12_isDigit_9 : decode cX12_isDigit 9 = .ok (.if_icmp .gt 7, 3) := by decide +kernel
theorem dX12_isDigit_12 : decode cX12_isDigit 12 = .ok (.iconst 1, 1) := by decide +kernel
theorem dX12_isDigit_13 : decode cX12_isDigit 13 = .ok (.goto 4, 3) := by decide +kernel
theorem dX12_isDigit_16 : decode cX12_isDigit 16 = .ok (.iconst 0, 1) := by decide +kernel
theorem dX12_isDigit_17 : decode cX12_isDigit 17 = .ok (.ireturn, 1) := by decide +kernel
theorem dX12_isField_0 : decode cX12_isField 0 = .ok (.iload_n 0, 1) := by decide +kernel
theorem dX12_isField_1 : decode cX12_isField 1 = .ok (.bipush 110, 2) := by decide +kernel
theorem dX12_isField_3 : decode cX12_isField 3 = .ok (.if_icmp .eq 33, 3) := by decide +kernel
theorem dX12_isField_6 : decode cX12_isField 6 = .ok (.iload_n 0, 1) := by decide +kernel
theorem dX12_isField_7 : decode cX12_isField 7 = .ok (.bipush 115, 2) := by decide +kernel
theorem dX12_isField_9 : decode cX12_isField 9 = .ok (.if_icmp .eq 27, 3) := by decide +kernel
theorem dX12_isField_12 : decode cX12_isField 12 = .ok (.iload_n 0, 1) := by decide +kernel
theorem dX12_isField_13 : decode cX12_isField 13 = .ok (.bipush 104, 2) := by decide +kernel
theorem dX12_isField_15 : decode cX12_isField 15 = .ok (.if_icmp .eq 21, 3) := by decide +kernel
theorem dX12_isField_18 : decode cX12_isField 18 = .ok (.iload_n 0, 1) := by decide +kernel
theorem dX12_isField_19 : decode cX12_isField 19 = .ok (.bipush 122, 2) := by decide +kernel
theorem dX12_isField_21 : decode cX12_isField 21 = .ok (.if_icmp .eq 15, 3) := by decide +kernel
theorem dX12_isField_24 : decode cX12_isField 24 = .ok (.iload_n 0, 1) := by decide +kernel
theorem dX12_isField_25 : decode cX12_isField 25 = .ok (.bipush 112, 2) := by decide +kernel
theorem dX12_isField_27 : decode cX12_isField 27 = .ok (.if_icmp .eq 9, 3) := by decide +kernel
theorem dX12_isField_30 : decode cX12_isField 30 = .ok (.iload_n 0, 1) := by decide +kernel
theorem dX12_isField_31 : decode cX12_isField 31 = .ok (.bipush 109, 2) := by decide +kernel
theorem dX12_isField_33 : decode cX12_isField 33 = .ok (.if_icmp .ne 7, 3) := by decide +kernel
theorem dX12_isField_36 : decode cX12_isField 36 = .ok (.iconst 1, 1) := by decide +kernel
theorem dX12_isField_37 : decode cX12_isField 37 = .ok (.goto 4, 3) := by decide +kernel
theorem dX12_isField_40 : decode cX12_isField 40 = .ok (.iconst 0, 1) := by decide +kernel
theorem dX12_isField_41 : decode cX12_isField 41 = .ok (.ireturn, 1) := by decide +kernel
theorem dX12_wrongInTemplate_0 : decode cX12_wrongInTemplate 0 = .ok (.iconst 0, 1) := by decide +kernel
theorem dX12_wrongInTemplate_1 : decode cX12_wrongInTemplate 1 = .ok (.istore_n 1, 1) := by decide +kernel
theorem dX12_wrongInTemplate_2 : decode cX12_wrongInTemplate 2 = .ok (.iconst 0, 1) := by decide +kernel
theorem dX12_wrongInTemplate_3 : decode cX12_wrongInTemplate 3 = .ok (.istore_n 2, 1) := by decide +kernel
theorem dX12_wrongInTemplate_4 : decode cX12_wrongInTemplate 4 = .ok (.iconst 0, 1) := by decide +kernel
theorem dX12_wrongInTemplate_5 : decode cX12_wrongInTemplate 5 = .ok (.istore_n 3, 1) := by decide +kernel
theorem dX12_wrongInTemplate_6 : decode cX12_wrongInTemplate 6 = .ok (.iload_n 3, 1) := by decide +kernel
theorem dX12_wrongInTemplate_7 : decode cX12_wrongInTemplate 7 = .ok (.aload_n 0, 1) := by decide +kernel
theorem dX12_wrongInTemplate_8 : decode cX12_wrongInTemplate 8 = .ok (.getfield 125, 3) := by decide +kernel
theorem dX12_wrongInTemplate_11 : decode cX12_wrongInTemplate 11 = .ok (.if_icmp .ge 216, 3) := by decide +kernel
theorem dX12_wrongInTemplate_14 : decode cX12_wrongInTemplate 14 = .ok (.aload_n 0, 1) := by decide +kernel
theorem dX12_wrongInTemplate_15 : decode cX12_wrongInTemplate 15 = .ok (.getfield 7, 3) := by decide +kernel
theorem dX12_wrongInTemplate_18 : decode cX12_wrongInTemplate 18 = .ok (.iload_n 3, 1) := by decide +kernel
theorem dX12_wrongInTemplate_19 : decode cX12_wrongInTemplate 19 = .ok (.iaload, 1) := by decide +kernel
theorem dX12_wrongInTemplate_20 : decode cX12_wrongInTemplate 20 = .ok (.istore 4, 2) := by decide +kernel
theorem dX12_wrongInTemplate_22 : decode cX12_wrongInTemplate 22 = .ok (.iload 4, 2) := by decide +kernel
theorem dX12_wrongInTemplate_24 : decode cX12_wrongInTemplate 24 = .ok (.bipush 60, 2) := by decide +kernel
theorem dX12_wrongInTemplate_26 : decode cX12_wrongInTemplate 26 = .ok (.if_icmp .ne 42, 3) := by decide +kernel
theorem dX12_wrongInTemplate_29 : decode cX12_wrongInTemplate 29 = .ok (.aload_n 0, 1) := by decide +kernel
theorem dX12_wrongInTemplate_30 : decode cX12_wrongInTemplate 30 = .ok (.iload_n 3, 1) := by decide +kernel
theorem dX12_wrongInTemplate_31 : decode cX12_wrongInTemplate 31 = .ok (.iconst 1, 1) := by decide +kernel
theorem dX12_wrongInTemplate_32 : decode cX12_wrongInTemplate 32 = .ok (.iadd, 1) := by decide +kernel
theorem dX12_wrongInTemplate_33 : decode cX12_wrongInTemplate 33 = .ok (.invokevirtual 132, 3) := by decide +kernel
theorem dX12_wrongInTemplate_36 : decode cX12_wrongInTemplate 36 = .ok (.invokestatic 136, 3) := by decide +kernel
theorem dX12_wrongInTemplate_39 : decode cX12_wrongInTemplate 39 = .ok (.ifCond .ne 7, 3) := by decide +kernel
theorem dX12_wrongInTemplate_42 : decode cX12_wrongInTemplate 42 = .ok (.iload_n 3, 1) := by decide +kernel
theorem dX12_wrongInTemplate_43 : decode cX12_wrongInTemplate 43 = .ok (.iconst 1, 1) := by decide +kernel
theorem dX12_wrongInTemplate_44 : decode cX12_wrongInTemplate 44 = .ok (.iadd, 1) := by decide +kernel
theorem dX12_wrongInTemplate_45 : decode cX12_wrongInTemplate 45 = .ok (.ireturn, 1) := by decide +kernel
theorem dX12_wrongInTemplate_46 : decode cX12_wrongInTemplate 46 = .ok (.aload_n 0, 1) := by decide +kernel
theorem dX12_wrongInTemplate_47 : decode cX12_wrongInTemplate 47 = .ok (.iload_n 3, 1) := by decide +kernel
theorem dX12_wrongInTemplate_48 : decode cX12_wrongInTemplate 48 = .ok (.iconst 2, 1) := by decide +kernel
theorem dX12_wrongInTemplate_49 : decode cX12_wrongInTemplate 49 = .ok (.iadd, 1) := by decide +kernel
theorem dX12_wrongInTemplate_50 : decode cX12_wrongInTemplate 50 = .ok (.invokevirtual 132, 3) := by decide +kernel
theorem dX12_wrongInTemplate_53 : decode cX12_wrongInTemplate 53 = .ok (.bipush 62, 2) := by decide +kernel
theorem dX12_wrongInTemplate_55 : decode cX12_wrongInTemplate 55 = .ok (.if_icmp .eq 7, 3) := by decide +kernel
theorem dX12_wrongInTemplate_58 : decode cX12_wrongInTemplate 58 = .ok (.iload_n 3, 1) := by decide +kernel
theorem dX12_wrongInTemplate_59 : decode cX12_wrongInTemplate 59 = .ok (.iconst 2, 1) := by decide +kernel
theorem dX12_wrongInTemplate_60 : decode cX12_wrongInTemplate 60 = .ok (.iadd, 1) := by decide +kernel
theorem dX12_wrongInTemplate_61 : decode cX12_wrongInTemplate 61 = .ok (.ireturn, 1) := by decide +kernel
theorem dX12_wrongInTemplate_62 : decode cX12_wrongInTemplate 62 = .ok (.iinc 3 3, 3) := by decide +kernel
theorem dX12_wrongInTemplate_65 : decode cX12_wrongInTemplate 65 = .ok (.goto 159, 3) := by decide +kernel
theorem dX12_wrongInTemplate_68 : decode cX12_wrongInTemplate 68 = .ok (.iload 4, 2) := by decide +kernel
theorem dX12_wrongInTemplate_70 : decode cX12_wrongInTemplate 70 = .ok (.bipush 64, 2) := by decide +kernel
theorem dX12_wrongInTemplate_72 : decode cX12_wrongInTemplate 72 = .ok (.if_icmp .ne 37, 3) := by decide +kernel
theorem dX12_wrongInTemplate_75 : decode cX12_wrongInTemplate 75 = .ok (.aload_n 0, 1) := by decide +kernel
theorem dX12_wrongInTemplate_76 : decode cX12_wrongInTemplate 76 = .ok (.iload_n 3, 1) := by decide +kernel
theorem dX12_wrongInTemplate_77 : decode cX12_wrongInTemplate 77 = .ok (.iconst 1, 1) := by decide +kernel
theorem dX12_wrongInTemplate_78 : decode cX12_wrongInTemplate 78 = .ok (.iadd, 1) := by decide +kernel
theorem dX12_wrongInTemplate_79 : decode cX12_wrongInTemplate 79 = .ok (.invokevirtual 132, 3) := by decide +kernel
theorem dX12_wrongInTemplate_82 : decode cX12_wrongInTemplate 82 = .ok (.bipush 48, 2) := by decide +kernel
theorem dX12_wrongInTemplate_84 : decode cX12_wrongInTemplate 84 = .ok (.if_icmp .lt 15, 3) := by decide +kernel
theorem dX12_wrongInTemplate_87 : decode cX12_wrongInTemplate 87 = .ok (.aload_n 0, 1) := by decide +kernel
theorem dX12_wrongInTemplate_88 : decode cX12_wrongInTemplate 88 = .ok (.iload_n 3, 1) := by decide +kernel
theorem dX12_wrongInTemplate_89 : decode cX12_wrongInTemplate 89 = .ok (.iconst 1, 1) := by decide +kernel
theorem dX12_wrongInTemplate_90 : decode cX12_wrongInTemplate 90 = .ok (.iadd, 1) := by decide +kernel
theorem dX12_wrongInTemplate_91 : decode cX12_wrongInTemplate 91 = .ok (.invokevirtual 132, 3) := by decide +kernel
theorem dX12_wrongInTemplate_94 : decode cX12_wrongInTemplate 94 = .ok (.bipush 55, 2) := by decide +kernel
theorem dX12_wrongInTemplate_96 : decode cX12_wrongInTemplate 96 = .ok (.if_icmp .le 7, 3) := by decide +kernel
theorem dX12_wrongInTemplate_99 : decode cX12_wrongInTemplate 99 = .ok (.iload_n 3, 1) := by decide +kernel
theorem dX12_wrongInTemplate_100 : decode cX12_wrongInTemplate 100 = .ok (.iconst 1, 1) := by decide +kernel
theorem dX12_wrongInTemplate_101 : decode cX12_wrongInTemplate 101 = .ok (.iadd, 1) := by decide +kernel
theorem dX12_wrongInTemplate_102 : decode cX12_wrongInTemplate 102 = .ok (.ireturn, 1) := by decide +kernel
theorem dX12_wrongInTemplate_103 : decode cX12_wrongInTemplate 103 = .ok (.iinc 3 2, 3) := by decide +kernel
theorem dX12_wrongInTemplate_106 : decode cX12_wrongInTemplate 106 = .ok (.goto 118, 3) := by decide +kernel
theorem dX12_wrongInTemplate_109 : decode cX12_wrongInTemplate 109 = .ok (.iload 4, 2) := by decide +kernel
theorem dX12_wrongInTemplate_111 : decode cX12_wrongInTemplate 111 = .ok (.bipush 91, 2) := by decide +kernel
theorem dX12_wrongInTemplate_113 : decode cX12_wrongInTemplate 113 = .ok (.if_icmp .ne 44, 3) := by decide +kernel
theorem dX12_wrongInTemplate_116 : decode cX12_wrongInTemplate 116 = .ok (.iload_n 1, 1) := by decide +kernel
theorem dX12_wrongInTemplate_117 : decode cX12_wrongInTemplate 117 = .ok (.iconst 5, 1) := by decide +kernel
theorem dX12_wrongInTemplate_118 : decode cX12_wrongInTemplate 118 = .ok (.if_icmp .ne 5, 3) := by decide +kernel
theorem dX12_wrongInTemplate_121 : decode cX12_wrongInTemplate 121 = .ok (.iload_n 3, 1) := by decide +kernel
theorem dX12_wrongInTemplate_122 : decode cX12_wrongInTemplate 122 = .ok (.ireturn, 1) := by decide +kernel
theorem dX12_wrongInTemplate_123 : decode cX12_wrongInTemplate 123 = .ok (.aload_n 0, 1) := by decide +kernel
theorem dX12_wrongInTemplate_124 : decode cX12_wrongInTemplate 124 = .ok (.iload_n 3, 1) := by decide +kernel
theorem dX12_wrongInTemplate_125 : decode cX12_wrongInTemplate 125 = .ok (.invokevirtual 139, 3) := by decide +kernel
theorem dX12_wrongInTemplate_128 : decode cX12_wrongInTemplate 128 = .ok (.istore 5, 2) := by decide +kernel
theorem dX12_wrongInTemplate_130 : decode cX12_wrongInTemplate 130 = .ok (.iload 5, 2) := by decide +kernel
theorem dX12_wrongInTemplate_132 : decode cX12_wrongInTemplate 132 = .ok (.ifCond .ge 8, 3) := by decide +kernel
theorem dX12_wrongInTemplate_135 : decode cX12_wrongInTemplate 135 = .ok (.iconst (-1), 1) := by decide +kernel
theorem dX12_wrongInTemplate_136 : decode cX12_wrongInTemplate 136 = .ok (.iload 5, 2) := by decide +kernel
theorem dX12_wrongInTemplate_138 : decode cX12_wrongInTemplate 138 = .ok (.isub, 1) := by decide +kernel
theorem dX12_wrongInTemplate_139 : decode cX12_wrongInTemplate 139 = .ok (.ireturn, 1) := by decide +kernel
theorem dX12_wrongInTemplate_140 : decode cX12_wrongInTemplate 140 = .ok (.iinc 1 1, 3) := by decide +kernel
theorem dX12_wrongInTemplate_143 : decode cX12_wrongInTemplate 143 = .ok (.iload_n 2, 1) := by decide +kernel
theorem dX12_wrongInTemplate_144 : decode cX12_wrongInTemplate 144 = .ok (.iconst 1, 1) := by decide +kernel
theorem dX12_wrongInTemplate_145 : decode cX12_wrongInTemplate 145 = .ok (.iload_n 1, 1) := by decide +kernel
theorem dX12_wrongInTemplate_146 : decode cX12_wrongInTemplate 146 = .ok (.ishl, 1) := by decide +kernel
theorem dX12_wrongInTemplate_147 : decode cX12_wrongInTemplate 147 = .ok (.iconst (-1), 1) := by decide +kernel
theorem dX12_wrongInTemplate_148 : decode cX12_wrongInTemplate 148 = .ok (.ixor, 1) := by decide +kernel
theorem dX12_wrongInTemplate_149 : decode cX12_wrongInTemplate 149 = .ok (.iand, 1) := by decide +kernel
theorem dX12_wrongInTemplate_150 : decode cX12_wrongInTemplate 150 = .ok (.istore_n 2, 1) := by decide +kernel
theorem dX12_wrongInTemplate_151 : decode cX12_wrongInTemplate 151 = .ok (.iload 5, 2) := by decide +kernel
theorem dX12_wrongInTemplate_153 : decode cX12_wrongInTemplate 153 = .ok (.istore_n 3, 1) := by decide +kernel
theorem dX12_wrongInTemplate_154 : decode cX12_wrongInTemplate 154 = .ok (.goto 70, 3) := by decide +kernel
theorem dX12_wrongInTemplate_157 : decode cX12_wrongInTemplate 157 = .ok (.iload 4, 2) := by decide +kernel
theorem dX12_wrongInTemplate_159 : decode cX12_wrongInTemplate 159 = .ok (.bipush 124, 2) := by decide +kernel
theorem dX12_wrongInTemplate_161 : decode cX12_wrongInTemplate 161 = .ok (.if_icmp .ne 30, 3) := by decide +kernel
theorem dX12_wrongInTemplate_164 : decode cX12_wrongInTemplate 164 = .ok (.iload_n 1, 1) := by decide +kernel
theorem dX12_wrongInTemplate_165 : decode cX12_wrongInTemplate 165 = .ok (.ifCond .eq 12, 3) := by decide +kernel
theorem dX12_wrongInTemplate_168 : decode cX12_wrongInTemplate 168 = .ok (.iload_n 2, 1) := by decide +kernel
theorem dX12_wrongInTemplate_169 : decode cX12_wrongInTemplate 169 = .ok (.iload_n 1, 1) := by decide +kernel
theorem dX12_wrongInTemplate_170 : decode cX12_wrongInTemplate 170 = .ok (.ishr, 1) := by decide +kernel
theorem dX12_wrongInTemplate_171 : decode cX12_wrongInTemplate 171 = .ok (.iconst 1, 1) := by decide +kernel
theorem dX12_wrongInTemplate_172 : decode cX12_wrongInTemplate 172 = .ok (.iand, 1) := by decide +kernel
theorem dX12_wrongInTemplate_173 : decode cX12_wrongInTemplate 173 = .ok (.iconst 1, 1) := by decide +kernel
theorem dX12_wrongInTemplate_174 : decode cX12_wrongInTemplate 174 = .ok (.if_icmp .ne 5, 3) := by decide +kernel
theorem dX12_wrongInTemplate_177 : decode cX12_wrongInTemplate 177 = .ok (.iload_n 3, 1) := by decide +kernel
theorem dX12_wrongInTemplate_178 : decode cX12_wrongInTemplate 178 = .ok (.ireturn, 1) := by decide +kernel
theorem dX12_wrongInTemplate_179 : decode cX12_wrongInTemplate 179 = .ok (.iload_n 2, 1) := by decide +kernel
theorem dX12_wrongInTemplate_180 : decode cX12_wrongInTemplate 180 = .ok (.iconst 1, 1) := by decide +kernel
theorem dX12_wrongInTemplate_181 : decode cX12_wrongInTemplate 181 = .ok (.iload_n 1, 1) := by decide +kernel
theorem dX12_wrongInTemplate_182 : decode cX12_wrongInTemplate 182 = .ok (.ishl, 1) := by decide +kernel
theorem dX12_wrongInTemplate_183 : decode cX12_wrongInTemplate 183 = .ok (.ior, 1) := by decide +kernel
theorem dX12_wrongInTemplate_184 : decode cX12_wrongInTemplate 184 = .ok (.istore_n 2, 1) := by decide +kernel
theorem dX12_wrongInTemplate_185 : decode cX12_wrongInTemplate 185 = .ok (.iinc 3 1, 3) := by decide +kernel
theorem dX12_wrongInTemplate_188 : decode cX12_wrongInTemplate 188 = .ok (.goto 36, 3) := by decide +kernel
theorem dX12_wrongInTemplate_191 : decode cX12_wrongInTemplate 191 = .ok (.iload 4, 2) := by decide +kernel
theorem dX12_wrongInTemplate_193 : decode cX12_wrongInTemplate 193 = .ok (.bipush 93, 2) := by decide +kernel
theorem dX12_wrongInTemplate_195 : decode cX12_wrongInTemplate 195 = .ok (.if_icmp .ne 26, 3) := by decide +kernel
theorem dX12_wrongInTemplate_198 : decode cX12_wrongInTemplate 198 = .ok (.iload_n 1, 1) := by decide +kernel
theorem dX12_wrongInTemplate_199 : decode cX12_wrongInTemplate 199 = .ok (.ifCond .eq 11, 3) := by decide +kernel
theorem dX12_wrongInTemplate_202 : decode cX12_wrongInTemplate 202 = .ok (.iload_n 2, 1) := by decide +kernel
theorem dX12_wrongInTemplate_203 : decode cX12_wrongInTemplate 203 = .ok (.iload_n 1, 1) := by decide +kernel
theorem dX12_wrongInTemplate_204 : decode cX12_wrongInTemplate 204 = .ok (.ishr, 1) := by decide +kernel
theorem dX12_wrongInTemplate_205 : decode cX12_wrongInTemplate 205 = .ok (.iconst 1, 1) := by decide +kernel
theorem dX12_wrongInTemplate_206 : decode cX12_wrongInTemplate 206 = .ok (.iand, 1) := by decide +kernel
theorem dX12_wrongInTemplate_207 : decode cX12_wrongInTemplate 207 = .ok (.ifCond .ne 5, 3) := by decide +kernel
theorem dX12_wrongInTemplate_210 : decode cX12_wrongInTemplate 210 = .ok (.iload_n 3, 1) := by decide +kernel
theorem dX12_wrongInTemplate_211 : decode cX12_wrongInTemplate 211 = .ok (.ireturn, 1) := by decide +kernel
theorem dX12_wrongInTemplate_212 : decode cX12_wrongInTemplate 212 = .ok (.iinc 1 (-1), 3) := by decide +kernel
theorem dX12_wrongInTemplate_215 : decode cX12_wrongInTemplate 215 = .ok (.iinc 3 1, 3) := by decide +kernel
theorem dX12_wrongInTemplate_218 : decode cX12_wrongInTemplate 218 = .ok (.goto 6, 3) := by decide +kernel
theorem dX12_wrongInTemplate_221 : decode cX12_wrongInTemplate 221 = .ok (.iinc 3 1, 3) := by decide +kernel
theorem dX12_wrongInTemplate_224 : decode cX12_wrongInTemplate 224 = .ok (.goto (-218), 3) := by decide +kernel
theorem dX12_wrongInTemplate_227 : decode cX12_wrongInTemplate 227 = .ok (.iload_n 1, 1) := by decide +kernel
theorem dX12_wrongInTemplate_228 : decode cX12_wrongInTemplate 228 = .ok (.ifCond .le 10, 3) := by decide +kernel
theorem dX12_wrongInTemplate_231 : decode cX12_wrongInTemplate 231 = .ok (.aload_n 0, 1) := by decide +kernel
theorem dX12_wrongInTemplate_232 : decode cX12_wrongInTemplate 232 = .ok (.getfield 125, 3) := by decide +kernel
theorem dX12_wrongInTemplate_235 : decode cX12_wrongInTemplate 235 = .ok (.goto 4, 3) := by decide +kernel
theorem dX12_wrongInTemplate_238 : decode cX12_wrongInTemplate 238 = .ok (.iconst (-1), 1) := by decide +kernel
theorem dX12_wrongInTemplate_239 : decode cX12_wrongInTemplate 239 = .ok (.ireturn, 1) := by decide +kernel
theorem dX12_headEnd_0 : decode cX12_headEnd 0 = .ok (.aload_n 0, 1) := by decide +kernel
theorem dX12_headEnd_1 : decode cX12_headEnd 1 = .ok (.iload_n 1, 1) := by decide +kernel
theorem dX12_headEnd_2 : decode cX12_headEnd 2 = .ok (.iconst 1, 1) := by decide +kernel
theorem dX12_headEnd_3 : decode cX12_headEnd 3 = .ok (.iadd, 1) := by decide +kernel
theorem dX12_headEnd_4 : decode cX12_headEnd 4 = .ok (.invokevirtual 132, 3) := by decide +kernel
theorem dX12_headEnd_7 : decode cX12_headEnd 7 = .ok (.invokestatic 136, 3) := by decide +kernel
theorem dX12_headEnd_10 : decode cX12_headEnd 10 = .ok (.ifCond .ne 9, 3) := by decide +kernel
theorem dX12_headEnd_13 : decode cX12_headEnd 13 = .ok (.iconst (-1), 1) := by decide +kernel
theorem dX12_headEnd_14 : decode cX12_headEnd 14 = .ok (.iload_n 1, 1) := by decide +kernel
theorem dX12_headEnd_15 : decode cX12_headEnd 15 = .ok (.iconst 1, 1) := by decide +kernel
theorem dX12_headEnd_16 : decode cX12_headEnd 16 = .ok (.iadd, 1) := by decide +kernel
theorem dX12_headEnd_17 : decode cX12_headEnd 17 = .ok (.isub, 1) := by decide +kernel
theorem dX12_headEnd_18 : decode cX12_headEnd 18 = .ok (.ireturn, 1) := by decide +kernel
theorem dX12_headEnd_19 : decode cX12_headEnd 19 = .ok (.aload_n 0, 1) := by decide +kernel
theorem dX12_headEnd_20 : decode cX12_headEnd 20 = .ok (.iload_n 1, 1) := by decide +kernel
theorem dX12_headEnd_21 : decode cX12_headEnd 21 = .ok (.iconst 2, 1) := by decide +kernel
theorem dX12_headEnd_22 : decode cX12_headEnd 22 = .ok (.iadd, 1) := by decide +kernel
theorem dX12_headEnd_23 : decode cX12_headEnd 23 = .ok (.invokevirtual 132, 3) := by decide +kernel
theorem dX12_headEnd_26 : decode cX12_headEnd 26 = .ok (.istore_n 2, 1) := by decide +kernel
theorem dX12_headEnd_27 : decode cX12_headEnd 27 = .ok (.iload_n 2, 1) := by decide +kernel
theorem dX12_headEnd_28 : decode cX12_headEnd 28 = .ok (.bipush 61, 2) := by decide +kernel
theorem dX12_headEnd_30 : decode cX12_headEnd 30 = .ok (.if_icmp .eq 21, 3) := by decide +kernel
theorem dX12_headEnd_33 : decode cX12_headEnd 33 = .ok (.iload_n 2, 1) := by decide +kernel
theorem dX12_headEnd_34 : decode cX12_headEnd 34 = .ok (.bipush 60, 2) := by decide +kernel
theorem dX12_headEnd_36 : decode cX12_headEnd 36 = .ok (.if_icmp .eq 15, 3) := by decide +kernel
theorem dX12_headEnd_39 : decode cX12_headEnd 39 = .ok (.iload_n 2, 1) := by decide +kernel
theorem dX12_headEnd_40 : decode cX12_headEnd 40 = .ok (.bipush 62, 2) := by decide +kernel
theorem dX12_headEnd_42 : decode cX12_headEnd 42 = .ok (.if_icmp .eq 9, 3) := by decide +kernel
theorem dX12_headEnd_45 : decode cX12_headEnd 45 = .ok (.iconst (-1), 1) := by decide +kernel
theorem dX12_headEnd_46 : decode cX12_headEnd 46 = .ok (.iload_n 1, 1) := by decide +kernel
theorem dX12_headEnd_47 : decode cX12_headEnd 47 = .ok (.iconst 2, 1) := by decide +kernel
theorem dX12_headEnd_48 : decode cX12_headEnd 48 = .ok (.iadd, 1) := by decide +kernel
theorem dX12_headEnd_49 : decode cX12_headEnd 49 = .ok (.isub, 1) := by decide +kernel
theorem dX12_headEnd_50 : decode cX12_headEnd 50 = .ok (.ireturn, 1) := by decide +kernel
theorem dX12_headEnd_51 : decode cX12_headEnd 51 = .ok (.iload_n 1, 1) := by decide +kernel
theorem dX12_headEnd_52 : decode cX12_headEnd 52 = .ok (.iconst 3, 1) := by decide +kernel
theorem dX12_headEnd_53 : decode cX12_headEnd 53 = .ok (.iadd, 1) := by decide +kernel
theorem dX12_headEnd_54 : decode cX12_headEnd 54 = .ok (.istore_n 3, 1) := by decide +kernel
theorem dX12_headEnd_55 : decode cX12_headEnd 55 = .ok (.iload_n 3, 1) := by decide +kernel
theorem dX12_headEnd_56 : decode cX12_headEnd 56 = .ok (.iload_n 1, 1) := by decide +kernel
theorem dX12_headEnd_57 : decode cX12_headEnd 57 = .ok (.bipush 6, 2) := by decide +kernel
theorem dX12_headEnd_59 : decode cX12_headEnd 59 = .ok (.iadd, 1) := by decide +kernel
theorem dX12_headEnd_60 : decode cX12_headEnd 60 = .ok (.if_icmp .ge 20, 3) := by decide +kernel
theorem dX12_headEnd_63 : decode cX12_headEnd 63 = .ok (.aload_n 0, 1) := by decide +kernel
theorem dX12_headEnd_64 : decode cX12_headEnd 64 = .ok (.iload_n 3, 1) := by decide +kernel
theorem dX12_headEnd_65 : decode cX12_headEnd 65 = .ok (.invokevirtual 132, 3) := by decide +kernel
theorem dX12_headEnd_68 : decode cX12_headEnd 68 = .ok (.invokestatic 142, 3) := by decide +kernel
theorem dX12_headEnd_71 : decode cX12_headEnd 71 = .ok (.ifCond .eq 9, 3) := by decide +kernel
theorem dX12_headEnd_74 : decode cX12_headEnd 74 = .ok (.iinc 3 1, 3) := by decide +kernel
theorem dX12_headEnd_77 : decode cX12_headEnd 77 = .ok (.goto (-22), 3) := by decide +kernel
theorem dX12_headEnd_80 : decode cX12_headEnd 80 = .ok (.iload_n 3, 1) := by decide +kernel
theorem dX12_headEnd_81 : decode cX12_headEnd 81 = .ok (.iload_n 1, 1) := by decide +kernel
theorem dX12_headEnd_82 : decode cX12_headEnd 82 = .ok (.iconst 3, 1) := by decide +kernel
theorem dX12_headEnd_83 : decode cX12_headEnd 83 = .ok (.iadd, 1) := by decide +kernel
theorem dX12_headEnd_84 : decode cX12_headEnd 84 = .ok (.if_icmp .eq 13, 3) := by decide +kernel
theorem dX12_headEnd_87 : decode cX12_headEnd 87 = .ok (.aload_n 0, 1) := by decide +kernel
theorem dX12_headEnd_88 : decode cX12_headEnd 88 = .ok (.iload_n 3, 1) := by decide +kernel
theorem dX12_headEnd_89 : decode cX12_headEnd 89 = .ok (.invokevirtual 132, 3) := by decide +kernel
theorem dX12_headEnd_92 : decode cX12_headEnd 92 = .ok (.bipush 63, 2) := by decide +kernel
theorem dX12_headEnd_94 : decode cX12_headEnd 94 = .ok (.if_icmp .eq 7, 3) := by decide +kernel
theorem dX12_headEnd_97 : decode cX12_headEnd 97 = .ok (.iconst (-1), 1) := by decide +kernel
theorem dX12_headEnd_98 : decode cX12_headEnd 98 = .ok (.iload_n 3, 1) := by decide +kernel
theorem dX12_headEnd_99 : decode cX12_headEnd 99 = .ok (.isub, 1) := by decide +kernel
theorem dX12_headEnd_100 : decode cX12_headEnd 100 = .ok (.ireturn, 1) := by decide +kernel
theorem dX12_headEnd_101 : decode cX12_headEnd 101 = .ok (.iload_n 3, 1) := by decide +kernel
theorem dX12_headEnd_102 : decode cX12_headEnd 102 = .ok (.iconst 1, 1) := by decide +kernel
theorem dX12_headEnd_103 : decode cX12_headEnd 103 = .ok (.iadd, 1) := by decide +kernel
theorem dX12_headEnd_104 : decode cX12_headEnd 104 = .ok (.ireturn, 1) := by decide +kernel
theorem dX12_template_0 : decode cX12_template 0 = .ok (.aload_n 0, 1) := by decide +kernel
theorem dX12_template_1 : decode cX12_template 1 = .ok (.iload_n 1, 1) := by decide +kernel
theorem dX12_template_2 : decode cX12_template 2 = .ok (.ifCond .lt 13, 3) := by decide +kernel
theorem dX12_template_5 : decode cX12_template 5 = .ok (.iload_n 1, 1) := by decide +kernel
theorem dX12_template_6 : decode cX12_template 6 = .ok (.bipush 8, 2) := by decide +kernel
theorem dX12_template_8 : decode cX12_template 8 = .ok (.if_icmp .ge 7, 3) := by decide +kernel
theorem dX12_template_11 : decode cX12_template 11 = .ok (.iconst 0, 1) := by decide +kernel
theorem dX12_template_12 : decode cX12_template 12 = .ok (.goto 4, 3) := by decide +kernel
theorem dX12_template_15 : decode cX12_template 15 = .ok (.iconst 1, 1) := by decide +kernel
theorem dX12_template_16 : decode cX12_template 16 = .ok (.invokevirtual 128, 3) := by decide +kernel
theorem dX12_template_19 : decode cX12_template 19 = .ok (.ifCond .eq 5, 3) := by decide +kernel
theorem dX12_template_22 : decode cX12_template 22 = .ok (.iconst 0, 1) := by decide +kernel
theorem dX12_template_23 : decode cX12_template 23 = .ok (.ireturn, 1) := by decide +kernel
theorem dX12_template_24 : decode cX12_template 24 = .ok (.aload_n 0, 1) := by decide +kernel
theorem dX12_template_25 : decode cX12_template 25 = .ok (.invokevirtual 145, 3) := by decide +kernel
theorem dX12_template_28 : decode cX12_template 28 = .ok (.istore_n 2, 1) := by decide +kernel
theorem dX12_template_29 : decode cX12_template 29 = .ok (.aload_n 0, 1) := by decide +kernel
theorem dX12_template_30 : decode cX12_template 30 = .ok (.getfield 125, 3) := by decide +kernel
theorem dX12_template_33 : decode cX12_template 33 = .ok (.istore_n 3, 1) := by decide +kernel
theorem dX12_template_34 : decode cX12_template 34 = .ok (.aload_n 0, 1) := by decide +kernel
theorem dX12_template_35 : decode cX12_template 35 = .ok (.iconst 0, 1) := by decide +kernel
theorem dX12_template_36 : decode cX12_template 36 = .ok (.putfield 125, 3) := by decide +kernel
theorem dX12_template_39 : decode cX12_template 39 = .ok (.iload_n 2, 1) := by decide +kernel
theorem dX12_template_40 : decode cX12_template 40 = .ok (.iconst (-1), 1) := by decide +kernel
theorem dX12_template_41 : decode cX12_template 41 = .ok (.if_icmp .eq 7, 3) := by decide +kernel
theorem dX12_template_44 : decode cX12_template 44 = .ok (.iconst (-1), 1) := by decide +kernel
theorem dX12_template_45 : decode cX12_template 45 = .ok (.iload_n 2, 1) := by decide +kernel
theorem dX12_template_46 : decode cX12_template 46 = .ok (.isub, 1) := by decide +kernel
theorem dX12_template_47 : decode cX12_template 47 = .ok (.ireturn, 1) := by decide +kernel
theorem dX12_template_48 : decode cX12_template 48 = .ok (.aload_n 0, 1) := by decide +kernel
theorem dX12_template_49 : decode cX12_template 49 = .ok (.getfield 16, 3) := by decide +kernel
theorem dX12_template_52 : decode cX12_template 52 = .ok (.iload_n 1, 1) := by decide +kernel
theorem dX12_template_53 : decode cX12_template 53 = .ok (.iload_n 3, 1) := by decide +kernel
theorem dX12_template_54 : decode cX12_template 54 = .ok (.iastore, 1) := by decide +kernel
theorem dX12_template_55 : decode cX12_template 55 = .ok (.iconst 0, 1) := by decide +kernel
theorem dX12_template_56 : decode cX12_template 56 = .ok (.istore 4, 2) := by decide +kernel
theorem dX12_template_58 : decode cX12_template 58 = .ok (.iload 4, 2) := by decide +kernel
theorem dX12_template_60 : decode cX12_template 60 = .ok (.iload_n 3, 1) := by decide +kernel
theorem dX12_template_61 : decode cX12_template 61 = .ok (.if_icmp .ge 28, 3) := by decide +kernel
theorem dX12_template_64 : decode cX12_template 64 = .ok (.aload_n 0, 1) := by decide +kernel
theorem dX12_template_65 : decode cX12_template 65 = .ok (.getfield 13, 3) := by decide +kernel
theorem dX12_template_68 : decode cX12_template 68 = .ok (.bipush 96, 2) := by decide +kernel
theorem dX12_template_70 : decode cX12_template 70 = .ok (.iload_n 1, 1) := by decide +kernel
theorem dX12_template_71 : decode cX12_template 71 = .ok (.imul, 1) := by decide +kernel
theorem dX12_template_72 : decode cX12_template 72 = .ok (.iload 4, 2) := by decide +kernel
theorem dX12_template_74 : decode cX12_template 74 = .ok (.iadd, 1) := by decide +kernel
theorem dX12_template_75 : decode cX12_template 75 = .ok (.aload_n 0, 1) := by decide +kernel
theorem dX12_template_76 : decode cX12_template 76 = .ok (.getfield 7, 3) := by decide +kernel
theorem dX12_template_79 : decode cX12_template 79 = .ok (.iload 4, 2) := by decide +kernel
theorem dX12_template_81 : decode cX12_template 81 = .ok (.iaload, 1) := by decide +kernel
theorem dX12_template_82 : decode cX12_template 82 = .ok (.iastore, 1) := by decide +kernel
theorem dX12_template_83 : decode cX12_template 83 = .ok (.iinc 4 1, 3) := by decide +kernel
theorem dX12_template_86 : decode cX12_template 86 = .ok (.goto (-28), 3) := by decide +kernel
theorem dX12_template_89 : decode cX12_template 89 = .ok (.iload_n 3, 1) := by decide +kernel
theorem dX12_template_90 : decode cX12_template 90 = .ok (.ireturn, 1) := by decide +kernel
theorem dX12_wordEnd_0 : decode cX12_wordEnd 0 = .ok (.iload_n 1, 1) := by decide +kernel
theorem dX12_wordEnd_1 : decode cX12_wordEnd 1 = .ok (.istore_n 2, 1) := by decide +kernel
theorem dX12_wordEnd_2 : decode cX12_wordEnd 2 = .ok (.iload_n 2, 1) := by decide +kernel
theorem dX12_wordEnd_3 : decode cX12_wordEnd 3 = .ok (.aload_n 0, 1) := by decide +kernel
theorem dX12_wordEnd_4 : decode cX12_wordEnd 4 = .ok (.getfield 125, 3) := by decide +kernel
theorem dX12_wordEnd_7 : decode cX12_wordEnd 7 = .ok (.if_icmp .ge 32, 3) := by decide +kernel
theorem dX12_wordEnd_10 : decode cX12_wordEnd 10 = .ok (.aload_n 0, 1) := by decide +kernel
theorem dX12_wordEnd_11 : decode cX12_wordEnd 11 = .ok (.getfield 7, 3) := by decide +kernel
theorem dX12_wordEnd_14 : decode cX12_wordEnd 14 = .ok (.iload_n 2, 1) := by decide +kernel
theorem dX12_wordEnd_15 : decode cX12_wordEnd 15 = .ok (.iaload, 1) := by decide +kernel
theorem dX12_wordEnd_16 : decode cX12_wordEnd 16 = .ok (.bipush 44, 2) := by decide +kernel
theorem dX12_wordEnd_18 : decode cX12_wordEnd 18 = .ok (.if_icmp .eq 21, 3) := by decide +kernel
theorem dX12_wordEnd_21 : decode cX12_wordEnd 21 = .ok (.iload_n 2, 1) := by decide +kernel
theorem dX12_wordEnd_22 : decode cX12_wordEnd 22 = .ok (.iload_n 1, 1) := by decide +kernel
theorem dX12_wordEnd_23 : decode cX12_wordEnd 23 = .ok (.bipush 12, 2) := by decide +kernel
theorem dX12_wordEnd_25 : decode cX12_wordEnd 25 = .ok (.iadd, 1) := by decide +kernel
theorem dX12_wordEnd_26 : decode cX12_wordEnd 26 = .ok (.if_icmp .ne 7, 3) := by decide +kernel
theorem dX12_wordEnd_29 : decode cX12_wordEnd 29 = .ok (.iconst (-1), 1) := by decide +kernel
theorem dX12_wordEnd_30 : decode cX12_wordEnd 30 = .ok (.iload_n 2, 1) := by decide +kernel
theorem dX12_wordEnd_31 : decode cX12_wordEnd 31 = .ok (.isub, 1) := by decide +kernel
theorem dX12_wordEnd_32 : decode cX12_wordEnd 32 = .ok (.ireturn, 1) := by decide +kernel
theorem dX12_wordEnd_33 : decode cX12_wordEnd 33 = .ok (.iinc 2 1, 3) := by decide +kernel
theorem dX12_wordEnd_36 : decode cX12_wordEnd 36 = .ok (.goto (-34), 3) := by decide +kernel
theorem dX12_wordEnd_39 : decode cX12_wordEnd 39 = .ok (.iload_n 2, 1) := by decide +kernel
theorem dX12_wordEnd_40 : decode cX12_wordEnd 40 = .ok (.iload_n 1, 1) := by decide +kernel
theorem dX12_wordEnd_41 : decode cX12_wordEnd 41 = .ok (.if_icmp .eq 11, 3) := by decide +kernel
theorem dX12_wordEnd_44 : decode cX12_wordEnd 44 = .ok (.iload_n 2, 1) := by decide +kernel
theorem dX12_wordEnd_45 : decode cX12_wordEnd 45 = .ok (.aload_n 0, 1) := by decide +kernel
theorem dX12_wordEnd_46 : decode cX12_wordEnd 46 = .ok (.getfield 125, 3) := by decide +kernel
theorem dX12_wordEnd_49 : decode cX12_wordEnd 49 = .ok (.if_icmp .ne 9, 3) := by decide +kernel
theorem dX12_wordEnd_52 : decode cX12_wordEnd 52 = .ok (.iconst (-1), 1) := by decide +kernel
theorem dX12_wordEnd_53 : decode cX12_wordEnd 53 = .ok (.iload_n 2, 1) := by decide +kernel
theorem dX12_wordEnd_54 : decode cX12_wordEnd 54 = .ok (.isub, 1) := by decide +kernel
theorem dX12_wordEnd_55 : decode cX12_wordEnd 55 = .ok (.goto 4, 3) := by decide +kernel
theorem dX12_wordEnd_58 : decode cX12_wordEnd 58 = .ok (.iload_n 2, 1) := by decide +kernel
theorem dX12_wordEnd_59 : decode cX12_wordEnd 59 = .ok (.ireturn, 1) := by decide +kernel
theorem dX12_digitsEnd_0 : decode cX12_digitsEnd 0 = .ok (.iload_n 1, 1) := by decide +kernel
theorem dX12_digitsEnd_1 : decode cX12_digitsEnd 1 = .ok (.istore_n 3, 1) := by decide +kernel
theorem dX12_digitsEnd_2 : decode cX12_digitsEnd 2 = .ok (.iload_n 3, 1) := by decide +kernel
theorem dX12_digitsEnd_3 : decode cX12_digitsEnd 3 = .ok (.iload_n 1, 1) := by decide +kernel
theorem dX12_digitsEnd_4 : decode cX12_digitsEnd 4 = .ok (.iload_n 2, 1) := by decide +kernel
theorem dX12_digitsEnd_5 : decode cX12_digitsEnd 5 = .ok (.iadd, 1) := by decide +kernel
theorem dX12_digitsEnd_6 : decode cX12_digitsEnd 6 = .ok (.if_icmp .ge 20, 3) := by decide +kernel
theorem dX12_digitsEnd_9 : decode cX12_digitsEnd 9 = .ok (.aload_n 0, 1) := by decide +kernel
theorem dX12_digitsEnd_10 : decode cX12_digitsEnd 10 = .ok (.iload_n 3, 1) := by decide +kernel
theorem dX12_digitsEnd_11 : decode cX12_digitsEnd 11 = .ok (.invokevirtual 132, 3) := by decide +kernel
theorem dX12_digitsEnd_14 : decode cX12_digitsEnd 14 = .ok (.invokestatic 142, 3) := by decide +kernel
theorem dX12_digitsEnd_17 : decode cX12_digitsEnd 17 = .ok (.ifCond .eq 9, 3) := by decide +kernel
theorem dX12_digitsEnd_20 : decode cX12_digitsEnd 20 = .ok (.iinc 3 1, 3) := by decide +kernel
theorem dX12_digitsEnd_23 : decode cX12_digitsEnd 23 = .ok (.goto (-21), 3) := by decide +kernel
theorem dX12_digitsEnd_26 : decode cX12_digitsEnd 26 = .ok (.iload_n 3, 1) := by decide +kernel
theorem dX12_digitsEnd_27 : decode cX12_digitsEnd 27 = .ok (.iload_n 1, 1) := by decide +kernel
theorem dX12_digitsEnd_28 : decode cX12_digitsEnd 28 = .ok (.if_icmp .ne 9, 3) := by decide +kernel
theorem dX12_digitsEnd_31 : decode cX12_digitsEnd 31 = .ok (.iconst (-1), 1) := by decide +kernel
theorem dX12_digitsEnd_32 : decode cX12_digitsEnd 32 = .ok (.iload_n 3, 1) := by decide +kernel
theorem dX12_digitsEnd_33 : decode cX12_digitsEnd 33 = .ok (.isub, 1) := by decide +kernel
theorem dX12_digitsEnd_34 : decode cX12_digitsEnd 34 = .ok (.goto 4, 3) := by decide +kernel
theorem dX12_digitsEnd_37 : decode cX12_digitsEnd 37 = .ok (.iload_n 3, 1) := by decide +kernel
theorem dX12_digitsEnd_38 : decode cX12_digitsEnd 38 = .ok (.ireturn, 1) := by decide +kernel
theorem dX12_number_0 : decode cX12_number 0 = .ok (.iconst 0, 1) := by decide +kernel
theorem dX12_number_1 : decode cX12_number 1 = .ok (.istore_n 3, 1) := by decide +kernel
theorem dX12_number_2 : decode cX12_number 2 = .ok (.iload_n 1, 1) := by decide +kernel
theorem dX12_number_3 : decode cX12_number 3 = .ok (.istore 4, 2) := by decide +kernel
theorem dX12_number_5 : decode cX12_number 5 = .ok (.iload 4, 2) := by decide +kernel
theorem dX12_number_7 : decode cX12_number 7 = .ok (.iload_n 2, 1) := by decide +kernel
theorem dX12_number_8 : decode cX12_number 8 = .ok (.if_icmp .ge 25, 3) := by decide +kernel
theorem dX12_number_11 : decode cX12_number 11 = .ok (.bipush 10, 2) := by decide +kernel
theorem dX12_number_13 : decode cX12_number 13 = .ok (.iload_n 3, 1) := by decide +kernel
theorem dX12_number_14 : decode cX12_number 14 = .ok (.imul, 1) := by decide +kernel
theorem dX12_number_15 : decode cX12_number 15 = .ok (.aload_n 0, 1) := by decide +kernel
theorem dX12_number_16 : decode cX12_number 16 = .ok (.getfield 7, 3) := by decide +kernel
theorem dX12_number_19 : decode cX12_number 19 = .ok (.iload 4, 2) := by decide +kernel
theorem dX12_number_21 : decode cX12_number 21 = .ok (.iaload, 1) := by decide +kernel
theorem dX12_number_22 : decode cX12_number 22 = .ok (.iadd, 1) := by decide +kernel
theorem dX12_number_23 : decode cX12_number 23 = .ok (.bipush 48, 2) := by decide +kernel
theorem dX12_number_25 : decode cX12_number 25 = .ok (.isub, 1) := by decide +kernel
theorem dX12_number_26 : decode cX12_number 26 = .ok (.istore_n 3, 1) := by decide +kernel
theorem dX12_number_27 : decode cX12_number 27 = .ok (.iinc 4 1, 3) := by decide +kernel
theorem dX12_number_30 : decode cX12_number 30 = .ok (.goto (-25), 3) := by decide +kernel
theorem dX12_number_33 : decode cX12_number 33 = .ok (.iload_n 3, 1) := by decide +kernel
theorem dX12_number_34 : decode cX12_number 34 = .ok (.ireturn, 1) := by decide +kernel
theorem dX12_clean_0 : decode cX12_clean 0 = .ok (.iload_n 0, 1) := by decide +kernel
theorem dX12_clean_1 : decode cX12_clean 1 = .ok (.bipush 65, 2) := by decide +kernel
theorem dX12_clean_3 : decode cX12_clean 3 = .ok (.if_icmp .lt 14, 3) := by decide +kernel
theorem dX12_clean_6 : decode cX12_clean 6 = .ok (.iload_n 0, 1) := by decide +kernel
theorem dX12_clean_7 : decode cX12_clean 7 = .ok (.bipush 90, 2) := by decide +kernel
theorem dX12_clean_9 : decode cX12_clean 9 = .ok (.if_icmp .gt 8, 3) := by decide +kernel
theorem dX12_clean_12 : decode cX12_clean 12 = .ok (.iload_n 0, 1) := by decide +kernel
theorem dX12_clean_13 : decode cX12_clean 13 = .ok (.bipush 32, 2) := by decide +kernel
theorem dX12_clean_15 : decode cX12_clean 15 = .ok (.iadd, 1) := by decide +kernel
theorem dX12_clean_16 : decode cX12_clean 16 = .ok (.ireturn, 1) := by decide +kernel
theorem dX12_clean_17 : decode cX12_clean 17 = .ok (.iload_n 0, 1) := by decide +kernel
theorem dX12_clean_18 : decode cX12_clean 18 = .ok (.bipush 97, 2) := by decide +kernel
theorem dX12_clean_20 : decode cX12_clean 20 = .ok (.if_icmp .lt 9, 3) := by decide +kernel
theorem dX12_clean_23 : decode cX12_clean 23 = .ok (.iload_n 0, 1) := by decide +kernel
theorem dX12_clean_24 : decode cX12_clean 24 = .ok (.bipush 122, 2) := by decide +kernel
theorem dX12_clean_26 : decode cX12_clean 26 = .ok (.if_icmp .le 10, 3) := by decide +kernel
theorem dX12_clean_29 : decode cX12_clean 29 = .ok (.iload_n 0, 1) := by decide +kernel
theorem dX12_clean_30 : decode cX12_clean 30 = .ok (.invokestatic 142, 3) := by decide +kernel
theorem dX12_clean_33 : decode cX12_clean 33 = .ok (.ifCond .eq 7, 3) := by decide +kernel
theorem dX12_clean_36 : decode cX12_clean 36 = .ok (.iload_n 0, 1) := by decide +kernel
theorem dX12_clean_37 : decode cX12_clean 37 = .ok (.goto 4, 3) := by decide +kernel
theorem dX12_clean_40 : decode cX12_clean 40 = .ok (.iconst (-1), 1) := by decide +kernel
theorem dX12_clean_41 : decode cX12_clean 41 = .ok (.ireturn, 1) := by decide +kernel
theorem dX12_lay_0 : decode cX12_lay 0 = .ok (.iconst 0, 1) := by decide +kernel
theorem dX12_lay_1 : decode cX12_lay 1 = .ok (.istore 6, 2) := by decide +kernel
theorem dX12_lay_3 : decode cX12_lay 3 = .ok (.iload_n 3, 1) := by decide +kernel
theorem dX12_lay_4 : decode cX12_lay 4 = .ok (.istore 7, 2) := by decide +kernel
theorem dX12_lay_6 : decode cX12_lay 6 = .ok (.iload 7, 2) := by decide +kernel
theorem dX12_lay_8 : decode cX12_lay 8 = .ok (.iload 4, 2) := by decide +kernel
theorem dX12_lay_10 : decode cX12_lay 10 = .ok (.if_icmp .ge 56, 3) := by decide +kernel
theorem dX12_lay_13 : decode cX12_lay 13 = .ok (.iload 5, 2) := by decide +kernel
theorem dX12_lay_15 : decode cX12_lay 15 = .ok (.ifCond .eq 16, 3) := by decide +kernel
theorem dX12_lay_18 : decode cX12_lay 18 = .ok (.aload_n 0, 1) := by decide +kernel
theorem dX12_lay_19 : decode cX12_lay 19 = .ok (.getfield 7, 3) := by decide +kernel
theorem dX12_lay_22 : decode cX12_lay 22 = .ok (.iload 7, 2) := by decide +kernel
theorem dX12_lay_24 : decode cX12_lay 24 = .ok (.iaload, 1) := by decide +kernel
theorem dX12_lay_25 : decode cX12_lay 25 = .ok (.invokestatic 149, 3) := by decide +kernel
theorem dX12_lay_28 : decode cX12_lay 28 = .ok (.goto 10, 3) := by decide +kernel
theorem dX12_lay_31 : decode cX12_lay 31 = .ok (.aload_n 0, 1) := by decide +kernel
theorem dX12_lay_32 : decode cX12_lay 32 = .ok (.getfield 7, 3) := by decide +kernel
theorem dX12_lay_35 : decode cX12_lay 35 = .ok (.iload 7, 2) := by decide +kernel
theorem dX12_lay_37 : decode cX12_lay 37 = .ok (.iaload, 1) := by decide +kernel
theorem dX12_lay_38 : decode cX12_lay 38 = .ok (.istore 8, 2) := by decide +kernel
theorem dX12_lay_40 : decode cX12_lay 40 = .ok (.iload 8, 2) := by decide +kernel
theorem dX12_lay_42 : decode cX12_lay 42 = .ok (.iconst (-1), 1) := by decide +kernel
theorem dX12_lay_43 : decode cX12_lay 43 = .ok (.if_icmp .eq 17, 3) := by decide +kernel
theorem dX12_lay_46 : decode cX12_lay 46 = .ok (.aload_n 1, 1) := by decide +kernel
theorem dX12_lay_47 : decode cX12_lay 47 = .ok (.bipush 12, 2) := by decide +kernel
theorem dX12_lay_49 : decode cX12_lay 49 = .ok (.iload_n 2, 1) := by decide +kernel
theorem dX12_lay_50 : decode cX12_lay 50 = .ok (.imul, 1) := by decide +kernel
theorem dX12_lay_51 : decode cX12_lay 51 = .ok (.iload 6, 2) := by decide +kernel
theorem dX12_lay_53 : decode cX12_lay 53 = .ok (.iadd, 1) := by decide +kernel
theorem dX12_lay_54 : decode cX12_lay 54 = .ok (.iload 8, 2) := by decide +kernel
theorem dX12_lay_56 : decode cX12_lay 56 = .ok (.iastore, 1) := by decide +kernel
theorem dX12_lay_57 : decode cX12_lay 57 = .ok (.iinc 6 1, 3) := by decide +kernel
theorem dX12_lay_60 : decode cX12_lay 60 = .ok (.iinc 7 1, 3) := by decide +kernel
theorem dX12_lay_63 : decode cX12_lay 63 = .ok (.goto (-57), 3) := by decide +kernel
theorem dX12_lay_66 : decode cX12_lay 66 = .ok (.iload 6, 2) := by decide +kernel
theorem dX12_lay_68 : decode cX12_lay 68 = .ok (.ireturn, 1) := by decide +kernel
theorem dX12_readAddress_0 : decode cX12_readAddress 0 = .ok (.aload_n 0, 1) := by decide +kernel
theorem dX12_readAddress_1 : decode cX12_readAddress 1 = .ok (.iconst 0, 1) := by decide +kernel
theorem dX12_readAddress_2 : decode cX12_readAddress 2 = .ok (.invokevirtual 152, 3) := by decide +kernel
theorem dX12_readAddress_5 : decode cX12_readAddress 5 = .ok (.istore_n 2, 1) := by decide +kernel
theorem dX12_readAddress_6 : decode cX12_readAddress 6 = .ok (.iload_n 2, 1) := by decide +kernel
theorem dX12_readAddress_7 : decode cX12_readAddress 7 = .ok (.ifCond .ge 7, 3) := by decide +kernel
theorem dX12_readAddress_10 : decode cX12_readAddress 10 = .ok (.iconst (-1), 1) := by decide +kernel
theorem dX12_readAddress_11 : decode cX12_readAddress 11 = .ok (.iload_n 2, 1) := by decide +kernel
theorem dX12_readAddress_12 : decode cX12_readAddress 12 = .ok (.isub, 1) := by decide +kernel
theorem dX12_readAddress_13 : decode cX12_readAddress 13 = .ok (.ireturn, 1) := by decide +kernel
theorem dX12_readAddress_14 : decode cX12_readAddress 14 = .ok (.aload_n 0, 1) := by decide +kernel
theorem dX12_readAddress_15 : decode cX12_readAddress 15 = .ok (.iload_n 2, 1) := by decide +kernel
theorem dX12_readAddress_16 : decode cX12_readAddress 16 = .ok (.iconst 1, 1) := by decide +kernel
theorem dX12_readAddress_17 : decode cX12_readAddress 17 = .ok (.iadd, 1) := by decide +kernel
theorem dX12_readAddress_18 : decode cX12_readAddress 18 = .ok (.invokevirtual 152, 3) := by decide +kernel
theorem dX12_readAddress_21 : decode cX12_readAddress 21 = .ok (.istore_n 3, 1) := by decide +kernel
theorem dX12_readAddress_22 : decode cX12_readAddress 22 = .ok (.iload_n 3, 1) := by decide +kernel
theorem dX12_readAddress_23 : decode cX12_readAddress 23 = .ok (.ifCond .ge 7, 3) := by decide +kernel
theorem dX12_readAddress_26 : decode cX12_readAddress 26 = .ok (.iconst (-1), 1) := by decide +kernel
theorem dX12_readAddress_27 : decode cX12_readAddress 27 = .ok (.iload_n 3, 1) := by decide +kernel
theorem dX12_readAddress_28 : decode cX12_readAddress 28 = .ok (.isub, 1) := by decide +kernel
theorem dX12_readAddress_29 : decode cX12_readAddress 29 = .ok (.ireturn, 1) := by decide +kernel
theorem dX12_readAddress_30 : decode cX12_readAddress 30 = .ok (.aload_n 0, 1) := by decide +kernel
theorem dX12_readAddress_31 : decode cX12_readAddress 31 = .ok (.iload_n 3, 1) := by decide +kernel
theorem dX12_readAddress_32 : decode cX12_readAddress 32 = .ok (.iconst 1, 1) := by decide +kernel
theorem dX12_readAddress_33 : decode cX12_readAddress 33 = .ok (.iadd, 1) := by decide +kernel
theorem dX12_readAddress_34 : decode cX12_readAddress 34 = .ok (.iconst 3, 1) := by decide +kernel
theorem dX12_readAddress_35 : decode cX12_readAddress 35 = .ok (.invokevirtual 155, 3) := by decide +kernel
theorem dX12_readAddress_38 : decode cX12_readAddress 38 = .ok (.istore 4, 2) := by decide +kernel
theorem dX12_readAddress_40 : decode cX12_readAddress 40 = .ok (.iload 4, 2) := by decide +kernel
theorem dX12_readAddress_42 : decode cX12_readAddress 42 = .ok (.ifCond .lt 14, 3) := by decide +kernel
theorem dX12_readAddress_45 : decode cX12_readAddress 45 = .ok (.aload_n 0, 1) := by decide +kernel
theorem dX12_readAddress_46 : decode cX12_readAddress 46 = .ok (.iload 4, 2) := by decide +kernel
theorem dX12_readAddress_48 : decode cX12_readAddress 48 = .ok (.invokevirtual 132, 3) := by decide +kernel
theorem dX12_readAddress_51 : decode cX12_readAddress 51 = .ok (.bipush 44, 2) := by decide +kernel
theorem dX12_readAddress_53 : decode cX12_readAddress 53 = .ok (.if_icmp .eq 18, 3) := by decide +kernel
theorem dX12_readAddress_56 : decode cX12_readAddress 56 = .ok (.iload 4, 2) := by decide +kernel
theorem dX12_readAddress_58 : decode cX12_readAddress 58 = .ok (.ifCond .ge 10, 3) := by decide +kernel
theorem dX12_readAddress_61 : decode cX12_readAddress 61 = .ok (.iconst (-1), 1) := by decide +kernel
theorem dX12_readAddress_62 : decode cX12_readAddress 62 = .ok (.iload 4, 2) := by decide +kernel
theorem dX12_readAddress_64 : decode cX12_readAddress 64 = .ok (.isub, 1) := by decide +kernel
theorem dX12_readAddress_65 : decode cX12_readAddress 65 = .ok (.goto 5, 3) := by decide +kernel
theorem dX12_readAddress_68 : decode cX12_readAddress 68 = .ok (.iload 4, 2) := by decide +kernel
theorem dX12_readAddress_70 : decode cX12_readAddress 70 = .ok (.ireturn, 1) := by decide +kernel
theorem dX12_readAddress_71 : decode cX12_readAddress 71 = .ok (.aload_n 0, 1) := by decide +kernel
theorem dX12_readAddress_72 : decode cX12_readAddress 72 = .ok (.iload 4, 2) := by decide +kernel
theorem dX12_readAddress_74 : decode cX12_readAddress 74 = .ok (.iconst 1, 1) := by decide +kernel
theorem dX12_readAddress_75 : decode cX12_readAddress 75 = .ok (.iadd, 1) := by decide +kernel
theorem dX12_readAddress_76 : decode cX12_readAddress 76 = .ok (.invokevirtual 132, 3) := by decide +kernel
theorem dX12_readAddress_79 : decode cX12_readAddress 79 = .ok (.bipush 48, 2) := by decide +kernel
theorem dX12_readAddress_81 : decode cX12_readAddress 81 = .ok (.if_icmp .lt 16, 3) := by decide +kernel
theorem dX12_readAddress_84 : decode cX12_readAddress 84 = .ok (.aload_n 0, 1) := by decide +kernel
theorem dX12_readAddress_85 : decode cX12_readAddress 85 = .ok (.iload 4, 2) := by decide +kernel
theorem dX12_readAddress_87 : decode cX12_readAddress 87 = .ok (.iconst 1, 1) := by decide +kernel
theorem dX12_readAddress_88 : decode cX12_readAddress 88 = .ok (.iadd, 1) := by decide +kernel
theorem dX12_readAddress_89 : decode cX12_readAddress 89 = .ok (.invokevirtual 132, 3) := by decide +kernel
theorem dX12_readAddress_92 : decode cX12_readAddress 92 = .ok (.bipush 53, 2) := by decide +kernel
theorem dX12_readAddress_94 : decode cX12_readAddress 94 = .ok (.if_icmp .le 8, 3) := by decide +kernel
theorem dX12_readAddress_97 : decode cX12_readAddress 97 = .ok (.iload 4, 2) := by decide +kernel
theorem dX12_readAddress_99 : decode cX12_readAddress 99 = .ok (.iconst 1, 1) := by decide +kernel
theorem dX12_readAddress_100 : decode cX12_readAddress 100 = .ok (.iadd, 1) := by decide +kernel
theorem dX12_readAddress_101 : decode cX12_readAddress 101 = .ok (.ireturn, 1) := by decide +kernel
theorem dX12_readAddress_102 : decode cX12_readAddress 102 = .ok (.aload_n 0, 1) := by decide +kernel
theorem dX12_readAddress_103 : decode cX12_readAddress 103 = .ok (.iload 4, 2) := by decide +kernel
theorem dX12_readAddress_105 : decode cX12_readAddress 105 = .ok (.iconst 2, 1) := by decide +kernel
theorem dX12_readAddress_106 : decode cX12_readAddress 106 = .ok (.iadd, 1) := by decide +kernel
theorem dX12_readAddress_107 : decode cX12_readAddress 107 = .ok (.invokevirtual 132, 3) := by decide +kernel
theorem dX12_readAddress_110 : decode cX12_readAddress 110 = .ok (.bipush 44, 2) := by decide +kernel
theorem dX12_readAddress_112 : decode cX12_readAddress 112 = .ok (.if_icmp .eq 8, 3) := by decide +kernel
theorem dX12_readAddress_115 : decode cX12_readAddress 115 = .ok (.iload 4, 2) := by decide +kernel
theorem dX12_readAddress_117 : decode cX12_readAddress 117 = .ok (.iconst 2, 1) := by decide +kernel
theorem dX12_readAddress_118 : decode cX12_readAddress 118 = .ok (.iadd, 1) := by decide +kernel
theorem dX12_readAddress_119 : decode cX12_readAddress 119 = .ok (.ireturn, 1) := by decide +kernel
theorem dX12_readAddress_120 : decode cX12_readAddress 120 = .ok (.aload_n 0, 1) := by decide +kernel
theorem dX12_readAddress_121 : decode cX12_readAddress 121 = .ok (.iload 4, 2) := by decide +kernel
theorem dX12_readAddress_123 : decode cX12_readAddress 123 = .ok (.iconst 3, 1) := by decide +kernel
