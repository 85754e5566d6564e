theorem dX11_letter_31 : decode cX11_letter 31 = .ok (.aaload, 1) := by decide +kernel
theorem dX11_letter_32 : decode cX11_letter 32 = .ok (.iload_n 2, 1) := by decide +kernel
theorem dX11_letter_33 : decode cX11_letter 33 = .ok (.invokevirtual 208, 3) := by decide +kernel
theorem dX11_letter_36 : decode cX11_letter 36 = .ok (.astore 4, 2) := by decide +kernel
theorem dX11_letter_38 : decode cX11_letter 38 = .ok (.iload_n 3, 1) := by decide +kernel
theorem dX11_letter_39 : decode cX11_letter 39 = .ok (.ifCond .ne 9, 3) := by decide +kernel
theorem dX11_letter_42 : decode cX11_letter 42 = .ok (.aload 4, 2) := by decide +kernel
theorem dX11_letter_44 : decode cX11_letter 44 = .ok (.getfield 212, 3) := by decide +kernel
theorem dX11_letter_47 : decode cX11_letter 47 = .ok (.ireturn, 1) := by decide +kernel
theorem dX11_letter_48 : decode cX11_letter 48 = .ok (.iload_n 3, 1) := by decide +kernel
theorem dX11_letter_49 : decode cX11_letter 49 = .ok (.iconst 1, 1) := by decide +kernel
theorem dX11_letter_50 : decode cX11_letter 50 = .ok (.if_icmp .ne 9, 3) := by decide +kernel
theorem dX11_letter_53 : decode cX11_letter 53 = .ok (.aload 4, 2) := by decide +kernel
theorem dX11_letter_55 : decode cX11_letter 55 = .ok (.getfield 217, 3) := by decide +kernel
theorem dX11_letter_58 : decode cX11_letter 58 = .ok (.ireturn, 1) := by decide +kernel
theorem dX11_letter_59 : decode cX11_letter 59 = .ok (.aload 4, 2) := by decide +kernel
theorem dX11_letter_61 : decode cX11_letter 61 = .ok (.getfield 217, 3) := by decide +kernel
theorem dX11_letter_64 : decode cX11_letter 64 = .ok (.ifCond .eq 5, 3) := by decide +kernel
theorem dX11_letter_67 : decode cX11_letter 67 = .ok (.iconst (-1), 1) := by decide +kernel
theorem dX11_letter_68 : decode cX11_letter 68 = .ok (.ireturn, 1) := by decide +kernel
theorem dX11_letter_69 : decode cX11_letter 69 = .ok (.iload_n 3, 1) := by decide +kernel
theorem dX11_letter_70 : decode cX11_letter 70 = .ok (.iconst 2, 1) := by decide +kernel
theorem dX11_letter_71 : decode cX11_letter 71 = .ok (.if_icmp .ne 14, 3) := by decide +kernel
theorem dX11_letter_74 : decode cX11_letter 74 = .ok (.aload 4, 2) := by decide +kernel
theorem dX11_letter_76 : decode cX11_letter 76 = .ok (.getfield 220, 3) := by decide +kernel
theorem dX11_letter_79 : decode cX11_letter 79 = .ok (.getfield 66, 3) := by decide +kernel
theorem dX11_letter_82 : decode cX11_letter 82 = .ok (.goto 21, 3) := by decide +kernel
theorem dX11_letter_85 : decode cX11_letter 85 = .ok (.iload_n 3, 1) := by decide +kernel
theorem dX11_letter_86 : decode cX11_letter 86 = .ok (.iconst 3, 1) := by decide +kernel
theorem dX11_letter_87 : decode cX11_letter 87 = .ok (.if_icmp .ne 11, 3) := by decide +kernel
theorem dX11_letter_90 : decode cX11_letter 90 = .ok (.aload 4, 2) := by decide +kernel
theorem dX11_letter_92 : decode cX11_letter 92 = .ok (.getfield 223, 3) := by decide +kernel
theorem dX11_letter_95 : decode cX11_letter 95 = .ok (.goto 8, 3) := by decide +kernel
theorem dX11_letter_98 : decode cX11_letter 98 = .ok (.aload 4, 2) := by decide +kernel
theorem dX11_letter_100 : decode cX11_letter 100 = .ok (.getfield 226, 3) := by decide +kernel
theorem dX11_letter_103 : decode cX11_letter 103 = .ok (.ireturn, 1) := by decide +kernel
theorem dX11_sign_0 : decode cX11_sign 0 = .ok (.aload_n 0, 1) := by decide +kernel
theorem dX11_sign_1 : decode cX11_sign 1 = .ok (.iload_n 1, 1) := by decide +kernel
theorem dX11_sign_2 : decode cX11_sign 2 = .ok (.iload_n 2, 1) := by decide +kernel
theorem dX11_sign_3 : decode cX11_sign 3 = .ok (.invokevirtual 203, 3) := by decide +kernel
theorem dX11_sign_6 : decode cX11_sign 6 = .ok (.iload_n 3, 1) := by decide +kernel
theorem dX11_sign_7 : decode cX11_sign 7 = .ok (.ifCond .ge 13, 3) := by decide +kernel
theorem dX11_sign_10 : decode cX11_sign 10 = .ok (.new 102, 3) := by decide +kernel
theorem dX11_sign_13 : decode cX11_sign 13 = .ok (.dup, 1) := by decide +kernel
theorem dX11_sign_14 : decode cX11_sign 14 = .ok (.ldc 119, 2) := by decide +kernel
theorem dX11_sign_16 : decode cX11_sign 16 = .ok (.invokespecial 106, 3) := by decide +kernel
theorem dX11_sign_19 : decode cX11_sign 19 = .ok (.athrow, 1) := by decide +kernel
theorem dX11_sign_20 : decode cX11_sign 20 = .ok (.aload_n 0, 1) := by decide +kernel
theorem dX11_sign_21 : decode cX11_sign 21 = .ok (.aload_n 0, 1) := by decide +kernel
theorem dX11_sign_22 : decode cX11_sign 22 = .ok (.getfield 46, 3) := by decide +kernel
theorem dX11_sign_25 : decode cX11_sign 25 = .ok (.iload_n 1, 1) := by decide +kernel
theorem dX11_sign_26 : decode cX11_sign 26 = .ok (.aaload, 1) := by decide +kernel
theorem dX11_sign_27 : decode cX11_sign 27 = .ok (.iload_n 2, 1) := by decide +kernel
theorem dX11_sign_28 : decode cX11_sign 28 = .ok (.invokevirtual 208, 3) := by decide +kernel
theorem dX11_sign_31 : decode cX11_sign 31 = .ok (.astore 4, 2) := by decide +kernel
theorem dX11_sign_33 : decode cX11_sign 33 = .ok (.aload 4, 2) := by decide +kernel
theorem dX11_sign_35 : decode cX11_sign 35 = .ok (.getfield 217, 3) := by decide +kernel
theorem dX11_sign_38 : decode cX11_sign 38 = .ok (.ifCond .eq 7, 3) := by decide +kernel
theorem dX11_sign_41 : decode cX11_sign 41 = .ok (.iconst 0, 1) := by decide +kernel
theorem dX11_sign_42 : decode cX11_sign 42 = .ok (.goto 12, 3) := by decide +kernel
theorem dX11_sign_45 : decode cX11_sign 45 = .ok (.aload 4, 2) := by decide +kernel
theorem dX11_sign_47 : decode cX11_sign 47 = .ok (.getfield 220, 3) := by decide +kernel
theorem dX11_sign_50 : decode cX11_sign 50 = .ok (.iload_n 3, 1) := by decide +kernel
theorem dX11_sign_51 : decode cX11_sign 51 = .ok (.invokevirtual 131, 3) := by decide +kernel
theorem dX11_sign_54 : decode cX11_sign 54 = .ok (.ireturn, 1) := by decide +kernel
theorem dX11_anew_0 : decode cX11_anew 0 = .ok (.aload_n 0, 1) := by decide +kernel
theorem dX11_anew_1 : decode cX11_anew 1 = .ok (.iload_n 1, 1) := by decide +kernel
theorem dX11_anew_2 : decode cX11_anew 2 = .ok (.iload_n 2, 1) := by decide +kernel
theorem dX11_anew_3 : decode cX11_anew 3 = .ok (.invokevirtual 203, 3) := by decide +kernel
theorem dX11_anew_6 : decode cX11_anew 6 = .ok (.aload_n 0, 1) := by decide +kernel
theorem dX11_anew_7 : decode cX11_anew 7 = .ok (.aload_n 0, 1) := by decide +kernel
theorem dX11_anew_8 : decode cX11_anew 8 = .ok (.getfield 46, 3) := by decide +kernel
theorem dX11_anew_11 : decode cX11_anew 11 = .ok (.iload_n 1, 1) := by decide +kernel
theorem dX11_anew_12 : decode cX11_anew 12 = .ok (.aaload, 1) := by decide +kernel
theorem dX11_anew_13 : decode cX11_anew 13 = .ok (.iload_n 2, 1) := by decide +kernel
theorem dX11_anew_14 : decode cX11_anew 14 = .ok (.invokevirtual 208, 3) := by decide +kernel
theorem dX11_anew_17 : decode cX11_anew 17 = .ok (.astore_n 3, 1) := by decide +kernel
theorem dX11_anew_18 : decode cX11_anew 18 = .ok (.aload_n 3, 1) := by decide +kernel
theorem dX11_anew_19 : decode cX11_anew 19 = .ok (.getfield 217, 3) := by decide +kernel
theorem dX11_anew_22 : decode cX11_anew 22 = .ok (.ifCond .eq 5, 3) := by decide +kernel
theorem dX11_anew_25 : decode cX11_anew 25 = .ok (.iconst 0, 1) := by decide +kernel
theorem dX11_anew_26 : decode cX11_anew 26 = .ok (.ireturn, 1) := by decide +kernel
theorem dX11_anew_27 : decode cX11_anew 27 = .ok (.aload_n 0, 1) := by decide +kernel
theorem dX11_anew_28 : decode cX11_anew 28 = .ok (.aload_n 0, 1) := by decide +kernel
theorem dX11_anew_29 : decode cX11_anew 29 = .ok (.getfield 46, 3) := by decide +kernel
theorem dX11_anew_32 : decode cX11_anew 32 = .ok (.iload_n 1, 1) := by decide +kernel
theorem dX11_anew_33 : decode cX11_anew 33 = .ok (.aaload, 1) := by decide +kernel
theorem dX11_anew_34 : decode cX11_anew 34 = .ok (.getfield 190, 3) := by decide +kernel
theorem dX11_anew_37 : decode cX11_anew 37 = .ok (.aload_n 3, 1) := by decide +kernel
theorem dX11_anew_38 : decode cX11_anew 38 = .ok (.getfield 212, 3) := by decide +kernel
theorem dX11_anew_41 : decode cX11_anew 41 = .ok (.invokevirtual 229, 3) := by decide +kernel
theorem dX11_anew_44 : decode cX11_anew 44 = .ok (.astore 4, 2) := by decide +kernel
theorem dX11_anew_46 : decode cX11_anew 46 = .ok (.aload 4, 2) := by decide +kernel
theorem dX11_anew_48 : decode cX11_anew 48 = .ok (.getfield 217, 3) := by decide +kernel
theorem dX11_anew_51 : decode cX11_anew 51 = .ok (.ifCond .eq 7, 3) := by decide +kernel
theorem dX11_anew_54 : decode cX11_anew 54 = .ok (.iconst (-1), 1) := by decide +kernel
theorem dX11_anew_55 : decode cX11_anew 55 = .ok (.goto 15, 3) := by decide +kernel
theorem dX11_anew_58 : decode cX11_anew 58 = .ok (.aload_n 3, 1) := by decide +kernel
theorem dX11_anew_59 : decode cX11_anew 59 = .ok (.getfield 220, 3) := by decide +kernel
theorem dX11_anew_62 : decode cX11_anew 62 = .ok (.aload 4, 2) := by decide +kernel
theorem dX11_anew_64 : decode cX11_anew 64 = .ok (.getfield 220, 3) := by decide +kernel
theorem dX11_anew_67 : decode cX11_anew 67 = .ok (.invokevirtual 233, 3) := by decide +kernel
theorem dX11_anew_70 : decode cX11_anew 70 = .ok (.ireturn, 1) := by decide +kernel
theorem dX11_trouble_0 : decode cX11_trouble 0 = .ok (.aload_n 0, 1) := by decide +kernel
theorem dX11_trouble_1 : decode cX11_trouble 1 = .ok (.iload_n 1, 1) := by decide +kernel
theorem dX11_trouble_2 : decode cX11_trouble 2 = .ok (.iload_n 2, 1) := by decide +kernel
theorem dX11_trouble_3 : decode cX11_trouble 3 = .ok (.invokevirtual 203, 3) := by decide +kernel
theorem dX11_trouble_6 : decode cX11_trouble 6 = .ok (.iload_n 3, 1) := by decide +kernel
theorem dX11_trouble_7 : decode cX11_trouble 7 = .ok (.ifCond .ge 13, 3) := by decide +kernel
theorem dX11_trouble_10 : decode cX11_trouble 10 = .ok (.new 102, 3) := by decide +kernel
theorem dX11_trouble_13 : decode cX11_trouble 13 = .ok (.dup, 1) := by decide +kernel
theorem dX11_trouble_14 : decode cX11_trouble 14 = .ok (.ldc 237, 2) := by decide +kernel
theorem dX11_trouble_16 : decode cX11_trouble 16 = .ok (.invokespecial 106, 3) := by decide +kernel
theorem dX11_trouble_19 : decode cX11_trouble 19 = .ok (.athrow, 1) := by decide +kernel
theorem dX11_trouble_20 : decode cX11_trouble 20 = .ok (.aload_n 0, 1) := by decide +kernel
theorem dX11_trouble_21 : decode cX11_trouble 21 = .ok (.aload_n 0, 1) := by decide +kernel
theorem dX11_trouble_22 : decode cX11_trouble 22 = .ok (.getfield 46, 3) := by decide +kernel
theorem dX11_trouble_25 : decode cX11_trouble 25 = .ok (.iload_n 1, 1) := by decide +kernel
theorem dX11_trouble_26 : decode cX11_trouble 26 = .ok (.aaload, 1) := by decide +kernel
theorem dX11_trouble_27 : decode cX11_trouble 27 = .ok (.iload_n 2, 1) := by decide +kernel
theorem dX11_trouble_28 : decode cX11_trouble 28 = .ok (.invokevirtual 208, 3) := by decide +kernel
theorem dX11_trouble_31 : decode cX11_trouble 31 = .ok (.getfield 217, 3) := by decide +kernel
theorem dX11_trouble_34 : decode cX11_trouble 34 = .ok (.ifCond .ne 5, 3) := by decide +kernel
theorem dX11_trouble_37 : decode cX11_trouble 37 = .ok (.iconst (-1), 1) := by decide +kernel
theorem dX11_trouble_38 : decode cX11_trouble 38 = .ok (.ireturn, 1) := by decide +kernel
theorem dX11_trouble_39 : decode cX11_trouble 39 = .ok (.iload 4, 2) := by decide +kernel
theorem dX11_trouble_41 : decode cX11_trouble 41 = .ok (.ifCond .eq 14, 3) := by decide +kernel
theorem dX11_trouble_44 : decode cX11_trouble 44 = .ok (.aload_n 0, 1) := by decide +kernel
theorem dX11_trouble_45 : decode cX11_trouble 45 = .ok (.getfield 19, 3) := by decide +kernel
theorem dX11_trouble_48 : decode cX11_trouble 48 = .ok (.iload_n 3, 1) := by decide +kernel
theorem dX11_trouble_49 : decode cX11_trouble 49 = .ok (.invokevirtual 239, 3) := by decide +kernel
theorem dX11_trouble_52 : decode cX11_trouble 52 = .ok (.goto 11, 3) := by decide +kernel
theorem dX11_trouble_55 : decode cX11_trouble 55 = .ok (.aload_n 0, 1) := by decide +kernel
theorem dX11_trouble_56 : decode cX11_trouble 56 = .ok (.getfield 19, 3) := by decide +kernel
theorem dX11_trouble_59 : decode cX11_trouble 59 = .ok (.iload_n 3, 1) := by decide +kernel
theorem dX11_trouble_60 : decode cX11_trouble 60 = .ok (.invokevirtual 242, 3) := by decide +kernel
theorem dX11_trouble_63 : decode cX11_trouble 63 = .ok (.ireturn, 1) := by decide +kernel
theorem dX11_post_0 : decode cX11_post 0 = .ok (.aload_n 0, 1) := by decide +kernel
theorem dX11_post_1 : decode cX11_post 1 = .ok (.iload_n 1, 1) := by decide +kernel
theorem dX11_post_2 : decode cX11_post 2 = .ok (.invokevirtual 196, 3) := by decide +kernel
theorem dX11_post_5 : decode cX11_post 5 = .ok (.aload_n 0, 1) := by decide +kernel
theorem dX11_post_6 : decode cX11_post 6 = .ok (.getfield 46, 3) := by decide +kernel
theorem dX11_post_9 : decode cX11_post 9 = .ok (.iload_n 1, 1) := by decide +kernel
theorem dX11_post_10 : decode cX11_post 10 = .ok (.aaload, 1) := by decide +kernel
theorem dX11_post_11 : decode cX11_post 11 = .ok (.astore_n 2, 1) := by decide +kernel
theorem dX11_post_12 : decode cX11_post 12 = .ok (.aload_n 2, 1) := by decide +kernel
theorem dX11_post_13 : decode cX11_post 13 = .ok (.getfield 245, 3) := by decide +kernel
theorem dX11_post_16 : decode cX11_post 16 = .ok (.ifCond .eq 13, 3) := by decide +kernel
theorem dX11_post_19 : decode cX11_post 19 = .ok (.new 72, 3) := by decide +kernel
theorem dX11_post_22 : decode cX11_post 22 = .ok (.dup, 1) := by decide +kernel
theorem dX11_post_23 : decode cX11_post 23 = .ok (.ldc 249, 2) := by decide +kernel
theorem dX11_post_25 : decode cX11_post 25 = .ok (.invokespecial 76, 3) := by decide +kernel
theorem dX11_post_28 : decode cX11_post 28 = .ok (.athrow, 1) := by decide +kernel
theorem dX11_post_29 : decode cX11_post 29 = .ok (.aload_n 0, 1) := by decide +kernel
theorem dX11_post_30 : decode cX11_post 30 = .ok (.getfield 26, 3) := by decide +kernel
theorem dX11_post_33 : decode cX11_post 33 = .ok (.aload_n 2, 1) := by decide +kernel
theorem dX11_post_34 : decode cX11_post 34 = .ok (.getfield 193, 3) := by decide +kernel
theorem dX11_post_37 : decode cX11_post 37 = .ok (.invokevirtual 251, 3) := by decide +kernel
theorem dX11_post_40 : decode cX11_post 40 = .ok (.istore_n 3, 1) := by decide +kernel
theorem dX11_post_41 : decode cX11_post 41 = .ok (.iconst 0, 1) := by decide +kernel
theorem dX11_post_42 : decode cX11_post 42 = .ok (.istore 4, 2) := by decide +kernel
theorem dX11_post_44 : decode cX11_post 44 = .ok (.iload 4, 2) := by decide +kernel
theorem dX11_post_46 : decode cX11_post 46 = .ok (.iload_n 3, 1) := by decide +kernel
theorem dX11_post_47 : decode cX11_post 47 = .ok (.if_icmp .ge 67, 3) := by decide +kernel
theorem dX11_post_50 : decode cX11_post 50 = .ok (.aload_n 0, 1) := by decide +kernel
theorem dX11_post_51 : decode cX11_post 51 = .ok (.aload_n 2, 1) := by decide +kernel
theorem dX11_post_52 : decode cX11_post 52 = .ok (.getfield 190, 3) := by decide +kernel
theorem dX11_post_55 : decode cX11_post 55 = .ok (.aload_n 0, 1) := by decide +kernel
theorem dX11_post_56 : decode cX11_post 56 = .ok (.getfield 26, 3) := by decide +kernel
theorem dX11_post_59 : decode cX11_post 59 = .ok (.iload 4, 2) := by decide +kernel
theorem dX11_post_61 : decode cX11_post 61 = .ok (.invokevirtual 254, 3) := by decide +kernel
theorem dX11_post_64 : decode cX11_post 64 = .ok (.invokevirtual 229, 3) := by decide +kernel
theorem dX11_post_67 : decode cX11_post 67 = .ok (.astore 5, 2) := by decide +kernel
theorem dX11_post_69 : decode cX11_post 69 = .ok (.aload 5, 2) := by decide +kernel
theorem dX11_post_71 : decode cX11_post 71 = .ok (.getfield 217, 3) := by decide +kernel
theorem dX11_post_74 : decode cX11_post 74 = .ok (.ifCond .ne 34, 3) := by decide +kernel
theorem dX11_post_77 : decode cX11_post 77 = .ok (.aload_n 2, 1) := by decide +kernel
theorem dX11_post_78 : decode cX11_post 78 = .ok (.aload 5, 2) := by decide +kernel
theorem dX11_post_80 : decode cX11_post 80 = .ok (.invokevirtual 257, 3) := by decide +kernel
theorem dX11_post_83 : decode cX11_post 83 = .ok (.aload_n 0, 1) := by decide +kernel
theorem dX11_post_84 : decode cX11_post 84 = .ok (.getfield 26, 3) := by decide +kernel
theorem dX11_post_87 : decode cX11_post 87 = .ok (.aload 5, 2) := by decide +kernel
theorem dX11_post_89 : decode cX11_post 89 = .ok (.getfield 212, 3) := by decide +kernel
theorem dX11_post_92 : decode cX11_post 92 = .ok (.aload_n 2, 1) := by decide +kernel
theorem dX11_post_93 : decode cX11_post 93 = .ok (.getfield 193, 3) := by decide +kernel
theorem dX11_post_96 : decode cX11_post 96 = .ok (.invokevirtual 261, 3) := by decide +kernel
theorem dX11_post_99 : decode cX11_post 99 = .ok (.aload_n 0, 1) := by decide +kernel
theorem dX11_post_100 : decode cX11_post 100 = .ok (.aload 5, 2) := by decide +kernel
theorem dX11_post_102 : decode cX11_post 102 = .ok (.getfield 226, 3) := by decide +kernel
theorem dX11_post_105 : decode cX11_post 105 = .ok (.invokevirtual 264, 3) := by decide +kernel
theorem dX11_post_108 : decode cX11_post 108 = .ok (.iinc 4 1, 3) := by decide +kernel
theorem dX11_post_111 : decode cX11_post 111 = .ok (.goto (-67), 3) := by decide +kernel
theorem dX11_post_114 : decode cX11_post 114 = .ok (.aload_n 2, 1) := by decide +kernel
theorem dX11_post_115 : decode cX11_post 115 = .ok (.iconst 1, 1) := by decide +kernel
theorem dX11_post_116 : decode cX11_post 116 = .ok (.putfield 245, 3) := by decide +kernel
theorem dX11_post_119 : decode cX11_post 119 = .ok (.aload_n 2, 1) := by decide +kernel
theorem dX11_post_120 : decode cX11_post 120 = .ok (.getfield 267, 3) := by decide +kernel
theorem dX11_post_123 : decode cX11_post 123 = .ok (.ireturn, 1) := by decide +kernel
theorem dX11_spent_0 : decode cX11_spent 0 = .ok (.aload_n 0, 1) := by decide +kernel
theorem dX11_spent_1 : decode cX11_spent 1 = .ok (.getfield 268, 3) := by decide +kernel
theorem dX11_spent_4 : decode cX11_spent 4 = .ok (.ireturn, 1) := by decide +kernel
theorem dX11_reasons_0 : decode cX11_reasons 0 = .ok (.aload_n 0, 1) := by decide +kernel
theorem dX11_reasons_1 : decode cX11_reasons 1 = .ok (.iload_n 1, 1) := by decide +kernel
theorem dX11_reasons_2 : decode cX11_reasons 2 = .ok (.invokevirtual 116, 3) := by decide +kernel
theorem dX11_reasons_5 : decode cX11_reasons 5 = .ok (.aload_n 0, 1) := by decide +kernel
theorem dX11_reasons_6 : decode cX11_reasons 6 = .ok (.getfield 26, 3) := by decide +kernel
theorem dX11_reasons_9 : decode cX11_reasons 9 = .ok (.getfield 271, 3) := by decide +kernel
theorem dX11_reasons_12 : decode cX11_reasons 12 = .ok (.iload_n 1, 1) := by decide +kernel
theorem dX11_reasons_13 : decode cX11_reasons 13 = .ok (.iaload, 1) := by decide +kernel
theorem dX11_reasons_14 : decode cX11_reasons 14 = .ok (.ireturn, 1) := by decide +kernel
theorem dX11_checkTemplate_0 : decode cX11_checkTemplate 0 = .ok (.iload_n 1, 1) := by decide +kernel
theorem dX11_checkTemplate_1 : decode cX11_checkTemplate 1 = .ok (.ifCond .lt 9, 3) := by decide +kernel
theorem dX11_checkTemplate_4 : decode cX11_checkTemplate 4 = .ok (.iload_n 1, 1) := by decide +kernel
theorem dX11_checkTemplate_5 : decode cX11_checkTemplate 5 = .ok (.bipush 8, 2) := by decide +kernel
theorem dX11_checkTemplate_7 : decode cX11_checkTemplate 7 = .ok (.if_icmp .lt 14, 3) := by decide +kernel
theorem dX11_checkTemplate_10 : decode cX11_checkTemplate 10 = .ok (.new 102, 3) := by decide +kernel
theorem dX11_checkTemplate_13 : decode cX11_checkTemplate 13 = .ok (.dup, 1) := by decide +kernel
theorem dX11_checkTemplate_14 : decode cX11_checkTemplate 14 = .ok (.ldc_w 274, 3) := by decide +kernel
theorem dX11_checkTemplate_17 : decode cX11_checkTemplate 17 = .ok (.invokespecial 106, 3) := by decide +kernel
theorem dX11_checkTemplate_20 : decode cX11_checkTemplate 20 = .ok (.athrow, 1) := by decide +kernel
theorem dX11_checkTemplate_21 : decode cX11_checkTemplate 21 = .ok (.return_, 1) := by decide +kernel
theorem dX11_checkAddress_0 : decode cX11_checkAddress 0 = .ok (.iload_n 1, 1) := by decide +kernel
theorem dX11_checkAddress_1 : decode cX11_checkAddress 1 = .ok (.ifCond .lt 20, 3) := by decide +kernel
theorem dX11_checkAddress_4 : decode cX11_checkAddress 4 = .ok (.iload_n 1, 1) := by decide +kernel
theorem dX11_checkAddress_5 : decode cX11_checkAddress 5 = .ok (.aload_n 0, 1) := by decide +kernel
theorem dX11_checkAddress_6 : decode cX11_checkAddress 6 = .ok (.getfield 26, 3) := by decide +kernel
theorem dX11_checkAddress_9 : decode cX11_checkAddress 9 = .ok (.getfield 99, 3) := by decide +kernel
theorem dX11_checkAddress_12 : decode cX11_checkAddress 12 = .ok (.if_icmp .ge 9, 3) := by decide +kernel
theorem dX11_checkAddress_15 : decode cX11_checkAddress 15 = .ok (.iload_n 1, 1) := by decide +kernel
theorem dX11_checkAddress_16 : decode cX11_checkAddress 16 = .ok (.bipush 12, 2) := by decide +kernel
theorem dX11_checkAddress_18 : decode cX11_checkAddress 18 = .ok (.if_icmp .lt 13, 3) := by decide +kernel
theorem dX11_checkAddress_21 : decode cX11_checkAddress 21 = .ok (.new 102, 3) := by decide +kernel
theorem dX11_checkAddress_24 : decode cX11_checkAddress 24 = .ok (.dup, 1) := by decide +kernel
theorem dX11_checkAddress_25 : decode cX11_checkAddress 25 = .ok (.ldc 104, 2) := by decide +kernel
theorem dX11_checkAddress_27 : decode cX11_checkAddress 27 = .ok (.invokespecial 106, 3) := by decide +kernel
theorem dX11_checkAddress_30 : decode cX11_checkAddress 30 = .ok (.athrow, 1) := by decide +kernel
theorem dX11_checkAddress_31 : decode cX11_checkAddress 31 = .ok (.return_, 1) := by decide +kernel
theorem dX11_checkRun_0 : decode cX11_checkRun 0 = .ok (.iload_n 1, 1) := by decide +kernel
theorem dX11_checkRun_1 : decode cX11_checkRun 1 = .ok (.ifCond .lt 17, 3) := by decide +kernel
theorem dX11_checkRun_4 : decode cX11_checkRun 4 = .ok (.iload_n 1, 1) := by decide +kernel
theorem dX11_checkRun_5 : decode cX11_checkRun 5 = .ok (.aload_n 0, 1) := by decide +kernel
theorem dX11_checkRun_6 : decode cX11_checkRun 6 = .ok (.getfield 185, 3) := by decide +kernel
theorem dX11_checkRun_9 : decode cX11_checkRun 9 = .ok (.if_icmp .ge 9, 3) := by decide +kernel
theorem dX11_checkRun_12 : decode cX11_checkRun 12 = .ok (.iload_n 1, 1) := by decide +kernel
theorem dX11_checkRun_13 : decode cX11_checkRun 13 = .ok (.bipush 8, 2) := by decide +kernel
theorem dX11_checkRun_15 : decode cX11_checkRun 15 = .ok (.if_icmp .lt 14, 3) := by decide +kernel
theorem dX11_checkRun_18 : decode cX11_checkRun 18 = .ok (.new 102, 3) := by decide +kernel
theorem dX11_checkRun_21 : decode cX11_checkRun 21 = .ok (.dup, 1) := by decide +kernel
theorem dX11_checkRun_22 : decode cX11_checkRun 22 = .ok (.ldc_w 276, 3) := by decide +kernel
theorem dX11_checkRun_25 : decode cX11_checkRun 25 = .ok (.invokespecial 106, 3) := by decide +kernel
theorem dX11_checkRun_28 : decode cX11_checkRun 28 = .ok (.athrow, 1) := by decide +kernel
theorem dX11_checkRun_29 : decode cX11_checkRun 29 = .ok (.return_, 1) := by decide +kernel
theorem dX11_checkLetter_0 : decode cX11_checkLetter 0 = .ok (.aload_n 0, 1) := by decide +kernel
theorem dX11_checkLetter_1 : decode cX11_checkLetter 1 = .ok (.iload_n 1, 1) := by decide +kernel
theorem dX11_checkLetter_2 : decode cX11_checkLetter 2 = .ok (.invokevirtual 196, 3) := by decide +kernel
theorem dX11_checkLetter_5 : decode cX11_checkLetter 5 = .ok (.iload_n 2, 1) := by decide +kernel
theorem dX11_checkLetter_6 : decode cX11_checkLetter 6 = .ok (.ifCond .lt 17, 3) := by decide +kernel
theorem dX11_checkLetter_9 : decode cX11_checkLetter 9 = .ok (.iload_n 2, 1) := by decide +kernel
theorem dX11_checkLetter_10 : decode cX11_checkLetter 10 = .ok (.aload_n 0, 1) := by decide +kernel
theorem dX11_checkLetter_11 : decode cX11_checkLetter 11 = .ok (.aload_n 0, 1) := by decide +kernel
theorem dX11_checkLetter_12 : decode cX11_checkLetter 12 = .ok (.getfield 46, 3) := by decide +kernel
theorem dX11_checkLetter_15 : decode cX11_checkLetter 15 = .ok (.iload_n 1, 1) := by decide +kernel
theorem dX11_checkLetter_16 : decode cX11_checkLetter 16 = .ok (.aaload, 1) := by decide +kernel
theorem dX11_checkLetter_17 : decode cX11_checkLetter 17 = .ok (.invokevirtual 199, 3) := by decide +kernel
theorem dX11_checkLetter_20 : decode cX11_checkLetter 20 = .ok (.if_icmp .lt 14, 3) := by decide +kernel
theorem dX11_checkLetter_23 : decode cX11_checkLetter 23 = .ok (.new 102, 3) := by decide +kernel
theorem dX11_checkLetter_26 : decode cX11_checkLetter 26 = .ok (.dup, 1) := by decide +kernel
theorem dX11_checkLetter_27 : decode cX11_checkLetter 27 = .ok (.ldc_w 278, 3) := by decide +kernel
theorem dX11_checkLetter_30 : decode cX11_checkLetter 30 = .ok (.invokespecial 106, 3) := by decide +kernel
theorem dX11_checkLetter_33 : decode cX11_checkLetter 33 = .ok (.athrow, 1) := by decide +kernel
theorem dX11_checkLetter_34 : decode cX11_checkLetter 34 = .ok (.return_, 1) := by decide +kernel
theorem dX11_countLetters_0 : decode cX11_countLetters 0 = .ok (.aload_n 1, 1) := by decide +kernel
theorem dX11_countLetters_1 : decode cX11_countLetters 1 = .ok (.getfield 245, 3) := by decide +kernel
theorem dX11_countLetters_4 : decode cX11_countLetters 4 = .ok (.ifCond .eq 10, 3) := by decide +kernel
theorem dX11_countLetters_7 : decode cX11_countLetters 7 = .ok (.aload_n 1, 1) := by decide +kernel
theorem dX11_countLetters_8 : decode cX11_countLetters 8 = .ok (.getfield 267, 3) := by decide +kernel
theorem dX11_countLetters_11 : decode cX11_countLetters 11 = .ok (.goto 14, 3) := by decide +kernel
theorem dX11_countLetters_14 : decode cX11_countLetters 14 = .ok (.aload_n 0, 1) := by decide +kernel
theorem dX11_countLetters_15 : decode cX11_countLetters 15 = .ok (.getfield 26, 3) := by decide +kernel
theorem dX11_countLetters_18 : decode cX11_countLetters 18 = .ok (.aload_n 1, 1) := by decide +kernel
theorem dX11_countLetters_19 : decode cX11_countLetters 19 = .ok (.getfield 193, 3) := by decide +kernel
theorem dX11_countLetters_22 : decode cX11_countLetters 22 = .ok (.invokevirtual 251, 3) := by decide +kernel
theorem dX11_countLetters_25 : decode cX11_countLetters 25 = .ok (.ireturn, 1) := by decide +kernel
theorem dX11_findLetter_0 : decode cX11_findLetter 0 = .ok (.aload_n 1, 1) := by decide +kernel
theorem dX11_findLetter_1 : decode cX11_findLetter 1 = .ok (.getfield 245, 3) := by decide +kernel
theorem dX11_findLetter_4 : decode cX11_findLetter 4 = .ok (.ifCond .eq 20, 3) := by decide +kernel
theorem dX11_findLetter_7 : decode cX11_findLetter 7 = .ok (.iload_n 2, 1) := by decide +kernel
theorem dX11_findLetter_8 : decode cX11_findLetter 8 = .ok (.ifCond .lt 16, 3) := by decide +kernel
theorem dX11_findLetter_11 : decode cX11_findLetter 11 = .ok (.iload_n 2, 1) := by decide +kernel
theorem dX11_findLetter_12 : decode cX11_findLetter 12 = .ok (.bipush 12, 2) := by decide +kernel
theorem dX11_findLetter_14 : decode cX11_findLetter 14 = .ok (.if_icmp .ge 10, 3) := by decide +kernel
theorem dX11_findLetter_17 : decode cX11_findLetter 17 = .ok (.aload_n 1, 1) := by decide +kernel
theorem dX11_findLetter_18 : decode cX11_findLetter 18 = .ok (.getfield 280, 3) := by decide +kernel
theorem dX11_findLetter_21 : decode cX11_findLetter 21 = .ok (.iload_n 2, 1) := by decide +kernel
theorem dX11_findLetter_22 : decode cX11_findLetter 22 = .ok (.aaload, 1) := by decide +kernel
theorem dX11_findLetter_23 : decode cX11_findLetter 23 = .ok (.areturn, 1) := by decide +kernel
theorem dX11_findLetter_24 : decode cX11_findLetter 24 = .ok (.aload_n 0, 1) := by decide +kernel
theorem dX11_findLetter_25 : decode cX11_findLetter 25 = .ok (.aload_n 1, 1) := by decide +kernel
theorem dX11_findLetter_26 : decode cX11_findLetter 26 = .ok (.getfield 190, 3) := by decide +kernel
theorem dX11_findLetter_29 : decode cX11_findLetter 29 = .ok (.aload_n 0, 1) := by decide +kernel
theorem dX11_findLetter_30 : decode cX11_findLetter 30 = .ok (.getfield 26, 3) := by decide +kernel
theorem dX11_findLetter_33 : decode cX11_findLetter 33 = .ok (.iload_n 2, 1) := by decide +kernel
theorem dX11_findLetter_34 : decode cX11_findLetter 34 = .ok (.invokevirtual 254, 3) := by decide +kernel
theorem dX11_findLetter_37 : decode cX11_findLetter 37 = .ok (.invokevirtual 229, 3) := by decide +kernel
theorem dX11_findLetter_40 : decode cX11_findLetter 40 = .ok (.areturn, 1) := by decide +kernel
theorem dX11_compose_0 : decode cX11_compose 0 = .ok (.aload_n 0, 1) := by decide +kernel
theorem dX11_compose_1 : decode cX11_compose 1 = .ok (.getfield 19, 3) := by decide +kernel
theorem dX11_compose_4 : decode cX11_compose 4 = .ok (.getfield 284, 3) := by decide +kernel
theorem dX11_compose_7 : decode cX11_compose 7 = .ok (.aload_n 0, 1) := by decide +kernel
theorem dX11_compose_8 : decode cX11_compose 8 = .ok (.getfield 26, 3) := by decide +kernel
theorem dX11_compose_11 : decode cX11_compose 11 = .ok (.iload_n 2, 1) := by decide +kernel
theorem dX11_compose_12 : decode cX11_compose 12 = .ok (.invokevirtual 288, 3) := by decide +kernel
theorem dX11_compose_15 : decode cX11_compose 15 = .ok (.aload_n 0, 1) := by decide +kernel
theorem dX11_compose_16 : decode cX11_compose 16 = .ok (.getfield 19, 3) := by decide +kernel
theorem dX11_compose_19 : decode cX11_compose 19 = .ok (.iload_n 1, 1) := by decide +kernel
theorem dX11_compose_20 : decode cX11_compose 20 = .ok (.invokevirtual 294, 3) := by decide +kernel
theorem dX11_compose_23 : decode cX11_compose 23 = .ok (.aload_n 0, 1) := by decide +kernel
theorem dX11_compose_24 : decode cX11_compose 24 = .ok (.getfield 19, 3) := by decide +kernel
theorem dX11_compose_27 : decode cX11_compose 27 = .ok (.getfield 297, 3) := by decide +kernel
theorem dX11_compose_30 : decode cX11_compose 30 = .ok (.astore_n 3, 1) := by decide +kernel
theorem dX11_compose_31 : decode cX11_compose 31 = .ok (.aload_n 3, 1) := by decide +kernel
theorem dX11_compose_32 : decode cX11_compose 32 = .ok (.iload_n 2, 1) := by decide +kernel
theorem dX11_compose_33 : decode cX11_compose 33 = .ok (.putfield 212, 3) := by decide +kernel
theorem dX11_compose_36 : decode cX11_compose 36 = .ok (.aload_n 3, 1) := by decide +kernel
theorem dX11_compose_37 : decode cX11_compose 37 = .ok (.getfield 217, 3) := by decide +kernel
theorem dX11_compose_40 : decode cX11_compose 40 = .ok (.ifCond .ne 77, 3) := by decide +kernel
theorem dX11_compose_43 : decode cX11_compose 43 = .ok (.aload_n 3, 1) := by decide +kernel
theorem dX11_compose_44 : decode cX11_compose 44 = .ok (.aload_n 0, 1) := by decide +kernel
theorem dX11_compose_45 : decode cX11_compose 45 = .ok (.getfield 40, 3) := by decide +kernel
theorem dX11_compose_48 : decode cX11_compose 48 = .ok (.aload_n 3, 1) := by decide +kernel
theorem dX11_compose_49 : decode cX11_compose 49 = .ok (.getfield 220, 3) := by decide +kernel
theorem dX11_compose_52 : decode cX11_compose 52 = .ok (.getfield 66, 3) := by decide +kernel
theorem dX11_compose_55 : decode cX11_compose 55 = .ok (.aload_n 0, 1) := by decide +kernel
theorem dX11_compose_56 : decode cX11_compose 56 = .ok (.getfield 19, 3) := by decide +kernel
theorem dX11_compose_59 : decode cX11_compose 59 = .ok (.getfield 284, 3) := by decide +kernel
theorem dX11_compose_62 : decode cX11_compose 62 = .ok (.getfield 301, 3) := by decide +kernel
theorem dX11_compose_65 : decode cX11_compose 65 = .ok (.iconst 5, 1) := by decide +kernel
theorem dX11_compose_66 : decode cX11_compose 66 = .ok (.iaload, 1) := by decide +kernel
theorem dX11_compose_67 : decode cX11_compose 67 = .ok (.invokevirtual 176, 3) := by decide +kernel
theorem dX11_compose_70 : decode cX11_compose 70 = .ok (.putfield 223, 3) := by decide +kernel
theorem dX11_compose_73 : decode cX11_compose 73 = .ok (.aload_n 3, 1) := by decide +kernel
theorem dX11_compose_74 : decode cX11_compose 74 = .ok (.aload_n 0, 1) := by decide +kernel
theorem dX11_compose_75 : decode cX11_compose 75 = .ok (.getfield 40, 3) := by decide +kernel
theorem dX11_compose_78 : decode cX11_compose 78 = .ok (.aload_n 3, 1) := by decide +kernel
theorem dX11_compose_79 : decode cX11_compose 79 = .ok (.getfield 223, 3) := by decide +kernel
theorem dX11_compose_82 : decode cX11_compose 82 = .ok (.aload_n 0, 1) := by decide +kernel
theorem dX11_compose_83 : decode cX11_compose 83 = .ok (.getfield 19, 3) := by decide +kernel
theorem dX11_compose_86 : decode cX11_compose 86 = .ok (.getfield 284, 3) := by decide +kernel
theorem dX11_compose_89 : decode cX11_compose 89 = .ok (.getfield 301, 3) := by decide +kernel
theorem dX11_compose_92 : decode cX11_compose 92 = .ok (.iconst 3, 1) := by decide +kernel
theorem dX11_compose_93 : decode cX11_compose 93 = .ok (.iaload, 1) := by decide +kernel
theorem dX11_compose_94 : decode cX11_compose 94 = .ok (.invokevirtual 180, 3) := by decide +kernel
theorem dX11_compose_97 : decode cX11_compose 97 = .ok (.putfield 226, 3) := by decide +kernel
theorem dX11_compose_100 : decode cX11_compose 100 = .ok (.aload_n 3, 1) := by decide +kernel
theorem dX11_compose_101 : decode cX11_compose 101 = .ok (.getfield 226, 3) := by decide +kernel
theorem dX11_compose_104 : decode cX11_compose 104 = .ok (.iconst (-1), 1) := by decide +kernel
theorem dX11_compose_105 : decode cX11_compose 105 = .ok (.if_icmp .ne 12, 3) := by decide +kernel
theorem dX11_compose_108 : decode cX11_compose 108 = .ok (.aload_n 0, 1) := by decide +kernel
theorem dX11_compose_109 : decode cX11_compose 109 = .ok (.getfield 19, 3) := by decide +kernel
theorem dX11_compose_112 : decode cX11_compose 112 = .ok (.iload_n 1, 1) := by decide +kernel
theorem dX11_compose_113 : decode cX11_compose 113 = .ok (.iconst 4, 1) := by decide +kernel
theorem dX11_compose_114 : decode cX11_compose 114 = .ok (.invokevirtual 304, 3) := by decide +kernel
theorem dX11_compose_117 : decode cX11_compose 117 = .ok (.aload_n 3, 1) := by decide +kernel
theorem dX11_compose_118 : decode cX11_compose 118 = .ok (.areturn, 1) := by decide +kernel
theorem dX11_pay_0 : decode cX11_pay 0 = .ok (.aload_n 0, 1) := by decide +kernel
theorem dX11_pay_1 : decode cX11_pay 1 = .ok (.iload_n 1, 1) := by decide +kernel
theorem dX11_pay_2 : decode cX11_pay 2 = .ok (.ldc_w 307, 3) := by decide +kernel
theorem dX11_pay_5 : decode cX11_pay 5 = .ok (.aload_n 0, 1) := by decide +kernel
theorem dX11_pay_6 : decode cX11_pay 6 = .ok (.getfield 268, 3) := by decide +kernel
theorem dX11_pay_9 : decode cX11_pay 9 = .ok (.isub, 1) := by decide +kernel
theorem dX11_pay_10 : decode cX11_pay 10 = .ok (.if_icmp .le 9, 3) := by decide +kernel
theorem dX11_pay_13 : decode cX11_pay 13 = .ok (.ldc_w 307, 3) := by decide +kernel
theorem dX11_pay_16 : decode cX11_pay 16 = .ok (.goto 9, 3) := by decide +kernel
theorem dX11_pay_19 : decode cX11_pay 19 = .ok (.aload_n 0, 1) := by decide +kernel
theorem dX11_pay_20 : decode cX11_pay 20 = .ok (.getfield 268, 3) := by decide +kernel
theorem dX11_pay_23 : decode cX11_pay 23 = .ok (.iload_n 1, 1) := by decide +kernel
theorem dX11_pay_24 : decode cX11_pay 24 = .ok (.iadd, 1) := by decide +kernel
theorem dX11_pay_25 : decode cX11_pay 25 = .ok (.putfield 268, 3) := by decide +kernel
theorem dX11_pay_28 : decode cX11_pay 28 = .ok (.return_, 1) := by decide +kernel
theorem dX11_canBeMatched_0 : decode cX11_canBeMatched 0 = .ok (.aload_n 0, 1) := by decide +kernel
theorem dX11_canBeMatched_1 : decode cX11_canBeMatched 1 = .ok (.getfield 33, 3) := by decide +kernel
theorem dX11_canBeMatched_4 : decode cX11_canBeMatched 4 = .ok (.aload_n 0, 1) := by decide +kernel
theorem dX11_canBeMatched_5 : decode cX11_canBeMatched 5 = .ok (.getfield 26, 3) := by decide +kernel
theorem dX11_canBeMatched_8 : decode cX11_canBeMatched 8 = .ok (.getfield 121, 3) := by decide +kernel
theorem dX11_canBeMatched_11 : decode cX11_canBeMatched 11 = .ok (.iload_n 1, 1) := by decide +kernel
theorem dX11_canBeMatched_12 : decode cX11_canBeMatched 12 = .ok (.aaload, 1) := by decide +kernel
theorem dX11_canBeMatched_13 : decode cX11_canBeMatched 13 = .ok (.aload_n 0, 1) := by decide +kernel
theorem dX11_canBeMatched_14 : decode cX11_canBeMatched 14 = .ok (.getfield 26, 3) := by decide +kernel
theorem dX11_canBeMatched_17 : decode cX11_canBeMatched 17 = .ok (.getfield 121, 3) := by decide +kernel
theorem dX11_canBeMatched_20 : decode cX11_canBeMatched 20 = .ok (.iload_n 2, 1) := by decide +kernel
theorem dX11_canBeMatched_21 : decode cX11_canBeMatched 21 = .ok (.aaload, 1) := by decide +kernel
theorem dX11_canBeMatched_22 : decode cX11_canBeMatched 22 = .ok (.invokevirtual 139, 3) := by decide +kernel
theorem dX11_canBeMatched_25 : decode cX11_canBeMatched 25 = .ok (.ldc_w 308, 3) := by decide +kernel
theorem dX11_canBeMatched_28 : decode cX11_canBeMatched 28 = .ok (.fcmp .l, 1) := by decide +kernel
theorem dX11_canBeMatched_29 : decode cX11_canBeMatched 29 = .ok (.ifCond .lt 7, 3) := by decide +kernel
theorem dX11_canBeMatched_32 : decode cX11_canBeMatched 32 = .ok (.iconst 1, 1) := by decide +kernel
theorem dX11_canBeMatched_33 : decode cX11_canBeMatched 33 = .ok (.goto 4, 3) := by decide +kernel
theorem dX11_canBeMatched_36 : decode cX11_canBeMatched 36 = .ok (.iconst 0, 1) := by decide +kernel
theorem dX11_canBeMatched_37 : decode cX11_canBeMatched 37 = .ok (.ireturn, 1) := by decide +kernel
theorem dX11_signOf_0 : decode cX11_signOf 0 = .ok (.lload_n 0, 1) := by decide +kernel
theorem dX11_signOf_1 : decode cX11_signOf 1 = .ok (.bipush 8, 2) := by decide +kernel
theorem dX11_signOf_3 : decode cX11_signOf 3 = .ok (.iload_n 2, 1) := by decide +kernel
theorem dX11_signOf_4 : decode cX11_signOf 4 = .ok (.imul, 1) := by decide +kernel
theorem dX11_signOf_5 : decode cX11_signOf 5 = .ok (.lushr, 1) := by decide +kernel
theorem dX11_signOf_6 : decode cX11_signOf 6 = .ok (.ldc2_w 309, 3) := by decide +kernel
theorem dX11_signOf_9 : decode cX11_signOf 9 = .ok (.land, 1) := by decide +kernel
theorem dX11_signOf_10 : decode cX11_signOf 10 = .ok (.l2i, 1) := by decide +kernel
theorem dX11_signOf_11 : decode cX11_signOf 11 = .ok (.i2c, 1) := by decide +kernel
theorem dX11_signOf_12 : decode cX11_signOf 12 = .ok (.ireturn, 1) := by decide +kernel
theorem dX11_countSigns_0 : decode cX11_countSigns 0 = .ok (.iconst 0, 1) := by decide +kernel
theorem dX11_countSigns_1 : decode cX11_countSigns 1 = .ok (.istore_n 2, 1) := by decide +kernel
theorem dX11_countSigns_2 : decode cX11_countSigns 2 = .ok (.iconst 0, 1) := by decide +kernel
theorem dX11_countSigns_3 : decode cX11_countSigns 3 = .ok (.istore_n 3, 1) := by decide +kernel
theorem dX11_countSigns_4 : decode cX11_countSigns 4 = .ok (.iload_n 3, 1) := by decide +kernel
theorem dX11_countSigns_5 : decode cX11_countSigns 5 = .ok (.bipush 8, 2) := by decide +kernel
theorem dX11_countSigns_7 : decode cX11_countSigns 7 = .ok (.if_icmp .ge 50, 3) := by decide +kernel
theorem dX11_countSigns_10 : decode cX11_countSigns 10 = .ok (.lload_n 0, 1) := by decide +kernel
theorem dX11_countSigns_11 : decode cX11_countSigns 11 = .ok (.iload_n 3, 1) := by decide +kernel
theorem dX11_countSigns_12 : decode cX11_countSigns 12 = .ok (.invokestatic 77, 3) := by decide +kernel
theorem dX11_countSigns_15 : decode cX11_countSigns 15 = .ok (.istore 4, 2) := by decide +kernel
theorem dX11_countSigns_17 : decode cX11_countSigns 17 = .ok (.iload 4, 2) := by decide +kernel
theorem dX11_countSigns_19 : decode cX11_countSigns 19 = .ok (.ifCond .eq 24, 3) := by decide +kernel
theorem dX11_countSigns_22 : decode cX11_countSigns 22 = .ok (.iload 4, 2) := by decide +kernel
theorem dX11_countSigns_24 : decode cX11_countSigns 24 = .ok (.bipush 32, 2) := by decide +kernel
theorem dX11_countSigns_26 : decode cX11_countSigns 26 = .ok (.if_icmp .lt 15, 3) := by decide +kernel
theorem dX11_countSigns_29 : decode cX11_countSigns 29 = .ok (.iload 4, 2) := by decide +kernel
theorem dX11_countSigns_31 : decode cX11_countSigns 31 = .ok (.bipush 126, 2) := by decide +kernel
theorem dX11_countSigns_33 : decode cX11_countSigns 33 = .ok (.if_icmp .gt 8, 3) := by decide +kernel
theorem dX11_countSigns_36 : decode cX11_countSigns 36 = .ok (.iload_n 2, 1) := by decide +kernel
theorem dX11_countSigns_37 : decode cX11_countSigns 37 = .ok (.iload_n 3, 1) := by decide +kernel
theorem dX11_countSigns_38 : decode cX11_countSigns 38 = .ok (.if_icmp .ge 5, 3) := by decide +kernel
theorem dX11_countSigns_41 : decode cX11_countSigns 41 = .ok (.iconst (-1), 1) := by decide +kernel
theorem dX11_countSigns_42 : decode cX11_countSigns 42 = .ok (.ireturn, 1) := by decide +kernel
theorem dX11_countSigns_43 : decode cX11_countSigns 43 = .ok (.iload 4, 2) := by decide +kernel
theorem dX11_countSigns_45 : decode cX11_countSigns 45 = .ok (.ifCond .eq 6, 3) := by decide +kernel
theorem dX11_countSigns_48 : decode cX11_countSigns 48 = .ok (.iinc 2 1, 3) := by decide +kernel
theorem dX11_countSigns_51 : decode cX11_countSigns 51 = .ok (.iinc 3 1, 3) := by decide +kernel
theorem dX11_countSigns_54 : decode cX11_countSigns 54 = .ok (.goto (-50), 3) := by decide +kernel
theorem dX11_countSigns_57 : decode cX11_countSigns 57 = .ok (.iload_n 2, 1) := by decide +kernel
theorem dX11_countSigns_58 : decode cX11_countSigns 58 = .ok (.ireturn, 1) := by decide +kernel
theorem dX11_isDigit_0 : decode cX11_isDigit 0 = .ok (.iload_n 0, 1) := by decide +kernel
theorem dX11_isDigit_1 : decode cX11_isDigit 1 = .ok (.bipush 48, 2) := by decide +kernel
theorem dX11_isDigit_3 : decode cX11_isDigit 3 = .ok (.if_icmp .lt 12, 3) := by decide +kernel
theorem dX11_isDigit_6 : decode cX11_isDigit 6 = .ok (.iload_n 0, 1) := by decide +kernel
theorem dX11_isDigit_7 : decode cX11_isDigit 7 = .ok (.iload_n 1, 1) := by decide +kernel
theorem dX11_isDigit_8 : decode cX11_isDigit 8 = .ok (.if_icmp .gt 7, 3) := by decide +kernel
theorem dX11_isDigit_11 : decode cX11_isDigit 11 = .ok (.iconst 1, 1) := by decide +kernel
theorem dX11_isDigit_12 : decode cX11_isDigit 12 = .ok (.goto 4, 3) := by decide +kernel
theorem dX11_isDigit_15 : decode cX11_isDigit 15 = .ok (.iconst 0, 1) := by decide +kernel
theorem dX11_isDigit_16 : decode cX11_isDigit 16 = .ok (.ireturn, 1) := by decide +kernel
theorem dJ11_isValidCodePoint_9a6ad_0 : decode cJ11_isValidCodePoint_9a6ad 0 = .ok (.iload_n 0, 1) := by decide +kernel
theorem dJ11_isValidCodePoint_9a6ad_1 : decode cJ11_isValidCodePoint_9a6ad 1 = .ok (.bipush 16, 2) := by decide +kernel
theorem dJ11_isValidCodePoint_9a6ad_3 : decode cJ11_isValidCodePoint_9a6ad 3 = .ok (.iushr, 1) := by decide +kernel
theorem dJ11_isValidCodePoint_9a6ad_4 : decode cJ11_isValidCodePoint_9a6ad 4 = .ok (.istore_n 1, 1) := by decide +kernel
theorem dJ11_isValidCodePoint_9a6ad_5 : decode cJ11_isValidCodePoint_9a6ad 5 = .ok (.iload_n 1, 1) := by decide +kernel
theorem dJ11_isValidCodePoint_9a6ad_6 : decode cJ11_isValidCodePoint_9a6ad 6 = .ok (.bipush 17, 2) := by decide +kernel
theorem dJ11_isValidCodePoint_9a6ad_8 : decode cJ11_isValidCodePoint_9a6ad 8 = .ok (.if_icmp .ge 7, 3) := by decide +kernel
theorem dJ11_isValidCodePoint_9a6ad_11 : decode cJ11_isValidCodePoint_9a6ad 11 = .ok (.iconst 1, 1) := by decide +kernel
theorem dJ11_isValidCodePoint_9a6ad_12 : decode cJ11_isValidCodePoint_9a6ad 12 = .ok (.goto 4, 3) := by decide +kernel
theorem dJ11_isValidCodePoint_9a6ad_15 : decode cJ11_isValidCodePoint_9a6ad 15 = .ok (.iconst 0, 1) := by decide +kernel
theorem dJ11_isValidCodePoint_9a6ad_16 : decode cJ11_isValidCodePoint_9a6ad 16 = .ok (.ireturn, 1) := by decide +kernel
theorem dJ11_highSurrogate_5068e_0 : decode cJ11_highSurrogate_5068e 0 = .ok (.iload_n 0, 1) := by decide +kernel
theorem dJ11_highSurrogate_5068e_1 : decode cJ11_highSurrogate_5068e 1 = .ok (.bipush 10, 2) := by decide +kernel
theorem dJ11_highSurrogate_5068e_3 : decode cJ11_highSurrogate_5068e 3 = .ok (.iushr, 1) := by decide +kernel
theorem dJ11_highSurrogate_5068e_4 : decode cJ11_highSurrogate_5068e 4 = .ok (.ldc 110, 2) := by decide +kernel
theorem dJ11_highSurrogate_5068e_6 : decode cJ11_highSurrogate_5068e 6 = .ok (.iadd, 1) := by decide +kernel
theorem dJ11_highSurrogate_5068e_7 : decode cJ11_highSurrogate_5068e 7 = .ok (.i2c, 1) := by decide +kernel
theorem dJ11_highSurrogate_5068e_8 : decode cJ11_highSurrogate_5068e 8 = .ok (.ireturn, 1) := by decide +kernel
theorem dJ11_lowSurrogate_5068e_0 : decode cJ11_lowSurrogate_5068e 0 = .ok (.iload_n 0, 1) := by decide +kernel
theorem dJ11_lowSurrogate_5068e_1 : decode cJ11_lowSurrogate_5068e 1 = .ok (.sipush 1023, 3) := by decide +kernel
theorem dJ11_lowSurrogate_5068e_4 : decode cJ11_lowSurrogate_5068e 4 = .ok (.iand, 1) := by decide +kernel
theorem dJ11_lowSurrogate_5068e_5 : decode cJ11_lowSurrogate_5068e 5 = .ok (.ldc 76, 2) := by decide +kernel
theorem dJ11_lowSurrogate_5068e_7 : decode cJ11_lowSurrogate_5068e 7 = .ok (.iadd, 1) := by decide +kernel
theorem dJ11_lowSurrogate_5068e_8 : decode cJ11_lowSurrogate_5068e 8 = .ok (.i2c, 1) := by decide +kernel
theorem dJ11_lowSurrogate_5068e_9 : decode cJ11_lowSurrogate_5068e 9 = .ok (.ireturn, 1) := by decide +kernel
theorem dJ9_max_7cf53_0 : decode cJ9_max_7cf53 0 = .ok (.iload_n 0, 1) := by decide +kernel
theorem dJ9_max_7cf53_1 : decode cJ9_max_7cf53 1 = .ok (.iload_n 1, 1) := by decide +kernel
theorem dJ9_max_7cf53_2 : decode cJ9_max_7cf53 2 = .ok (.if_icmp .lt 7, 3) := by decide +kernel
theorem dJ9_max_7cf53_5 : decode cJ9_max_7cf53 5 = .ok (.iload_n 0, 1) := by decide +kernel
theorem dJ9_max_7cf53_6 : decode cJ9_max_7cf53 6 = .ok (.goto 4, 3) := by decide +kernel
theorem dJ9_max_7cf53_9 : decode cJ9_max_7cf53 9 = .ok (.iload_n 1, 1) := by decide +kernel
theorem dJ9_max_7cf53_10 : decode cJ9_max_7cf53 10 = .ok (.ireturn, 1) := by decide +kernel
theorem dJ9_min_7cf53_0 : decode cJ9_min_7cf53 0 = .ok (.iload_n 0, 1) := by decide +kernel
theorem dJ9_min_7cf53_1 : decode cJ9_min_7cf53 1 = .ok (.iload_n 1, 1) := by decide +kernel
theorem dJ9_min_7cf53_2 : decode cJ9_min_7cf53 2 = .ok (.if_icmp .gt 7, 3) := by decide +kernel
theorem dJ9_min_7cf53_5 : decode cJ9_min_7cf53 5 = .ok (.iload_n 0, 1) := by decide +kernel
theorem dJ9_min_7cf53_6 : decode cJ9_min_7cf53 6 = .ok (.goto 4, 3) := by decide +kernel
theorem dJ9_min_7cf53_9 : decode cJ9_min_7cf53 9 = .ok (.iload_n 1, 1) := by decide +kernel
theorem dJ9_min_7cf53_10 : decode cJ9_min_7cf53 10 = .ok (.ireturn, 1) := by decide +kernel
theorem dJ0_length_8abf5_0 : decode cJ0_length_8abf5 0 = .ok (.aload_n 0, 1) := by decide +kernel
theorem dJ0_length_8abf5_1 : decode cJ0_length_8abf5 1 = .ok (.getfield 9, 3) := by decide +kernel
theorem dJ0_length_8abf5_4 : decode cJ0_length_8abf5 4 = .ok (.arraylength, 1) := by decide +kernel
theorem dJ0_length_8abf5_5 : decode cJ0_length_8abf5 5 = .ok (.aload_n 0, 1) := by decide +kernel
theorem dJ0_length_8abf5_6 : decode cJ0_length_8abf5 6 = .ok (.invokevirtual 335, 3) := by decide +kernel
theorem dJ0_length_8abf5_9 : decode cJ0_length_8abf5 9 = .ok (.ishr, 1) := by decide +kernel
theorem dJ0_length_8abf5_10 : decode cJ0_length_8abf5 10 = .ok (.ireturn, 1) := by decide +kernel
theorem dJ0_indexOf_0f7a4_0 : decode cJ0_indexOf_0f7a4 0 = .ok (.aload_n 0, 1) := by decide +kernel
theorem dJ0_indexOf_0f7a4_1 : decode cJ0_indexOf_0f7a4 1 = .ok (.iload_n 1, 1) := by decide +kernel
theorem dJ0_indexOf_0f7a4_2 : decode cJ0_indexOf_0f7a4 2 = .ok (.iconst 0, 1) := by decide +kernel
theorem dJ0_indexOf_0f7a4_3 : decode cJ0_indexOf_0f7a4 3 = .ok (.invokevirtual 633, 3) := by decide +kernel
theorem dJ0_indexOf_0f7a4_6 : decode cJ0_indexOf_0f7a4 6 = .ok (.ireturn, 1) := by decide +kernel
theorem dJ0_indexOf_7cf53_0 : decode cJ0_indexOf_7cf53 0 = .ok (.aload_n 0, 1) := by decide +kernel
theorem dJ0_indexOf_7cf53_1 : decode cJ0_indexOf_7cf53 1 = .ok (.invokevirtual 492, 3) := by decide +kernel
theorem dJ0_indexOf_7cf53_4 : decode cJ0_indexOf_7cf53 4 = .ok (.ifCond .eq 19, 3) := by decide +kernel
theorem dJ0_indexOf_7cf53_7 : decode cJ0_indexOf_7cf53 7 = .ok (.aload_n 0, 1) := by decide +kernel
theorem dJ0_indexOf_7cf53_8 : decode cJ0_indexOf_7cf53 8 = .ok (.getfield 9, 3) := by decide +kernel
theorem dJ0_indexOf_7cf53_11 : decode cJ0_indexOf_7cf53 11 = .ok (.iload_n 1, 1) := by decide +kernel
theorem dJ0_indexOf_7cf53_12 : decode cJ0_indexOf_7cf53 12 = .ok (.iload_n 2, 1) := by decide +kernel
theorem dJ0_indexOf_7cf53_13 : decode cJ0_indexOf_7cf53 13 = .ok (.aload_n 0, 1) := by decide +kernel
theorem dJ0_indexOf_7cf53_14 : decode cJ0_indexOf_7cf53 14 = .ok (.invokevirtual 505, 3) := by decide +kernel
theorem dJ0_indexOf_7cf53_17 : decode cJ0_indexOf_7cf53 17 = .ok (.invokestatic 637, 3) := by decide +kernel
theorem dJ0_indexOf_7cf53_20 : decode cJ0_indexOf_7cf53 20 = .ok (.goto 16, 3) := by decide +kernel
theorem dJ0_indexOf_7cf53_23 : decode cJ0_indexOf_7cf53 23 = .ok (.aload_n 0, 1) := by decide +kernel
theorem dJ0_indexOf_7cf53_24 : decode cJ0_indexOf_7cf53 24 = .ok (.getfield 9, 3) := by decide +kernel
theorem dJ0_indexOf_7cf53_27 : decode cJ0_indexOf_7cf53 27 = .ok (.iload_n 1, 1) := by decide +kernel
theorem dJ0_indexOf_7cf53_28 : decode cJ0_indexOf_7cf53 28 = .ok (.iload_n 2, 1) := by decide +kernel
theorem dJ0_indexOf_7cf53_29 : decode cJ0_indexOf_7cf53 29 = .ok (.aload_n 0, 1) := by decide +kernel
theorem dJ0_indexOf_7cf53_30 : decode cJ0_indexOf_7cf53 30 = .ok (.invokevirtual 505, 3) := by decide +kernel
theorem dJ0_indexOf_7cf53_33 : decode cJ0_indexOf_7cf53 33 = .ok (.invokestatic 640, 3) := by decide +kernel
theorem dJ0_indexOf_7cf53_36 : decode cJ0_indexOf_7cf53 36 = .ok (.ireturn, 1) := by decide +kernel
theorem dJ0_coder_7d493_0 : decode cJ0_coder_7d493 0 = .ok (.getstatic 38, 3) := by decide +kernel
theorem dJ0_coder_7d493_3 : decode cJ0_coder_7d493 3 = .ok (.ifCond .eq 10, 3) := by decide +kernel
theorem dJ0_coder_7d493_6 : decode cJ0_coder_7d493 6 = .ok (.aload_n 0, 1) := by decide +kernel
theorem dJ0_coder_7d493_7 : decode cJ0_coder_7d493 7 = .ok (.getfield 15, 3) := by decide +kernel
theorem dJ0_coder_7d493_10 : decode cJ0_coder_7d493 10 = .ok (.goto 4, 3) := by decide +kernel
theorem dJ0_coder_7d493_13 : decode cJ0_coder_7d493 13 = .ok (.iconst 1, 1) := by decide +kernel
theorem dJ0_coder_7d493_14 : decode cJ0_coder_7d493 14 = .ok (.ireturn, 1) := by decide +kernel
theorem dJ0_isLatin1_aae02_0 : decode cJ0_isLatin1_aae02 0 = .ok (.getstatic 38, 3) := by decide +kernel
theorem dJ0_isLatin1_aae02_3 : decode cJ0_isLatin1_aae02 3 = .ok (.ifCond .eq 14, 3) := by decide +kernel
theorem dJ0_isLatin1_aae02_6 : decode cJ0_isLatin1_aae02 6 = .ok (.aload_n 0, 1) := by decide +kernel
theorem dJ0_isLatin1_aae02_7 : decode cJ0_isLatin1_aae02 7 = .ok (.getfield 15, 3) := by decide +kernel
theorem dJ0_isLatin1_aae02_10 : decode cJ0_isLatin1_aae02 10 = .ok (.ifCond .ne 7, 3) := by decide +kernel
theorem dJ0_isLatin1_aae02_13 : decode cJ0_isLatin1_aae02 13 = .ok (.iconst 1, 1) := by decide +kernel
theorem dJ0_isLatin1_aae02_14 : decode cJ0_isLatin1_aae02 14 = .ok (.goto 4, 3) := by decide +kernel
theorem dJ0_isLatin1_aae02_17 : decode cJ0_isLatin1_aae02 17 = .ok (.iconst 0, 1) := by decide +kernel
theorem dJ0_isLatin1_aae02_18 : decode cJ0_isLatin1_aae02 18 = .ok (.ireturn, 1) := by decide +kernel
theorem dJ0_checkBoundsBeginEnd_23922_0 : decode cJ0_checkBoundsBeginEnd_23922 0 = .ok (.iload_n 0, 1) := by decide +kernel
theorem dJ0_checkBoundsBeginEnd_23922_1 : decode cJ0_checkBoundsBeginEnd_23922 1 = .ok (.iload_n 1, 1) := by decide +kernel
theorem dJ0_checkBoundsBeginEnd_23922_2 : decode cJ0_checkBoundsBeginEnd_23922 2 = .ok (.iload_n 2, 1) := by decide +kernel
theorem dJ0_checkBoundsBeginEnd_23922_3 : decode cJ0_checkBoundsBeginEnd_23922 3 = .ok (.getstatic 1053, 3) := by decide +kernel
theorem dJ0_checkBoundsBeginEnd_23922_6 : decode cJ0_checkBoundsBeginEnd_23922 6 = .ok (.invokestatic 1062, 3) := by decide +kernel
theorem dJ0_checkBoundsBeginEnd_23922_9 : decode cJ0_checkBoundsBeginEnd_23922 9 = .ok (.pop, 1) := by decide +kernel
theorem dJ0_checkBoundsBeginEnd_23922_10 : decode cJ0_checkBoundsBeginEnd_23922 10 = .ok (.return_, 1) := by decide +kernel
theorem dJ1_canEncode_9a6ad_0 : decode cJ1_canEncode_9a6ad 0 = .ok (.iload_n 0, 1) := by decide +kernel
theorem dJ1_canEncode_9a6ad_1 : decode cJ1_canEncode_9a6ad 1 = .ok (.ifCond .lt 14, 3) := by decide +kernel
theorem dJ1_canEncode_9a6ad_4 : decode cJ1_canEncode_9a6ad 4 = .ok (.iload_n 0, 1) := by decide +kernel
theorem dJ1_canEncode_9a6ad_5 : decode cJ1_canEncode_9a6ad 5 = .ok (.sipush 255, 3) := by decide +kernel
theorem dJ1_canEncode_9a6ad_8 : decode cJ1_canEncode_9a6ad 8 = .ok (.if_icmp .gt 7, 3) := by decide +kernel
theorem dJ1_canEncode_9a6ad_11 : decode cJ1_canEncode_9a6ad 11 = .ok (.iconst 1, 1) := by decide +kernel
theorem dJ1_canEncode_9a6ad_12 : decode cJ1_canEncode_9a6ad 12 = .ok (.goto 4, 3) := by decide +kernel
theorem dJ1_canEncode_9a6ad_15 : decode cJ1_canEncode_9a6ad 15 = .ok (.iconst 0, 1) := by decide +kernel
theorem dJ1_canEncode_9a6ad_16 : decode cJ1_canEncode_9a6ad 16 = .ok (.ireturn, 1) := by decide +kernel
theorem dJ1_indexOf_4cfef_0 : decode cJ1_indexOf_4cfef 0 = .ok (.iload_n 1, 1) := by decide +kernel
theorem dJ1_indexOf_4cfef_1 : decode cJ1_indexOf_4cfef 1 = .ok (.invokestatic 88, 3) := by decide +kernel
theorem dJ1_indexOf_4cfef_4 : decode cJ1_indexOf_4cfef 4 = .ok (.ifCond .ne 5, 3) := by decide +kernel
theorem dJ1_indexOf_4cfef_7 : decode cJ1_indexOf_4cfef 7 = .ok (.iconst (-1), 1) := by decide +kernel
theorem dJ1_indexOf_4cfef_8 : decode cJ1_indexOf_4cfef 8 = .ok (.ireturn, 1) := by decide +kernel
theorem dJ1_indexOf_4cfef_9 : decode cJ1_indexOf_4cfef 9 = .ok (.iload_n 2, 1) := by decide +kernel
theorem dJ1_indexOf_4cfef_10 : decode cJ1_indexOf_4cfef 10 = .ok (.iconst 0, 1) := by decide +kernel
theorem dJ1_indexOf_4cfef_11 : decode cJ1_indexOf_4cfef 11 = .ok (.invokestatic 92, 3) := by decide +kernel
theorem dJ1_indexOf_4cfef_14 : decode cJ1_indexOf_4cfef 14 = .ok (.istore_n 2, 1) := by decide +kernel
theorem dJ1_indexOf_4cfef_15 : decode cJ1_indexOf_4cfef 15 = .ok (.iload_n 3, 1) := by decide +kernel
theorem dJ1_indexOf_4cfef_16 : decode cJ1_indexOf_4cfef 16 = .ok (.aload_n 0, 1) := by decide +kernel
theorem dJ1_indexOf_4cfef_17 : decode cJ1_indexOf_4cfef 17 = .ok (.arraylength, 1) := by decide +kernel
theorem dJ1_indexOf_4cfef_18 : decode cJ1_indexOf_4cfef 18 = .ok (.invokestatic 38, 3) := by decide +kernel
theorem dJ1_indexOf_4cfef_21 : decode cJ1_indexOf_4cfef 21 = .ok (.istore_n 3, 1) := by decide +kernel
theorem dJ1_indexOf_4cfef_22 : decode cJ1_indexOf_4cfef 22 = .ok (.iload_n 2, 1) := by decide +kernel
theorem dJ1_indexOf_4cfef_23 : decode cJ1_indexOf_4cfef 23 = .ok (.iload_n 3, 1) := by decide +kernel
theorem dJ1_indexOf_4cfef_24 : decode cJ1_indexOf_4cfef 24 = .ok (.if_icmp .lt 5, 3) := by decide +kernel
theorem dJ1_indexOf_4cfef_27 : decode cJ1_indexOf_4cfef 27 = .ok (.iconst (-1), 1) := by decide +kernel
theorem dJ1_indexOf_4cfef_28 : decode cJ1_indexOf_4cfef 28 = .ok (.ireturn, 1) := by decide +kernel
theorem dJ1_indexOf_4cfef_29 : decode cJ1_indexOf_4cfef 29 = .ok (.aload_n 0, 1) := by decide +kernel
theorem dJ1_indexOf_4cfef_30 : decode cJ1_indexOf_4cfef 30 = .ok (.iload_n 1, 1) := by decide +kernel
theorem dJ1_indexOf_4cfef_31 : decode cJ1_indexOf_4cfef 31 = .ok (.iload_n 2, 1) := by decide +kernel
theorem dJ1_indexOf_4cfef_32 : decode cJ1_indexOf_4cfef 32 = .ok (.iload_n 3, 1) := by decide +kernel
theorem dJ1_indexOf_4cfef_33 : decode cJ1_indexOf_4cfef 33 = .ok (.invokestatic 95, 3) := by decide +kernel
theorem dJ1_indexOf_4cfef_36 : decode cJ1_indexOf_4cfef 36 = .ok (.ireturn, 1) := by decide +kernel
theorem dJ1_indexOfChar_4cfef_0 : decode cJ1_indexOfChar_4cfef 0 = .ok (.iload_n 1, 1) := by decide +kernel
theorem dJ1_indexOfChar_4cfef_1 : decode cJ1_indexOfChar_4cfef 1 = .ok (.i2b, 1) := by decide +kernel
theorem dJ1_indexOfChar_4cfef_2 : decode cJ1_indexOfChar_4cfef 2 = .ok (.istore 4, 2) := by decide +kernel
theorem dJ1_indexOfChar_4cfef_4 : decode cJ1_indexOfChar_4cfef 4 = .ok (.iload_n 2, 1) := by decide +kernel
theorem dJ1_indexOfChar_4cfef_5 : decode cJ1_indexOfChar_4cfef 5 = .ok (.istore 5, 2) := by decide +kernel
theorem dJ1_indexOfChar_4cfef_7 : decode cJ1_indexOfChar_4cfef 7 = .ok (.iload 5, 2) := by decide +kernel
theorem dJ1_indexOfChar_4cfef_9 : decode cJ1_indexOfChar_4cfef 9 = .ok (.iload_n 3, 1) := by decide +kernel
theorem dJ1_indexOfChar_4cfef_10 : decode cJ1_indexOfChar_4cfef 10 = .ok (.if_icmp .ge 21, 3) := by decide +kernel
theorem dJ1_indexOfChar_4cfef_13 : decode cJ1_indexOfChar_4cfef 13 = .ok (.aload_n 0, 1) := by decide +kernel
theorem dJ1_indexOfChar_4cfef_14 : decode cJ1_indexOfChar_4cfef 14 = .ok (.iload 5, 2) := by decide +kernel
theorem dJ1_indexOfChar_4cfef_16 : decode cJ1_indexOfChar_4cfef 16 = .ok (.baload, 1) := by decide +kernel
theorem dJ1_indexOfChar_4cfef_17 : decode cJ1_indexOfChar_4cfef 17 = .ok (.iload 4, 2) := by decide +kernel
theorem dJ1_indexOfChar_4cfef_19 : decode cJ1_indexOfChar_4cfef 19 = .ok (.if_icmp .ne 6, 3) := by decide +kernel
theorem dJ1_indexOfChar_4cfef_22 : decode cJ1_indexOfChar_4cfef 22 = .ok (.iload 5, 2) := by decide +kernel
theorem dJ1_indexOfChar_4cfef_24 : decode cJ1_indexOfChar_4cfef 24 = .ok (.ireturn, 1) := by decide +kernel
theorem dJ1_indexOfChar_4cfef_25 : decode cJ1_indexOfChar_4cfef 25 = .ok (.iinc 5 1, 3) := by decide +kernel
theorem dJ1_indexOfChar_4cfef_28 : decode cJ1_indexOfChar_4cfef 28 = .ok (.goto (-21), 3) := by decide +kernel
theorem dJ1_indexOfChar_4cfef_31 : decode cJ1_indexOfChar_4cfef 31 = .ok (.iconst (-1), 1) := by decide +kernel
theorem dJ1_indexOfChar_4cfef_32 : decode cJ1_indexOfChar_4cfef 32 = .ok (.ireturn, 1) := by decide +kernel
theorem dJ2_getChar_3b067_0 : decode cJ2_getChar_3b067 0 = .ok (.getstatic 44, 3) := by decide +kernel
theorem dJ2_getChar_3b067_3 : decode cJ2_getChar_3b067 3 = .ok (.ifCond .ne 25, 3) := by decide +kernel
theorem dJ2_getChar_3b067_6 : decode cJ2_getChar_3b067 6 = .ok (.iload_n 1, 1) := by decide +kernel
theorem dJ2_getChar_3b067_7 : decode cJ2_getChar_3b067 7 = .ok (.ifCond .lt 11, 3) := by decide +kernel
theorem dJ2_getChar_3b067_10 : decode cJ2_getChar_3b067 10 = .ok (.iload_n 1, 1) := by decide +kernel
theorem dJ2_getChar_3b067_11 : decode cJ2_getChar_3b067 11 = .ok (.aload_n 0, 1) := by decide +kernel
theorem dJ2_getChar_3b067_12 : decode cJ2_getChar_3b067 12 = .ok (.invokestatic 48, 3) := by decide +kernel
theorem dJ2_getChar_3b067_15 : decode cJ2_getChar_3b067 15 = .ok (.if_icmp .lt 13, 3) := by decide +kernel
theorem dJ2_getChar_3b067_18 : decode cJ2_getChar_3b067 18 = .ok (.new 52, 3) := by decide +kernel
theorem dJ2_getChar_3b067_21 : decode cJ2_getChar_3b067 21 = .ok (.dup, 1) := by decide +kernel
theorem dJ2_getChar_3b067_22 : decode cJ2_getChar_3b067 22 = .ok (.ldc 54, 2) := by decide +kernel
theorem dJ2_getChar_3b067_24 : decode cJ2_getChar_3b067 24 = .ok (.invokespecial 56, 3) := by decide +kernel
theorem dJ2_getChar_3b067_27 : decode cJ2_getChar_3b067 27 = .ok (.athrow, 1) := by decide +kernel
theorem dJ2_getChar_3b067_28 : decode cJ2_getChar_3b067 28 = .ok (.iload_n 1, 1) := by decide +kernel
theorem dJ2_getChar_3b067_29 : decode cJ2_getChar_3b067 29 = .ok (.iconst 1, 1) := by decide +kernel
theorem dJ2_getChar_3b067_30 : decode cJ2_getChar_3b067 30 = .ok (.ishl, 1) := by decide +kernel
theorem dJ2_getChar_3b067_31 : decode cJ2_getChar_3b067 31 = .ok (.istore_n 1, 1) := by decide +kernel
theorem dJ2_getChar_3b067_32 : decode cJ2_getChar_3b067 32 = .ok (.aload_n 0, 1) := by decide +kernel
theorem dJ2_getChar_3b067_33 : decode cJ2_getChar_3b067 33 = .ok (.iload_n 1, 1) := by decide +kernel
theorem dJ2_getChar_3b067_34 : decode cJ2_getChar_3b067 34 = .ok (.iinc 1 1, 3) := by decide +kernel
theorem dJ2_getChar_3b067_37 : decode cJ2_getChar_3b067 37 = .ok (.baload, 1) := by decide +kernel
theorem dJ2_getChar_3b067_38 : decode cJ2_getChar_3b067 38 = .ok (.sipush 255, 3) := by decide +kernel
theorem dJ2_getChar_3b067_41 : decode cJ2_getChar_3b067 41 = .ok (.iand, 1) := by decide +kernel
theorem dJ2_getChar_3b067_42 : decode cJ2_getChar_3b067 42 = .ok (.getstatic 59, 3) := by decide +kernel
theorem dJ2_getChar_3b067_45 : decode cJ2_getChar_3b067 45 = .ok (.ishl, 1) := by decide +kernel
theorem dJ2_getChar_3b067_46 : decode cJ2_getChar_3b067 46 = .ok (.aload_n 0, 1) := by decide +kernel
theorem dJ2_getChar_3b067_47 : decode cJ2_getChar_3b067 47 = .ok (.iload_n 1, 1) := by decide +kernel
theorem dJ2_getChar_3b067_48 : decode cJ2_getChar_3b067 48 = .ok (.baload, 1) := by decide +kernel
theorem dJ2_getChar_3b067_49 : decode cJ2_getChar_3b067 49 = .ok (.sipush 255, 3) := by decide +kernel
theorem dJ2_getChar_3b067_52 : decode cJ2_getChar_3b067 52 = .ok (.iand, 1) := by decide +kernel
theorem dJ2_getChar_3b067_53 : decode cJ2_getChar_3b067 53 = .ok (.getstatic 63, 3) := by decide +kernel
theorem dJ2_getChar_3b067_56 : decode cJ2_getChar_3b067 56 = .ok (.ishl, 1) := by decide +kernel
theorem dJ2_getChar_3b067_57 : decode cJ2_getChar_3b067 57 = .ok (.ior, 1) := by decide +kernel
theorem dJ2_getChar_3b067_58 : decode cJ2_getChar_3b067 58 = .ok (.i2c, 1) := by decide +kernel
theorem dJ2_getChar_3b067_59 : decode cJ2_getChar_3b067 59 = .ok (.ireturn, 1) := by decide +kernel
theorem dJ2_length_9d52b_0 : decode cJ2_length_9d52b 0 = .ok (.aload_n 0, 1) := by decide +kernel
theorem dJ2_length_9d52b_1 : decode cJ2_length_9d52b 1 = .ok (.arraylength, 1) := by decide +kernel
theorem dJ2_length_9d52b_2 : decode cJ2_length_9d52b 2 = .ok (.iconst 1, 1) := by decide +kernel
theorem dJ2_length_9d52b_3 : decode cJ2_length_9d52b 3 = .ok (.ishr, 1) := by decide +kernel
theorem dJ2_length_9d52b_4 : decode cJ2_length_9d52b 4 = .ok (.ireturn, 1) := by decide +kernel
theorem dJ2_indexOf_4cfef_0 : decode cJ2_indexOf_4cfef 0 = .ok (.iload_n 2, 1) := by decide +kernel
theorem dJ2_indexOf_4cfef_1 : decode cJ2_indexOf_4cfef 1 = .ok (.iconst 0, 1) := by decide +kernel
theorem dJ2_indexOf_4cfef_2 : decode cJ2_indexOf_4cfef 2 = .ok (.invokestatic 224, 3) := by decide +kernel
theorem dJ2_indexOf_4cfef_5 : decode cJ2_indexOf_4cfef 5 = .ok (.istore_n 2, 1) := by decide +kernel
theorem dJ2_indexOf_4cfef_6 : decode cJ2_indexOf_4cfef 6 = .ok (.iload_n 3, 1) := by decide +kernel
theorem dJ2_indexOf_4cfef_7 : decode cJ2_indexOf_4cfef 7 = .ok (.aload_n 0, 1) := by decide +kernel
theorem dJ2_indexOf_4cfef_8 : decode cJ2_indexOf_4cfef 8 = .ok (.arraylength, 1) := by decide +kernel
theorem dJ2_indexOf_4cfef_9 : decode cJ2_indexOf_4cfef 9 = .ok (.iconst 1, 1) := by decide +kernel
theorem dJ2_indexOf_4cfef_10 : decode cJ2_indexOf_4cfef 10 = .ok (.ishr, 1) := by decide +kernel
theorem dJ2_indexOf_4cfef_11 : decode cJ2_indexOf_4cfef 11 = .ok (.invokestatic 183, 3) := by decide +kernel
theorem dJ2_indexOf_4cfef_14 : decode cJ2_indexOf_4cfef 14 = .ok (.istore_n 3, 1) := by decide +kernel
theorem dJ2_indexOf_4cfef_15 : decode cJ2_indexOf_4cfef 15 = .ok (.iload_n 2, 1) := by decide +kernel
theorem dJ2_indexOf_4cfef_16 : decode cJ2_indexOf_4cfef 16 = .ok (.iload_n 3, 1) := by decide +kernel
theorem dJ2_indexOf_4cfef_17 : decode cJ2_indexOf_4cfef 17 = .ok (.if_icmp .lt 5, 3) := by decide +kernel
theorem dJ2_indexOf_4cfef_20 : decode cJ2_indexOf_4cfef 20 = .ok (.iconst (-1), 1) := by decide +kernel
theorem dJ2_indexOf_4cfef_21 : decode cJ2_indexOf_4cfef 21 = .ok (.ireturn, 1) := by decide +kernel
theorem dJ2_indexOf_4cfef_22 : decode cJ2_indexOf_4cfef 22 = .ok (.iload_n 1, 1) := by decide +kernel
theorem dJ2_indexOf_4cfef_23 : decode cJ2_indexOf_4cfef 23 = .ok (.ldc 227, 2) := by decide +kernel
theorem dJ2_indexOf_4cfef_25 : decode cJ2_indexOf_4cfef 25 = .ok (.if_icmp .ge 11, 3) := by decide +kernel
theorem dJ2_indexOf_4cfef_28 : decode cJ2_indexOf_4cfef 28 = .ok (.aload_n 0, 1) := by decide +kernel
theorem dJ2_indexOf_4cfef_29 : decode cJ2_indexOf_4cfef 29 = .ok (.iload_n 1, 1) := by decide +kernel
theorem dJ2_indexOf_4cfef_30 : decode cJ2_indexOf_4cfef 30 = .ok (.iload_n 2, 1) := by decide +kernel
theorem dJ2_indexOf_4cfef_31 : decode cJ2_indexOf_4cfef 31 = .ok (.iload_n 3, 1) := by decide +kernel
theorem dJ2_indexOf_4cfef_32 : decode cJ2_indexOf_4cfef 32 = .ok (.invokestatic 228, 3) := by decide +kernel
theorem dJ2_indexOf_4cfef_35 : decode cJ2_indexOf_4cfef 35 = .ok (.ireturn, 1) := by decide +kernel
theorem dJ2_indexOf_4cfef_36 : decode cJ2_indexOf_4cfef 36 = .ok (.aload_n 0, 1) := by decide +kernel
theorem dJ2_indexOf_4cfef_37 : decode cJ2_indexOf_4cfef 37 = .ok (.iload_n 1, 1) := by decide +kernel
theorem dJ2_indexOf_4cfef_38 : decode cJ2_indexOf_4cfef 38 = .ok (.iload_n 2, 1) := by decide +kernel
theorem dJ2_indexOf_4cfef_39 : decode cJ2_indexOf_4cfef 39 = .ok (.iload_n 3, 1) := by decide +kernel
theorem dJ2_indexOf_4cfef_40 : decode cJ2_indexOf_4cfef 40 = .ok (.invokestatic 232, 3) := by decide +kernel
theorem dJ2_indexOf_4cfef_43 : decode cJ2_indexOf_4cfef 43 = .ok (.ireturn, 1) := by decide +kernel
theorem dJ2_indexOfChar_4cfef_0 : decode cJ2_indexOfChar_4cfef 0 = .ok (.iload_n 2, 1) := by decide +kernel
theorem dJ2_indexOfChar_4cfef_1 : decode cJ2_indexOfChar_4cfef 1 = .ok (.iload_n 3, 1) := by decide +kernel
theorem dJ2_indexOfChar_4cfef_2 : decode cJ2_indexOfChar_4cfef 2 = .ok (.aload_n 0, 1) := by decide +kernel
theorem dJ2_indexOfChar_4cfef_3 : decode cJ2_indexOfChar_4cfef 3 = .ok (.invokestatic 96, 3) := by decide +kernel
theorem dJ2_indexOfChar_4cfef_6 : decode cJ2_indexOfChar_4cfef 6 = .ok (.aload_n 0, 1) := by decide +kernel
theorem dJ2_indexOfChar_4cfef_7 : decode cJ2_indexOfChar_4cfef 7 = .ok (.iload_n 1, 1) := by decide +kernel
theorem dJ2_indexOfChar_4cfef_8 : decode cJ2_indexOfChar_4cfef 8 = .ok (.iload_n 2, 1) := by decide +kernel
theorem dJ2_indexOfChar_4cfef_9 : decode cJ2_indexOfChar_4cfef 9 = .ok (.iload_n 3, 1) := by decide +kernel
theorem dJ2_indexOfChar_4cfef_10 : decode cJ2_indexOfChar_4cfef 10 = .ok (.invokestatic 244, 3) := by decide +kernel
theorem dJ2_indexOfChar_4cfef_13 : decode cJ2_indexOfChar_4cfef 13 = .ok (.ireturn, 1) := by decide +kernel
theorem dJ2_indexOfCharUnsafe_4cfef_0 : decode cJ2_indexOfCharUnsafe_4cfef 0 = .ok (.iload_n 2, 1) := by decide +kernel
theorem dJ2_indexOfCharUnsafe_4cfef_1 : decode cJ2_indexOfCharUnsafe_4cfef 1 = .ok (.istore 4, 2) := by decide +kernel
theorem dJ2_indexOfCharUnsafe_4cfef_3 : decode cJ2_indexOfCharUnsafe_4cfef 3 = .ok (.iload 4, 2) := by decide +kernel
theorem dJ2_indexOfCharUnsafe_4cfef_5 : decode cJ2_indexOfCharUnsafe_4cfef 5 = .ok (.iload_n 3, 1) := by decide +kernel
theorem dJ2_indexOfCharUnsafe_4cfef_6 : decode cJ2_indexOfCharUnsafe_4cfef 6 = .ok (.if_icmp .ge 22, 3) := by decide +kernel
theorem dJ2_indexOfCharUnsafe_4cfef_9 : decode cJ2_indexOfCharUnsafe_4cfef 9 = .ok (.aload_n 0, 1) := by decide +kernel
theorem dJ2_indexOfCharUnsafe_4cfef_10 : decode cJ2_indexOfCharUnsafe_4cfef 10 = .ok (.iload 4, 2) := by decide +kernel
theorem dJ2_indexOfCharUnsafe_4cfef_12 : decode cJ2_indexOfCharUnsafe_4cfef 12 = .ok (.invokestatic 71, 3) := by decide +kernel
theorem dJ2_indexOfCharUnsafe_4cfef_15 : decode cJ2_indexOfCharUnsafe_4cfef 15 = .ok (.iload_n 1, 1) := by decide +kernel
theorem dJ2_indexOfCharUnsafe_4cfef_16 : decode cJ2_indexOfCharUnsafe_4cfef 16 = .ok (.if_icmp .ne 6, 3) := by decide +kernel
theorem dJ2_indexOfCharUnsafe_4cfef_19 : decode cJ2_indexOfCharUnsafe_4cfef 19 = .ok (.iload 4, 2) := by decide +kernel
theorem dJ2_indexOfCharUnsafe_4cfef_21 : decode cJ2_indexOfCharUnsafe_4cfef 21 = .ok (.ireturn, 1) := by decide +kernel
theorem dJ2_indexOfCharUnsafe_4cfef_22 : decode cJ2_indexOfCharUnsafe_4cfef 22 = .ok (.iinc 4 1, 3) := by decide +kernel
theorem dJ2_indexOfCharUnsafe_4cfef_25 : decode cJ2_indexOfCharUnsafe_4cfef 25 = .ok (.goto (-22), 3) := by decide +kernel
theorem dJ2_indexOfCharUnsafe_4cfef_28 : decode cJ2_indexOfCharUnsafe_4cfef 28 = .ok (.iconst (-1), 1) := by decide +kernel
theorem dJ2_indexOfCharUnsafe_4cfef_29 : decode cJ2_indexOfCharUnsafe_4cfef 29 = .ok (.ireturn, 1) := by decide +kernel
theorem dJ2_indexOfSupplementary_4cfef_0 : decode cJ2_indexOfSupplementary_4cfef 0 = .ok (.iload_n 1, 1) := by decide +kernel
theorem dJ2_indexOfSupplementary_4cfef_1 : decode cJ2_indexOfSupplementary_4cfef 1 = .ok (.invokestatic 164, 3) := by decide +kernel
theorem dJ2_indexOfSupplementary_4cfef_4 : decode cJ2_indexOfSupplementary_4cfef 4 = .ok (.ifCond .eq 65, 3) := by decide +kernel
theorem dJ2_indexOfSupplementary_4cfef_7 : decode cJ2_indexOfSupplementary_4cfef 7 = .ok (.iload_n 1, 1) := by decide +kernel
theorem dJ2_indexOfSupplementary_4cfef_8 : decode cJ2_indexOfSupplementary_4cfef 8 = .ok (.invokestatic 157, 3) := by decide +kernel
theorem dJ2_indexOfSupplementary_4cfef_11 : decode cJ2_indexOfSupplementary_4cfef 11 = .ok (.istore 4, 2) := by decide +kernel
theorem dJ2_indexOfSupplementary_4cfef_13 : decode cJ2_indexOfSupplementary_4cfef 13 = .ok (.iload_n 1, 1) := by decide +kernel
theorem dJ2_indexOfSupplementary_4cfef_14 : decode cJ2_indexOfSupplementary_4cfef 14 = .ok (.invokestatic 161, 3) := by decide +kernel
theorem dJ2_indexOfSupplementary_4cfef_17 : decode cJ2_indexOfSupplementary_4cfef 17 = .ok (.istore 5, 2) := by decide +kernel
theorem dJ2_indexOfSupplementary_4cfef_19 : decode cJ2_indexOfSupplementary_4cfef 19 = .ok (.iload_n 2, 1) := by decide +kernel
theorem dJ2_indexOfSupplementary_4cfef_20 : decode cJ2_indexOfSupplementary_4cfef 20 = .ok (.iload_n 3, 1) := by decide +kernel
theorem dJ2_indexOfSupplementary_4cfef_21 : decode cJ2_indexOfSupplementary_4cfef 21 = .ok (.aload_n 0, 1) := by decide +kernel
theorem dJ2_indexOfSupplementary_4cfef_22 : decode cJ2_indexOfSupplementary_4cfef 22 = .ok (.invokestatic 96, 3) := by decide +kernel
theorem dJ2_indexOfSupplementary_4cfef_25 : decode cJ2_indexOfSupplementary_4cfef 25 = .ok (.iload_n 2, 1) := by decide +kernel
theorem dJ2_indexOfSupplementary_4cfef_26 : decode cJ2_indexOfSupplementary_4cfef 26 = .ok (.istore 6, 2) := by decide +kernel
theorem dJ2_indexOfSupplementary_4cfef_28 : decode cJ2_indexOfSupplementary_4cfef 28 = .ok (.iload 6, 2) := by decide +kernel
theorem dJ2_indexOfSupplementary_4cfef_30 : decode cJ2_indexOfSupplementary_4cfef 30 = .ok (.iload_n 3, 1) := by decide +kernel
theorem dJ2_indexOfSupplementary_4cfef_31 : decode cJ2_indexOfSupplementary_4cfef 31 = .ok (.iconst 1, 1) := by decide +kernel
theorem dJ2_indexOfSupplementary_4cfef_32 : decode cJ2_indexOfSupplementary_4cfef 32 = .ok (.isub, 1) := by decide +kernel
theorem dJ2_indexOfSupplementary_4cfef_33 : decode cJ2_indexOfSupplementary_4cfef 33 = .ok (.if_icmp .ge 36, 3) := by decide +kernel
theorem dJ2_indexOfSupplementary_4cfef_36 : decode cJ2_indexOfSupplementary_4cfef 36 = .ok (.aload_n 0, 1) := by decide +kernel
theorem dJ2_indexOfSupplementary_4cfef_37 : decode cJ2_indexOfSupplementary_4cfef 37 = .ok (.iload 6, 2) := by decide +kernel
theorem dJ2_indexOfSupplementary_4cfef_39 : decode cJ2_indexOfSupplementary_4cfef 39 = .ok (.invokestatic 71, 3) := by decide +kernel
theorem dJ2_indexOfSupplementary_4cfef_42 : decode cJ2_indexOfSupplementary_4cfef 42 = .ok (.iload 4, 2) := by decide +kernel
theorem dJ2_indexOfSupplementary_4cfef_44 : decode cJ2_indexOfSupplementary_4cfef 44 = .ok (.if_icmp .ne 19, 3) := by decide +kernel
theorem dJ2_indexOfSupplementary_4cfef_47 : decode cJ2_indexOfSupplementary_4cfef 47 = .ok (.aload_n 0, 1) := by decide +kernel
theorem dJ2_indexOfSupplementary_4cfef_48 : decode cJ2_indexOfSupplementary_4cfef 48 = .ok (.iload 6, 2) := by decide +kernel
theorem dJ2_indexOfSupplementary_4cfef_50 : decode cJ2_indexOfSupplementary_4cfef 50 = .ok (.iconst 1, 1) := by decide +kernel
theorem dJ2_indexOfSupplementary_4cfef_51 : decode cJ2_indexOfSupplementary_4cfef 51 = .ok (.iadd, 1) := by decide +kernel
theorem dJ2_indexOfSupplementary_4cfef_52 : decode cJ2_indexOfSupplementary_4cfef 52 = .ok (.invokestatic 71, 3) := by decide +kernel
theorem dJ2_indexOfSupplementary_4cfef_55 : decode cJ2_indexOfSupplementary_4cfef 55 = .ok (.iload 5, 2) := by decide +kernel
theorem dJ2_indexOfSupplementary_4cfef_57 : decode cJ2_indexOfSupplementary_4cfef 57 = .ok (.if_icmp .ne 6, 3) := by decide +kernel
theorem dJ2_indexOfSupplementary_4cfef_60 : decode cJ2_indexOfSupplementary_4cfef 60 = .ok (.iload 6, 2) := by decide +kernel
theorem dJ2_indexOfSupplementary_4cfef_62 : decode cJ2_indexOfSupplementary_4cfef 62 = .ok (.ireturn, 1) := by decide +kernel
theorem dJ2_indexOfSupplementary_4cfef_63 : decode cJ2_indexOfSupplementary_4cfef 63 = .ok (.iinc 6 1, 3) := by decide +kernel
theorem dJ2_indexOfSupplementary_4cfef_66 : decode cJ2_indexOfSupplementary_4cfef 66 = .ok (.goto (-38), 3) := by decide +kernel
theorem dJ2_indexOfSupplementary_4cfef_69 : decode cJ2_indexOfSupplementary_4cfef 69 = .ok (.iconst (-1), 1) := by decide +kernel
theorem dJ2_indexOfSupplementary_4cfef_70 : decode cJ2_indexOfSupplementary_4cfef 70 = .ok (.ireturn, 1) := by decide +kernel
theorem dJ2_checkBoundsBeginEnd_d044e_0 : decode cJ2_checkBoundsBeginEnd_d044e 0 = .ok (.iload_n 0, 1) := by decide +kernel
theorem dJ2_checkBoundsBeginEnd_d044e_1 : decode cJ2_checkBoundsBeginEnd_d044e 1 = .ok (.iload_n 1, 1) := by decide +kernel
theorem dJ2_checkBoundsBeginEnd_d044e_2 : decode cJ2_checkBoundsBeginEnd_d044e 2 = .ok (.aload_n 2, 1) := by decide +kernel
theorem dJ2_checkBoundsBeginEnd_d044e_3 : decode cJ2_checkBoundsBeginEnd_d044e 3 = .ok (.invokestatic 48, 3) := by decide +kernel
theorem dJ2_checkBoundsBeginEnd_d044e_6 : decode cJ2_checkBoundsBeginEnd_d044e 6 = .ok (.invokestatic 241, 3) := by decide +kernel
theorem dJ2_checkBoundsBeginEnd_d044e_9 : decode cJ2_checkBoundsBeginEnd_d044e 9 = .ok (.return_, 1) := by decide +kernel
theorem dJ3_checkFromToIndex_8c36e_0 : decode cJ3_checkFromToIndex_8c36e 0 = .ok (.iload_n 0, 1) := by decide +kernel
theorem dJ3_checkFromToIndex_8c36e_1 : decode cJ3_checkFromToIndex_8c36e 1 = .ok (.ifCond .lt 13, 3) := by decide +kernel
theorem dJ3_checkFromToIndex_8c36e_4 : decode cJ3_checkFromToIndex_8c36e 4 = .ok (.iload_n 0, 1) := by decide +kernel
theorem dJ3_checkFromToIndex_8c36e_5 : decode cJ3_checkFromToIndex_8c36e 5 = .ok (.iload_n 1, 1) := by decide +kernel
theorem dJ3_checkFromToIndex_8c36e_6 : decode cJ3_checkFromToIndex_8c36e 6 = .ok (.if_icmp .gt 8, 3) := by decide +kernel
theorem dJ3_checkFromToIndex_8c36e_9 : decode cJ3_checkFromToIndex_8c36e 9 = .ok (.iload_n 1, 1) := by decide +kernel
theorem dJ3_checkFromToIndex_8c36e_10 : decode cJ3_checkFromToIndex_8c36e 10 = .ok (.iload_n 2, 1) := by decide +kernel
theorem dJ3_checkFromToIndex_8c36e_11 : decode cJ3_checkFromToIndex_8c36e 11 = .ok (.if_icmp .le 11, 3) := by decide +kernel
theorem dJ3_checkFromToIndex_8c36e_14 : decode cJ3_checkFromToIndex_8c36e 14 = .ok (.aload_n 3, 1) := by decide +kernel
theorem dJ3_checkFromToIndex_8c36e_15 : decode cJ3_checkFromToIndex_8c36e 15 = .ok (.iload_n 0, 1) := by decide +kernel
theorem dJ3_checkFromToIndex_8c36e_16 : decode cJ3_checkFromToIndex_8c36e 16 = .ok (.iload_n 1, 1) := by decide +kernel
theorem dJ3_checkFromToIndex_8c36e_17 : decode cJ3_checkFromToIndex_8c36e 17 = .ok (.iload_n 2, 1) := by decide +kernel
theorem dJ3_checkFromToIndex_8c36e_18 : decode cJ3_checkFromToIndex_8c36e 18 = .ok (.invokestatic 99, 3) := by decide +kernel
theorem dJ3_checkFromToIndex_8c36e_21 : decode cJ3_checkFromToIndex_8c36e 21 = .ok (.athrow, 1) := by decide +kernel
theorem dJ3_checkFromToIndex_8c36e_22 : decode cJ3_checkFromToIndex_8c36e 22 = .ok (.iload_n 0, 1) := by decide +kernel
theorem dJ3_checkFromToIndex_8c36e_23 : decode cJ3_checkFromToIndex_8c36e 23 = .ok (.ireturn, 1) := by decide +kernel
theorem dL_cell_0 : decode cL_cell 0 = .ok (.iload_n 1, 1) := by decide +kernel
theorem dL_cell_1 : decode cL_cell 1 = .ok (.aload_n 0, 1) := by decide +kernel
theorem dL_cell_2 : decode cL_cell 2 = .ok (.arraylength, 1) := by decide +kernel
theorem dL_cell_3 : decode cL_cell 3 = .ok (.if_icmp .ge 9, 3) := by decide +kernel
theorem dL_cell_6 : decode cL_cell 6 = .ok (.aload_n 0, 1) := by decide +kernel
theorem dL_cell_7 : decode cL_cell 7 = .ok (.iload_n 1, 1) := by decide +kernel
theorem dL_cell_8 : decode cL_cell 8 = .ok (.iaload, 1) := by decide +kernel
theorem dL_cell_9 : decode cL_cell 9 = .ok (.goto 13, 3) := by decide +kernel
theorem dL_cell_12 : decode cL_cell 12 = .ok (.ldc 7, 2) := by decide +kernel
theorem dL_cell_14 : decode cL_cell 14 = .ok (.iload_n 1, 1) := by decide +kernel
theorem dL_cell_15 : decode cL_cell 15 = .ok (.bipush 61, 2) := by decide +kernel
theorem dL_cell_17 : decode cL_cell 17 = .ok (.iadd, 1) := by decide +kernel
theorem dL_cell_18 : decode cL_cell 18 = .ok (.imul, 1) := by decide +kernel
theorem dL_cell_19 : decode cL_cell 19 = .ok (.ldc 8, 2) := by decide +kernel
theorem dL_cell_21 : decode cL_cell 21 = .ok (.iadd, 1) := by decide +kernel
theorem dL_cell_22 : decode cL_cell 22 = .ok (.ireturn, 1) := by decide +kernel
theorem dL_low_0 : decode cL_low 0 = .ok (.iload_n 0, 1) := by decide +kernel
theorem dL_low_1 : decode cL_low 1 = .ok (.ldc 9, 2) := by decide +kernel
theorem dL_low_3 : decode cL_low 3 = .ok (.iand, 1) := by decide +kernel
theorem dL_low_4 : decode cL_low 4 = .ok (.iload_n 1, 1) := by decide +kernel
theorem dL_low_5 : decode cL_low 5 = .ok (.irem, 1) := by decide +kernel
theorem dL_low_6 : decode cL_low 6 = .ok (.ireturn, 1) := by decide +kernel
theorem dL_match_0 : decode cL_match 0 = .ok (.aload_n 0, 1) := by decide +kernel
theorem dL_match_1 : decode cL_match 1 = .ok (.iload_n 1, 1) := by decide +kernel
theorem dL_match_2 : decode cL_match 2 = .ok (.iload_n 2, 1) := by decide +kernel
theorem dL_match_3 : decode cL_match 3 = .ok (.invokevirtual 10, 3) := by decide +kernel
theorem dL_match_6 : decode cL_match 6 = .ok (.ireturn, 1) := by decide +kernel
theorem dL_match_7 : decode cL_match 7 = .ok (.astore_n 3, 1) := by decide +kernel
theorem dL_match_8 : decode cL_match 8 = .ok (.iconst 0, 1) := by decide +kernel
theorem dL_match_9 : decode cL_match 9 = .ok (.ireturn, 1) := by decide +kernel
theorem dL_match_10 : decode cL_match 10 = .ok (.astore_n 3, 1) := by decide +kernel
theorem dL_match_11 : decode cL_match 11 = .ok (.iconst 0, 1) := by decide +kernel
theorem dL_match_12 : decode cL_match 12 = .ok (.ireturn, 1) := by decide +kernel
theorem dL_types_0 : decode cL_types 0 = .ok (.aload_n 0, 1) := by decide +kernel
theorem dL_types_1 : decode cL_types 1 = .ok (.iload 4, 2) := by decide +kernel
theorem dL_types_3 : decode cL_types 3 = .ok (.i2l, 1) := by decide +kernel
theorem dL_types_4 : decode cL_types 4 = .ok (.iload 5, 2) := by decide +kernel
theorem dL_types_6 : decode cL_types 6 = .ok (.i2l, 1) := by decide +kernel
theorem dL_types_7 : decode cL_types 7 = .ok (.bipush 8, 2) := by decide +kernel
theorem dL_types_9 : decode cL_types 9 = .ok (.lshl, 1) := by decide +kernel
theorem dL_types_10 : decode cL_types 10 = .ok (.lor, 1) := by decide +kernel
theorem dL_types_11 : decode cL_types 11 = .ok (.ldc2_w 20, 3) := by decide +kernel
theorem dL_types_14 : decode cL_types 14 = .ok (.lor, 1) := by decide +kernel
theorem dL_types_15 : decode cL_types 15 = .ok (.ldc2_w 22, 3) := by decide +kernel
theorem dL_types_18 : decode cL_types 18 = .ok (.iload 6, 2) := by decide +kernel
theorem dL_types_20 : decode cL_types 20 = .ok (.i2l, 1) := by decide +kernel
theorem dL_types_21 : decode cL_types 21 = .ok (.ladd, 1) := by decide +kernel
theorem dL_types_22 : decode cL_types 22 = .ok (.bipush 24, 2) := by decide +kernel
theorem dL_types_24 : decode cL_types 24 = .ok (.lshl, 1) := by decide +kernel
theorem dL_types_25 : decode cL_types 25 = .ok (.lor, 1) := by decide +kernel
theorem dL_types_26 : decode cL_types 26 = .ok (.ldc2_w 24, 3) := by decide +kernel
theorem dL_types_29 : decode cL_types 29 = .ok (.lor, 1) := by decide +kernel
theorem dL_types_30 : decode cL_types 30 = .ok (.invokevirtual 26, 3) := by decide +kernel
theorem dL_types_33 : decode cL_types 33 = .ok (.pop, 1) := by decide +kernel
theorem dL_types_34 : decode cL_types 34 = .ok (.aload_n 0, 1) := by decide +kernel
theorem dL_types_35 : decode cL_types 35 = .ok (.ldc2_w 30, 3) := by decide +kernel
theorem dL_types_38 : decode cL_types 38 = .ok (.iload_n 1, 1) := by decide +kernel
theorem dL_types_39 : decode cL_types 39 = .ok (.bipush 100, 2) := by decide +kernel
theorem dL_types_41 : decode cL_types 41 = .ok (.idiv, 1) := by decide +kernel
theorem dL_types_42 : decode cL_types 42 = .ok (.i2l, 1) := by decide +kernel
theorem dL_types_43 : decode cL_types 43 = .ok (.ladd, 1) := by decide +kernel
theorem dL_types_44 : decode cL_types 44 = .ok (.ldc2_w 30, 3) := by decide +kernel
theorem dL_types_47 : decode cL_types 47 = .ok (.iload_n 1, 1) := by decide +kernel
theorem dL_types_48 : decode cL_types 48 = .ok (.bipush 10, 2) := by decide +kernel
theorem dL_types_50 : decode cL_types 50 = .ok (.idiv, 1) := by decide +kernel
theorem dL_types_51 : decode cL_types 51 = .ok (.bipush 10, 2) := by decide +kernel
theorem dL_types_53 : decode cL_types 53 = .ok (.irem, 1) := by decide +kernel
theorem dL_types_54 : decode cL_types 54 = .ok (.i2l, 1) := by decide +kernel
theorem dL_types_55 : decode cL_types 55 = .ok (.ladd, 1) := by decide +kernel
theorem dL_types_56 : decode cL_types 56 = .ok (.bipush 8, 2) := by decide +kernel
theorem dL_types_58 : decode cL_types 58 = .ok (.lshl, 1) := by decide +kernel
theorem dL_types_59 : decode cL_types 59 = .ok (.lor, 1) := by decide +kernel
theorem dL_types_60 : decode cL_types 60 = .ok (.ldc2_w 30, 3) := by decide +kernel
theorem dL_types_63 : decode cL_types 63 = .ok (.iload_n 1, 1) := by decide +kernel
theorem dL_types_64 : decode cL_types 64 = .ok (.bipush 10, 2) := by decide +kernel
theorem dL_types_66 : decode cL_types 66 = .ok (.irem, 1) := by decide +kernel
theorem dL_types_67 : decode cL_types 67 = .ok (.i2l, 1) := by decide +kernel
theorem dL_types_68 : decode cL_types 68 = .ok (.ladd, 1) := by decide +kernel
theorem dL_types_69 : decode cL_types 69 = .ok (.bipush 16, 2) := by decide +kernel
theorem dL_types_71 : decode cL_types 71 = .ok (.lshl, 1) := by decide +kernel
theorem dL_types_72 : decode cL_types 72 = .ok (.lor, 1) := by decide +kernel
theorem dL_types_73 : decode cL_types 73 = .ok (.ldc2_w 32, 3) := by decide +kernel
theorem dL_types_76 : decode cL_types 76 = .ok (.lor, 1) := by decide +kernel
theorem dL_types_77 : decode cL_types 77 = .ok (.ldc2_w 30, 3) := by decide +kernel
theorem dL_types_80 : decode cL_types 80 = .ok (.iload_n 2, 1) := by decide +kernel
theorem dL_types_81 : decode cL_types 81 = .ok (.i2l, 1) := by decide +kernel
theorem dL_types_82 : decode cL_types 82 = .ok (.ladd, 1) := by decide +kernel
theorem dL_types_83 : decode cL_types 83 = .ok (.bipush 32, 2) := by decide +kernel
theorem dL_types_85 : decode cL_types 85 = .ok (.lshl, 1) := by decide +kernel
theorem dL_types_86 : decode cL_types 86 = .ok (.lor, 1) := by decide +kernel
theorem dL_types_87 : decode cL_types 87 = .ok (.ldc2_w 34, 3) := by decide +kernel
theorem dL_types_90 : decode cL_types 90 = .ok (.lor, 1) := by decide +kernel
theorem dL_types_91 : decode cL_types 91 = .ok (.invokevirtual 26, 3) := by decide +kernel
theorem dL_types_94 : decode cL_types 94 = .ok (.pop, 1) := by decide +kernel
theorem dL_types_95 : decode cL_types 95 = .ok (.iload_n 3, 1) := by decide +kernel
theorem dL_types_96 : decode cL_types 96 = .ok (.bipush 9, 2) := by decide +kernel
theorem dL_types_98 : decode cL_types 98 = .ok (.if_icmp .le 17, 3) := by decide +kernel
theorem dL_types_101 : decode cL_types 101 = .ok (.aload_n 0, 1) := by decide +kernel
theorem dL_types_102 : decode cL_types 102 = .ok (.ldc2_w 30, 3) := by decide +kernel
theorem dL_types_105 : decode cL_types 105 = .ok (.iload_n 3, 1) := by decide +kernel
theorem dL_types_106 : decode cL_types 106 = .ok (.bipush 10, 2) := by decide +kernel
theorem dL_types_108 : decode cL_types 108 = .ok (.idiv, 1) := by decide +kernel
theorem dL_types_109 : decode cL_types 109 = .ok (.i2l, 1) := by decide +kernel
theorem dL_types_110 : decode cL_types 110 = .ok (.ladd, 1) := by decide +kernel
theorem dL_types_111 : decode cL_types 111 = .ok (.invokevirtual 26, 3) := by decide +kernel
theorem dL_types_114 : decode cL_types 114 = .ok (.pop, 1) := by decide +kernel
theorem dL_types_115 : decode cL_types 115 = .ok (.aload_n 0, 1) := by decide +kernel
theorem dL_types_116 : decode cL_types 116 = .ok (.ldc2_w 30, 3) := by decide +kernel
theorem dL_types_119 : decode cL_types 119 = .ok (.iload_n 3, 1) := by decide +kernel
theorem dL_types_120 : decode cL_types 120 = .ok (.bipush 10, 2) := by decide +kernel
theorem dL_types_122 : decode cL_types 122 = .ok (.irem, 1) := by decide +kernel
theorem dL_types_123 : decode cL_types 123 = .ok (.i2l, 1) := by decide +kernel
theorem dL_types_124 : decode cL_types 124 = .ok (.ladd, 1) := by decide +kernel
theorem dL_types_125 : decode cL_types 125 = .ok (.invokevirtual 26, 3) := by decide +kernel
theorem dL_types_128 : decode cL_types 128 = .ok (.pop, 1) := by decide +kernel
theorem dL_types_129 : decode cL_types 129 = .ok (.return_, 1) := by decide +kernel
theorem dL_adds_0 : decode cL_adds 0 = .ok (.aload_n 1, 1) := by decide +kernel
theorem dL_adds_1 : decode cL_adds 1 = .ok (.iconst 0, 1) := by decide +kernel
theorem dL_adds_2 : decode cL_adds 2 = .ok (.iaload, 1) := by decide +kernel
theorem dL_adds_3 : decode cL_adds 3 = .ok (.istore 4, 2) := by decide +kernel
theorem dL_adds_5 : decode cL_adds 5 = .ok (.bipush 97, 2) := by decide +kernel
theorem dL_adds_7 : decode cL_adds 7 = .ok (.iload_n 3, 1) := by decide +kernel
theorem dL_adds_8 : decode cL_adds 8 = .ok (.iconst 3, 1) := by decide +kernel
theorem dL_adds_9 : decode cL_adds 9 = .ok (.invokestatic 36, 3) := by decide +kernel
theorem dL_adds_12 : decode cL_adds 12 = .ok (.iadd, 1) := by decide +kernel
theorem dL_adds_13 : decode cL_adds 13 = .ok (.istore 5, 2) := by decide +kernel
theorem dL_adds_15 : decode cL_adds 15 = .ok (.iload_n 3, 1) := by decide +kernel
theorem dL_adds_16 : decode cL_adds 16 = .ok (.iconst 2, 1) := by decide +kernel
theorem dL_adds_17 : decode cL_adds 17 = .ok (.ishr, 1) := by decide +kernel
theorem dL_adds_18 : decode cL_adds 18 = .ok (.iconst 4, 1) := by decide +kernel
theorem dL_adds_19 : decode cL_adds 19 = .ok (.invokestatic 36, 3) := by decide +kernel
theorem dL_adds_22 : decode cL_adds 22 = .ok (.ifCond .ne 16, 3) := by decide +kernel
theorem dL_adds_25 : decode cL_adds 25 = .ok (.bipush 65, 2) := by decide +kernel
theorem dL_adds_27 : decode cL_adds 27 = .ok (.iload_n 3, 1) := by decide +kernel
theorem dL_adds_28 : decode cL_adds 28 = .ok (.iconst 4, 1) := by decide +kernel
theorem dL_adds_29 : decode cL_adds 29 = .ok (.ishr, 1) := by decide +kernel
theorem dL_adds_30 : decode cL_adds 30 = .ok (.iconst 3, 1) := by decide +kernel
theorem dL_adds_31 : decode cL_adds 31 = .ok (.invokestatic 36, 3) := by decide +kernel
theorem dL_adds_34 : decode cL_adds 34 = .ok (.iadd, 1) := by decide +kernel
theorem dL_adds_35 : decode cL_adds 35 = .ok (.goto 13, 3) := by decide +kernel
theorem dL_adds_38 : decode cL_adds 38 = .ok (.bipush 97, 2) := by decide +kernel
theorem dL_adds_40 : decode cL_adds 40 = .ok (.iload_n 3, 1) := by decide +kernel
theorem dL_adds_41 : decode cL_adds 41 = .ok (.iconst 4, 1) := by decide +kernel
theorem dL_adds_42 : decode cL_adds 42 = .ok (.ishr, 1) := by decide +kernel
theorem dL_adds_43 : decode cL_adds 43 = .ok (.iconst 3, 1) := by decide +kernel
theorem dL_adds_44 : decode cL_adds 44 = .ok (.invokestatic 36, 3) := by decide +kernel
theorem dL_adds_47 : decode cL_adds 47 = .ok (.iadd, 1) := by decide +kernel
theorem dL_adds_48 : decode cL_adds 48 = .ok (.istore 6, 2) := by decide +kernel
theorem dL_adds_50 : decode cL_adds 50 = .ok (.iload_n 3, 1) := by decide +kernel
theorem dL_adds_51 : decode cL_adds 51 = .ok (.bipush 6, 2) := by decide +kernel
theorem dL_adds_53 : decode cL_adds 53 = .ok (.ishr, 1) := by decide +kernel
theorem dL_adds_54 : decode cL_adds 54 = .ok (.iconst 3, 1) := by decide +kernel
theorem dL_adds_55 : decode cL_adds 55 = .ok (.invokestatic 36, 3) := by decide +kernel
theorem dL_adds_58 : decode cL_adds 58 = .ok (.ifCond .ne 16, 3) := by decide +kernel
theorem dL_adds_61 : decode cL_adds 61 = .ok (.iload_n 3, 1) := by decide +kernel
theorem dL_adds_62 : decode cL_adds 62 = .ok (.bipush 8, 2) := by decide +kernel
theorem dL_adds_64 : decode cL_adds 64 = .ok (.ishr, 1) := by decide +kernel
theorem dL_adds_65 : decode cL_adds 65 = .ok (.sipush 1000, 3) := by decide +kernel
theorem dL_adds_68 : decode cL_adds 68 = .ok (.invokestatic 36, 3) := by decide +kernel
theorem dL_adds_71 : decode cL_adds 71 = .ok (.goto 5, 3) := by decide +kernel
theorem dL_adds_74 : decode cL_adds 74 = .ok (.bipush 7, 2) := by decide +kernel
theorem dL_adds_76 : decode cL_adds 76 = .ok (.istore 7, 2) := by decide +kernel
theorem dL_adds_78 : decode cL_adds 78 = .ok (.iload_n 3, 1) := by decide +kernel
theorem dL_adds_79 : decode cL_adds 79 = .ok (.bipush 18, 2) := by decide +kernel
theorem dL_adds_81 : decode cL_adds 81 = .ok (.ishr, 1) := by decide +kernel
theorem dL_adds_82 : decode cL_adds 82 = .ok (.bipush 6, 2) := by decide +kernel
theorem dL_adds_84 : decode cL_adds 84 = .ok (.invokestatic 36, 3) := by decide +kernel
theorem dL_adds_87 : decode cL_adds 87 = .ok (.istore 8, 2) := by decide +kernel
theorem dL_adds_89 : decode cL_adds 89 = .ok (.iload_n 3, 1) := by decide +kernel
theorem dL_adds_90 : decode cL_adds 90 = .ok (.bipush 12, 2) := by decide +kernel
theorem dL_adds_92 : decode cL_adds 92 = .ok (.ishr, 1) := by decide +kernel
theorem dL_adds_93 : decode cL_adds 93 = .ok (.bipush 100, 2) := by decide +kernel
theorem dL_adds_95 : decode cL_adds 95 = .ok (.invokestatic 36, 3) := by decide +kernel
theorem dL_adds_98 : decode cL_adds 98 = .ok (.istore 9, 2) := by decide +kernel
theorem dL_adds_100 : decode cL_adds 100 = .ok (.aload_n 0, 1) := by decide +kernel
theorem dL_adds_101 : decode cL_adds 101 = .ok (.iload 7, 2) := by decide +kernel
theorem dL_adds_103 : decode cL_adds 103 = .ok (.iload 8, 2) := by decide +kernel
theorem dL_adds_105 : decode cL_adds 105 = .ok (.iload 9, 2) := by decide +kernel
theorem dL_adds_107 : decode cL_adds 107 = .ok (.iload 5, 2) := by decide +kernel
theorem dL_adds_109 : decode cL_adds 109 = .ok (.iload 6, 2) := by decide +kernel
theorem dL_adds_111 : decode cL_adds 111 = .ok (.iload 4, 2) := by decide +kernel
theorem dL_adds_113 : decode cL_adds 113 = .ok (.invokestatic 42, 3) := by decide +kernel
theorem dL_adds_116 : decode cL_adds 116 = .ok (.aload_n 2, 1) := by decide +kernel
theorem dL_adds_117 : decode cL_adds 117 = .ok (.iconst 5, 1) := by decide +kernel
theorem dL_adds_118 : decode cL_adds 118 = .ok (.iload 4, 2) := by decide +kernel
theorem dL_adds_120 : decode cL_adds 120 = .ok (.imul, 1) := by decide +kernel
theorem dL_adds_121 : decode cL_adds 121 = .ok (.iload 5, 2) := by decide +kernel
theorem dL_adds_123 : decode cL_adds 123 = .ok (.iastore, 1) := by decide +kernel
theorem dL_adds_124 : decode cL_adds 124 = .ok (.aload_n 2, 1) := by decide +kernel
theorem dL_adds_125 : decode cL_adds 125 = .ok (.iconst 5, 1) := by decide +kernel
theorem dL_adds_126 : decode cL_adds 126 = .ok (.iload 4, 2) := by decide +kernel
theorem dL_adds_128 : decode cL_adds 128 = .ok (.imul, 1) := by decide +kernel
theorem dL_adds_129 : decode cL_adds 129 = .ok (.iconst 1, 1) := by decide +kernel
theorem dL_adds_130 : decode cL_adds 130 = .ok (.iadd, 1) := by decide +kernel
theorem dL_adds_131 : decode cL_adds 131 = .ok (.iload 6, 2) := by decide +kernel
theorem dL_adds_133 : decode cL_adds 133 = .ok (.iastore, 1) := by decide +kernel
theorem dL_adds_134 : decode cL_adds 134 = .ok (.aload_n 2, 1) := by decide +kernel
theorem dL_adds_135 : decode cL_adds 135 = .ok (.iconst 5, 1) := by decide +kernel
theorem dL_adds_136 : decode cL_adds 136 = .ok (.iload 4, 2) := by decide +kernel
theorem dL_adds_138 : decode cL_adds 138 = .ok (.imul, 1) := by decide +kernel
theorem dL_adds_139 : decode cL_adds 139 = .ok (.iconst 2, 1) := by decide +kernel
theorem dL_adds_140 : decode cL_adds 140 = .ok (.iadd, 1) := by decide +kernel
theorem dL_adds_141 : decode cL_adds 141 = .ok (.iload 7, 2) := by decide +kernel
theorem dL_adds_143 : decode cL_adds 143 = .ok (.iastore, 1) := by decide +kernel
theorem dL_adds_144 : decode cL_adds 144 = .ok (.aload_n 2, 1) := by decide +kernel
theorem dL_adds_145 : decode cL_adds 145 = .ok (.iconst 5, 1) := by decide +kernel
theorem dL_adds_146 : decode cL_adds 146 = .ok (.iload 4, 2) := by decide +kernel
theorem dL_adds_148 : decode cL_adds 148 = .ok (.imul, 1) := by decide +kernel
theorem dL_adds_149 : decode cL_adds 149 = .ok (.iconst 3, 1) := by decide +kernel
theorem dL_adds_150 : decode cL_adds 150 = .ok (.iadd, 1) := by decide +kernel
theorem dL_adds_151 : decode cL_adds 151 = .ok (.iload 8, 2) := by decide +kernel
theorem dL_adds_153 : decode cL_adds 153 = .ok (.iastore, 1) := by decide +kernel
theorem dL_adds_154 : decode cL_adds 154 = .ok (.aload_n 2, 1) := by decide +kernel
theorem dL_adds_155 : decode cL_adds 155 = .ok (.iconst 5, 1) := by decide +kernel
theorem dL_adds_156 : decode cL_adds 156 = .ok (.iload 4, 2) := by decide +kernel
theorem dL_adds_158 : decode cL_adds 158 = .ok (.imul, 1) := by decide +kernel
theorem dL_adds_159 : decode cL_adds 159 = .ok (.iconst 4, 1) := by decide +kernel
theorem dL_adds_160 : decode cL_adds 160 = .ok (.iadd, 1) := by decide +kernel
theorem dL_adds_161 : decode cL_adds 161 = .ok (.iload 9, 2) := by decide +kernel
theorem dL_adds_163 : decode cL_adds 163 = .ok (.iastore, 1) := by decide +kernel
theorem dL_adds_164 : decode cL_adds 164 = .ok (.aload_n 1, 1) := by decide +kernel
theorem dL_adds_165 : decode cL_adds 165 = .ok (.iconst 0, 1) := by decide +kernel
theorem dL_adds_166 : decode cL_adds 166 = .ok (.dup2, 1) := by decide +kernel
theorem dL_adds_167 : decode cL_adds 167 = .ok (.iaload, 1) := by decide +kernel
theorem dL_adds_168 : decode cL_adds 168 = .ok (.iconst 1, 1) := by decide +kernel
theorem dL_adds_169 : decode cL_adds 169 = .ok (.iadd, 1) := by decide +kernel
theorem dL_adds_170 : decode cL_adds 170 = .ok (.iastore, 1) := by decide +kernel
theorem dL_adds_171 : decode cL_adds 171 = .ok (.aload_n 0, 1) := by decide +kernel
theorem dL_adds_172 : decode cL_adds 172 = .ok (.iload 4, 2) := by decide +kernel
theorem dL_adds_174 : decode cL_adds 174 = .ok (.invokevirtual 46, 3) := by decide +kernel
theorem dL_adds_177 : decode cL_adds 177 = .ok (.iload 4, 2) := by decide +kernel
theorem dL_adds_179 : decode cL_adds 179 = .ok (.if_icmp .ne 26, 3) := by decide +kernel
theorem dL_adds_182 : decode cL_adds 182 = .ok (.aload_n 0, 1) := by decide +kernel
theorem dL_adds_183 : decode cL_adds 183 = .ok (.invokevirtual 50, 3) := by decide +kernel
theorem dL_adds_186 : decode cL_adds 186 = .ok (.aload_n 1, 1) := by decide +kernel
theorem dL_adds_187 : decode cL_adds 187 = .ok (.iconst 0, 1) := by decide +kernel
theorem dL_adds_188 : decode cL_adds 188 = .ok (.iaload, 1) := by decide +kernel
theorem dL_adds_189 : decode cL_adds 189 = .ok (.if_icmp .ne 16, 3) := by decide +kernel
theorem dL_adds_192 : decode cL_adds 192 = .ok (.aload_n 0, 1) := by decide +kernel
theorem dL_adds_193 : decode cL_adds 193 = .ok (.iload 4, 2) := by decide +kernel
theorem dL_adds_195 : decode cL_adds 195 = .ok (.invokevirtual 54, 3) := by decide +kernel
theorem dL_adds_198 : decode cL_adds 198 = .ok (.ifCond .ne 7, 3) := by decide +kernel
theorem dL_adds_201 : decode cL_adds 201 = .ok (.iconst 1, 1) := by decide +kernel
theorem dL_adds_202 : decode cL_adds 202 = .ok (.goto 4, 3) := by decide +kernel
theorem dL_adds_205 : decode cL_adds 205 = .ok (.iconst 0, 1) := by decide +kernel
theorem dL_adds_206 : decode cL_adds 206 = .ok (.ireturn, 1) := by decide +kernel
theorem dL_groups_0 : decode cL_groups 0 = .ok (.iconst 0, 1) := by decide +kernel
theorem dL_groups_1 : decode cL_groups 1 = .ok (.istore_n 3, 1) := by decide +kernel
theorem dL_groups_2 : decode cL_groups 2 = .ok (.iload_n 3, 1) := by decide +kernel
theorem dL_groups_3 : decode cL_groups 3 = .ok (.aload_n 0, 1) := by decide +kernel
theorem dL_groups_4 : decode cL_groups 4 = .ok (.iconst 0, 1) := by decide +kernel
theorem dL_groups_5 : decode cL_groups 5 = .ok (.iaload, 1) := by decide +kernel
theorem dL_groups_6 : decode cL_groups 6 = .ok (.if_icmp .ge 15, 3) := by decide +kernel
theorem dL_groups_9 : decode cL_groups 9 = .ok (.aload_n 2, 1) := by decide +kernel
theorem dL_groups_10 : decode cL_groups 10 = .ok (.iload_n 3, 1) := by decide +kernel
theorem dL_groups_11 : decode cL_groups 11 = .ok (.iconst 1, 1) := by decide +kernel
theorem dL_groups_12 : decode cL_groups 12 = .ok (.iload_n 3, 1) := by decide +kernel
theorem dL_groups_13 : decode cL_groups 13 = .ok (.ishl, 1) := by decide +kernel
theorem dL_groups_14 : decode cL_groups 14 = .ok (.iastore, 1) := by decide +kernel
theorem dL_groups_15 : decode cL_groups 15 = .ok (.iinc 3 1, 3) := by decide +kernel
theorem dL_groups_18 : decode cL_groups 18 = .ok (.goto (-16), 3) := by decide +kernel
theorem dL_groups_21 : decode cL_groups 21 = .ok (.iconst 0, 1) := by decide +kernel
theorem dL_groups_22 : decode cL_groups 22 = .ok (.istore_n 3, 1) := by decide +kernel
theorem dL_groups_23 : decode cL_groups 23 = .ok (.iload_n 3, 1) := by decide +kernel
theorem dL_groups_24 : decode cL_groups 24 = .ok (.aload_n 0, 1) := by decide +kernel
theorem dL_groups_25 : decode cL_groups 25 = .ok (.iconst 0, 1) := by decide +kernel
theorem dL_groups_26 : decode cL_groups 26 = .ok (.iaload, 1) := by decide +kernel
theorem dL_groups_27 : decode cL_groups 27 = .ok (.if_icmp .ge 78, 3) := by decide +kernel
theorem dL_groups_30 : decode cL_groups 30 = .ok (.iconst 0, 1) := by decide +kernel
theorem dL_groups_31 : decode cL_groups 31 = .ok (.istore 4, 2) := by decide +kernel
theorem dL_groups_33 : decode cL_groups 33 = .ok (.iload 4, 2) := by decide +kernel
theorem dL_groups_35 : decode cL_groups 35 = .ok (.aload_n 0, 1) := by decide +kernel
theorem dL_groups_36 : decode cL_groups 36 = .ok (.iconst 0, 1) := by decide +kernel
theorem dL_groups_37 : decode cL_groups 37 = .ok (.iaload, 1) := by decide +kernel
theorem dL_groups_38 : decode cL_groups 38 = .ok (.if_icmp .ge 61, 3) := by decide +kernel
theorem dL_groups_41 : decode cL_groups 41 = .ok (.iconst 0, 1) := by decide +kernel
theorem dL_groups_42 : decode cL_groups 42 = .ok (.istore 5, 2) := by decide +kernel
theorem dL_groups_44 : decode cL_groups 44 = .ok (.iload 5, 2) := by decide +kernel
theorem dL_groups_46 : decode cL_groups 46 = .ok (.aload_n 0, 1) := by decide +kernel
theorem dL_groups_47 : decode cL_groups 47 = .ok (.iconst 0, 1) := by decide +kernel
theorem dL_groups_48 : decode cL_groups 48 = .ok (.iaload, 1) := by decide +kernel
theorem dL_groups_49 : decode cL_groups 49 = .ok (.if_icmp .ge 44, 3) := by decide +kernel
theorem dL_groups_52 : decode cL_groups 52 = .ok (.aload_n 1, 1) := by decide +kernel
theorem dL_groups_53 : decode cL_groups 53 = .ok (.iload 4, 2) := by decide +kernel
theorem dL_groups_55 : decode cL_groups 55 = .ok (.iaload, 1) := by decide +kernel
theorem dL_groups_56 : decode cL_groups 56 = .ok (.iload 5, 2) := by decide +kernel
theorem dL_groups_58 : decode cL_groups 58 = .ok (.ishr, 1) := by decide +kernel
theorem dL_groups_59 : decode cL_groups 59 = .ok (.iconst 1, 1) := by decide +kernel
theorem dL_groups_60 : decode cL_groups 60 = .ok (.iand, 1) := by decide +kernel
theorem dL_groups_61 : decode cL_groups 61 = .ok (.iconst 1, 1) := by decide +kernel
theorem dL_groups_62 : decode cL_groups 62 = .ok (.if_icmp .ne 25, 3) := by decide +kernel
theorem dL_groups_65 : decode cL_groups 65 = .ok (.aload_n 2, 1) := by decide +kernel
theorem dL_groups_66 : decode cL_groups 66 = .ok (.iload 4, 2) := by decide +kernel
theorem dL_groups_68 : decode cL_groups 68 = .ok (.dup2, 1) := by decide +kernel
theorem dL_groups_69 : decode cL_groups 69 = .ok (.iaload, 1) := by decide +kernel
theorem dL_groups_70 : decode cL_groups 70 = .ok (.aload_n 2, 1) := by decide +kernel
theorem dL_groups_71 : decode cL_groups 71 = .ok (.iload 5, 2) := by decide +kernel
theorem dL_groups_73 : decode cL_groups 73 = .ok (.iaload, 1) := by decide +kernel
theorem dL_groups_74 : decode cL_groups 74 = .ok (.ior, 1) := by decide +kernel
theorem dL_groups_75 : decode cL_groups 75 = .ok (.iastore, 1) := by decide +kernel
theorem dL_groups_76 : decode cL_groups 76 = .ok (.aload_n 2, 1) := by decide +kernel
theorem dL_groups_77 : decode cL_groups 77 = .ok (.iload 5, 2) := by decide +kernel
theorem dL_groups_79 : decode cL_groups 79 = .ok (.dup2, 1) := by decide +kernel
theorem dL_groups_80 : decode cL_groups 80 = .ok (.iaload, 1) := by decide +kernel
theorem dL_groups_81 : decode cL_groups 81 = .ok (.aload_n 2, 1) := by decide +kernel
theorem dL_groups_82 : decode cL_groups 82 = .ok (.iload 4, 2) := by decide +kernel
theorem dL_groups_84 : decode cL_groups 84 = .ok (.iaload, 1) := by decide +kernel
theorem dL_groups_85 : decode cL_groups 85 = .ok (.ior, 1) := by decide +kernel
theorem dL_groups_86 : decode cL_groups 86 = .ok (.iastore, 1) := by decide +kernel
theorem dL_groups_87 : decode cL_groups 87 = .ok (.iinc 5 1, 3) := by decide +kernel
theorem dL_groups_90 : decode cL_groups 90 = .ok (.goto (-46), 3) := by decide +kernel
theorem dL_groups_93 : decode cL_groups 93 = .ok (.iinc 4 1, 3) := by decide +kernel
theorem dL_groups_96 : decode cL_groups 96 = .ok (.goto (-63), 3) := by decide +kernel
theorem dL_groups_99 : decode cL_groups 99 = .ok (.iinc 3 1, 3) := by decide +kernel
theorem dL_groups_102 : decode cL_groups 102 = .ok (.goto (-79), 3) := by decide +kernel
theorem dL_groups_105 : decode cL_groups 105 = .ok (.iconst 0, 1) := by decide +kernel
theorem dL_groups_106 : decode cL_groups 106 = .ok (.istore_n 3, 1) := by decide +kernel
theorem dL_groups_107 : decode cL_groups 107 = .ok (.iload_n 3, 1) := by decide +kernel
theorem dL_groups_108 : decode cL_groups 108 = .ok (.aload_n 0, 1) := by decide +kernel
theorem dL_groups_109 : decode cL_groups 109 = .ok (.iconst 0, 1) := by decide +kernel
theorem dL_groups_110 : decode cL_groups 110 = .ok (.iaload, 1) := by decide +kernel
theorem dL_groups_111 : decode cL_groups 111 = .ok (.if_icmp .ge 52, 3) := by decide +kernel
theorem dL_groups_114 : decode cL_groups 114 = .ok (.iconst 0, 1) := by decide +kernel
theorem dL_groups_115 : decode cL_groups 115 = .ok (.istore 4, 2) := by decide +kernel
theorem dL_groups_117 : decode cL_groups 117 = .ok (.iload 4, 2) := by decide +kernel
theorem dL_groups_119 : decode cL_groups 119 = .ok (.aload_n 0, 1) := by decide +kernel
theorem dL_groups_120 : decode cL_groups 120 = .ok (.iconst 0, 1) := by decide +kernel
theorem dL_groups_121 : decode cL_groups 121 = .ok (.iaload, 1) := by decide +kernel
theorem dL_groups_122 : decode cL_groups 122 = .ok (.if_icmp .ge 35, 3) := by decide +kernel
theorem dL_groups_125 : decode cL_groups 125 = .ok (.aload_n 2, 1) := by decide +kernel
theorem dL_groups_126 : decode cL_groups 126 = .ok (.iload_n 3, 1) := by decide +kernel
theorem dL_groups_127 : decode cL_groups 127 = .ok (.dup2, 1) := by decide +kernel
theorem dL_groups_128 : decode cL_groups 128 = .ok (.iaload, 1) := by decide +kernel
theorem dL_groups_129 : decode cL_groups 129 = .ok (.aload_n 2, 1) := by decide +kernel
theorem dL_groups_130 : decode cL_groups 130 = .ok (.iload_n 3, 1) := by decide +kernel
theorem dL_groups_131 : decode cL_groups 131 = .ok (.iaload, 1) := by decide +kernel
theorem dL_groups_132 : decode cL_groups 132 = .ok (.iload 4, 2) := by decide +kernel
theorem dL_groups_134 : decode cL_groups 134 = .ok (.ishr, 1) := by decide +kernel
theorem dL_groups_135 : decode cL_groups 135 = .ok (.iconst 1, 1) := by decide +kernel
theorem dL_groups_136 : decode cL_groups 136 = .ok (.iand, 1) := by decide +kernel
theorem dL_groups_137 : decode cL_groups 137 = .ok (.iconst 1, 1) := by decide +kernel
theorem dL_groups_138 : decode cL_groups 138 = .ok (.if_icmp .ne 10, 3) := by decide +kernel
theorem dL_groups_141 : decode cL_groups 141 = .ok (.aload_n 2, 1) := by decide +kernel
theorem dL_groups_142 : decode cL_groups 142 = .ok (.iload 4, 2) := by decide +kernel
theorem dL_groups_144 : decode cL_groups 144 = .ok (.iaload, 1) := by decide +kernel
theorem dL_groups_145 : decode cL_groups 145 = .ok (.goto 4, 3) := by decide +kernel
theorem dL_groups_148 : decode cL_groups 148 = .ok (.iconst 0, 1) := by decide +kernel
theorem dL_groups_149 : decode cL_groups 149 = .ok (.ior, 1) := by decide +kernel
theorem dL_groups_150 : decode cL_groups 150 = .ok (.iastore, 1) := by decide +kernel
theorem dL_groups_151 : decode cL_groups 151 = .ok (.iinc 4 1, 3) := by decide +kernel
theorem dL_groups_154 : decode cL_groups 154 = .ok (.goto (-37), 3) := by decide +kernel
theorem dL_groups_157 : decode cL_groups 157 = .ok (.iinc 3 1, 3) := by decide +kernel
theorem dL_groups_160 : decode cL_groups 160 = .ok (.goto (-53), 3) := by decide +kernel
theorem dL_groups_163 : decode cL_groups 163 = .ok (.return_, 1) := by decide +kernel
theorem dL_says_0 : decode cL_says 0 = .ok (.aload_n 3, 1) := by decide +kernel
theorem dL_says_1 : decode cL_says 1 = .ok (.iconst 0, 1) := by decide +kernel
theorem dL_says_2 : decode cL_says 2 = .ok (.dup2, 1) := by decide +kernel
theorem dL_says_3 : decode cL_says 3 = .ok (.iaload, 1) := by decide +kernel
theorem dL_says_4 : decode cL_says 4 = .ok (.iconst 1, 1) := by decide +kernel
theorem dL_says_5 : decode cL_says 5 = .ok (.iadd, 1) := by decide +kernel
theorem dL_says_6 : decode cL_says 6 = .ok (.iastore, 1) := by decide +kernel
theorem dL_says_7 : decode cL_says 7 = .ok (.aload_n 3, 1) := by decide +kernel
theorem dL_says_8 : decode cL_says 8 = .ok (.iconst 0, 1) := by decide +kernel
theorem dL_says_9 : decode cL_says 9 = .ok (.iaload, 1) := by decide +kernel
theorem dL_says_10 : decode cL_says 10 = .ok (.aload_n 3, 1) := by decide +kernel
theorem dL_says_11 : decode cL_says 11 = .ok (.iconst 1, 1) := by decide +kernel
theorem dL_says_12 : decode cL_says 12 = .ok (.iaload, 1) := by decide +kernel
theorem dL_says_13 : decode cL_says 13 = .ok (.iadd, 1) := by decide +kernel
theorem dL_says_14 : decode cL_says 14 = .ok (.iconst 5, 1) := by decide +kernel
theorem dL_says_15 : decode cL_says 15 = .ok (.irem, 1) := by decide +kernel
theorem dL_says_16 : decode cL_says 16 = .ok (.ifCond .gt 19, 3) := by decide +kernel
theorem dL_says_19 : decode cL_says 19 = .ok (.aload_n 0, 1) := by decide +kernel
theorem dL_says_20 : decode cL_says 20 = .ok (.iload_n 1, 1) := by decide +kernel
theorem dL_says_21 : decode cL_says 21 = .ok (.iload_n 2, 1) := by decide +kernel
theorem dL_says_22 : decode cL_says 22 = .ok (.aload_n 3, 1) := by decide +kernel
theorem dL_says_23 : decode cL_says 23 = .ok (.iconst 0, 1) := by decide +kernel
theorem dL_says_24 : decode cL_says 24 = .ok (.iaload, 1) := by decide +kernel
theorem dL_says_25 : decode cL_says 25 = .ok (.iconst 1, 1) := by decide +kernel
theorem dL_says_26 : decode cL_says 26 = .ok (.isub, 1) := by decide +kernel
theorem dL_says_27 : decode cL_says 27 = .ok (.invokevirtual 57, 3) := by decide +kernel
theorem dL_says_30 : decode cL_says 30 = .ok (.iload 4, 2) := by decide +kernel
theorem dL_says_32 : decode cL_says 32 = .ok (.if_icmp .ne 7, 3) := by decide +kernel
theorem dL_says_35 : decode cL_says 35 = .ok (.iconst 1, 1) := by decide +kernel
theorem dL_says_36 : decode cL_says 36 = .ok (.goto 4, 3) := by decide +kernel
theorem dL_says_39 : decode cL_says 39 = .ok (.iconst 0, 1) := by decide +kernel
theorem dL_says_40 : decode cL_says 40 = .ok (.ireturn, 1) := by decide +kernel
theorem dL_tells_0 : decode cL_tells 0 = .ok (.iload 4, 2) := by decide +kernel
theorem dL_tells_2 : decode cL_tells 2 = .ok (.bipush 100, 2) := by decide +kernel
theorem dL_tells_4 : decode cL_tells 4 = .ok (.if_icmp .lt 21, 3) := by decide +kernel
theorem dL_tells_7 : decode cL_tells 7 = .ok (.aload_n 0, 1) := by decide +kernel
theorem dL_tells_8 : decode cL_tells 8 = .ok (.iload_n 1, 1) := by decide +kernel
theorem dL_tells_9 : decode cL_tells 9 = .ok (.iload_n 2, 1) := by decide +kernel
theorem dL_tells_10 : decode cL_tells 10 = .ok (.aload_n 3, 1) := by decide +kernel
theorem dL_tells_11 : decode cL_tells 11 = .ok (.bipush 48, 2) := by decide +kernel
theorem dL_tells_13 : decode cL_tells 13 = .ok (.iload 4, 2) := by decide +kernel
theorem dL_tells_15 : decode cL_tells 15 = .ok (.bipush 100, 2) := by decide +kernel
theorem dL_tells_17 : decode cL_tells 17 = .ok (.idiv, 1) := by decide +kernel
theorem dL_tells_18 : decode cL_tells 18 = .ok (.iadd, 1) := by decide +kernel
theorem dL_tells_19 : decode cL_tells 19 = .ok (.invokestatic 61, 3) := by decide +kernel
theorem dL_tells_22 : decode cL_tells 22 = .ok (.ifCond .eq 7, 3) := by decide +kernel
theorem dL_tells_25 : decode cL_tells 25 = .ok (.iconst 1, 1) := by decide +kernel
theorem dL_tells_26 : decode cL_tells 26 = .ok (.goto 4, 3) := by decide +kernel
theorem dL_tells_29 : decode cL_tells 29 = .ok (.iconst 0, 1) := by decide +kernel
theorem dL_tells_30 : decode cL_tells 30 = .ok (.istore 5, 2) := by decide +kernel
theorem dL_tells_32 : decode cL_tells 32 = .ok (.iload 5, 2) := by decide +kernel
theorem dL_tells_34 : decode cL_tells 34 = .ok (.ifCond .eq 35, 3) := by decide +kernel
theorem dL_tells_37 : decode cL_tells 37 = .ok (.iload 4, 2) := by decide +kernel
theorem dL_tells_39 : decode cL_tells 39 = .ok (.bipush 10, 2) := by decide +kernel
theorem dL_tells_41 : decode cL_tells 41 = .ok (.if_icmp .lt 24, 3) := by decide +kernel
theorem dL_tells_44 : decode cL_tells 44 = .ok (.aload_n 0, 1) := by decide +kernel
theorem dL_tells_45 : decode cL_tells 45 = .ok (.iload_n 1, 1) := by decide +kernel
theorem dL_tells_46 : decode cL_tells 46 = .ok (.iload_n 2, 1) := by decide +kernel
theorem dL_tells_47 : decode cL_tells 47 = .ok (.aload_n 3, 1) := by decide +kernel
theorem dL_tells_48 : decode cL_tells 48 = .ok (.bipush 48, 2) := by decide +kernel
theorem dL_tells_50 : decode cL_tells 50 = .ok (.iload 4, 2) := by decide +kernel
theorem dL_tells_52 : decode cL_tells 52 = .ok (.bipush 10, 2) := by decide +kernel
theorem dL_tells_54 : decode cL_tells 54 = .ok (.idiv, 1) := by decide +kernel
theorem dL_tells_55 : decode cL_tells 55 = .ok (.bipush 10, 2) := by decide +kernel
theorem dL_tells_57 : decode cL_tells 57 = .ok (.irem, 1) := by decide +kernel
theorem dL_tells_58 : decode cL_tells 58 = .ok (.iadd, 1) := by decide +kernel
theorem dL_tells_59 : decode cL_tells 59 = .ok (.invokestatic 61, 3) := by decide +kernel
theorem dL_tells_62 : decode cL_tells 62 = .ok (.ifCond .eq 7, 3) := by decide +kernel
theorem dL_tells_65 : decode cL_tells 65 = .ok (.iconst 1, 1) := by decide +kernel
theorem dL_tells_66 : decode cL_tells 66 = .ok (.goto 4, 3) := by decide +kernel
theorem dL_tells_69 : decode cL_tells 69 = .ok (.iconst 0, 1) := by decide +kernel
theorem dL_tells_70 : decode cL_tells 70 = .ok (.istore 5, 2) := by decide +kernel
theorem dL_tells_72 : decode cL_tells 72 = .ok (.iload 5, 2) := by decide +kernel
theorem dL_tells_74 : decode cL_tells 74 = .ok (.ifCond .eq 25, 3) := by decide +kernel
theorem dL_tells_77 : decode cL_tells 77 = .ok (.aload_n 0, 1) := by decide +kernel
theorem dL_tells_78 : decode cL_tells 78 = .ok (.iload_n 1, 1) := by decide +kernel
theorem dL_tells_79 : decode cL_tells 79 = .ok (.iload_n 2, 1) := by decide +kernel
theorem dL_tells_80 : decode cL_tells 80 = .ok (.aload_n 3, 1) := by decide +kernel
theorem dL_tells_81 : decode cL_tells 81 = .ok (.bipush 48, 2) := by decide +kernel
theorem dL_tells_83 : decode cL_tells 83 = .ok (.iload 4, 2) := by decide +kernel
theorem dL_tells_85 : decode cL_tells 85 = .ok (.bipush 10, 2) := by decide +kernel
theorem dL_tells_87 : decode cL_tells 87 = .ok (.irem, 1) := by decide +kernel
theorem dL_tells_88 : decode cL_tells 88 = .ok (.iadd, 1) := by decide +kernel
theorem dL_tells_89 : decode cL_tells 89 = .ok (.invokestatic 61, 3) := by decide +kernel
theorem dL_tells_92 : decode cL_tells 92 = .ok (.ifCond .eq 7, 3) := by decide +kernel
theorem dL_tells_95 : decode cL_tells 95 = .ok (.iconst 1, 1) := by decide +kernel
theorem dL_tells_96 : decode cL_tells 96 = .ok (.goto 4, 3) := by decide +kernel
theorem dL_tells_99 : decode cL_tells 99 = .ok (.iconst 0, 1) := by decide +kernel
theorem dL_tells_100 : decode cL_tells 100 = .ok (.ireturn, 1) := by decide +kernel
theorem dL_first_0 : decode cL_first 0 = .ok (.iconst 0, 1) := by decide +kernel
theorem dL_first_1 : decode cL_first 1 = .ok (.istore_n 1, 1) := by decide +kernel
theorem dL_first_2 : decode cL_first 2 = .ok (.iload_n 0, 1) := by decide +kernel
theorem dL_first_3 : decode cL_first 3 = .ok (.iload_n 1, 1) := by decide +kernel
theorem dL_first_4 : decode cL_first 4 = .ok (.ishr, 1) := by decide +kernel
theorem dL_first_5 : decode cL_first 5 = .ok (.iconst 1, 1) := by decide +kernel
theorem dL_first_6 : decode cL_first 6 = .ok (.iand, 1) := by decide +kernel
theorem dL_first_7 : decode cL_first 7 = .ok (.ifCond .ne 9, 3) := by decide +kernel
theorem dL_first_10 : decode cL_first 10 = .ok (.iinc 1 1, 3) := by decide +kernel
theorem dL_first_13 : decode cL_first 13 = .ok (.goto (-11), 3) := by decide +kernel
theorem dL_first_16 : decode cL_first 16 = .ok (.iload_n 1, 1) := by decide +kernel
theorem dL_first_17 : decode cL_first 17 = .ok (.ireturn, 1) := by decide +kernel
theorem dL_many_0 : decode cL_many 0 = .ok (.iconst 0, 1) := by decide +kernel
theorem dL_many_1 : decode cL_many 1 = .ok (.istore_n 1, 1) := by decide +kernel
theorem dL_many_2 : decode cL_many 2 = .ok (.iconst 0, 1) := by decide +kernel
theorem dL_many_3 : decode cL_many 3 = .ok (.istore_n 2, 1) := by decide +kernel
theorem dL_many_4 : decode cL_many 4 = .ok (.iload_n 2, 1) := by decide +kernel
theorem dL_many_5 : decode cL_many 5 = .ok (.bipush 12, 2) := by decide +kernel
theorem dL_many_7 : decode cL_many 7 = .ok (.if_icmp .ge 17, 3) := by decide +kernel
theorem dL_many_10 : decode cL_many 10 = .ok (.iload_n 1, 1) := by decide +kernel
theorem dL_many_11 : decode cL_many 11 = .ok (.iload_n 0, 1) := by decide +kernel
theorem dL_many_12 : decode cL_many 12 = .ok (.iload_n 2, 1) := by decide +kernel
theorem dL_many_13 : decode cL_many 13 = .ok (.ishr, 1) := by decide +kernel
theorem dL_many_14 : decode cL_many 14 = .ok (.iconst 1, 1) := by decide +kernel
theorem dL_many_15 : decode cL_many 15 = .ok (.iand, 1) := by decide +kernel
theorem dL_many_16 : decode cL_many 16 = .ok (.iadd, 1) := by decide +kernel
theorem dL_many_17 : decode cL_many 17 = .ok (.istore_n 1, 1) := by decide +kernel
theorem dL_many_18 : decode cL_many 18 = .ok (.iinc 2 1, 3) := by decide +kernel
theorem dL_many_21 : decode cL_many 21 = .ok (.goto (-17), 3) := by decide +kernel
theorem dL_many_24 : decode cL_many 24 = .ok (.iload_n 1, 1) := by decide +kernel
theorem dL_many_25 : decode cL_many 25 = .ok (.ireturn, 1) := by decide +kernel
theorem dL_points_0 : decode cL_points 0 = .ok (.iconst 0, 1) := by decide +kernel
theorem dL_points_1 : decode cL_points 1 = .ok (.istore_n 2, 1) := by decide +kernel
theorem dL_points_2 : decode cL_points 2 = .ok (.iconst 0, 1) := by decide +kernel
theorem dL_points_3 : decode cL_points 3 = .ok (.istore_n 3, 1) := by decide +kernel
theorem dL_points_4 : decode cL_points 4 = .ok (.iload_n 3, 1) := by decide +kernel
theorem dL_points_5 : decode cL_points 5 = .ok (.bipush 12, 2) := by decide +kernel
theorem dL_points_7 : decode cL_points 7 = .ok (.if_icmp .ge 32, 3) := by decide +kernel
theorem dL_points_10 : decode cL_points 10 = .ok (.iload_n 2, 1) := by decide +kernel
theorem dL_points_11 : decode cL_points 11 = .ok (.iload_n 1, 1) := by decide +kernel
theorem dL_points_12 : decode cL_points 12 = .ok (.iload_n 3, 1) := by decide +kernel
theorem dL_points_13 : decode cL_points 13 = .ok (.ishr, 1) := by decide +kernel
theorem dL_points_14 : decode cL_points 14 = .ok (.iconst 1, 1) := by decide +kernel
theorem dL_points_15 : decode cL_points 15 = .ok (.iand, 1) := by decide +kernel
theorem dL_points_16 : decode cL_points 16 = .ok (.iconst 1, 1) := by decide +kernel
theorem dL_points_17 : decode cL_points 17 = .ok (.if_icmp .ne 13, 3) := by decide +kernel
theorem dL_points_20 : decode cL_points 20 = .ok (.aload_n 0, 1) := by decide +kernel
theorem dL_points_21 : decode cL_points 21 = .ok (.iconst 5, 1) := by decide +kernel
theorem dL_points_22 : decode cL_points 22 = .ok (.iload_n 3, 1) := by decide +kernel
theorem dL_points_23 : decode cL_points 23 = .ok (.imul, 1) := by decide +kernel
theorem dL_points_24 : decode cL_points 24 = .ok (.iconst 4, 1) := by decide +kernel
theorem dL_points_25 : decode cL_points 25 = .ok (.iadd, 1) := by decide +kernel
theorem dL_points_26 : decode cL_points 26 = .ok (.iaload, 1) := by decide +kernel
theorem dL_points_27 : decode cL_points 27 = .ok (.goto 4, 3) := by decide +kernel
theorem dL_points_30 : decode cL_points 30 = .ok (.iconst 0, 1) := by decide +kernel
theorem dL_points_31 : decode cL_points 31 = .ok (.iadd, 1) := by decide +kernel
theorem dL_points_32 : decode cL_points 32 = .ok (.istore_n 2, 1) := by decide +kernel
theorem dL_points_33 : decode cL_points 33 = .ok (.iinc 3 1, 3) := by decide +kernel
theorem dL_points_36 : decode cL_points 36 = .ok (.goto (-32), 3) := by decide +kernel
theorem dL_points_39 : decode cL_points 39 = .ok (.iload_n 2, 1) := by decide +kernel
theorem dL_points_40 : decode cL_points 40 = .ok (.ireturn, 1) := by decide +kernel
theorem dL_all_0 : decode cL_all 0 = .ok (.iconst 1, 1) := by decide +kernel
theorem dL_all_1 : decode cL_all 1 = .ok (.istore 6, 2) := by decide +kernel
theorem dL_all_3 : decode cL_all 3 = .ok (.iload 5, 2) := by decide +kernel
theorem dL_all_5 : decode cL_all 5 = .ok (.invokestatic 65, 3) := by decide +kernel
theorem dL_all_8 : decode cL_all 8 = .ok (.istore 7, 2) := by decide +kernel
theorem dL_all_10 : decode cL_all 10 = .ok (.iload 7, 2) := by decide +kernel
theorem dL_all_12 : decode cL_all 12 = .ok (.istore 8, 2) := by decide +kernel
theorem dL_all_14 : decode cL_all 14 = .ok (.iload 8, 2) := by decide +kernel
theorem dL_all_16 : decode cL_all 16 = .ok (.bipush 12, 2) := by decide +kernel
theorem dL_all_18 : decode cL_all 18 = .ok (.if_icmp .ge 126, 3) := by decide +kernel
theorem dL_all_21 : decode cL_all 21 = .ok (.iload 6, 2) := by decide +kernel
theorem dL_all_23 : decode cL_all 23 = .ok (.ifCond .eq 121, 3) := by decide +kernel
theorem dL_all_26 : decode cL_all 26 = .ok (.iload 5, 2) := by decide +kernel
theorem dL_all_28 : decode cL_all 28 = .ok (.iload 8, 2) := by decide +kernel
theorem dL_all_30 : decode cL_all 30 = .ok (.ishr, 1) := by decide +kernel
theorem dL_all_31 : decode cL_all 31 = .ok (.iconst 1, 1) := by decide +kernel
theorem dL_all_32 : decode cL_all 32 = .ok (.iand, 1) := by decide +kernel
theorem dL_all_33 : decode cL_all 33 = .ok (.iconst 1, 1) := by decide +kernel
theorem dL_all_34 : decode cL_all 34 = .ok (.if_icmp .ne 104, 3) := by decide +kernel
theorem dL_all_37 : decode cL_all 37 = .ok (.iload 8, 2) := by decide +kernel
theorem dL_all_39 : decode cL_all 39 = .ok (.iload 7, 2) := by decide +kernel
theorem dL_all_41 : decode cL_all 41 = .ok (.if_icmp .eq 42, 3) := by decide +kernel
theorem dL_all_44 : decode cL_all 44 = .ok (.aload_n 0, 1) := by decide +kernel
theorem dL_all_45 : decode cL_all 45 = .ok (.iload_n 2, 1) := by decide +kernel
theorem dL_all_46 : decode cL_all 46 = .ok (.iload_n 3, 1) := by decide +kernel
theorem dL_all_47 : decode cL_all 47 = .ok (.aload 4, 2) := by decide +kernel
theorem dL_all_49 : decode cL_all 49 = .ok (.bipush 32, 2) := by decide +kernel
theorem dL_all_51 : decode cL_all 51 = .ok (.invokestatic 61, 3) := by decide +kernel
theorem dL_all_54 : decode cL_all 54 = .ok (.ifCond .eq 33, 3) := by decide +kernel
theorem dL_all_57 : decode cL_all 57 = .ok (.aload_n 0, 1) := by decide +kernel
theorem dL_all_58 : decode cL_all 58 = .ok (.iload_n 2, 1) := by decide +kernel
theorem dL_all_59 : decode cL_all 59 = .ok (.iload_n 3, 1) := by decide +kernel
theorem dL_all_60 : decode cL_all 60 = .ok (.aload 4, 2) := by decide +kernel
theorem dL_all_62 : decode cL_all 62 = .ok (.bipush 38, 2) := by decide +kernel
theorem dL_all_64 : decode cL_all 64 = .ok (.invokestatic 61, 3) := by decide +kernel
theorem dL_all_67 : decode cL_all 67 = .ok (.ifCond .eq 20, 3) := by decide +kernel
theorem dL_all_70 : decode cL_all 70 = .ok (.aload_n 0, 1) := by decide +kernel
theorem dL_all_71 : decode cL_all 71 = .ok (.iload_n 2, 1) := by decide +kernel
theorem dL_all_72 : decode cL_all 72 = .ok (.iload_n 3, 1) := by decide +kernel
theorem dL_all_73 : decode cL_all 73 = .ok (.aload 4, 2) := by decide +kernel
theorem dL_all_75 : decode cL_all 75 = .ok (.bipush 32, 2) := by decide +kernel
theorem dL_all_77 : decode cL_all 77 = .ok (.invokestatic 61, 3) := by decide +kernel
theorem dL_all_80 : decode cL_all 80 = .ok (.ifCond .eq 7, 3) := by decide +kernel
theorem dL_all_83 : decode cL_all 83 = .ok (.iconst 1, 1) := by decide +kernel
theorem dL_all_84 : decode cL_all 84 = .ok (.goto 4, 3) := by decide +kernel
theorem dL_all_87 : decode cL_all 87 = .ok (.iconst 0, 1) := by decide +kernel
theorem dL_all_88 : decode cL_all 88 = .ok (.istore 6, 2) := by decide +kernel
theorem dL_all_90 : decode cL_all 90 = .ok (.iload 6, 2) := by decide +kernel
theorem dL_all_92 : decode cL_all 92 = .ok (.ifCond .eq 43, 3) := by decide +kernel
theorem dL_all_95 : decode cL_all 95 = .ok (.aload_n 0, 1) := by decide +kernel
theorem dL_all_96 : decode cL_all 96 = .ok (.iload_n 2, 1) := by decide +kernel
theorem dL_all_97 : decode cL_all 97 = .ok (.iload_n 3, 1) := by decide +kernel
theorem dL_all_98 : decode cL_all 98 = .ok (.aload 4, 2) := by decide +kernel
theorem dL_all_100 : decode cL_all 100 = .ok (.aload_n 1, 1) := by decide +kernel
theorem dL_all_101 : decode cL_all 101 = .ok (.iconst 5, 1) := by decide +kernel
theorem dL_all_102 : decode cL_all 102 = .ok (.iload 8, 2) := by decide +kernel
theorem dL_all_104 : decode cL_all 104 = .ok (.imul, 1) := by decide +kernel
theorem dL_all_105 : decode cL_all 105 = .ok (.iaload, 1) := by decide +kernel
theorem dL_all_106 : decode cL_all 106 = .ok (.invokestatic 61, 3) := by decide +kernel
theorem dL_all_109 : decode cL_all 109 = .ok (.ifCond .eq 26, 3) := by decide +kernel
theorem dL_all_112 : decode cL_all 112 = .ok (.aload_n 0, 1) := by decide +kernel
theorem dL_all_113 : decode cL_all 113 = .ok (.iload_n 2, 1) := by decide +kernel
theorem dL_all_114 : decode cL_all 114 = .ok (.iload_n 3, 1) := by decide +kernel
theorem dL_all_115 : decode cL_all 115 = .ok (.aload 4, 2) := by decide +kernel
theorem dL_all_117 : decode cL_all 117 = .ok (.aload_n 1, 1) := by decide +kernel
theorem dL_all_118 : decode cL_all 118 = .ok (.iconst 5, 1) := by decide +kernel
theorem dL_all_119 : decode cL_all 119 = .ok (.iload 8, 2) := by decide +kernel
theorem dL_all_121 : decode cL_all 121 = .ok (.imul, 1) := by decide +kernel
theorem dL_all_122 : decode cL_all 122 = .ok (.iconst 1, 1) := by decide +kernel
theorem dL_all_123 : decode cL_all 123 = .ok (.iadd, 1) := by decide +kernel
theorem dL_all_124 : decode cL_all 124 = .ok (.iaload, 1) := by decide +kernel
theorem dL_all_125 : decode cL_all 125 = .ok (.invokestatic 61, 3) := by decide +kernel
theorem dL_all_128 : decode cL_all 128 = .ok (.ifCond .eq 7, 3) := by decide +kernel
theorem dL_all_131 : decode cL_all 131 = .ok (.iconst 1, 1) := by decide +kernel
theorem dL_all_132 : decode cL_all 132 = .ok (.goto 4, 3) := by decide +kernel
theorem dL_all_135 : decode cL_all 135 = .ok (.iconst 0, 1) := by decide +kernel
theorem dL_all_136 : decode cL_all 136 = .ok (.istore 6, 2) := by decide +kernel
theorem dL_all_138 : decode cL_all 138 = .ok (.iinc 8 1, 3) := by decide +kernel
theorem dL_all_141 : decode cL_all 141 = .ok (.goto (-127), 3) := by decide +kernel
theorem dL_all_144 : decode cL_all 144 = .ok (.iload 6, 2) := by decide +kernel
theorem dL_all_146 : decode cL_all 146 = .ok (.ifCond .eq 68, 3) := by decide +kernel
theorem dL_all_149 : decode cL_all 149 = .ok (.aload_n 0, 1) := by decide +kernel
theorem dL_all_150 : decode cL_all 150 = .ok (.iload_n 2, 1) := by decide +kernel
theorem dL_all_151 : decode cL_all 151 = .ok (.iload_n 3, 1) := by decide +kernel
theorem dL_all_152 : decode cL_all 152 = .ok (.aload 4, 2) := by decide +kernel
theorem dL_all_154 : decode cL_all 154 = .ok (.bipush 58, 2) := by decide +kernel
theorem dL_all_156 : decode cL_all 156 = .ok (.invokestatic 61, 3) := by decide +kernel
theorem dL_all_159 : decode cL_all 159 = .ok (.ifCond .eq 55, 3) := by decide +kernel
theorem dL_all_162 : decode cL_all 162 = .ok (.aload_n 0, 1) := by decide +kernel
theorem dL_all_163 : decode cL_all 163 = .ok (.iload_n 2, 1) := by decide +kernel
theorem dL_all_164 : decode cL_all 164 = .ok (.iload_n 3, 1) := by decide +kernel
theorem dL_all_165 : decode cL_all 165 = .ok (.aload 4, 2) := by decide +kernel
theorem dL_all_167 : decode cL_all 167 = .ok (.bipush 97, 2) := by decide +kernel
theorem dL_all_169 : decode cL_all 169 = .ok (.iload 7, 2) := by decide +kernel
theorem dL_all_171 : decode cL_all 171 = .ok (.iadd, 1) := by decide +kernel
theorem dL_all_172 : decode cL_all 172 = .ok (.invokestatic 61, 3) := by decide +kernel
theorem dL_all_175 : decode cL_all 175 = .ok (.ifCond .eq 39, 3) := by decide +kernel
theorem dL_all_178 : decode cL_all 178 = .ok (.aload_n 0, 1) := by decide +kernel
theorem dL_all_179 : decode cL_all 179 = .ok (.iload_n 2, 1) := by decide +kernel
theorem dL_all_180 : decode cL_all 180 = .ok (.iload_n 3, 1) := by decide +kernel
theorem dL_all_181 : decode cL_all 181 = .ok (.aload 4, 2) := by decide +kernel
theorem dL_all_183 : decode cL_all 183 = .ok (.bipush 58, 2) := by decide +kernel
theorem dL_all_185 : decode cL_all 185 = .ok (.invokestatic 61, 3) := by decide +kernel
theorem dL_all_188 : decode cL_all 188 = .ok (.ifCond .eq 26, 3) := by decide +kernel
theorem dL_all_191 : decode cL_all 191 = .ok (.aload_n 0, 1) := by decide +kernel
theorem dL_all_192 : decode cL_all 192 = .ok (.iload_n 2, 1) := by decide +kernel
theorem dL_all_193 : decode cL_all 193 = .ok (.iload_n 3, 1) := by decide +kernel
theorem dL_all_194 : decode cL_all 194 = .ok (.aload 4, 2) := by decide +kernel
theorem dL_all_196 : decode cL_all 196 = .ok (.aload_n 1, 1) := by decide +kernel
theorem dL_all_197 : decode cL_all 197 = .ok (.iconst 5, 1) := by decide +kernel
theorem dL_all_198 : decode cL_all 198 = .ok (.iload 7, 2) := by decide +kernel
theorem dL_all_200 : decode cL_all 200 = .ok (.imul, 1) := by decide +kernel
theorem dL_all_201 : decode cL_all 201 = .ok (.iconst 2, 1) := by decide +kernel
theorem dL_all_202 : decode cL_all 202 = .ok (.iadd, 1) := by decide +kernel
theorem dL_all_203 : decode cL_all 203 = .ok (.iaload, 1) := by decide +kernel
theorem dL_all_204 : decode cL_all 204 = .ok (.invokestatic 68, 3) := by decide +kernel
theorem dL_all_207 : decode cL_all 207 = .ok (.ifCond .eq 7, 3) := by decide +kernel
theorem dL_all_210 : decode cL_all 210 = .ok (.iconst 1, 1) := by decide +kernel
theorem dL_all_211 : decode cL_all 211 = .ok (.goto 4, 3) := by decide +kernel
theorem dL_all_214 : decode cL_all 214 = .ok (.iconst 0, 1) := by decide +kernel
theorem dL_all_215 : decode cL_all 215 = .ok (.istore 6, 2) := by decide +kernel
theorem dL_all_217 : decode cL_all 217 = .ok (.iload 6, 2) := by decide +kernel
theorem dL_all_219 : decode cL_all 219 = .ok (.ifCond .eq 69, 3) := by decide +kernel
theorem dL_all_222 : decode cL_all 222 = .ok (.aload_n 0, 1) := by decide +kernel
theorem dL_all_223 : decode cL_all 223 = .ok (.iload_n 2, 1) := by decide +kernel
theorem dL_all_224 : decode cL_all 224 = .ok (.iload_n 3, 1) := by decide +kernel
theorem dL_all_225 : decode cL_all 225 = .ok (.aload 4, 2) := by decide +kernel
theorem dL_all_227 : decode cL_all 227 = .ok (.bipush 58, 2) := by decide +kernel
theorem dL_all_229 : decode cL_all 229 = .ok (.invokestatic 61, 3) := by decide +kernel
theorem dL_all_232 : decode cL_all 232 = .ok (.ifCond .eq 56, 3) := by decide +kernel
theorem dL_all_235 : decode cL_all 235 = .ok (.aload_n 0, 1) := by decide +kernel
theorem dL_all_236 : decode cL_all 236 = .ok (.iload_n 2, 1) := by decide +kernel
theorem dL_all_237 : decode cL_all 237 = .ok (.iload_n 3, 1) := by decide +kernel
theorem dL_all_238 : decode cL_all 238 = .ok (.aload 4, 2) := by decide +kernel
theorem dL_all_240 : decode cL_all 240 = .ok (.aload_n 1, 1) := by decide +kernel
theorem dL_all_241 : decode cL_all 241 = .ok (.iconst 5, 1) := by decide +kernel
theorem dL_all_242 : decode cL_all 242 = .ok (.iload 7, 2) := by decide +kernel
theorem dL_all_244 : decode cL_all 244 = .ok (.imul, 1) := by decide +kernel
theorem dL_all_245 : decode cL_all 245 = .ok (.iconst 3, 1) := by decide +kernel
theorem dL_all_246 : decode cL_all 246 = .ok (.iadd, 1) := by decide +kernel
theorem dL_all_247 : decode cL_all 247 = .ok (.iaload, 1) := by decide +kernel
theorem dL_all_248 : decode cL_all 248 = .ok (.invokestatic 68, 3) := by decide +kernel
theorem dL_all_251 : decode cL_all 251 = .ok (.ifCond .eq 37, 3) := by decide +kernel
theorem dL_all_254 : decode cL_all 254 = .ok (.aload_n 0, 1) := by decide +kernel
theorem dL_all_255 : decode cL_all 255 = .ok (.iload_n 2, 1) := by decide +kernel
theorem dL_all_256 : decode cL_all 256 = .ok (.iload_n 3, 1) := by decide +kernel
theorem dL_all_257 : decode cL_all 257 = .ok (.aload 4, 2) := by decide +kernel
theorem dL_all_259 : decode cL_all 259 = .ok (.bipush 58, 2) := by decide +kernel
theorem dL_all_261 : decode cL_all 261 = .ok (.invokestatic 61, 3) := by decide +kernel
theorem dL_all_264 : decode cL_all 264 = .ok (.ifCond .eq 24, 3) := by decide +kernel
theorem dL_all_267 : decode cL_all 267 = .ok (.aload_n 0, 1) := by decide +kernel
theorem dL_all_268 : decode cL_all 268 = .ok (.iload_n 2, 1) := by decide +kernel
theorem dL_all_269 : decode cL_all 269 = .ok (.iload_n 3, 1) := by decide +kernel
theorem dL_all_270 : decode cL_all 270 = .ok (.aload 4, 2) := by decide +kernel
theorem dL_all_272 : decode cL_all 272 = .ok (.aload_n 1, 1) := by decide +kernel
theorem dL_all_273 : decode cL_all 273 = .ok (.iload 5, 2) := by decide +kernel
theorem dL_all_275 : decode cL_all 275 = .ok (.invokestatic 71, 3) := by decide +kernel
theorem dL_all_278 : decode cL_all 278 = .ok (.invokestatic 68, 3) := by decide +kernel
theorem dL_all_281 : decode cL_all 281 = .ok (.ifCond .eq 7, 3) := by decide +kernel
theorem dL_all_284 : decode cL_all 284 = .ok (.iconst 1, 1) := by decide +kernel
theorem dL_all_285 : decode cL_all 285 = .ok (.goto 4, 3) := by decide +kernel
theorem dL_all_288 : decode cL_all 288 = .ok (.iconst 0, 1) := by decide +kernel
theorem dL_all_289 : decode cL_all 289 = .ok (.istore 6, 2) := by decide +kernel
theorem dL_all_291 : decode cL_all 291 = .ok (.iload 6, 2) := by decide +kernel
theorem dL_all_293 : decode cL_all 293 = .ok (.ifCond .eq 36, 3) := by decide +kernel
theorem dL_all_296 : decode cL_all 296 = .ok (.aload_n 0, 1) := by decide +kernel
theorem dL_all_297 : decode cL_all 297 = .ok (.iload_n 2, 1) := by decide +kernel
theorem dL_all_298 : decode cL_all 298 = .ok (.iload_n 3, 1) := by decide +kernel
theorem dL_all_299 : decode cL_all 299 = .ok (.aload 4, 2) := by decide +kernel
theorem dL_all_301 : decode cL_all 301 = .ok (.bipush 58, 2) := by decide +kernel
theorem dL_all_303 : decode cL_all 303 = .ok (.invokestatic 61, 3) := by decide +kernel
theorem dL_all_306 : decode cL_all 306 = .ok (.ifCond .eq 23, 3) := by decide +kernel
theorem dL_all_309 : decode cL_all 309 = .ok (.aload_n 0, 1) := by decide +kernel
theorem dL_all_310 : decode cL_all 310 = .ok (.iload_n 2, 1) := by decide +kernel
theorem dL_all_311 : decode cL_all 311 = .ok (.iload_n 3, 1) := by decide +kernel
theorem dL_all_312 : decode cL_all 312 = .ok (.aload 4, 2) := by decide +kernel
theorem dL_all_314 : decode cL_all 314 = .ok (.iload 5, 2) := by decide +kernel
theorem dL_all_316 : decode cL_all 316 = .ok (.invokestatic 75, 3) := by decide +kernel
theorem dL_all_319 : decode cL_all 319 = .ok (.invokestatic 68, 3) := by decide +kernel
theorem dL_all_322 : decode cL_all 322 = .ok (.ifCond .eq 7, 3) := by decide +kernel
theorem dL_all_325 : decode cL_all 325 = .ok (.iconst 1, 1) := by decide +kernel
theorem dL_all_326 : decode cL_all 326 = .ok (.goto 4, 3) := by decide +kernel
theorem dL_all_329 : decode cL_all 329 = .ok (.iconst 0, 1) := by decide +kernel
theorem dL_all_330 : decode cL_all 330 = .ok (.ireturn, 1) := by decide +kernel
theorem dL_some_0 : decode cL_some 0 = .ok (.iconst 1, 1) := by decide +kernel
theorem dL_some_1 : decode cL_some 1 = .ok (.istore 6, 2) := by decide +kernel
theorem dL_some_3 : decode cL_some 3 = .ok (.iload 5, 2) := by decide +kernel
theorem dL_some_5 : decode cL_some 5 = .ok (.invokestatic 75, 3) := by decide +kernel
theorem dL_some_8 : decode cL_some 8 = .ok (.iconst 1, 1) := by decide +kernel
theorem dL_some_9 : decode cL_some 9 = .ok (.if_icmp .ne 19, 3) := by decide +kernel
theorem dL_some_12 : decode cL_some 12 = .ok (.aload_n 0, 1) := by decide +kernel
theorem dL_some_13 : decode cL_some 13 = .ok (.aload_n 1, 1) := by decide +kernel
theorem dL_some_14 : decode cL_some 14 = .ok (.iload_n 2, 1) := by decide +kernel
theorem dL_some_15 : decode cL_some 15 = .ok (.iload_n 3, 1) := by decide +kernel
theorem dL_some_16 : decode cL_some 16 = .ok (.aload 4, 2) := by decide +kernel
theorem dL_some_18 : decode cL_some 18 = .ok (.iload 5, 2) := by decide +kernel
theorem dL_some_20 : decode cL_some 20 = .ok (.invokestatic 78, 3) := by decide +kernel
theorem dL_some_23 : decode cL_some 23 = .ok (.istore 6, 2) := by decide +kernel
theorem dL_some_25 : decode cL_some 25 = .ok (.goto 96, 3) := by decide +kernel
theorem dL_some_28 : decode cL_some 28 = .ok (.aload_n 1, 1) := by decide +kernel
theorem dL_some_29 : decode cL_some 29 = .ok (.iload 5, 2) := by decide +kernel
theorem dL_some_31 : decode cL_some 31 = .ok (.invokestatic 71, 3) := by decide +kernel
theorem dL_some_34 : decode cL_some 34 = .ok (.bipush 90, 2) := by decide +kernel
theorem dL_some_36 : decode cL_some 36 = .ok (.if_icmp .le 43, 3) := by decide +kernel
theorem dL_some_39 : decode cL_some 39 = .ok (.aload_n 0, 1) := by decide +kernel
theorem dL_some_40 : decode cL_some 40 = .ok (.iload_n 2, 1) := by decide +kernel
theorem dL_some_41 : decode cL_some 41 = .ok (.iload_n 3, 1) := by decide +kernel
theorem dL_some_42 : decode cL_some 42 = .ok (.aload 4, 2) := by decide +kernel
theorem dL_some_44 : decode cL_some 44 = .ok (.bipush 80, 2) := by decide +kernel
theorem dL_some_46 : decode cL_some 46 = .ok (.invokestatic 61, 3) := by decide +kernel
theorem dL_some_49 : decode cL_some 49 = .ok (.ifCond .eq 24, 3) := by decide +kernel
theorem dL_some_52 : decode cL_some 52 = .ok (.aload_n 0, 1) := by decide +kernel
theorem dL_some_53 : decode cL_some 53 = .ok (.iload_n 2, 1) := by decide +kernel
theorem dL_some_54 : decode cL_some 54 = .ok (.iload_n 3, 1) := by decide +kernel
theorem dL_some_55 : decode cL_some 55 = .ok (.aload 4, 2) := by decide +kernel
theorem dL_some_57 : decode cL_some 57 = .ok (.aload_n 1, 1) := by decide +kernel
theorem dL_some_58 : decode cL_some 58 = .ok (.iload 5, 2) := by decide +kernel
theorem dL_some_60 : decode cL_some 60 = .ok (.invokestatic 71, 3) := by decide +kernel
theorem dL_some_63 : decode cL_some 63 = .ok (.invokestatic 68, 3) := by decide +kernel
theorem dL_some_66 : decode cL_some 66 = .ok (.ifCond .eq 7, 3) := by decide +kernel
theorem dL_some_69 : decode cL_some 69 = .ok (.iconst 1, 1) := by decide +kernel
theorem dL_some_70 : decode cL_some 70 = .ok (.goto 4, 3) := by decide +kernel
theorem dL_some_73 : decode cL_some 73 = .ok (.iconst 0, 1) := by decide +kernel
theorem dL_some_74 : decode cL_some 74 = .ok (.istore 6, 2) := by decide +kernel
theorem dL_some_76 : decode cL_some 76 = .ok (.goto 45, 3) := by decide +kernel
theorem dL_some_79 : decode cL_some 79 = .ok (.aload_n 0, 1) := by decide +kernel
theorem dL_some_80 : decode cL_some 80 = .ok (.iload_n 2, 1) := by decide +kernel
theorem dL_some_81 : decode cL_some 81 = .ok (.iload_n 3, 1) := by decide +kernel
theorem dL_some_82 : decode cL_some 82 = .ok (.aload 4, 2) := by decide +kernel
theorem dL_some_84 : decode cL_some 84 = .ok (.bipush 72, 2) := by decide +kernel
theorem dL_some_86 : decode cL_some 86 = .ok (.invokestatic 61, 3) := by decide +kernel
theorem dL_some_89 : decode cL_some 89 = .ok (.ifCond .eq 29, 3) := by decide +kernel
theorem dL_some_92 : decode cL_some 92 = .ok (.aload_n 0, 1) := by decide +kernel
theorem dL_some_93 : decode cL_some 93 = .ok (.iload_n 2, 1) := by decide +kernel
theorem dL_some_94 : decode cL_some 94 = .ok (.iload_n 3, 1) := by decide +kernel
theorem dL_some_95 : decode cL_some 95 = .ok (.aload 4, 2) := by decide +kernel
theorem dL_some_97 : decode cL_some 97 = .ok (.aload_n 1, 1) := by decide +kernel
theorem dL_some_98 : decode cL_some 98 = .ok (.iconst 5, 1) := by decide +kernel
theorem dL_some_99 : decode cL_some 99 = .ok (.iload 5, 2) := by decide +kernel
theorem dL_some_101 : decode cL_some 101 = .ok (.invokestatic 65, 3) := by decide +kernel
theorem dL_some_104 : decode cL_some 104 = .ok (.imul, 1) := by decide +kernel
theorem dL_some_105 : decode cL_some 105 = .ok (.iconst 2, 1) := by decide +kernel
theorem dL_some_106 : decode cL_some 106 = .ok (.iadd, 1) := by decide +kernel
theorem dL_some_107 : decode cL_some 107 = .ok (.iaload, 1) := by decide +kernel
theorem dL_some_108 : decode cL_some 108 = .ok (.invokestatic 68, 3) := by decide +kernel
theorem dL_some_111 : decode cL_some 111 = .ok (.ifCond .eq 7, 3) := by decide +kernel
theorem dL_some_114 : decode cL_some 114 = .ok (.iconst 1, 1) := by decide +kernel
theorem dL_some_115 : decode cL_some 115 = .ok (.goto 4, 3) := by decide +kernel
theorem dL_some_118 : decode cL_some 118 = .ok (.iconst 0, 1) := by decide +kernel
theorem dL_some_119 : decode cL_some 119 = .ok (.istore 6, 2) := by decide +kernel
theorem dL_some_121 : decode cL_some 121 = .ok (.iload 6, 2) := by decide +kernel
theorem dL_some_123 : decode cL_some 123 = .ok (.ifCond .eq 20, 3) := by decide +kernel
theorem dL_some_126 : decode cL_some 126 = .ok (.aload_n 0, 1) := by decide +kernel
theorem dL_some_127 : decode cL_some 127 = .ok (.iload_n 2, 1) := by decide +kernel
theorem dL_some_128 : decode cL_some 128 = .ok (.iload_n 3, 1) := by decide +kernel
theorem dL_some_129 : decode cL_some 129 = .ok (.aload 4, 2) := by decide +kernel
theorem dL_some_131 : decode cL_some 131 = .ok (.bipush 46, 2) := by decide +kernel
theorem dL_some_133 : decode cL_some 133 = .ok (.invokestatic 61, 3) := by decide +kernel
theorem dL_some_136 : decode cL_some 136 = .ok (.ifCond .eq 7, 3) := by decide +kernel
theorem dL_some_139 : decode cL_some 139 = .ok (.iconst 1, 1) := by decide +kernel
theorem dL_some_140 : decode cL_some 140 = .ok (.goto 4, 3) := by decide +kernel
theorem dL_some_143 : decode cL_some 143 = .ok (.iconst 0, 1) := by decide +kernel
theorem dL_some_144 : decode cL_some 144 = .ok (.ireturn, 1) := by decide +kernel
theorem dL_text_0 : decode cL_text 0 = .ok (.aload 5, 2) := by decide +kernel
theorem dL_text_2 : decode cL_text 2 = .ok (.iconst 0, 1) := by decide +kernel
theorem dL_text_3 : decode cL_text 3 = .ok (.iconst 0, 1) := by decide +kernel
theorem dL_text_4 : decode cL_text 4 = .ok (.iastore, 1) := by decide +kernel
theorem dL_text_5 : decode cL_text 5 = .ok (.iconst 1, 1) := by decide +kernel
theorem dL_text_6 : decode cL_text 6 = .ok (.istore 7, 2) := by decide +kernel
theorem dL_text_8 : decode cL_text 8 = .ok (.iload_n 2, 1) := by decide +kernel
theorem dL_text_9 : decode cL_text 9 = .ok (.ifCond .ne 20, 3) := by decide +kernel
theorem dL_text_12 : decode cL_text 12 = .ok (.aload_n 0, 1) := by decide +kernel
theorem dL_text_13 : decode cL_text 13 = .ok (.aload_n 1, 1) := by decide +kernel
theorem dL_text_14 : decode cL_text 14 = .ok (.iload_n 3, 1) := by decide +kernel
theorem dL_text_15 : decode cL_text 15 = .ok (.iload 4, 2) := by decide +kernel
theorem dL_text_17 : decode cL_text 17 = .ok (.aload 5, 2) := by decide +kernel
theorem dL_text_19 : decode cL_text 19 = .ok (.iload 6, 2) := by decide +kernel
theorem dL_text_21 : decode cL_text 21 = .ok (.invokestatic 78, 3) := by decide +kernel
theorem dL_text_24 : decode cL_text 24 = .ok (.istore 7, 2) := by decide +kernel
theorem dL_text_26 : decode cL_text 26 = .ok (.goto 62, 3) := by decide +kernel
theorem dL_text_29 : decode cL_text 29 = .ok (.iload_n 2, 1) := by decide +kernel
theorem dL_text_30 : decode cL_text 30 = .ok (.iconst 1, 1) := by decide +kernel
theorem dL_text_31 : decode cL_text 31 = .ok (.if_icmp .ne 20, 3) := by decide +kernel
theorem dL_text_34 : decode cL_text 34 = .ok (.aload_n 0, 1) := by decide +kernel
theorem dL_text_35 : decode cL_text 35 = .ok (.aload_n 1, 1) := by decide +kernel
theorem dL_text_36 : decode cL_text 36 = .ok (.iload_n 3, 1) := by decide +kernel
theorem dL_text_37 : decode cL_text 37 = .ok (.iload 4, 2) := by decide +kernel
theorem dL_text_39 : decode cL_text 39 = .ok (.aload 5, 2) := by decide +kernel
theorem dL_text_41 : decode cL_text 41 = .ok (.iload 6, 2) := by decide +kernel
theorem dL_text_43 : decode cL_text 43 = .ok (.invokestatic 82, 3) := by decide +kernel
theorem dL_text_46 : decode cL_text 46 = .ok (.istore 7, 2) := by decide +kernel
theorem dL_text_48 : decode cL_text 48 = .ok (.goto 40, 3) := by decide +kernel
theorem dL_text_51 : decode cL_text 51 = .ok (.aload_n 0, 1) := by decide +kernel
theorem dL_text_52 : decode cL_text 52 = .ok (.aload_n 1, 1) := by decide +kernel
theorem dL_text_53 : decode cL_text 53 = .ok (.iload_n 3, 1) := by decide +kernel
theorem dL_text_54 : decode cL_text 54 = .ok (.iload 4, 2) := by decide +kernel
theorem dL_text_56 : decode cL_text 56 = .ok (.aload 5, 2) := by decide +kernel
theorem dL_text_58 : decode cL_text 58 = .ok (.iload 6, 2) := by decide +kernel
theorem dL_text_60 : decode cL_text 60 = .ok (.invokestatic 82, 3) := by decide +kernel
theorem dL_text_63 : decode cL_text 63 = .ok (.ifCond .eq 22, 3) := by decide +kernel
theorem dL_text_66 : decode cL_text 66 = .ok (.aload_n 0, 1) := by decide +kernel
theorem dL_text_67 : decode cL_text 67 = .ok (.aload_n 1, 1) := by decide +kernel
theorem dL_text_68 : decode cL_text 68 = .ok (.iload_n 3, 1) := by decide +kernel
theorem dL_text_69 : decode cL_text 69 = .ok (.iload 4, 2) := by decide +kernel
theorem dL_text_71 : decode cL_text 71 = .ok (.aload 5, 2) := by decide +kernel
theorem dL_text_73 : decode cL_text 73 = .ok (.iload 6, 2) := by decide +kernel
theorem dL_text_75 : decode cL_text 75 = .ok (.invokestatic 82, 3) := by decide +kernel
theorem dL_text_78 : decode cL_text 78 = .ok (.ifCond .eq 7, 3) := by decide +kernel
theorem dL_text_81 : decode cL_text 81 = .ok (.iconst 1, 1) := by decide +kernel
theorem dL_text_82 : decode cL_text 82 = .ok (.goto 4, 3) := by decide +kernel
theorem dL_text_85 : decode cL_text 85 = .ok (.iconst 0, 1) := by decide +kernel
theorem dL_text_86 : decode cL_text 86 = .ok (.istore 7, 2) := by decide +kernel
theorem dL_text_88 : decode cL_text 88 = .ok (.iload 7, 2) := by decide +kernel
theorem dL_text_90 : decode cL_text 90 = .ok (.ifCond .eq 21, 3) := by decide +kernel
theorem dL_text_93 : decode cL_text 93 = .ok (.aload_n 0, 1) := by decide +kernel
theorem dL_text_94 : decode cL_text 94 = .ok (.iload_n 3, 1) := by decide +kernel
theorem dL_text_95 : decode cL_text 95 = .ok (.iload 4, 2) := by decide +kernel
theorem dL_text_97 : decode cL_text 97 = .ok (.aload 5, 2) := by decide +kernel
theorem dL_text_99 : decode cL_text 99 = .ok (.iconst 0, 1) := by decide +kernel
theorem dL_text_100 : decode cL_text 100 = .ok (.iaload, 1) := by decide +kernel
theorem dL_text_101 : decode cL_text 101 = .ok (.invokevirtual 57, 3) := by decide +kernel
theorem dL_text_104 : decode cL_text 104 = .ok (.ifCond .ne 7, 3) := by decide +kernel
theorem dL_text_107 : decode cL_text 107 = .ok (.iconst 1, 1) := by decide +kernel
theorem dL_text_108 : decode cL_text 108 = .ok (.goto 4, 3) := by decide +kernel
theorem dL_text_111 : decode cL_text 111 = .ok (.iconst 0, 1) := by decide +kernel
theorem dL_text_112 : decode cL_text 112 = .ok (.ireturn, 1) := by decide +kernel
theorem dL_cost_0 : decode cL_cost 0 = .ok (.bipush 8, 2) := by decide +kernel
theorem dL_cost_2 : decode cL_cost 2 = .ok (.iconst 3, 1) := by decide +kernel
theorem dL_cost_3 : decode cL_cost 3 = .ok (.iload_n 2, 1) := by decide +kernel
theorem dL_cost_4 : decode cL_cost 4 = .ok (.bipush 19, 2) := by decide +kernel
theorem dL_cost_6 : decode cL_cost 6 = .ok (.iadd, 1) := by decide +kernel
theorem dL_cost_7 : decode cL_cost 7 = .ok (.bipush 20, 2) := by decide +kernel
theorem dL_cost_9 : decode cL_cost 9 = .ok (.idiv, 1) := by decide +kernel
theorem dL_cost_10 : decode cL_cost 10 = .ok (.imul, 1) := by decide +kernel
theorem dL_cost_11 : decode cL_cost 11 = .ok (.iadd, 1) := by decide +kernel
theorem dL_cost_12 : decode cL_cost 12 = .ok (.iconst 2, 1) := by decide +kernel
theorem dL_cost_13 : decode cL_cost 13 = .ok (.iload_n 3, 1) := by decide +kernel
theorem dL_cost_14 : decode cL_cost 14 = .ok (.invokestatic 75, 3) := by decide +kernel
theorem dL_cost_17 : decode cL_cost 17 = .ok (.imul, 1) := by decide +kernel
theorem dL_cost_18 : decode cL_cost 18 = .ok (.iadd, 1) := by decide +kernel
theorem dL_cost_19 : decode cL_cost 19 = .ok (.iconst 2, 1) := by decide +kernel
theorem dL_cost_20 : decode cL_cost 20 = .ok (.isub, 1) := by decide +kernel
theorem dL_cost_21 : decode cL_cost 21 = .ok (.istore 4, 2) := by decide +kernel
theorem dL_cost_23 : decode cL_cost 23 = .ok (.iload 4, 2) := by decide +kernel
theorem dL_cost_25 : decode cL_cost 25 = .ok (.bipush 20, 2) := by decide +kernel
theorem dL_cost_27 : decode cL_cost 27 = .ok (.if_icmp .le 14, 3) := by decide +kernel
theorem dL_cost_30 : decode cL_cost 30 = .ok (.iload 4, 2) := by decide +kernel
theorem dL_cost_32 : decode cL_cost 32 = .ok (.bipush 11, 2) := by decide +kernel
theorem dL_cost_34 : decode cL_cost 34 = .ok (.isub, 1) := by decide +kernel
theorem dL_cost_35 : decode cL_cost 35 = .ok (.bipush 10, 2) := by decide +kernel
theorem dL_cost_37 : decode cL_cost 37 = .ok (.idiv, 1) := by decide +kernel
theorem dL_cost_38 : decode cL_cost 38 = .ok (.goto 4, 3) := by decide +kernel
theorem dL_cost_41 : decode cL_cost 41 = .ok (.iconst 0, 1) := by decide +kernel
theorem dL_cost_42 : decode cL_cost 42 = .ok (.istore 5, 2) := by decide +kernel
theorem dL_cost_44 : decode cL_cost 44 = .ok (.aload_n 0, 1) := by decide +kernel
theorem dL_cost_45 : decode cL_cost 45 = .ok (.iconst 2, 1) := by decide +kernel
theorem dL_cost_46 : decode cL_cost 46 = .ok (.iaload, 1) := by decide +kernel
theorem dL_cost_47 : decode cL_cost 47 = .ok (.aload_n 0, 1) := by decide +kernel
theorem dL_cost_48 : decode cL_cost 48 = .ok (.iconst 3, 1) := by decide +kernel
theorem dL_cost_49 : decode cL_cost 49 = .ok (.iaload, 1) := by decide +kernel
theorem dL_cost_50 : decode cL_cost 50 = .ok (.iload 5, 2) := by decide +kernel
theorem dL_cost_52 : decode cL_cost 52 = .ok (.imul, 1) := by decide +kernel
theorem dL_cost_53 : decode cL_cost 53 = .ok (.iadd, 1) := by decide +kernel
theorem dL_cost_54 : decode cL_cost 54 = .ok (.aload_n 1, 1) := by decide +kernel
theorem dL_cost_55 : decode cL_cost 55 = .ok (.iconst 5, 1) := by decide +kernel
theorem dL_cost_56 : decode cL_cost 56 = .ok (.iload_n 3, 1) := by decide +kernel
theorem dL_cost_57 : decode cL_cost 57 = .ok (.invokestatic 65, 3) := by decide +kernel
theorem dL_cost_60 : decode cL_cost 60 = .ok (.imul, 1) := by decide +kernel
theorem dL_cost_61 : decode cL_cost 61 = .ok (.iconst 3, 1) := by decide +kernel
theorem dL_cost_62 : decode cL_cost 62 = .ok (.iadd, 1) := by decide +kernel
theorem dL_cost_63 : decode cL_cost 63 = .ok (.iaload, 1) := by decide +kernel
theorem dL_cost_64 : decode cL_cost 64 = .ok (.iconst 2, 1) := by decide +kernel
theorem dL_cost_65 : decode cL_cost 65 = .ok (.iadd, 1) := by decide +kernel
theorem dL_cost_66 : decode cL_cost 66 = .ok (.imul, 1) := by decide +kernel
theorem dL_cost_67 : decode cL_cost 67 = .ok (.ireturn, 1) := by decide +kernel
theorem dL_letters_0 : decode cL_letters 0 = .ok (.iconst 0, 1) := by decide +kernel
theorem dL_letters_1 : decode cL_letters 1 = .ok (.istore 8, 2) := by decide +kernel
theorem dL_letters_3 : decode cL_letters 3 = .ok (.iconst 0, 1) := by decide +kernel
theorem dL_letters_4 : decode cL_letters 4 = .ok (.istore 9, 2) := by decide +kernel
theorem dL_letters_6 : decode cL_letters 6 = .ok (.iconst 1, 1) := by decide +kernel
theorem dL_letters_7 : decode cL_letters 7 = .ok (.istore 10, 2) := by decide +kernel
theorem dL_letters_9 : decode cL_letters 9 = .ok (.iconst 0, 1) := by decide +kernel
theorem dL_letters_10 : decode cL_letters 10 = .ok (.istore 11, 2) := by decide +kernel
theorem dL_letters_12 : decode cL_letters 12 = .ok (.iload 11, 2) := by decide +kernel
theorem dL_letters_14 : decode cL_letters 14 = .ok (.aload_n 1, 1) := by decide +kernel
theorem dL_letters_15 : decode cL_letters 15 = .ok (.iconst 0, 1) := by decide +kernel
theorem dL_letters_16 : decode cL_letters 16 = .ok (.iaload, 1) := by decide +kernel
theorem dL_letters_17 : decode cL_letters 17 = .ok (.if_icmp .ge 286, 3) := by decide +kernel
theorem dL_letters_20 : decode cL_letters 20 = .ok (.iload 10, 2) := by decide +kernel
theorem dL_letters_22 : decode cL_letters 22 = .ok (.ifCond .eq 281, 3) := by decide +kernel
theorem dL_letters_25 : decode cL_letters 25 = .ok (.aload_n 3, 1) := by decide +kernel
theorem dL_letters_26 : decode cL_letters 26 = .ok (.iload 11, 2) := by decide +kernel
theorem dL_letters_28 : decode cL_letters 28 = .ok (.iaload, 1) := by decide +kernel
theorem dL_letters_29 : decode cL_letters 29 = .ok (.invokestatic 65, 3) := by decide +kernel
theorem dL_letters_32 : decode cL_letters 32 = .ok (.iload 11, 2) := by decide +kernel
theorem dL_letters_34 : decode cL_letters 34 = .ok (.if_icmp .ne 7, 3) := by decide +kernel
theorem dL_letters_37 : decode cL_letters 37 = .ok (.iconst 1, 1) := by decide +kernel
theorem dL_letters_38 : decode cL_letters 38 = .ok (.goto 4, 3) := by decide +kernel
theorem dL_letters_41 : decode cL_letters 41 = .ok (.iconst 0, 1) := by decide +kernel
theorem dL_letters_42 : decode cL_letters 42 = .ok (.istore 12, 2) := by decide +kernel
theorem dL_letters_44 : decode cL_letters 44 = .ok (.iconst 0, 1) := by decide +kernel
theorem dL_letters_45 : decode cL_letters 45 = .ok (.istore 13, 2) := by decide +kernel
theorem dL_letters_47 : decode cL_letters 47 = .ok (.iload 13, 2) := by decide +kernel
theorem dL_letters_49 : decode cL_letters 49 = .ok (.aload_n 1, 1) := by decide +kernel
theorem dL_letters_50 : decode cL_letters 50 = .ok (.iconst 0, 1) := by decide +kernel
theorem dL_letters_51 : decode cL_letters 51 = .ok (.iaload, 1) := by decide +kernel
theorem dL_letters_52 : decode cL_letters 52 = .ok (.if_icmp .ge 51, 3) := by decide +kernel
theorem dL_letters_55 : decode cL_letters 55 = .ok (.iload 12, 2) := by decide +kernel
theorem dL_letters_57 : decode cL_letters 57 = .ok (.ifCond .eq 37, 3) := by decide +kernel
theorem dL_letters_60 : decode cL_letters 60 = .ok (.aload_n 3, 1) := by decide +kernel
theorem dL_letters_61 : decode cL_letters 61 = .ok (.iload 11, 2) := by decide +kernel
theorem dL_letters_63 : decode cL_letters 63 = .ok (.iaload, 1) := by decide +kernel
theorem dL_letters_64 : decode cL_letters 64 = .ok (.iload 13, 2) := by decide +kernel
theorem dL_letters_66 : decode cL_letters 66 = .ok (.ishr, 1) := by decide +kernel
theorem dL_letters_67 : decode cL_letters 67 = .ok (.iconst 1, 1) := by decide +kernel
theorem dL_letters_68 : decode cL_letters 68 = .ok (.iand, 1) := by decide +kernel
theorem dL_letters_69 : decode cL_letters 69 = .ok (.ifCond .eq 21, 3) := by decide +kernel
theorem dL_letters_72 : decode cL_letters 72 = .ok (.aload 4, 2) := by decide +kernel
theorem dL_letters_74 : decode cL_letters 74 = .ok (.iload 13, 2) := by decide +kernel
theorem dL_letters_76 : decode cL_letters 76 = .ok (.iaload, 1) := by decide +kernel
theorem dL_letters_77 : decode cL_letters 77 = .ok (.aload_n 1, 1) := by decide +kernel
theorem dL_letters_78 : decode cL_letters 78 = .ok (.bipush 20, 2) := by decide +kernel
theorem dL_letters_80 : decode cL_letters 80 = .ok (.iload 6, 2) := by decide +kernel
theorem dL_letters_82 : decode cL_letters 82 = .ok (.iadd, 1) := by decide +kernel
theorem dL_letters_83 : decode cL_letters 83 = .ok (.iaload, 1) := by decide +kernel
theorem dL_letters_84 : decode cL_letters 84 = .ok (.ishr, 1) := by decide +kernel
theorem dL_letters_85 : decode cL_letters 85 = .ok (.iconst 1, 1) := by decide +kernel
theorem dL_letters_86 : decode cL_letters 86 = .ok (.iand, 1) := by decide +kernel
theorem dL_letters_87 : decode cL_letters 87 = .ok (.ifCond .ne 7, 3) := by decide +kernel
theorem dL_letters_90 : decode cL_letters 90 = .ok (.iconst 1, 1) := by decide +kernel
theorem dL_letters_91 : decode cL_letters 91 = .ok (.goto 4, 3) := by decide +kernel
theorem dL_letters_94 : decode cL_letters 94 = .ok (.iconst 0, 1) := by decide +kernel
theorem dL_letters_95 : decode cL_letters 95 = .ok (.istore 12, 2) := by decide +kernel
theorem dL_letters_97 : decode cL_letters 97 = .ok (.iinc 13 1, 3) := by decide +kernel
theorem dL_letters_100 : decode cL_letters 100 = .ok (.goto (-53), 3) := by decide +kernel
theorem dL_letters_103 : decode cL_letters 103 = .ok (.iload 12, 2) := by decide +kernel
theorem dL_letters_105 : decode cL_letters 105 = .ok (.ifCond .eq 192, 3) := by decide +kernel
theorem dL_letters_108 : decode cL_letters 108 = .ok (.aload_n 0, 1) := by decide +kernel
theorem dL_letters_109 : decode cL_letters 109 = .ok (.iload 6, 2) := by decide +kernel
theorem dL_letters_111 : decode cL_letters 111 = .ok (.iload 8, 2) := by decide +kernel
theorem dL_letters_113 : decode cL_letters 113 = .ok (.iconst 0, 1) := by decide +kernel
theorem dL_letters_114 : decode cL_letters 114 = .ok (.invokevirtual 85, 3) := by decide +kernel
theorem dL_letters_117 : decode cL_letters 117 = .ok (.aload_n 3, 1) := by decide +kernel
theorem dL_letters_118 : decode cL_letters 118 = .ok (.iload 11, 2) := by decide +kernel
theorem dL_letters_120 : decode cL_letters 120 = .ok (.iaload, 1) := by decide +kernel
theorem dL_letters_121 : decode cL_letters 121 = .ok (.if_icmp .ne 44, 3) := by decide +kernel
theorem dL_letters_124 : decode cL_letters 124 = .ok (.aload_n 0, 1) := by decide +kernel
theorem dL_letters_125 : decode cL_letters 125 = .ok (.iload 6, 2) := by decide +kernel
theorem dL_letters_127 : decode cL_letters 127 = .ok (.iload 8, 2) := by decide +kernel
theorem dL_letters_129 : decode cL_letters 129 = .ok (.iconst 1, 1) := by decide +kernel
theorem dL_letters_130 : decode cL_letters 130 = .ok (.invokevirtual 85, 3) := by decide +kernel
theorem dL_letters_133 : decode cL_letters 133 = .ok (.ifCond .ne 32, 3) := by decide +kernel
theorem dL_letters_136 : decode cL_letters 136 = .ok (.aload_n 0, 1) := by decide +kernel
theorem dL_letters_137 : decode cL_letters 137 = .ok (.aload_n 2, 1) := by decide +kernel
theorem dL_letters_138 : decode cL_letters 138 = .ok (.aload_n 1, 1) := by decide +kernel
theorem dL_letters_139 : decode cL_letters 139 = .ok (.bipush 10, 2) := by decide +kernel
theorem dL_letters_141 : decode cL_letters 141 = .ok (.iload 6, 2) := by decide +kernel
theorem dL_letters_143 : decode cL_letters 143 = .ok (.iadd, 1) := by decide +kernel
theorem dL_letters_144 : decode cL_letters 144 = .ok (.iaload, 1) := by decide +kernel
theorem dL_letters_145 : decode cL_letters 145 = .ok (.iload 6, 2) := by decide +kernel
theorem dL_letters_147 : decode cL_letters 147 = .ok (.iload 8, 2) := by decide +kernel
theorem dL_letters_149 : decode cL_letters 149 = .ok (.aload 5, 2) := by decide +kernel
theorem dL_letters_151 : decode cL_letters 151 = .ok (.aload_n 3, 1) := by decide +kernel
theorem dL_letters_152 : decode cL_letters 152 = .ok (.iload 11, 2) := by decide +kernel
theorem dL_letters_154 : decode cL_letters 154 = .ok (.iaload, 1) := by decide +kernel
theorem dL_letters_155 : decode cL_letters 155 = .ok (.invokestatic 89, 3) := by decide +kernel
theorem dL_letters_158 : decode cL_letters 158 = .ok (.ifCond .eq 7, 3) := by decide +kernel
theorem dL_letters_161 : decode cL_letters 161 = .ok (.iconst 1, 1) := by decide +kernel
theorem dL_letters_162 : decode cL_letters 162 = .ok (.goto 4, 3) := by decide +kernel
theorem dL_letters_165 : decode cL_letters 165 = .ok (.iconst 0, 1) := by decide +kernel
theorem dL_letters_166 : decode cL_letters 166 = .ok (.istore 10, 2) := by decide +kernel
theorem dL_letters_168 : decode cL_letters 168 = .ok (.aload_n 1, 1) := by decide +kernel
theorem dL_letters_169 : decode cL_letters 169 = .ok (.aload_n 2, 1) := by decide +kernel
theorem dL_letters_170 : decode cL_letters 170 = .ok (.aload 5, 2) := by decide +kernel
theorem dL_letters_172 : decode cL_letters 172 = .ok (.iconst 0, 1) := by decide +kernel
theorem dL_letters_173 : decode cL_letters 173 = .ok (.iaload, 1) := by decide +kernel
theorem dL_letters_174 : decode cL_letters 174 = .ok (.aload_n 3, 1) := by decide +kernel
theorem dL_letters_175 : decode cL_letters 175 = .ok (.iload 11, 2) := by decide +kernel
theorem dL_letters_177 : decode cL_letters 177 = .ok (.iaload, 1) := by decide +kernel
theorem dL_letters_178 : decode cL_letters 178 = .ok (.invokestatic 93, 3) := by decide +kernel
theorem dL_letters_181 : decode cL_letters 181 = .ok (.istore 13, 2) := by decide +kernel
theorem dL_letters_183 : decode cL_letters 183 = .ok (.iload 10, 2) := by decide +kernel
theorem dL_letters_185 : decode cL_letters 185 = .ok (.ifCond .eq 99, 3) := by decide +kernel
theorem dL_letters_188 : decode cL_letters 188 = .ok (.aload_n 0, 1) := by decide +kernel
theorem dL_letters_189 : decode cL_letters 189 = .ok (.iload 6, 2) := by decide +kernel
theorem dL_letters_191 : decode cL_letters 191 = .ok (.iload 8, 2) := by decide +kernel
theorem dL_letters_193 : decode cL_letters 193 = .ok (.iconst 2, 1) := by decide +kernel
theorem dL_letters_194 : decode cL_letters 194 = .ok (.invokevirtual 85, 3) := by decide +kernel
theorem dL_letters_197 : decode cL_letters 197 = .ok (.aload 5, 2) := by decide +kernel
theorem dL_letters_199 : decode cL_letters 199 = .ok (.iconst 0, 1) := by decide +kernel
theorem dL_letters_200 : decode cL_letters 200 = .ok (.iaload, 1) := by decide +kernel
theorem dL_letters_201 : decode cL_letters 201 = .ok (.if_icmp .ne 83, 3) := by decide +kernel
theorem dL_letters_204 : decode cL_letters 204 = .ok (.aload_n 0, 1) := by decide +kernel
theorem dL_letters_205 : decode cL_letters 205 = .ok (.iload 6, 2) := by decide +kernel
theorem dL_letters_207 : decode cL_letters 207 = .ok (.iload 8, 2) := by decide +kernel
theorem dL_letters_209 : decode cL_letters 209 = .ok (.iconst 3, 1) := by decide +kernel
theorem dL_letters_210 : decode cL_letters 210 = .ok (.invokevirtual 85, 3) := by decide +kernel
theorem dL_letters_213 : decode cL_letters 213 = .ok (.bipush 6, 2) := by decide +kernel
theorem dL_letters_215 : decode cL_letters 215 = .ok (.iconst 3, 1) := by decide +kernel
theorem dL_letters_216 : decode cL_letters 216 = .ok (.aload 5, 2) := by decide +kernel
theorem dL_letters_218 : decode cL_letters 218 = .ok (.iconst 0, 1) := by decide +kernel
theorem dL_letters_219 : decode cL_letters 219 = .ok (.iaload, 1) := by decide +kernel
theorem dL_letters_220 : decode cL_letters 220 = .ok (.bipush 19, 2) := by decide +kernel
theorem dL_letters_222 : decode cL_letters 222 = .ok (.iadd, 1) := by decide +kernel
theorem dL_letters_223 : decode cL_letters 223 = .ok (.bipush 20, 2) := by decide +kernel
theorem dL_letters_225 : decode cL_letters 225 = .ok (.idiv, 1) := by decide +kernel
theorem dL_letters_226 : decode cL_letters 226 = .ok (.imul, 1) := by decide +kernel
theorem dL_letters_227 : decode cL_letters 227 = .ok (.iadd, 1) := by decide +kernel
theorem dL_letters_228 : decode cL_letters 228 = .ok (.iconst 2, 1) := by decide +kernel
theorem dL_letters_229 : decode cL_letters 229 = .ok (.aload_n 3, 1) := by decide +kernel
theorem dL_letters_230 : decode cL_letters 230 = .ok (.iload 11, 2) := by decide +kernel
theorem dL_letters_232 : decode cL_letters 232 = .ok (.iaload, 1) := by decide +kernel
theorem dL_letters_233 : decode cL_letters 233 = .ok (.invokestatic 75, 3) := by decide +kernel
theorem dL_letters_236 : decode cL_letters 236 = .ok (.imul, 1) := by decide +kernel
theorem dL_letters_237 : decode cL_letters 237 = .ok (.iadd, 1) := by decide +kernel
theorem dL_letters_238 : decode cL_letters 238 = .ok (.if_icmp .ne 46, 3) := by decide +kernel
theorem dL_letters_241 : decode cL_letters 241 = .ok (.aload_n 0, 1) := by decide +kernel
theorem dL_letters_242 : decode cL_letters 242 = .ok (.iload 6, 2) := by decide +kernel
theorem dL_letters_244 : decode cL_letters 244 = .ok (.iload 8, 2) := by decide +kernel
theorem dL_letters_246 : decode cL_letters 246 = .ok (.iconst 4, 1) := by decide +kernel
theorem dL_letters_247 : decode cL_letters 247 = .ok (.invokevirtual 85, 3) := by decide +kernel
theorem dL_letters_250 : decode cL_letters 250 = .ok (.iload 13, 2) := by decide +kernel
theorem dL_letters_252 : decode cL_letters 252 = .ok (.if_icmp .ne 32, 3) := by decide +kernel
theorem dL_letters_255 : decode cL_letters 255 = .ok (.aload_n 0, 1) := by decide +kernel
theorem dL_letters_256 : decode cL_letters 256 = .ok (.iload 6, 2) := by decide +kernel
theorem dL_letters_258 : decode cL_letters 258 = .ok (.iload 8, 2) := by decide +kernel
theorem dL_letters_260 : decode cL_letters 260 = .ok (.invokevirtual 97, 3) := by decide +kernel
theorem dL_letters_263 : decode cL_letters 263 = .ok (.ifCond .ne 21, 3) := by decide +kernel
theorem dL_letters_266 : decode cL_letters 266 = .ok (.aload_n 0, 1) := by decide +kernel
theorem dL_letters_267 : decode cL_letters 267 = .ok (.iload 6, 2) := by decide +kernel
theorem dL_letters_269 : decode cL_letters 269 = .ok (.iload 8, 2) := by decide +kernel
theorem dL_letters_271 : decode cL_letters 271 = .ok (.iconst 0, 1) := by decide +kernel
theorem dL_letters_272 : decode cL_letters 272 = .ok (.iconst 0, 1) := by decide +kernel
theorem dL_letters_273 : decode cL_letters 273 = .ok (.invokevirtual 100, 3) := by decide +kernel
theorem dL_letters_276 : decode cL_letters 276 = .ok (.iconst (-1), 1) := by decide +kernel
theorem dL_letters_277 : decode cL_letters 277 = .ok (.if_icmp .ne 7, 3) := by decide +kernel
theorem dL_letters_280 : decode cL_letters 280 = .ok (.iconst 1, 1) := by decide +kernel
theorem dL_letters_281 : decode cL_letters 281 = .ok (.goto 4, 3) := by decide +kernel
theorem dL_letters_284 : decode cL_letters 284 = .ok (.iconst 0, 1) := by decide +kernel
theorem dL_letters_285 : decode cL_letters 285 = .ok (.istore 10, 2) := by decide +kernel
theorem dL_letters_287 : decode cL_letters 287 = .ok (.iload 9, 2) := by decide +kernel
theorem dL_letters_289 : decode cL_letters 289 = .ok (.iload 13, 2) := by decide +kernel
theorem dL_letters_291 : decode cL_letters 291 = .ok (.iadd, 1) := by decide +kernel
theorem dL_letters_292 : decode cL_letters 292 = .ok (.istore 9, 2) := by decide +kernel
theorem dL_letters_294 : decode cL_letters 294 = .ok (.iinc 8 1, 3) := by decide +kernel
theorem dL_letters_297 : decode cL_letters 297 = .ok (.iinc 11 1, 3) := by decide +kernel
theorem dL_letters_300 : decode cL_letters 300 = .ok (.goto (-288), 3) := by decide +kernel
theorem dL_letters_303 : decode cL_letters 303 = .ok (.iload 10, 2) := by decide +kernel
theorem dL_letters_305 : decode cL_letters 305 = .ok (.ifCond .eq 18, 3) := by decide +kernel
theorem dL_letters_308 : decode cL_letters 308 = .ok (.aload_n 0, 1) := by decide +kernel
theorem dL_letters_309 : decode cL_letters 309 = .ok (.iload 6, 2) := by decide +kernel
theorem dL_letters_311 : decode cL_letters 311 = .ok (.invokevirtual 104, 3) := by decide +kernel
theorem dL_letters_314 : decode cL_letters 314 = .ok (.iload 8, 2) := by decide +kernel
theorem dL_letters_316 : decode cL_letters 316 = .ok (.if_icmp .ne 7, 3) := by decide +kernel
theorem dL_letters_319 : decode cL_letters 319 = .ok (.iconst 1, 1) := by decide +kernel
theorem dL_letters_320 : decode cL_letters 320 = .ok (.goto 4, 3) := by decide +kernel
theorem dL_letters_323 : decode cL_letters 323 = .ok (.iconst 0, 1) := by decide +kernel
theorem dL_letters_324 : decode cL_letters 324 = .ok (.istore 10, 2) := by decide +kernel
theorem dL_letters_326 : decode cL_letters 326 = .ok (.iload 7, 2) := by decide +kernel
theorem dL_letters_328 : decode cL_letters 328 = .ok (.ifCond .eq 75, 3) := by decide +kernel
theorem dL_letters_331 : decode cL_letters 331 = .ok (.iload 10, 2) := by decide +kernel
theorem dL_letters_333 : decode cL_letters 333 = .ok (.ifCond .eq 70, 3) := by decide +kernel
theorem dL_letters_336 : decode cL_letters 336 = .ok (.aload_n 0, 1) := by decide +kernel
theorem dL_letters_337 : decode cL_letters 337 = .ok (.iload 6, 2) := by decide +kernel
theorem dL_letters_339 : decode cL_letters 339 = .ok (.invokevirtual 107, 3) := by decide +kernel
theorem dL_letters_342 : decode cL_letters 342 = .ok (.iload 8, 2) := by decide +kernel
theorem dL_letters_344 : decode cL_letters 344 = .ok (.if_icmp .ne 31, 3) := by decide +kernel
theorem dL_letters_347 : decode cL_letters 347 = .ok (.aload_n 0, 1) := by decide +kernel
theorem dL_letters_348 : decode cL_letters 348 = .ok (.iload 6, 2) := by decide +kernel
theorem dL_letters_350 : decode cL_letters 350 = .ok (.invokevirtual 104, 3) := by decide +kernel
theorem dL_letters_353 : decode cL_letters 353 = .ok (.iload 8, 2) := by decide +kernel
theorem dL_letters_355 : decode cL_letters 355 = .ok (.if_icmp .ne 20, 3) := by decide +kernel
theorem dL_letters_358 : decode cL_letters 358 = .ok (.aload_n 0, 1) := by decide +kernel
theorem dL_letters_359 : decode cL_letters 359 = .ok (.invokevirtual 110, 3) := by decide +kernel
theorem dL_letters_362 : decode cL_letters 362 = .ok (.aload_n 1, 1) := by decide +kernel
theorem dL_letters_363 : decode cL_letters 363 = .ok (.iconst 4, 1) := by decide +kernel
theorem dL_letters_364 : decode cL_letters 364 = .ok (.iaload, 1) := by decide +kernel
theorem dL_letters_365 : decode cL_letters 365 = .ok (.iload 9, 2) := by decide +kernel
theorem dL_letters_367 : decode cL_letters 367 = .ok (.iadd, 1) := by decide +kernel
theorem dL_letters_368 : decode cL_letters 368 = .ok (.if_icmp .ne 7, 3) := by decide +kernel
theorem dL_letters_371 : decode cL_letters 371 = .ok (.iconst 1, 1) := by decide +kernel
theorem dL_letters_372 : decode cL_letters 372 = .ok (.goto 4, 3) := by decide +kernel
theorem dL_letters_375 : decode cL_letters 375 = .ok (.iconst 0, 1) := by decide +kernel
theorem dL_letters_376 : decode cL_letters 376 = .ok (.istore 10, 2) := by decide +kernel
theorem dL_letters_378 : decode cL_letters 378 = .ok (.aload_n 1, 1) := by decide +kernel
theorem dL_letters_379 : decode cL_letters 379 = .ok (.iconst 4, 1) := by decide +kernel
theorem dL_letters_380 : decode cL_letters 380 = .ok (.dup2, 1) := by decide +kernel
theorem dL_letters_381 : decode cL_letters 381 = .ok (.iaload, 1) := by decide +kernel
theorem dL_letters_382 : decode cL_letters 382 = .ok (.iload 9, 2) := by decide +kernel
theorem dL_letters_384 : decode cL_letters 384 = .ok (.iadd, 1) := by decide +kernel
theorem dL_letters_385 : decode cL_letters 385 = .ok (.iastore, 1) := by decide +kernel
theorem dL_letters_386 : decode cL_letters 386 = .ok (.aload_n 1, 1) := by decide +kernel
theorem dL_letters_387 : decode cL_letters 387 = .ok (.bipush 30, 2) := by decide +kernel
theorem dL_letters_389 : decode cL_letters 389 = .ok (.iload 6, 2) := by decide +kernel
theorem dL_letters_391 : decode cL_letters 391 = .ok (.iadd, 1) := by decide +kernel
theorem dL_letters_392 : decode cL_letters 392 = .ok (.iconst 1, 1) := by decide +kernel
theorem dL_letters_393 : decode cL_letters 393 = .ok (.iastore, 1) := by decide +kernel
theorem dL_letters_394 : decode cL_letters 394 = .ok (.aload_n 1, 1) := by decide +kernel
theorem dL_letters_395 : decode cL_letters 395 = .ok (.aload_n 3, 1) := by decide +kernel
theorem dL_letters_396 : decode cL_letters 396 = .ok (.aload 4, 2) := by decide +kernel
theorem dL_letters_398 : decode cL_letters 398 = .ok (.iload 6, 2) := by decide +kernel
theorem dL_letters_400 : decode cL_letters 400 = .ok (.invokestatic 113, 3) := by decide +kernel
theorem dL_letters_403 : decode cL_letters 403 = .ok (.iconst 0, 1) := by decide +kernel
theorem dL_letters_404 : decode cL_letters 404 = .ok (.istore 11, 2) := by decide +kernel
theorem dL_letters_406 : decode cL_letters 406 = .ok (.iload 11, 2) := by decide +kernel
theorem dL_letters_408 : decode cL_letters 408 = .ok (.aload_n 1, 1) := by decide +kernel
theorem dL_letters_409 : decode cL_letters 409 = .ok (.iconst 0, 1) := by decide +kernel
theorem dL_letters_410 : decode cL_letters 410 = .ok (.iaload, 1) := by decide +kernel
theorem dL_letters_411 : decode cL_letters 411 = .ok (.if_icmp .ge 35, 3) := by decide +kernel
theorem dL_letters_414 : decode cL_letters 414 = .ok (.iload 10, 2) := by decide +kernel
theorem dL_letters_416 : decode cL_letters 416 = .ok (.ifCond .eq 30, 3) := by decide +kernel
theorem dL_letters_419 : decode cL_letters 419 = .ok (.aload_n 0, 1) := by decide +kernel
theorem dL_letters_420 : decode cL_letters 420 = .ok (.iload 11, 2) := by decide +kernel
theorem dL_letters_422 : decode cL_letters 422 = .ok (.invokevirtual 54, 3) := by decide +kernel
theorem dL_letters_425 : decode cL_letters 425 = .ok (.aload 4, 2) := by decide +kernel
theorem dL_letters_427 : decode cL_letters 427 = .ok (.iload 11, 2) := by decide +kernel
theorem dL_letters_429 : decode cL_letters 429 = .ok (.iaload, 1) := by decide +kernel
theorem dL_letters_430 : decode cL_letters 430 = .ok (.if_icmp .ne 7, 3) := by decide +kernel
theorem dL_letters_433 : decode cL_letters 433 = .ok (.iconst 1, 1) := by decide +kernel
theorem dL_letters_434 : decode cL_letters 434 = .ok (.goto 4, 3) := by decide +kernel
theorem dL_letters_437 : decode cL_letters 437 = .ok (.iconst 0, 1) := by decide +kernel
theorem dL_letters_438 : decode cL_letters 438 = .ok (.istore 10, 2) := by decide +kernel
theorem dL_letters_440 : decode cL_letters 440 = .ok (.iinc 11 1, 3) := by decide +kernel
theorem dL_letters_443 : decode cL_letters 443 = .ok (.goto (-37), 3) := by decide +kernel
theorem dL_letters_446 : decode cL_letters 446 = .ok (.iload 10, 2) := by decide +kernel
theorem dL_letters_448 : decode cL_letters 448 = .ok (.ireturn, 1) := by decide +kernel
theorem dL_spread_0 : decode cL_spread 0 = .ok (.iconst 0, 1) := by decide +kernel
theorem dL_spread_1 : decode cL_spread 1 = .ok (.istore 4, 2) := by decide +kernel
theorem dL_spread_3 : decode cL_spread 3 = .ok (.iconst 0, 1) := by decide +kernel
theorem dL_spread_4 : decode cL_spread 4 = .ok (.istore 5, 2) := by decide +kernel
theorem dL_spread_6 : decode cL_spread 6 = .ok (.iload 5, 2) := by decide +kernel
theorem dL_spread_8 : decode cL_spread 8 = .ok (.aload_n 0, 1) := by decide +kernel
theorem dL_spread_9 : decode cL_spread 9 = .ok (.iconst 0, 1) := by decide +kernel
theorem dL_spread_10 : decode cL_spread 10 = .ok (.iaload, 1) := by decide +kernel
theorem dL_spread_11 : decode cL_spread 11 = .ok (.if_icmp .ge 87, 3) := by decide +kernel
theorem dL_spread_14 : decode cL_spread 14 = .ok (.iconst 1, 1) := by decide +kernel
theorem dL_spread_15 : decode cL_spread 15 = .ok (.istore 6, 2) := by decide +kernel
theorem dL_spread_17 : decode cL_spread 17 = .ok (.iconst 0, 1) := by decide +kernel
theorem dL_spread_18 : decode cL_spread 18 = .ok (.istore 7, 2) := by decide +kernel
theorem dL_spread_20 : decode cL_spread 20 = .ok (.iload 7, 2) := by decide +kernel
theorem dL_spread_22 : decode cL_spread 22 = .ok (.aload_n 0, 1) := by decide +kernel
theorem dL_spread_23 : decode cL_spread 23 = .ok (.iconst 0, 1) := by decide +kernel
theorem dL_spread_24 : decode cL_spread 24 = .ok (.iaload, 1) := by decide +kernel
theorem dL_spread_25 : decode cL_spread 25 = .ok (.if_icmp .ge 49, 3) := by decide +kernel
theorem dL_spread_28 : decode cL_spread 28 = .ok (.iload 6, 2) := by decide +kernel
theorem dL_spread_30 : decode cL_spread 30 = .ok (.ifCond .eq 35, 3) := by decide +kernel
theorem dL_spread_33 : decode cL_spread 33 = .ok (.aload_n 1, 1) := by decide +kernel
theorem dL_spread_34 : decode cL_spread 34 = .ok (.iload 5, 2) := by decide +kernel
theorem dL_spread_36 : decode cL_spread 36 = .ok (.iaload, 1) := by decide +kernel
theorem dL_spread_37 : decode cL_spread 37 = .ok (.iload 7, 2) := by decide +kernel
theorem dL_spread_39 : decode cL_spread 39 = .ok (.ishr, 1) := by decide +kernel
theorem dL_spread_40 : decode cL_spread 40 = .ok (.iconst 1, 1) := by decide +kernel
theorem dL_spread_41 : decode cL_spread 41 = .ok (.iand, 1) := by decide +kernel
theorem dL_spread_42 : decode cL_spread 42 = .ok (.ifCond .eq 19, 3) := by decide +kernel
theorem dL_spread_45 : decode cL_spread 45 = .ok (.aload_n 2, 1) := by decide +kernel
theorem dL_spread_46 : decode cL_spread 46 = .ok (.iload 7, 2) := by decide +kernel
theorem dL_spread_48 : decode cL_spread 48 = .ok (.iaload, 1) := by decide +kernel
theorem dL_spread_49 : decode cL_spread 49 = .ok (.aload_n 0, 1) := by decide +kernel
theorem dL_spread_50 : decode cL_spread 50 = .ok (.bipush 20, 2) := by decide +kernel
theorem dL_spread_52 : decode cL_spread 52 = .ok (.iload_n 3, 1) := by decide +kernel
theorem dL_spread_53 : decode cL_spread 53 = .ok (.iadd, 1) := by decide +kernel
theorem dL_spread_54 : decode cL_spread 54 = .ok (.iaload, 1) := by decide +kernel
theorem dL_spread_55 : decode cL_spread 55 = .ok (.ishr, 1) := by decide +kernel
theorem dL_spread_56 : decode cL_spread 56 = .ok (.iconst 1, 1) := by decide +kernel
theorem dL_spread_57 : decode cL_spread 57 = .ok (.iand, 1) := by decide +kernel
theorem dL_spread_58 : decode cL_spread 58 = .ok (.ifCond .ne 7, 3) := by decide +kernel
theorem dL_spread_61 : decode cL_spread 61 = .ok (.iconst 1, 1) := by decide +kernel
theorem dL_spread_62 : decode cL_spread 62 = .ok (.goto 4, 3) := by decide +kernel
theorem dL_spread_65 : decode cL_spread 65 = .ok (.iconst 0, 1) := by decide +kernel
theorem dL_spread_66 : decode cL_spread 66 = .ok (.istore 6, 2) := by decide +kernel
theorem dL_spread_68 : decode cL_spread 68 = .ok (.iinc 7 1, 3) := by decide +kernel
theorem dL_spread_71 : decode cL_spread 71 = .ok (.goto (-51), 3) := by decide +kernel
theorem dL_spread_74 : decode cL_spread 74 = .ok (.iload 4, 2) := by decide +kernel
theorem dL_spread_76 : decode cL_spread 76 = .ok (.iload 6, 2) := by decide +kernel
theorem dL_spread_78 : decode cL_spread 78 = .ok (.ifCond .eq 10, 3) := by decide +kernel
theorem dL_spread_81 : decode cL_spread 81 = .ok (.iconst 1, 1) := by decide +kernel
theorem dL_spread_82 : decode cL_spread 82 = .ok (.iload 5, 2) := by decide +kernel
theorem dL_spread_84 : decode cL_spread 84 = .ok (.ishl, 1) := by decide +kernel
theorem dL_spread_85 : decode cL_spread 85 = .ok (.goto 4, 3) := by decide +kernel
theorem dL_spread_88 : decode cL_spread 88 = .ok (.iconst 0, 1) := by decide +kernel
theorem dL_spread_89 : decode cL_spread 89 = .ok (.ior, 1) := by decide +kernel
theorem dL_spread_90 : decode cL_spread 90 = .ok (.istore 4, 2) := by decide +kernel
theorem dL_spread_92 : decode cL_spread 92 = .ok (.iinc 5 1, 3) := by decide +kernel
theorem dL_spread_95 : decode cL_spread 95 = .ok (.goto (-89), 3) := by decide +kernel
theorem dL_spread_98 : decode cL_spread 98 = .ok (.iconst 0, 1) := by decide +kernel
theorem dL_spread_99 : decode cL_spread 99 = .ok (.istore 5, 2) := by decide +kernel
theorem dL_spread_101 : decode cL_spread 101 = .ok (.iload 5, 2) := by decide +kernel
theorem dL_spread_103 : decode cL_spread 103 = .ok (.aload_n 0, 1) := by decide +kernel
theorem dL_spread_104 : decode cL_spread 104 = .ok (.iconst 0, 1) := by decide +kernel
theorem dL_spread_105 : decode cL_spread 105 = .ok (.iaload, 1) := by decide +kernel
theorem dL_spread_106 : decode cL_spread 106 = .ok (.if_icmp .ge 39, 3) := by decide +kernel
theorem dL_spread_109 : decode cL_spread 109 = .ok (.aload_n 2, 1) := by decide +kernel
theorem dL_spread_110 : decode cL_spread 110 = .ok (.iload 5, 2) := by decide +kernel
theorem dL_spread_112 : decode cL_spread 112 = .ok (.dup2, 1) := by decide +kernel
theorem dL_spread_113 : decode cL_spread 113 = .ok (.iaload, 1) := by decide +kernel
theorem dL_spread_114 : decode cL_spread 114 = .ok (.iload 4, 2) := by decide +kernel
theorem dL_spread_116 : decode cL_spread 116 = .ok (.iload 5, 2) := by decide +kernel
theorem dL_spread_118 : decode cL_spread 118 = .ok (.ishr, 1) := by decide +kernel
theorem dL_spread_119 : decode cL_spread 119 = .ok (.iconst 1, 1) := by decide +kernel
theorem dL_spread_120 : decode cL_spread 120 = .ok (.iand, 1) := by decide +kernel
theorem dL_spread_121 : decode cL_spread 121 = .ok (.iconst 1, 1) := by decide +kernel
theorem dL_spread_122 : decode cL_spread 122 = .ok (.if_icmp .ne 14, 3) := by decide +kernel
theorem dL_spread_125 : decode cL_spread 125 = .ok (.iconst 1, 1) := by decide +kernel
theorem dL_spread_126 : decode cL_spread 126 = .ok (.aload_n 0, 1) := by decide +kernel
theorem dL_spread_127 : decode cL_spread 127 = .ok (.bipush 20, 2) := by decide +kernel
theorem dL_spread_129 : decode cL_spread 129 = .ok (.iload_n 3, 1) := by decide +kernel
theorem dL_spread_130 : decode cL_spread 130 = .ok (.iadd, 1) := by decide +kernel
theorem dL_spread_131 : decode cL_spread 131 = .ok (.iaload, 1) := by decide +kernel
theorem dL_spread_132 : decode cL_spread 132 = .ok (.ishl, 1) := by decide +kernel
theorem dL_spread_133 : decode cL_spread 133 = .ok (.goto 4, 3) := by decide +kernel
theorem dL_spread_136 : decode cL_spread 136 = .ok (.iconst 0, 1) := by decide +kernel
theorem dL_spread_137 : decode cL_spread 137 = .ok (.ior, 1) := by decide +kernel
theorem dL_spread_138 : decode cL_spread 138 = .ok (.iastore, 1) := by decide +kernel
theorem dL_spread_139 : decode cL_spread 139 = .ok (.iinc 5 1, 3) := by decide +kernel
theorem dL_spread_142 : decode cL_spread 142 = .ok (.goto (-41), 3) := by decide +kernel
theorem dL_spread_145 : decode cL_spread 145 = .ok (.return_, 1) := by decide +kernel
theorem dL_templates_0 : decode cL_templates 0 = .ok (.aload_n 0, 1) := by decide +kernel
theorem dL_templates_1 : decode cL_templates 1 = .ok (.ldc2_w 117, 3) := by decide +kernel
theorem dL_templates_4 : decode cL_templates 4 = .ok (.invokevirtual 26, 3) := by decide +kernel
theorem dL_templates_7 : decode cL_templates 7 = .ok (.pop, 1) := by decide +kernel
theorem dL_templates_8 : decode cL_templates 8 = .ok (.aload_n 0, 1) := by decide +kernel
theorem dL_templates_9 : decode cL_templates 9 = .ok (.ldc2_w 119, 3) := by decide +kernel
theorem dL_templates_12 : decode cL_templates 12 = .ok (.invokevirtual 26, 3) := by decide +kernel
theorem dL_templates_15 : decode cL_templates 15 = .ok (.pop, 1) := by decide +kernel
theorem dL_templates_16 : decode cL_templates 16 = .ok (.aload_n 0, 1) := by decide +kernel
theorem dL_templates_17 : decode cL_templates 17 = .ok (.ldc2_w 121, 3) := by decide +kernel
theorem dL_templates_20 : decode cL_templates 20 = .ok (.invokevirtual 26, 3) := by decide +kernel
theorem dL_templates_23 : decode cL_templates 23 = .ok (.pop, 1) := by decide +kernel
theorem dL_templates_24 : decode cL_templates 24 = .ok (.aload_n 0, 1) := by decide +kernel
theorem dL_templates_25 : decode cL_templates 25 = .ok (.iconst 0, 1) := by decide +kernel
theorem dL_templates_26 : decode cL_templates 26 = .ok (.invokevirtual 123, 3) := by decide +kernel
theorem dL_templates_29 : decode cL_templates 29 = .ok (.bipush 23, 2) := by decide +kernel
theorem dL_templates_31 : decode cL_templates 31 = .ok (.if_icmp .ne 7, 3) := by decide +kernel
theorem dL_templates_34 : decode cL_templates 34 = .ok (.iconst 1, 1) := by decide +kernel
theorem dL_templates_35 : decode cL_templates 35 = .ok (.goto 4, 3) := by decide +kernel
theorem dL_templates_38 : decode cL_templates 38 = .ok (.iconst 0, 1) := by decide +kernel
theorem dL_templates_39 : decode cL_templates 39 = .ok (.istore_n 1, 1) := by decide +kernel
theorem dL_templates_40 : decode cL_templates 40 = .ok (.aload_n 0, 1) := by decide +kernel
theorem dL_templates_41 : decode cL_templates 41 = .ok (.ldc2_w 126, 3) := by decide +kernel
theorem dL_templates_44 : decode cL_templates 44 = .ok (.invokevirtual 26, 3) := by decide +kernel
theorem dL_templates_47 : decode cL_templates 47 = .ok (.pop, 1) := by decide +kernel
theorem dL_templates_48 : decode cL_templates 48 = .ok (.aload_n 0, 1) := by decide +kernel
theorem dL_templates_49 : decode cL_templates 49 = .ok (.ldc2_w 128, 3) := by decide +kernel
theorem dL_templates_52 : decode cL_templates 52 = .ok (.invokevirtual 26, 3) := by decide +kernel
theorem dL_templates_55 : decode cL_templates 55 = .ok (.pop, 1) := by decide +kernel
theorem dL_templates_56 : decode cL_templates 56 = .ok (.aload_n 0, 1) := by decide +kernel
theorem dL_templates_57 : decode cL_templates 57 = .ok (.ldc2_w 130, 3) := by decide +kernel
theorem dL_templates_60 : decode cL_templates 60 = .ok (.invokevirtual 26, 3) := by decide +kernel
theorem dL_templates_63 : decode cL_templates 63 = .ok (.pop, 1) := by decide +kernel
theorem dL_templates_64 : decode cL_templates 64 = .ok (.aload_n 0, 1) := by decide +kernel
theorem dL_templates_65 : decode cL_templates 65 = .ok (.ldc2_w 132, 3) := by decide +kernel
theorem dL_templates_68 : decode cL_templates 68 = .ok (.invokevirtual 26, 3) := by decide +kernel
theorem dL_templates_71 : decode cL_templates 71 = .ok (.pop, 1) := by decide +kernel
theorem dL_templates_72 : decode cL_templates 72 = .ok (.iload_n 1, 1) := by decide +kernel
theorem dL_templates_73 : decode cL_templates 73 = .ok (.ifCond .eq 17, 3) := by decide +kernel
theorem dL_templates_76 : decode cL_templates 76 = .ok (.aload_n 0, 1) := by decide +kernel
theorem dL_templates_77 : decode cL_templates 77 = .ok (.iconst 1, 1) := by decide +kernel
theorem dL_templates_78 : decode cL_templates 78 = .ok (.invokevirtual 123, 3) := by decide +kernel
theorem dL_templates_81 : decode cL_templates 81 = .ok (.bipush 26, 2) := by decide +kernel
theorem dL_templates_83 : decode cL_templates 83 = .ok (.if_icmp .ne 7, 3) := by decide +kernel
theorem dL_templates_86 : decode cL_templates 86 = .ok (.iconst 1, 1) := by decide +kernel
theorem dL_templates_87 : decode cL_templates 87 = .ok (.goto 4, 3) := by decide +kernel
theorem dL_templates_90 : decode cL_templates 90 = .ok (.iconst 0, 1) := by decide +kernel
theorem dL_templates_91 : decode cL_templates 91 = .ok (.istore_n 1, 1) := by decide +kernel
theorem dL_templates_92 : decode cL_templates 92 = .ok (.aload_n 0, 1) := by decide +kernel
theorem dL_templates_93 : decode cL_templates 93 = .ok (.ldc2_w 134, 3) := by decide +kernel
theorem dL_templates_96 : decode cL_templates 96 = .ok (.invokevirtual 26, 3) := by decide +kernel
theorem dL_templates_99 : decode cL_templates 99 = .ok (.pop, 1) := by decide +kernel
theorem dL_templates_100 : decode cL_templates 100 = .ok (.iload_n 1, 1) := by decide +kernel
theorem dL_templates_101 : decode cL_templates 101 = .ok (.ifCond .eq 16, 3) := by decide +kernel
theorem dL_templates_104 : decode cL_templates 104 = .ok (.aload_n 0, 1) := by decide +kernel
theorem dL_templates_105 : decode cL_templates 105 = .ok (.iconst 2, 1) := by decide +kernel
theorem dL_templates_106 : decode cL_templates 106 = .ok (.invokevirtual 123, 3) := by decide +kernel
theorem dL_templates_109 : decode cL_templates 109 = .ok (.iconst 4, 1) := by decide +kernel
theorem dL_templates_110 : decode cL_templates 110 = .ok (.if_icmp .ne 7, 3) := by decide +kernel
theorem dL_templates_113 : decode cL_templates 113 = .ok (.iconst 1, 1) := by decide +kernel
theorem dL_templates_114 : decode cL_templates 114 = .ok (.goto 4, 3) := by decide +kernel
theorem dL_templates_117 : decode cL_templates 117 = .ok (.iconst 0, 1) := by decide +kernel
theorem dL_templates_118 : decode cL_templates 118 = .ok (.ireturn, 1) := by decide +kernel
theorem dL_law_0 : decode cL_law 0 = .ok (.new 11, 3) := by decide +kernel
theorem dL_law_3 : decode cL_law 3 = .ok (.dup, 1) := by decide +kernel
theorem dL_law_4 : decode cL_law 4 = .ok (.invokespecial 136, 3) := by decide +kernel
theorem dL_law_7 : decode cL_law 7 = .ok (.astore_n 1, 1) := by decide +kernel
theorem dL_law_8 : decode cL_law 8 = .ok (.bipush 40, 2) := by decide +kernel
theorem dL_law_10 : decode cL_law 10 = .ok (.newarray .int, 2) := by decide +kernel
theorem dL_law_12 : decode cL_law 12 = .ok (.astore_n 2, 1) := by decide +kernel
theorem dL_law_13 : decode cL_law 13 = .ok (.bipush 60, 2) := by decide +kernel
theorem dL_law_15 : decode cL_law 15 = .ok (.newarray .int, 2) := by decide +kernel
theorem dL_law_17 : decode cL_law 17 = .ok (.astore_n 3, 1) := by decide +kernel
theorem dL_law_18 : decode cL_law 18 = .ok (.bipush 12, 2) := by decide +kernel
theorem dL_law_20 : decode cL_law 20 = .ok (.newarray .int, 2) := by decide +kernel
theorem dL_law_22 : decode cL_law 22 = .ok (.astore 4, 2) := by decide +kernel
theorem dL_law_24 : decode cL_law 24 = .ok (.bipush 12, 2) := by decide +kernel
theorem dL_law_26 : decode cL_law 26 = .ok (.newarray .int, 2) := by decide +kernel
theorem dL_law_28 : decode cL_law 28 = .ok (.astore 5, 2) := by decide +kernel
theorem dL_law_30 : decode cL_law 30 = .ok (.bipush 12, 2) := by decide +kernel
theorem dL_law_32 : decode cL_law 32 = .ok (.newarray .int, 2) := by decide +kernel
theorem dL_law_34 : decode cL_law 34 = .ok (.astore 6, 2) := by decide +kernel
theorem dL_law_36 : decode cL_law 36 = .ok (.iconst 2, 1) := by decide +kernel
theorem dL_law_37 : decode cL_law 37 = .ok (.newarray .int, 2) := by decide +kernel
theorem dL_law_39 : decode cL_law 39 = .ok (.astore 7, 2) := by decide +kernel
theorem dL_law_41 : decode cL_law 41 = .ok (.aload_n 2, 1) := by decide +kernel
theorem dL_law_42 : decode cL_law 42 = .ok (.iconst 2, 1) := by decide +kernel
theorem dL_law_43 : decode cL_law 43 = .ok (.bipush 10, 2) := by decide +kernel
theorem dL_law_45 : decode cL_law 45 = .ok (.iastore, 1) := by decide +kernel
theorem dL_law_46 : decode cL_law 46 = .ok (.aload_n 2, 1) := by decide +kernel
theorem dL_law_47 : decode cL_law 47 = .ok (.iconst 3, 1) := by decide +kernel
theorem dL_law_48 : decode cL_law 48 = .ok (.iconst 5, 1) := by decide +kernel
theorem dL_law_49 : decode cL_law 49 = .ok (.iastore, 1) := by decide +kernel
theorem dL_law_50 : decode cL_law 50 = .ok (.aload_n 1, 1) := by decide +kernel
theorem dL_law_51 : decode cL_law 51 = .ok (.invokestatic 137, 3) := by decide +kernel
theorem dL_law_54 : decode cL_law 54 = .ok (.ifCond .eq 44, 3) := by decide +kernel
theorem dL_law_57 : decode cL_law 57 = .ok (.aload_n 1, 1) := by decide +kernel
theorem dL_law_58 : decode cL_law 58 = .ok (.aload_n 2, 1) := by decide +kernel
theorem dL_law_59 : decode cL_law 59 = .ok (.aload_n 3, 1) := by decide +kernel
theorem dL_law_60 : decode cL_law 60 = .ok (.aload_n 0, 1) := by decide +kernel
theorem dL_law_61 : decode cL_law 61 = .ok (.iconst 0, 1) := by decide +kernel
theorem dL_law_62 : decode cL_law 62 = .ok (.invokestatic 141, 3) := by decide +kernel
theorem dL_law_65 : decode cL_law 65 = .ok (.invokestatic 144, 3) := by decide +kernel
theorem dL_law_68 : decode cL_law 68 = .ok (.ifCond .eq 30, 3) := by decide +kernel
theorem dL_law_71 : decode cL_law 71 = .ok (.aload_n 1, 1) := by decide +kernel
theorem dL_law_72 : decode cL_law 72 = .ok (.aload_n 2, 1) := by decide +kernel
theorem dL_law_73 : decode cL_law 73 = .ok (.aload_n 3, 1) := by decide +kernel
theorem dL_law_74 : decode cL_law 74 = .ok (.aload_n 0, 1) := by decide +kernel
theorem dL_law_75 : decode cL_law 75 = .ok (.iconst 1, 1) := by decide +kernel
theorem dL_law_76 : decode cL_law 76 = .ok (.invokestatic 141, 3) := by decide +kernel
theorem dL_law_79 : decode cL_law 79 = .ok (.invokestatic 144, 3) := by decide +kernel
theorem dL_law_82 : decode cL_law 82 = .ok (.ifCond .eq 16, 3) := by decide +kernel
theorem dL_law_85 : decode cL_law 85 = .ok (.aload_n 1, 1) := by decide +kernel
theorem dL_law_86 : decode cL_law 86 = .ok (.iconst 0, 1) := by decide +kernel
theorem dL_law_87 : decode cL_law 87 = .ok (.iconst 0, 1) := by decide +kernel
theorem dL_law_88 : decode cL_law 88 = .ok (.invokevirtual 148, 3) := by decide +kernel
theorem dL_law_91 : decode cL_law 91 = .ok (.ifCond .ne 7, 3) := by decide +kernel
theorem dL_law_94 : decode cL_law 94 = .ok (.iconst 1, 1) := by decide +kernel
theorem dL_law_95 : decode cL_law 95 = .ok (.goto 4, 3) := by decide +kernel
theorem dL_law_98 : decode cL_law 98 = .ok (.iconst 0, 1) := by decide +kernel
theorem dL_law_99 : decode cL_law 99 = .ok (.istore 8, 2) := by decide +kernel
theorem dL_law_101 : decode cL_law 101 = .ok (.aload_n 2, 1) := by decide +kernel
theorem dL_law_102 : decode cL_law 102 = .ok (.iconst 1, 1) := by decide +kernel
theorem dL_law_103 : decode cL_law 103 = .ok (.iconst 1, 1) := by decide +kernel
theorem dL_law_104 : decode cL_law 104 = .ok (.iastore, 1) := by decide +kernel
theorem dL_law_105 : decode cL_law 105 = .ok (.iconst 0, 1) := by decide +kernel
theorem dL_law_106 : decode cL_law 106 = .ok (.istore 9, 2) := by decide +kernel
theorem dL_law_108 : decode cL_law 108 = .ok (.iload 9, 2) := by decide +kernel
theorem dL_law_110 : decode cL_law 110 = .ok (.bipush 40, 2) := by decide +kernel
theorem dL_law_112 : decode cL_law 112 = .ok (.if_icmp .ge 512, 3) := by decide +kernel
theorem dL_law_115 : decode cL_law 115 = .ok (.iload 8, 2) := by decide +kernel
theorem dL_law_117 : decode cL_law 117 = .ok (.ifCond .eq 507, 3) := by decide +kernel
theorem dL_law_120 : decode cL_law 120 = .ok (.aload_n 0, 1) := by decide +kernel
theorem dL_law_121 : decode cL_law 121 = .ok (.iconst 2, 1) := by decide +kernel
theorem dL_law_122 : decode cL_law 122 = .ok (.iconst 2, 1) := by decide +kernel
theorem dL_law_123 : decode cL_law 123 = .ok (.iload 9, 2) := by decide +kernel
theorem dL_law_125 : decode cL_law 125 = .ok (.imul, 1) := by decide +kernel
theorem dL_law_126 : decode cL_law 126 = .ok (.iadd, 1) := by decide +kernel
theorem dL_law_127 : decode cL_law 127 = .ok (.invokestatic 141, 3) := by decide +kernel
theorem dL_law_130 : decode cL_law 130 = .ok (.istore 10, 2) := by decide +kernel
theorem dL_law_132 : decode cL_law 132 = .ok (.aload_n 0, 1) := by decide +kernel
theorem dL_law_133 : decode cL_law 133 = .ok (.iconst 3, 1) := by decide +kernel
theorem dL_law_134 : decode cL_law 134 = .ok (.iconst 2, 1) := by decide +kernel
theorem dL_law_135 : decode cL_law 135 = .ok (.iload 9, 2) := by decide +kernel
theorem dL_law_137 : decode cL_law 137 = .ok (.imul, 1) := by decide +kernel
theorem dL_law_138 : decode cL_law 138 = .ok (.iadd, 1) := by decide +kernel
theorem dL_law_139 : decode cL_law 139 = .ok (.invokestatic 141, 3) := by decide +kernel
theorem dL_law_142 : decode cL_law 142 = .ok (.istore 11, 2) := by decide +kernel
theorem dL_law_144 : decode cL_law 144 = .ok (.iload 10, 2) := by decide +kernel
theorem dL_law_146 : decode cL_law 146 = .ok (.bipush 14, 2) := by decide +kernel
theorem dL_law_148 : decode cL_law 148 = .ok (.ishr, 1) := by decide +kernel
theorem dL_law_149 : decode cL_law 149 = .ok (.bipush 10, 2) := by decide +kernel
theorem dL_law_151 : decode cL_law 151 = .ok (.invokestatic 36, 3) := by decide +kernel
theorem dL_law_154 : decode cL_law 154 = .ok (.istore 12, 2) := by decide +kernel
theorem dL_law_156 : decode cL_law 156 = .ok (.iload 11, 2) := by decide +kernel
theorem dL_law_158 : decode cL_law 158 = .ok (.aload_n 2, 1) := by decide +kernel
theorem dL_law_159 : decode cL_law 159 = .ok (.iconst 1, 1) := by decide +kernel
theorem dL_law_160 : decode cL_law 160 = .ok (.iaload, 1) := by decide +kernel
theorem dL_law_161 : decode cL_law 161 = .ok (.invokestatic 36, 3) := by decide +kernel
theorem dL_law_164 : decode cL_law 164 = .ok (.istore 13, 2) := by decide +kernel
theorem dL_law_166 : decode cL_law 166 = .ok (.aload 7, 2) := by decide +kernel
theorem dL_law_168 : decode cL_law 168 = .ok (.iconst 1, 1) := by decide +kernel
theorem dL_law_169 : decode cL_law 169 = .ok (.iload 9, 2) := by decide +kernel
theorem dL_law_171 : decode cL_law 171 = .ok (.iastore, 1) := by decide +kernel
theorem dL_law_172 : decode cL_law 172 = .ok (.iload 12, 2) := by decide +kernel
theorem dL_law_174 : decode cL_law 174 = .ok (.iconst 3, 1) := by decide +kernel
theorem dL_law_175 : decode cL_law 175 = .ok (.if_icmp .ge 24, 3) := by decide +kernel
theorem dL_law_178 : decode cL_law 178 = .ok (.aload_n 2, 1) := by decide +kernel
theorem dL_law_179 : decode cL_law 179 = .ok (.iconst 0, 1) := by decide +kernel
theorem dL_law_180 : decode cL_law 180 = .ok (.iaload, 1) := by decide +kernel
theorem dL_law_181 : decode cL_law 181 = .ok (.bipush 9, 2) := by decide +kernel
theorem dL_law_183 : decode cL_law 183 = .ok (.if_icmp .ge 16, 3) := by decide +kernel
theorem dL_law_186 : decode cL_law 186 = .ok (.aload_n 1, 1) := by decide +kernel
theorem dL_law_187 : decode cL_law 187 = .ok (.aload_n 2, 1) := by decide +kernel
theorem dL_law_188 : decode cL_law 188 = .ok (.aload_n 3, 1) := by decide +kernel
theorem dL_law_189 : decode cL_law 189 = .ok (.iload 11, 2) := by decide +kernel
theorem dL_law_191 : decode cL_law 191 = .ok (.invokestatic 144, 3) := by decide +kernel
theorem dL_law_194 : decode cL_law 194 = .ok (.istore 8, 2) := by decide +kernel
theorem dL_law_196 : decode cL_law 196 = .ok (.goto 314, 3) := by decide +kernel
theorem dL_law_199 : decode cL_law 199 = .ok (.iload 12, 2) := by decide +kernel
theorem dL_law_201 : decode cL_law 201 = .ok (.iconst 2, 1) := by decide +kernel
theorem dL_law_202 : decode cL_law 202 = .ok (.if_icmp .le 160, 3) := by decide +kernel
theorem dL_law_205 : decode cL_law 205 = .ok (.iload 12, 2) := by decide +kernel
theorem dL_law_207 : decode cL_law 207 = .ok (.bipush 6, 2) := by decide +kernel
theorem dL_law_209 : decode cL_law 209 = .ok (.if_icmp .ge 153, 3) := by decide +kernel
theorem dL_law_212 : decode cL_law 212 = .ok (.iload 11, 2) := by decide +kernel
theorem dL_law_214 : decode cL_law 214 = .ok (.aload_n 2, 1) := by decide +kernel
theorem dL_law_215 : decode cL_law 215 = .ok (.iconst 0, 1) := by decide +kernel
theorem dL_law_216 : decode cL_law 216 = .ok (.iaload, 1) := by decide +kernel
theorem dL_law_217 : decode cL_law 217 = .ok (.invokestatic 36, 3) := by decide +kernel
theorem dL_law_220 : decode cL_law 220 = .ok (.istore 14, 2) := by decide +kernel
theorem dL_law_222 : decode cL_law 222 = .ok (.iload 11, 2) := by decide +kernel
theorem dL_law_224 : decode cL_law 224 = .ok (.iconst 5, 1) := by decide +kernel
theorem dL_law_225 : decode cL_law 225 = .ok (.ishr, 1) := by decide +kernel
theorem dL_law_226 : decode cL_law 226 = .ok (.aload_n 2, 1) := by decide +kernel
theorem dL_law_227 : decode cL_law 227 = .ok (.iconst 0, 1) := by decide +kernel
theorem dL_law_228 : decode cL_law 228 = .ok (.iaload, 1) := by decide +kernel
theorem dL_law_229 : decode cL_law 229 = .ok (.invokestatic 36, 3) := by decide +kernel
theorem dL_law_232 : decode cL_law 232 = .ok (.istore 15, 2) := by decide +kernel
theorem dL_law_234 : decode cL_law 234 = .ok (.iload 14, 2) := by decide +kernel
theorem dL_law_236 : decode cL_law 236 = .ok (.iload 15, 2) := by decide +kernel
theorem dL_law_238 : decode cL_law 238 = .ok (.if_icmp .eq 21, 3) := by decide +kernel
theorem dL_law_241 : decode cL_law 241 = .ok (.aload 4, 2) := by decide +kernel
theorem dL_law_243 : decode cL_law 243 = .ok (.iload 14, 2) := by decide +kernel
theorem dL_law_245 : decode cL_law 245 = .ok (.iaload, 1) := by decide +kernel
theorem dL_law_246 : decode cL_law 246 = .ok (.iload 15, 2) := by decide +kernel
theorem dL_law_248 : decode cL_law 248 = .ok (.ishr, 1) := by decide +kernel
theorem dL_law_249 : decode cL_law 249 = .ok (.iconst 1, 1) := by decide +kernel
theorem dL_law_250 : decode cL_law 250 = .ok (.iand, 1) := by decide +kernel
theorem dL_law_251 : decode cL_law 251 = .ok (.iconst 1, 1) := by decide +kernel
theorem dL_law_252 : decode cL_law 252 = .ok (.if_icmp .ne 7, 3) := by decide +kernel
theorem dL_law_255 : decode cL_law 255 = .ok (.iconst 1, 1) := by decide +kernel
theorem dL_law_256 : decode cL_law 256 = .ok (.goto 4, 3) := by decide +kernel
theorem dL_law_259 : decode cL_law 259 = .ok (.iconst 0, 1) := by decide +kernel
theorem dL_law_260 : decode cL_law 260 = .ok (.istore 16, 2) := by decide +kernel
theorem dL_law_262 : decode cL_law 262 = .ok (.aload_n 1, 1) := by decide +kernel
theorem dL_law_263 : decode cL_law 263 = .ok (.iload 14, 2) := by decide +kernel
theorem dL_law_265 : decode cL_law 265 = .ok (.iload 15, 2) := by decide +kernel
theorem dL_law_267 : decode cL_law 267 = .ok (.invokestatic 151, 3) := by decide +kernel
theorem dL_law_270 : decode cL_law 270 = .ok (.istore 17, 2) := by decide +kernel
theorem dL_law_272 : decode cL_law 272 = .ok (.aload 4, 2) := by decide +kernel
theorem dL_law_274 : decode cL_law 274 = .ok (.iload 14, 2) := by decide +kernel
theorem dL_law_276 : decode cL_law 276 = .ok (.iload 17, 2) := by decide +kernel
theorem dL_law_278 : decode cL_law 278 = .ok (.ifCond .eq 16, 3) := by decide +kernel
theorem dL_law_281 : decode cL_law 281 = .ok (.aload 4, 2) := by decide +kernel
theorem dL_law_283 : decode cL_law 283 = .ok (.iload 14, 2) := by decide +kernel
theorem dL_law_285 : decode cL_law 285 = .ok (.iaload, 1) := by decide +kernel
theorem dL_law_286 : decode cL_law 286 = .ok (.iconst 1, 1) := by decide +kernel
theorem dL_law_287 : decode cL_law 287 = .ok (.iload 15, 2) := by decide +kernel
theorem dL_law_289 : decode cL_law 289 = .ok (.ishl, 1) := by decide +kernel
theorem dL_law_290 : decode cL_law 290 = .ok (.ior, 1) := by decide +kernel
theorem dL_law_291 : decode cL_law 291 = .ok (.goto 15, 3) := by decide +kernel
theorem dL_law_294 : decode cL_law 294 = .ok (.aload 4, 2) := by decide +kernel
theorem dL_law_296 : decode cL_law 296 = .ok (.iload 14, 2) := by decide +kernel
theorem dL_law_298 : decode cL_law 298 = .ok (.iaload, 1) := by decide +kernel
theorem dL_law_299 : decode cL_law 299 = .ok (.iconst 1, 1) := by decide +kernel
theorem dL_law_300 : decode cL_law 300 = .ok (.iload 15, 2) := by decide +kernel
theorem dL_law_302 : decode cL_law 302 = .ok (.ishl, 1) := by decide +kernel
theorem dL_law_303 : decode cL_law 303 = .ok (.iconst (-1), 1) := by decide +kernel
theorem dL_law_304 : decode cL_law 304 = .ok (.ixor, 1) := by decide +kernel
theorem dL_law_305 : decode cL_law 305 = .ok (.iand, 1) := by decide +kernel
theorem dL_law_306 : decode cL_law 306 = .ok (.iastore, 1) := by decide +kernel
theorem dL_law_307 : decode cL_law 307 = .ok (.aload 4, 2) := by decide +kernel
theorem dL_law_309 : decode cL_law 309 = .ok (.iload 15, 2) := by decide +kernel
theorem dL_law_311 : decode cL_law 311 = .ok (.iload 17, 2) := by decide +kernel
theorem dL_law_313 : decode cL_law 313 = .ok (.ifCond .eq 16, 3) := by decide +kernel
theorem dL_law_316 : decode cL_law 316 = .ok (.aload 4, 2) := by decide +kernel
theorem dL_law_318 : decode cL_law 318 = .ok (.iload 15, 2) := by decide +kernel
theorem dL_law_320 : decode cL_law 320 = .ok (.iaload, 1) := by decide +kernel
theorem dL_law_321 : decode cL_law 321 = .ok (.iconst 1, 1) := by decide +kernel
theorem dL_law_322 : decode cL_law 322 = .ok (.iload 14, 2) := by decide +kernel
theorem dL_law_324 : decode cL_law 324 = .ok (.ishl, 1) := by decide +kernel
theorem dL_law_325 : decode cL_law 325 = .ok (.ior, 1) := by decide +kernel
theorem dL_law_326 : decode cL_law 326 = .ok (.goto 15, 3) := by decide +kernel
theorem dL_law_329 : decode cL_law 329 = .ok (.aload 4, 2) := by decide +kernel
theorem dL_law_331 : decode cL_law 331 = .ok (.iload 15, 2) := by decide +kernel
theorem dL_law_333 : decode cL_law 333 = .ok (.iaload, 1) := by decide +kernel
theorem dL_law_334 : decode cL_law 334 = .ok (.iconst 1, 1) := by decide +kernel
theorem dL_law_335 : decode cL_law 335 = .ok (.iload 14, 2) := by decide +kernel
theorem dL_law_337 : decode cL_law 337 = .ok (.ishl, 1) := by decide +kernel
theorem dL_law_338 : decode cL_law 338 = .ok (.iconst (-1), 1) := by decide +kernel
theorem dL_law_339 : decode cL_law 339 = .ok (.ixor, 1) := by decide +kernel
theorem dL_law_340 : decode cL_law 340 = .ok (.iand, 1) := by decide +kernel
theorem dL_law_341 : decode cL_law 341 = .ok (.iastore, 1) := by decide +kernel
theorem dL_law_342 : decode cL_law 342 = .ok (.iload 16, 2) := by decide +kernel
theorem dL_law_344 : decode cL_law 344 = .ok (.ifCond .eq 8, 3) := by decide +kernel
theorem dL_law_347 : decode cL_law 347 = .ok (.iload 17, 2) := by decide +kernel
theorem dL_law_349 : decode cL_law 349 = .ok (.ifCond .ne 7, 3) := by decide +kernel
theorem dL_law_352 : decode cL_law 352 = .ok (.iconst 1, 1) := by decide +kernel
theorem dL_law_353 : decode cL_law 353 = .ok (.goto 4, 3) := by decide +kernel
theorem dL_law_356 : decode cL_law 356 = .ok (.iconst 0, 1) := by decide +kernel
theorem dL_law_357 : decode cL_law 357 = .ok (.istore 8, 2) := by decide +kernel
theorem dL_law_359 : decode cL_law 359 = .ok (.goto 151, 3) := by decide +kernel
theorem dL_law_362 : decode cL_law 362 = .ok (.iload 12, 2) := by decide +kernel
theorem dL_law_364 : decode cL_law 364 = .ok (.bipush 6, 2) := by decide +kernel
theorem dL_law_366 : decode cL_law 366 = .ok (.if_icmp .ne 87, 3) := by decide +kernel
theorem dL_law_369 : decode cL_law 369 = .ok (.aload_n 2, 1) := by decide +kernel
theorem dL_law_370 : decode cL_law 370 = .ok (.iconst 1, 1) := by decide +kernel
theorem dL_law_371 : decode cL_law 371 = .ok (.iaload, 1) := by decide +kernel
theorem dL_law_372 : decode cL_law 372 = .ok (.bipush 8, 2) := by decide +kernel
theorem dL_law_374 : decode cL_law 374 = .ok (.if_icmp .ge 79, 3) := by decide +kernel
theorem dL_law_377 : decode cL_law 377 = .ok (.aload_n 2, 1) := by decide +kernel
theorem dL_law_378 : decode cL_law 378 = .ok (.bipush 10, 2) := by decide +kernel
theorem dL_law_380 : decode cL_law 380 = .ok (.aload_n 2, 1) := by decide +kernel
theorem dL_law_381 : decode cL_law 381 = .ok (.iconst 1, 1) := by decide +kernel
theorem dL_law_382 : decode cL_law 382 = .ok (.iaload, 1) := by decide +kernel
theorem dL_law_383 : decode cL_law 383 = .ok (.iadd, 1) := by decide +kernel
theorem dL_law_384 : decode cL_law 384 = .ok (.iload 11, 2) := by decide +kernel
theorem dL_law_386 : decode cL_law 386 = .ok (.iconst 3, 1) := by decide +kernel
theorem dL_law_387 : decode cL_law 387 = .ok (.ishr, 1) := by decide +kernel
theorem dL_law_388 : decode cL_law 388 = .ok (.iconst 3, 1) := by decide +kernel
theorem dL_law_389 : decode cL_law 389 = .ok (.invokestatic 36, 3) := by decide +kernel
theorem dL_law_392 : decode cL_law 392 = .ok (.iastore, 1) := by decide +kernel
theorem dL_law_393 : decode cL_law 393 = .ok (.aload_n 2, 1) := by decide +kernel
theorem dL_law_394 : decode cL_law 394 = .ok (.bipush 20, 2) := by decide +kernel
theorem dL_law_396 : decode cL_law 396 = .ok (.aload_n 2, 1) := by decide +kernel
theorem dL_law_397 : decode cL_law 397 = .ok (.iconst 1, 1) := by decide +kernel
theorem dL_law_398 : decode cL_law 398 = .ok (.iaload, 1) := by decide +kernel
theorem dL_law_399 : decode cL_law 399 = .ok (.iadd, 1) := by decide +kernel
theorem dL_law_400 : decode cL_law 400 = .ok (.iload 11, 2) := by decide +kernel
theorem dL_law_402 : decode cL_law 402 = .ok (.bipush 6, 2) := by decide +kernel
theorem dL_law_404 : decode cL_law 404 = .ok (.ishr, 1) := by decide +kernel
theorem dL_law_405 : decode cL_law 405 = .ok (.iconst 3, 1) := by decide +kernel
theorem dL_law_406 : decode cL_law 406 = .ok (.invokestatic 36, 3) := by decide +kernel
theorem dL_law_409 : decode cL_law 409 = .ok (.iastore, 1) := by decide +kernel
theorem dL_law_410 : decode cL_law 410 = .ok (.aload_n 1, 1) := by decide +kernel
theorem dL_law_411 : decode cL_law 411 = .ok (.aload_n 2, 1) := by decide +kernel
theorem dL_law_412 : decode cL_law 412 = .ok (.bipush 10, 2) := by decide +kernel
theorem dL_law_414 : decode cL_law 414 = .ok (.aload_n 2, 1) := by decide +kernel
theorem dL_law_415 : decode cL_law 415 = .ok (.iconst 1, 1) := by decide +kernel
theorem dL_law_416 : decode cL_law 416 = .ok (.iaload, 1) := by decide +kernel
theorem dL_law_417 : decode cL_law 417 = .ok (.iadd, 1) := by decide +kernel
theorem dL_law_418 : decode cL_law 418 = .ok (.iaload, 1) := by decide +kernel
theorem dL_law_419 : decode cL_law 419 = .ok (.aload_n 2, 1) := by decide +kernel
theorem dL_law_420 : decode cL_law 420 = .ok (.bipush 20, 2) := by decide +kernel
theorem dL_law_422 : decode cL_law 422 = .ok (.aload_n 2, 1) := by decide +kernel
theorem dL_law_423 : decode cL_law 423 = .ok (.iconst 1, 1) := by decide +kernel
theorem dL_law_424 : decode cL_law 424 = .ok (.iaload, 1) := by decide +kernel
theorem dL_law_425 : decode cL_law 425 = .ok (.iadd, 1) := by decide +kernel
theorem dL_law_426 : decode cL_law 426 = .ok (.iaload, 1) := by decide +kernel
theorem dL_law_427 : decode cL_law 427 = .ok (.invokevirtual 148, 3) := by decide +kernel
theorem dL_law_430 : decode cL_law 430 = .ok (.aload_n 2, 1) := by decide +kernel
theorem dL_law_431 : decode cL_law 431 = .ok (.iconst 1, 1) := by decide +kernel
theorem dL_law_432 : decode cL_law 432 = .ok (.iaload, 1) := by decide +kernel
theorem dL_law_433 : decode cL_law 433 = .ok (.if_icmp .ne 7, 3) := by decide +kernel
theorem dL_law_436 : decode cL_law 436 = .ok (.iconst 1, 1) := by decide +kernel
theorem dL_law_437 : decode cL_law 437 = .ok (.goto 4, 3) := by decide +kernel
theorem dL_law_440 : decode cL_law 440 = .ok (.iconst 0, 1) := by decide +kernel
theorem dL_law_441 : decode cL_law 441 = .ok (.istore 8, 2) := by decide +kernel
theorem dL_law_443 : decode cL_law 443 = .ok (.aload_n 2, 1) := by decide +kernel
theorem dL_law_444 : decode cL_law 444 = .ok (.iconst 1, 1) := by decide +kernel
theorem dL_law_445 : decode cL_law 445 = .ok (.dup2, 1) := by decide +kernel
theorem dL_law_446 : decode cL_law 446 = .ok (.iaload, 1) := by decide +kernel
theorem dL_law_447 : decode cL_law 447 = .ok (.iconst 1, 1) := by decide +kernel
theorem dL_law_448 : decode cL_law 448 = .ok (.iadd, 1) := by decide +kernel
theorem dL_law_449 : decode cL_law 449 = .ok (.iastore, 1) := by decide +kernel
theorem dL_law_450 : decode cL_law 450 = .ok (.goto 60, 3) := by decide +kernel
theorem dL_law_453 : decode cL_law 453 = .ok (.iload 12, 2) := by decide +kernel
theorem dL_law_455 : decode cL_law 455 = .ok (.bipush 7, 2) := by decide +kernel
theorem dL_law_457 : decode cL_law 457 = .ok (.if_icmp .ne 53, 3) := by decide +kernel
theorem dL_law_460 : decode cL_law 460 = .ok (.aload_n 2, 1) := by decide +kernel
theorem dL_law_461 : decode cL_law 461 = .ok (.iconst 2, 1) := by decide +kernel
theorem dL_law_462 : decode cL_law 462 = .ok (.iload 11, 2) := by decide +kernel
theorem dL_law_464 : decode cL_law 464 = .ok (.sipush 500, 3) := by decide +kernel
theorem dL_law_467 : decode cL_law 467 = .ok (.invokestatic 36, 3) := by decide +kernel
theorem dL_law_470 : decode cL_law 470 = .ok (.iastore, 1) := by decide +kernel
theorem dL_law_471 : decode cL_law 471 = .ok (.aload_n 2, 1) := by decide +kernel
theorem dL_law_472 : decode cL_law 472 = .ok (.iconst 3, 1) := by decide +kernel
theorem dL_law_473 : decode cL_law 473 = .ok (.iload 11, 2) := by decide +kernel
theorem dL_law_475 : decode cL_law 475 = .ok (.bipush 9, 2) := by decide +kernel
theorem dL_law_477 : decode cL_law 477 = .ok (.ishr, 1) := by decide +kernel
theorem dL_law_478 : decode cL_law 478 = .ok (.bipush 60, 2) := by decide +kernel
theorem dL_law_480 : decode cL_law 480 = .ok (.invokestatic 36, 3) := by decide +kernel
theorem dL_law_483 : decode cL_law 483 = .ok (.iastore, 1) := by decide +kernel
theorem dL_law_484 : decode cL_law 484 = .ok (.aload_n 1, 1) := by decide +kernel
theorem dL_law_485 : decode cL_law 485 = .ok (.aload_n 2, 1) := by decide +kernel
theorem dL_law_486 : decode cL_law 486 = .ok (.iconst 2, 1) := by decide +kernel
theorem dL_law_487 : decode cL_law 487 = .ok (.iaload, 1) := by decide +kernel
theorem dL_law_488 : decode cL_law 488 = .ok (.aload_n 2, 1) := by decide +kernel
theorem dL_law_489 : decode cL_law 489 = .ok (.iconst 3, 1) := by decide +kernel
theorem dL_law_490 : decode cL_law 490 = .ok (.iaload, 1) := by decide +kernel
theorem dL_law_491 : decode cL_law 491 = .ok (.invokevirtual 154, 3) := by decide +kernel
theorem dL_law_494 : decode cL_law 494 = .ok (.bipush 7, 2) := by decide +kernel
theorem dL_law_496 : decode cL_law 496 = .ok (.aload_n 2, 1) := by decide +kernel
theorem dL_law_497 : decode cL_law 497 = .ok (.iconst 2, 1) := by decide +kernel
theorem dL_law_498 : decode cL_law 498 = .ok (.iaload, 1) := by decide +kernel
theorem dL_law_499 : decode cL_law 499 = .ok (.imul, 1) := by decide +kernel
theorem dL_law_500 : decode cL_law 500 = .ok (.if_icmp .ne 7, 3) := by decide +kernel
theorem dL_law_503 : decode cL_law 503 = .ok (.iconst 1, 1) := by decide +kernel
theorem dL_law_504 : decode cL_law 504 = .ok (.goto 4, 3) := by decide +kernel
theorem dL_law_507 : decode cL_law 507 = .ok (.iconst 0, 1) := by decide +kernel
theorem dL_law_508 : decode cL_law 508 = .ok (.istore 8, 2) := by decide +kernel
theorem dL_law_510 : decode cL_law 510 = .ok (.aload_n 2, 1) := by decide +kernel
theorem dL_law_511 : decode cL_law 511 = .ok (.aload 4, 2) := by decide +kernel
theorem dL_law_513 : decode cL_law 513 = .ok (.aload 5, 2) := by decide +kernel
theorem dL_law_515 : decode cL_law 515 = .ok (.invokestatic 157, 3) := by decide +kernel
theorem dL_law_518 : decode cL_law 518 = .ok (.iconst 0, 1) := by decide +kernel
theorem dL_law_519 : decode cL_law 519 = .ok (.istore 14, 2) := by decide +kernel
theorem dL_law_521 : decode cL_law 521 = .ok (.iload 14, 2) := by decide +kernel
theorem dL_law_523 : decode cL_law 523 = .ok (.aload_n 2, 1) := by decide +kernel
theorem dL_law_524 : decode cL_law 524 = .ok (.iconst 0, 1) := by decide +kernel
theorem dL_law_525 : decode cL_law 525 = .ok (.iaload, 1) := by decide +kernel
theorem dL_law_526 : decode cL_law 526 = .ok (.if_icmp .ge 35, 3) := by decide +kernel
theorem dL_law_529 : decode cL_law 529 = .ok (.iload 8, 2) := by decide +kernel
theorem dL_law_531 : decode cL_law 531 = .ok (.ifCond .eq 30, 3) := by decide +kernel
theorem dL_law_534 : decode cL_law 534 = .ok (.aload_n 1, 1) := by decide +kernel
theorem dL_law_535 : decode cL_law 535 = .ok (.iload 14, 2) := by decide +kernel
theorem dL_law_537 : decode cL_law 537 = .ok (.invokevirtual 161, 3) := by decide +kernel
theorem dL_law_540 : decode cL_law 540 = .ok (.aload 5, 2) := by decide +kernel
theorem dL_law_542 : decode cL_law 542 = .ok (.iload 14, 2) := by decide +kernel
theorem dL_law_544 : decode cL_law 544 = .ok (.iaload, 1) := by decide +kernel
theorem dL_law_545 : decode cL_law 545 = .ok (.if_icmp .ne 7, 3) := by decide +kernel
theorem dL_law_548 : decode cL_law 548 = .ok (.iconst 1, 1) := by decide +kernel
theorem dL_law_549 : decode cL_law 549 = .ok (.goto 4, 3) := by decide +kernel
theorem dL_law_552 : decode cL_law 552 = .ok (.iconst 0, 1) := by decide +kernel
theorem dL_law_553 : decode cL_law 553 = .ok (.istore 8, 2) := by decide +kernel
theorem dL_law_555 : decode cL_law 555 = .ok (.iinc 14 1, 3) := by decide +kernel
theorem dL_law_558 : decode cL_law 558 = .ok (.goto (-37), 3) := by decide +kernel
theorem dL_law_561 : decode cL_law 561 = .ok (.iload 8, 2) := by decide +kernel
theorem dL_law_563 : decode cL_law 563 = .ok (.ifCond .eq 55, 3) := by decide +kernel
theorem dL_law_566 : decode cL_law 566 = .ok (.aload_n 2, 1) := by decide +kernel
theorem dL_law_567 : decode cL_law 567 = .ok (.bipush 30, 2) := by decide +kernel
theorem dL_law_569 : decode cL_law 569 = .ok (.iload 13, 2) := by decide +kernel
theorem dL_law_571 : decode cL_law 571 = .ok (.iadd, 1) := by decide +kernel
theorem dL_law_572 : decode cL_law 572 = .ok (.iaload, 1) := by decide +kernel
theorem dL_law_573 : decode cL_law 573 = .ok (.ifCond .ne 45, 3) := by decide +kernel
theorem dL_law_576 : decode cL_law 576 = .ok (.iload 12, 2) := by decide +kernel
theorem dL_law_578 : decode cL_law 578 = .ok (.bipush 8, 2) := by decide +kernel
theorem dL_law_580 : decode cL_law 580 = .ok (.if_icmp .eq 10, 3) := by decide +kernel
theorem dL_law_583 : decode cL_law 583 = .ok (.iload 9, 2) := by decide +kernel
theorem dL_law_585 : decode cL_law 585 = .ok (.iconst 2, 1) := by decide +kernel
theorem dL_law_586 : decode cL_law 586 = .ok (.irem, 1) := by decide +kernel
theorem dL_law_587 : decode cL_law 587 = .ok (.ifCond .ne 31, 3) := by decide +kernel
theorem dL_law_590 : decode cL_law 590 = .ok (.aload_n 1, 1) := by decide +kernel
theorem dL_law_591 : decode cL_law 591 = .ok (.aload_n 2, 1) := by decide +kernel
theorem dL_law_592 : decode cL_law 592 = .ok (.aload_n 3, 1) := by decide +kernel
theorem dL_law_593 : decode cL_law 593 = .ok (.aload 5, 2) := by decide +kernel
theorem dL_law_595 : decode cL_law 595 = .ok (.aload 6, 2) := by decide +kernel
theorem dL_law_597 : decode cL_law 597 = .ok (.aload 7, 2) := by decide +kernel
theorem dL_law_599 : decode cL_law 599 = .ok (.iload 13, 2) := by decide +kernel
theorem dL_law_601 : decode cL_law 601 = .ok (.iload 12, 2) := by decide +kernel
theorem dL_law_603 : decode cL_law 603 = .ok (.bipush 8, 2) := by decide +kernel
theorem dL_law_605 : decode cL_law 605 = .ok (.if_icmp .ne 7, 3) := by decide +kernel
theorem dL_law_608 : decode cL_law 608 = .ok (.iconst 1, 1) := by decide +kernel
theorem dL_law_609 : decode cL_law 609 = .ok (.goto 4, 3) := by decide +kernel
theorem dL_law_612 : decode cL_law 612 = .ok (.iconst 0, 1) := by decide +kernel
theorem dL_law_613 : decode cL_law 613 = .ok (.invokestatic 164, 3) := by decide +kernel
theorem dL_law_616 : decode cL_law 616 = .ok (.istore 8, 2) := by decide +kernel
theorem dL_law_618 : decode cL_law 618 = .ok (.iinc 9 1, 3) := by decide +kernel
theorem dL_law_621 : decode cL_law 621 = .ok (.goto (-513), 3) := by decide +kernel
theorem dL_law_624 : decode cL_law 624 = .ok (.iload 8, 2) := by decide +kernel
theorem dL_law_626 : decode cL_law 626 = .ok (.ifCond .eq 17, 3) := by decide +kernel
theorem dL_law_629 : decode cL_law 629 = .ok (.aload_n 1, 1) := by decide +kernel
theorem dL_law_630 : decode cL_law 630 = .ok (.invokevirtual 110, 3) := by decide +kernel
theorem dL_law_633 : decode cL_law 633 = .ok (.aload_n 2, 1) := by decide +kernel
theorem dL_law_634 : decode cL_law 634 = .ok (.iconst 4, 1) := by decide +kernel
theorem dL_law_635 : decode cL_law 635 = .ok (.iaload, 1) := by decide +kernel
theorem dL_law_636 : decode cL_law 636 = .ok (.if_icmp .ne 7, 3) := by decide +kernel
theorem dL_law_639 : decode cL_law 639 = .ok (.iconst 1, 1) := by decide +kernel
theorem dL_law_640 : decode cL_law 640 = .ok (.goto 4, 3) := by decide +kernel
theorem dL_law_643 : decode cL_law 643 = .ok (.iconst 0, 1) := by decide +kernel
theorem dL_law_644 : decode cL_law 644 = .ok (.ireturn, 1) := by decide +kernel
