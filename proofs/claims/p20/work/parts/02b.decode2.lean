theorem dX10_splitTokens_6 : decode cX10_splitTokens 6 = .ok (.iload_n 3, 1) := by decide +kernel
theorem dX10_splitTokens_7 : decode cX10_splitTokens 7 = .ok (.aload_n 0, 1) := by decide +kernel
theorem dX10_splitTokens_8 : decode cX10_splitTokens 8 = .ok (.getfield 34, 3) := by decide +kernel
theorem dX10_splitTokens_11 : decode cX10_splitTokens 11 = .ok (.if_icmp .ge 90, 3) := by decide +kernel
theorem dX10_splitTokens_14 : decode cX10_splitTokens 14 = .ok (.aload_n 0, 1) := by decide +kernel
theorem dX10_splitTokens_15 : decode cX10_splitTokens 15 = .ok (.getfield 9, 3) := by decide +kernel
theorem dX10_splitTokens_18 : decode cX10_splitTokens 18 = .ok (.iload_n 3, 1) := by decide +kernel
theorem dX10_splitTokens_19 : decode cX10_splitTokens 19 = .ok (.invokestatic 66, 3) := by decide +kernel
theorem dX10_splitTokens_22 : decode cX10_splitTokens 22 = .ok (.invokestatic 115, 3) := by decide +kernel
theorem dX10_splitTokens_25 : decode cX10_splitTokens 25 = .ok (.istore 4, 2) := by decide +kernel
theorem dX10_splitTokens_27 : decode cX10_splitTokens 27 = .ok (.iload 4, 2) := by decide +kernel
theorem dX10_splitTokens_29 : decode cX10_splitTokens 29 = .ok (.iload_n 2, 1) := by decide +kernel
theorem dX10_splitTokens_30 : decode cX10_splitTokens 30 = .ok (.if_icmp .ne 19, 3) := by decide +kernel
theorem dX10_splitTokens_33 : decode cX10_splitTokens 33 = .ok (.iload 4, 2) := by decide +kernel
theorem dX10_splitTokens_35 : decode cX10_splitTokens 35 = .ok (.iconst 1, 1) := by decide +kernel
theorem dX10_splitTokens_36 : decode cX10_splitTokens 36 = .ok (.if_icmp .eq 9, 3) := by decide +kernel
theorem dX10_splitTokens_39 : decode cX10_splitTokens 39 = .ok (.iload 4, 2) := by decide +kernel
theorem dX10_splitTokens_41 : decode cX10_splitTokens 41 = .ok (.iconst 2, 1) := by decide +kernel
theorem dX10_splitTokens_42 : decode cX10_splitTokens 42 = .ok (.if_icmp .ne 7, 3) := by decide +kernel
theorem dX10_splitTokens_45 : decode cX10_splitTokens 45 = .ok (.iconst 1, 1) := by decide +kernel
theorem dX10_splitTokens_46 : decode cX10_splitTokens 46 = .ok (.goto 4, 3) := by decide +kernel
theorem dX10_splitTokens_49 : decode cX10_splitTokens 49 = .ok (.iconst 0, 1) := by decide +kernel
theorem dX10_splitTokens_50 : decode cX10_splitTokens 50 = .ok (.istore 5, 2) := by decide +kernel
theorem dX10_splitTokens_52 : decode cX10_splitTokens 52 = .ok (.iload 4, 2) := by decide +kernel
theorem dX10_splitTokens_54 : decode cX10_splitTokens 54 = .ok (.ifCond .eq 20, 3) := by decide +kernel
theorem dX10_splitTokens_57 : decode cX10_splitTokens 57 = .ok (.iload 5, 2) := by decide +kernel
theorem dX10_splitTokens_59 : decode cX10_splitTokens 59 = .ok (.ifCond .ne 15, 3) := by decide +kernel
theorem dX10_splitTokens_62 : decode cX10_splitTokens 62 = .ok (.aload_n 0, 1) := by decide +kernel
theorem dX10_splitTokens_63 : decode cX10_splitTokens 63 = .ok (.getfield 22, 3) := by decide +kernel
theorem dX10_splitTokens_66 : decode cX10_splitTokens 66 = .ok (.iload_n 1, 1) := by decide +kernel
theorem dX10_splitTokens_67 : decode cX10_splitTokens 67 = .ok (.iload_n 3, 1) := by decide +kernel
theorem dX10_splitTokens_68 : decode cX10_splitTokens 68 = .ok (.invokestatic 38, 3) := by decide +kernel
theorem dX10_splitTokens_71 : decode cX10_splitTokens 71 = .ok (.iinc 1 1, 3) := by decide +kernel
theorem dX10_splitTokens_74 : decode cX10_splitTokens 74 = .ok (.iload 4, 2) := by decide +kernel
theorem dX10_splitTokens_76 : decode cX10_splitTokens 76 = .ok (.ifCond .eq 16, 3) := by decide +kernel
theorem dX10_splitTokens_79 : decode cX10_splitTokens 79 = .ok (.aload_n 0, 1) := by decide +kernel
theorem dX10_splitTokens_80 : decode cX10_splitTokens 80 = .ok (.getfield 25, 3) := by decide +kernel
theorem dX10_splitTokens_83 : decode cX10_splitTokens 83 = .ok (.iload_n 1, 1) := by decide +kernel
theorem dX10_splitTokens_84 : decode cX10_splitTokens 84 = .ok (.iconst 1, 1) := by decide +kernel
theorem dX10_splitTokens_85 : decode cX10_splitTokens 85 = .ok (.isub, 1) := by decide +kernel
theorem dX10_splitTokens_86 : decode cX10_splitTokens 86 = .ok (.iload_n 3, 1) := by decide +kernel
theorem dX10_splitTokens_87 : decode cX10_splitTokens 87 = .ok (.iconst 1, 1) := by decide +kernel
theorem dX10_splitTokens_88 : decode cX10_splitTokens 88 = .ok (.iadd, 1) := by decide +kernel
theorem dX10_splitTokens_89 : decode cX10_splitTokens 89 = .ok (.invokestatic 38, 3) := by decide +kernel
theorem dX10_splitTokens_92 : decode cX10_splitTokens 92 = .ok (.iload 4, 2) := by decide +kernel
theorem dX10_splitTokens_94 : decode cX10_splitTokens 94 = .ok (.istore_n 2, 1) := by decide +kernel
theorem dX10_splitTokens_95 : decode cX10_splitTokens 95 = .ok (.iinc 3 1, 3) := by decide +kernel
theorem dX10_splitTokens_98 : decode cX10_splitTokens 98 = .ok (.goto (-92), 3) := by decide +kernel
theorem dX10_splitTokens_101 : decode cX10_splitTokens 101 = .ok (.iload_n 1, 1) := by decide +kernel
theorem dX10_splitTokens_102 : decode cX10_splitTokens 102 = .ok (.ireturn, 1) := by decide +kernel
theorem dX10_nameTokens_0 : decode cX10_nameTokens 0 = .ok (.iconst 0, 1) := by decide +kernel
theorem dX10_nameTokens_1 : decode cX10_nameTokens 1 = .ok (.istore_n 2, 1) := by decide +kernel
theorem dX10_nameTokens_2 : decode cX10_nameTokens 2 = .ok (.iload_n 2, 1) := by decide +kernel
theorem dX10_nameTokens_3 : decode cX10_nameTokens 3 = .ok (.iload_n 1, 1) := by decide +kernel
theorem dX10_nameTokens_4 : decode cX10_nameTokens 4 = .ok (.if_icmp .ge 65, 3) := by decide +kernel
theorem dX10_nameTokens_7 : decode cX10_nameTokens 7 = .ok (.aload_n 0, 1) := by decide +kernel
theorem dX10_nameTokens_8 : decode cX10_nameTokens 8 = .ok (.getfield 28, 3) := by decide +kernel
theorem dX10_nameTokens_11 : decode cX10_nameTokens 11 = .ok (.iload_n 2, 1) := by decide +kernel
theorem dX10_nameTokens_12 : decode cX10_nameTokens 12 = .ok (.aload_n 0, 1) := by decide +kernel
theorem dX10_nameTokens_13 : decode cX10_nameTokens 13 = .ok (.aload_n 0, 1) := by decide +kernel
theorem dX10_nameTokens_14 : decode cX10_nameTokens 14 = .ok (.getfield 22, 3) := by decide +kernel
theorem dX10_nameTokens_17 : decode cX10_nameTokens 17 = .ok (.iload_n 2, 1) := by decide +kernel
theorem dX10_nameTokens_18 : decode cX10_nameTokens 18 = .ok (.invokestatic 66, 3) := by decide +kernel
theorem dX10_nameTokens_21 : decode cX10_nameTokens 21 = .ok (.aload_n 0, 1) := by decide +kernel
theorem dX10_nameTokens_22 : decode cX10_nameTokens 22 = .ok (.getfield 25, 3) := by decide +kernel
theorem dX10_nameTokens_25 : decode cX10_nameTokens 25 = .ok (.iload_n 2, 1) := by decide +kernel
theorem dX10_nameTokens_26 : decode cX10_nameTokens 26 = .ok (.invokestatic 66, 3) := by decide +kernel
theorem dX10_nameTokens_29 : decode cX10_nameTokens 29 = .ok (.invokevirtual 119, 3) := by decide +kernel
theorem dX10_nameTokens_32 : decode cX10_nameTokens 32 = .ok (.invokestatic 38, 3) := by decide +kernel
theorem dX10_nameTokens_35 : decode cX10_nameTokens 35 = .ok (.aload_n 0, 1) := by decide +kernel
theorem dX10_nameTokens_36 : decode cX10_nameTokens 36 = .ok (.getfield 31, 3) := by decide +kernel
theorem dX10_nameTokens_39 : decode cX10_nameTokens 39 = .ok (.iload_n 2, 1) := by decide +kernel
theorem dX10_nameTokens_40 : decode cX10_nameTokens 40 = .ok (.aload_n 0, 1) := by decide +kernel
theorem dX10_nameTokens_41 : decode cX10_nameTokens 41 = .ok (.aload_n 0, 1) := by decide +kernel
theorem dX10_nameTokens_42 : decode cX10_nameTokens 42 = .ok (.getfield 22, 3) := by decide +kernel
theorem dX10_nameTokens_45 : decode cX10_nameTokens 45 = .ok (.iload_n 2, 1) := by decide +kernel
theorem dX10_nameTokens_46 : decode cX10_nameTokens 46 = .ok (.invokestatic 66, 3) := by decide +kernel
theorem dX10_nameTokens_49 : decode cX10_nameTokens 49 = .ok (.aload_n 0, 1) := by decide +kernel
theorem dX10_nameTokens_50 : decode cX10_nameTokens 50 = .ok (.getfield 25, 3) := by decide +kernel
theorem dX10_nameTokens_53 : decode cX10_nameTokens 53 = .ok (.iload_n 2, 1) := by decide +kernel
theorem dX10_nameTokens_54 : decode cX10_nameTokens 54 = .ok (.invokestatic 66, 3) := by decide +kernel
theorem dX10_nameTokens_57 : decode cX10_nameTokens 57 = .ok (.invokevirtual 123, 3) := by decide +kernel
theorem dX10_nameTokens_60 : decode cX10_nameTokens 60 = .ok (.invokestatic 38, 3) := by decide +kernel
theorem dX10_nameTokens_63 : decode cX10_nameTokens 63 = .ok (.iinc 2 1, 3) := by decide +kernel
theorem dX10_nameTokens_66 : decode cX10_nameTokens 66 = .ok (.goto (-64), 3) := by decide +kernel
theorem dX10_nameTokens_69 : decode cX10_nameTokens 69 = .ok (.aload_n 0, 1) := by decide +kernel
theorem dX10_nameTokens_70 : decode cX10_nameTokens 70 = .ok (.getfield 28, 3) := by decide +kernel
theorem dX10_nameTokens_73 : decode cX10_nameTokens 73 = .ok (.iload_n 1, 1) := by decide +kernel
theorem dX10_nameTokens_74 : decode cX10_nameTokens 74 = .ok (.iconst 0, 1) := by decide +kernel
theorem dX10_nameTokens_75 : decode cX10_nameTokens 75 = .ok (.invokestatic 38, 3) := by decide +kernel
theorem dX10_nameTokens_78 : decode cX10_nameTokens 78 = .ok (.aload_n 0, 1) := by decide +kernel
theorem dX10_nameTokens_79 : decode cX10_nameTokens 79 = .ok (.getfield 22, 3) := by decide +kernel
theorem dX10_nameTokens_82 : decode cX10_nameTokens 82 = .ok (.iload_n 1, 1) := by decide +kernel
theorem dX10_nameTokens_83 : decode cX10_nameTokens 83 = .ok (.aload_n 0, 1) := by decide +kernel
theorem dX10_nameTokens_84 : decode cX10_nameTokens 84 = .ok (.getfield 34, 3) := by decide +kernel
theorem dX10_nameTokens_87 : decode cX10_nameTokens 87 = .ok (.invokestatic 38, 3) := by decide +kernel
theorem dX10_nameTokens_90 : decode cX10_nameTokens 90 = .ok (.return_, 1) := by decide +kernel
theorem dX10_tokenFrom_0 : decode cX10_tokenFrom 0 = .ok (.aload_n 0, 1) := by decide +kernel
theorem dX10_tokenFrom_1 : decode cX10_tokenFrom 1 = .ok (.getfield 9, 3) := by decide +kernel
theorem dX10_tokenFrom_4 : decode cX10_tokenFrom 4 = .ok (.iload_n 1, 1) := by decide +kernel
theorem dX10_tokenFrom_5 : decode cX10_tokenFrom 5 = .ok (.invokestatic 66, 3) := by decide +kernel
theorem dX10_tokenFrom_8 : decode cX10_tokenFrom 8 = .ok (.istore_n 3, 1) := by decide +kernel
theorem dX10_tokenFrom_9 : decode cX10_tokenFrom 9 = .ok (.iload_n 3, 1) := by decide +kernel
theorem dX10_tokenFrom_10 : decode cX10_tokenFrom 10 = .ok (.invokestatic 115, 3) := by decide +kernel
theorem dX10_tokenFrom_13 : decode cX10_tokenFrom 13 = .ok (.lookupswitch 47 #[(1, 27), (2, 34)], 27) := by decide +kernel
theorem dX10_tokenFrom_40 : decode cX10_tokenFrom 40 = .ok (.aload_n 0, 1) := by decide +kernel
theorem dX10_tokenFrom_41 : decode cX10_tokenFrom 41 = .ok (.iload_n 1, 1) := by decide +kernel
theorem dX10_tokenFrom_42 : decode cX10_tokenFrom 42 = .ok (.iload_n 2, 1) := by decide +kernel
theorem dX10_tokenFrom_43 : decode cX10_tokenFrom 43 = .ok (.invokevirtual 126, 3) := by decide +kernel
theorem dX10_tokenFrom_46 : decode cX10_tokenFrom 46 = .ok (.ireturn, 1) := by decide +kernel
theorem dX10_tokenFrom_47 : decode cX10_tokenFrom 47 = .ok (.iload_n 2, 1) := by decide +kernel
theorem dX10_tokenFrom_48 : decode cX10_tokenFrom 48 = .ok (.iload_n 1, 1) := by decide +kernel
theorem dX10_tokenFrom_49 : decode cX10_tokenFrom 49 = .ok (.isub, 1) := by decide +kernel
theorem dX10_tokenFrom_50 : decode cX10_tokenFrom 50 = .ok (.iconst 2, 1) := by decide +kernel
theorem dX10_tokenFrom_51 : decode cX10_tokenFrom 51 = .ok (.if_icmp .le 7, 3) := by decide +kernel
theorem dX10_tokenFrom_54 : decode cX10_tokenFrom 54 = .ok (.iconst 3, 1) := by decide +kernel
theorem dX10_tokenFrom_55 : decode cX10_tokenFrom 55 = .ok (.goto 4, 3) := by decide +kernel
theorem dX10_tokenFrom_58 : decode cX10_tokenFrom 58 = .ok (.iconst 1, 1) := by decide +kernel
theorem dX10_tokenFrom_59 : decode cX10_tokenFrom 59 = .ok (.ireturn, 1) := by decide +kernel
theorem dX10_tokenFrom_60 : decode cX10_tokenFrom 60 = .ok (.iload_n 3, 1) := by decide +kernel
theorem dX10_tokenFrom_61 : decode cX10_tokenFrom 61 = .ok (.bipush 59, 2) := by decide +kernel
theorem dX10_tokenFrom_63 : decode cX10_tokenFrom 63 = .ok (.if_icmp .ne 7, 3) := by decide +kernel
theorem dX10_tokenFrom_66 : decode cX10_tokenFrom 66 = .ok (.iconst 2, 1) := by decide +kernel
theorem dX10_tokenFrom_67 : decode cX10_tokenFrom 67 = .ok (.goto 4, 3) := by decide +kernel
theorem dX10_tokenFrom_70 : decode cX10_tokenFrom 70 = .ok (.iconst 3, 1) := by decide +kernel
theorem dX10_tokenFrom_71 : decode cX10_tokenFrom 71 = .ok (.ireturn, 1) := by decide +kernel
theorem dX10_wordFrom_0 : decode cX10_wordFrom 0 = .ok (.aload_n 0, 1) := by decide +kernel
theorem dX10_wordFrom_1 : decode cX10_wordFrom 1 = .ok (.ldc 129, 2) := by decide +kernel
theorem dX10_wordFrom_3 : decode cX10_wordFrom 3 = .ok (.iload_n 1, 1) := by decide +kernel
theorem dX10_wordFrom_4 : decode cX10_wordFrom 4 = .ok (.iload_n 2, 1) := by decide +kernel
theorem dX10_wordFrom_5 : decode cX10_wordFrom 5 = .ok (.invokevirtual 131, 3) := by decide +kernel
theorem dX10_wordFrom_8 : decode cX10_wordFrom 8 = .ok (.ifCond .eq 5, 3) := by decide +kernel
theorem dX10_wordFrom_11 : decode cX10_wordFrom 11 = .ok (.iconst 4, 1) := by decide +kernel
theorem dX10_wordFrom_12 : decode cX10_wordFrom 12 = .ok (.ireturn, 1) := by decide +kernel
theorem dX10_wordFrom_13 : decode cX10_wordFrom 13 = .ok (.aload_n 0, 1) := by decide +kernel
theorem dX10_wordFrom_14 : decode cX10_wordFrom 14 = .ok (.ldc 135, 2) := by decide +kernel
theorem dX10_wordFrom_16 : decode cX10_wordFrom 16 = .ok (.iload_n 1, 1) := by decide +kernel
theorem dX10_wordFrom_17 : decode cX10_wordFrom 17 = .ok (.iload_n 2, 1) := by decide +kernel
theorem dX10_wordFrom_18 : decode cX10_wordFrom 18 = .ok (.invokevirtual 131, 3) := by decide +kernel
theorem dX10_wordFrom_21 : decode cX10_wordFrom 21 = .ok (.ifCond .eq 5, 3) := by decide +kernel
theorem dX10_wordFrom_24 : decode cX10_wordFrom 24 = .ok (.iconst 5, 1) := by decide +kernel
theorem dX10_wordFrom_25 : decode cX10_wordFrom 25 = .ok (.ireturn, 1) := by decide +kernel
theorem dX10_wordFrom_26 : decode cX10_wordFrom 26 = .ok (.aload_n 0, 1) := by decide +kernel
theorem dX10_wordFrom_27 : decode cX10_wordFrom 27 = .ok (.ldc 137, 2) := by decide +kernel
theorem dX10_wordFrom_29 : decode cX10_wordFrom 29 = .ok (.iload_n 1, 1) := by decide +kernel
theorem dX10_wordFrom_30 : decode cX10_wordFrom 30 = .ok (.iload_n 2, 1) := by decide +kernel
theorem dX10_wordFrom_31 : decode cX10_wordFrom 31 = .ok (.invokevirtual 131, 3) := by decide +kernel
theorem dX10_wordFrom_34 : decode cX10_wordFrom 34 = .ok (.ifCond .eq 6, 3) := by decide +kernel
theorem dX10_wordFrom_37 : decode cX10_wordFrom 37 = .ok (.bipush 6, 2) := by decide +kernel
theorem dX10_wordFrom_39 : decode cX10_wordFrom 39 = .ok (.ireturn, 1) := by decide +kernel
theorem dX10_wordFrom_40 : decode cX10_wordFrom 40 = .ok (.aload_n 0, 1) := by decide +kernel
theorem dX10_wordFrom_41 : decode cX10_wordFrom 41 = .ok (.ldc 139, 2) := by decide +kernel
theorem dX10_wordFrom_43 : decode cX10_wordFrom 43 = .ok (.iload_n 1, 1) := by decide +kernel
theorem dX10_wordFrom_44 : decode cX10_wordFrom 44 = .ok (.iload_n 2, 1) := by decide +kernel
theorem dX10_wordFrom_45 : decode cX10_wordFrom 45 = .ok (.invokevirtual 131, 3) := by decide +kernel
theorem dX10_wordFrom_48 : decode cX10_wordFrom 48 = .ok (.ifCond .eq 6, 3) := by decide +kernel
theorem dX10_wordFrom_51 : decode cX10_wordFrom 51 = .ok (.bipush 7, 2) := by decide +kernel
theorem dX10_wordFrom_53 : decode cX10_wordFrom 53 = .ok (.ireturn, 1) := by decide +kernel
theorem dX10_wordFrom_54 : decode cX10_wordFrom 54 = .ok (.aload_n 0, 1) := by decide +kernel
theorem dX10_wordFrom_55 : decode cX10_wordFrom 55 = .ok (.ldc 140, 2) := by decide +kernel
theorem dX10_wordFrom_57 : decode cX10_wordFrom 57 = .ok (.iload_n 1, 1) := by decide +kernel
theorem dX10_wordFrom_58 : decode cX10_wordFrom 58 = .ok (.iload_n 2, 1) := by decide +kernel
theorem dX10_wordFrom_59 : decode cX10_wordFrom 59 = .ok (.invokevirtual 131, 3) := by decide +kernel
theorem dX10_wordFrom_62 : decode cX10_wordFrom 62 = .ok (.ifCond .eq 8, 3) := by decide +kernel
theorem dX10_wordFrom_65 : decode cX10_wordFrom 65 = .ok (.bipush 8, 2) := by decide +kernel
theorem dX10_wordFrom_67 : decode cX10_wordFrom 67 = .ok (.goto 4, 3) := by decide +kernel
theorem dX10_wordFrom_70 : decode cX10_wordFrom 70 = .ok (.iconst 3, 1) := by decide +kernel
theorem dX10_wordFrom_71 : decode cX10_wordFrom 71 = .ok (.ireturn, 1) := by decide +kernel
theorem dX10_isWord_0 : decode cX10_isWord 0 = .ok (.iload_n 3, 1) := by decide +kernel
theorem dX10_isWord_1 : decode cX10_isWord 1 = .ok (.iload_n 2, 1) := by decide +kernel
theorem dX10_isWord_2 : decode cX10_isWord 2 = .ok (.isub, 1) := by decide +kernel
theorem dX10_isWord_3 : decode cX10_isWord 3 = .ok (.aload_n 1, 1) := by decide +kernel
theorem dX10_isWord_4 : decode cX10_isWord 4 = .ok (.invokevirtual 141, 3) := by decide +kernel
theorem dX10_isWord_7 : decode cX10_isWord 7 = .ok (.if_icmp .eq 5, 3) := by decide +kernel
theorem dX10_isWord_10 : decode cX10_isWord 10 = .ok (.iconst 0, 1) := by decide +kernel
theorem dX10_isWord_11 : decode cX10_isWord 11 = .ok (.ireturn, 1) := by decide +kernel
theorem dX10_isWord_12 : decode cX10_isWord 12 = .ok (.iconst 0, 1) := by decide +kernel
theorem dX10_isWord_13 : decode cX10_isWord 13 = .ok (.istore 4, 2) := by decide +kernel
theorem dX10_isWord_15 : decode cX10_isWord 15 = .ok (.iload 4, 2) := by decide +kernel
theorem dX10_isWord_17 : decode cX10_isWord 17 = .ok (.aload_n 1, 1) := by decide +kernel
theorem dX10_isWord_18 : decode cX10_isWord 18 = .ok (.invokevirtual 141, 3) := by decide +kernel
theorem dX10_isWord_21 : decode cX10_isWord 21 = .ok (.if_icmp .ge 31, 3) := by decide +kernel
theorem dX10_isWord_24 : decode cX10_isWord 24 = .ok (.aload_n 0, 1) := by decide +kernel
theorem dX10_isWord_25 : decode cX10_isWord 25 = .ok (.getfield 9, 3) := by decide +kernel
theorem dX10_isWord_28 : decode cX10_isWord 28 = .ok (.iload_n 2, 1) := by decide +kernel
theorem dX10_isWord_29 : decode cX10_isWord 29 = .ok (.iload 4, 2) := by decide +kernel
theorem dX10_isWord_31 : decode cX10_isWord 31 = .ok (.iadd, 1) := by decide +kernel
theorem dX10_isWord_32 : decode cX10_isWord 32 = .ok (.invokestatic 66, 3) := by decide +kernel
theorem dX10_isWord_35 : decode cX10_isWord 35 = .ok (.aload_n 1, 1) := by decide +kernel
theorem dX10_isWord_36 : decode cX10_isWord 36 = .ok (.iload 4, 2) := by decide +kernel
theorem dX10_isWord_38 : decode cX10_isWord 38 = .ok (.invokevirtual 145, 3) := by decide +kernel
theorem dX10_isWord_41 : decode cX10_isWord 41 = .ok (.if_icmp .eq 5, 3) := by decide +kernel
theorem dX10_isWord_44 : decode cX10_isWord 44 = .ok (.iconst 0, 1) := by decide +kernel
theorem dX10_isWord_45 : decode cX10_isWord 45 = .ok (.ireturn, 1) := by decide +kernel
theorem dX10_isWord_46 : decode cX10_isWord 46 = .ok (.iinc 4 1, 3) := by decide +kernel
theorem dX10_isWord_49 : decode cX10_isWord 49 = .ok (.goto (-34), 3) := by decide +kernel
theorem dX10_isWord_52 : decode cX10_isWord 52 = .ok (.iconst 1, 1) := by decide +kernel
theorem dX10_isWord_53 : decode cX10_isWord 53 = .ok (.ireturn, 1) := by decide +kernel
theorem dX10_numberFrom_0 : decode cX10_numberFrom 0 = .ok (.iload_n 2, 1) := by decide +kernel
theorem dX10_numberFrom_1 : decode cX10_numberFrom 1 = .ok (.iload_n 1, 1) := by decide +kernel
theorem dX10_numberFrom_2 : decode cX10_numberFrom 2 = .ok (.isub, 1) := by decide +kernel
theorem dX10_numberFrom_3 : decode cX10_numberFrom 3 = .ok (.iconst 1, 1) := by decide +kernel
theorem dX10_numberFrom_4 : decode cX10_numberFrom 4 = .ok (.if_icmp .le 17, 3) := by decide +kernel
theorem dX10_numberFrom_7 : decode cX10_numberFrom 7 = .ok (.aload_n 0, 1) := by decide +kernel
theorem dX10_numberFrom_8 : decode cX10_numberFrom 8 = .ok (.getfield 9, 3) := by decide +kernel
theorem dX10_numberFrom_11 : decode cX10_numberFrom 11 = .ok (.iload_n 1, 1) := by decide +kernel
theorem dX10_numberFrom_12 : decode cX10_numberFrom 12 = .ok (.invokestatic 66, 3) := by decide +kernel
theorem dX10_numberFrom_15 : decode cX10_numberFrom 15 = .ok (.bipush 48, 2) := by decide +kernel
theorem dX10_numberFrom_17 : decode cX10_numberFrom 17 = .ok (.isub, 1) := by decide +kernel
theorem dX10_numberFrom_18 : decode cX10_numberFrom 18 = .ok (.goto 4, 3) := by decide +kernel
theorem dX10_numberFrom_21 : decode cX10_numberFrom 21 = .ok (.iconst 0, 1) := by decide +kernel
theorem dX10_numberFrom_22 : decode cX10_numberFrom 22 = .ok (.istore_n 3, 1) := by decide +kernel
theorem dX10_numberFrom_23 : decode cX10_numberFrom 23 = .ok (.bipush 10, 2) := by decide +kernel
theorem dX10_numberFrom_25 : decode cX10_numberFrom 25 = .ok (.iload_n 3, 1) := by decide +kernel
theorem dX10_numberFrom_26 : decode cX10_numberFrom 26 = .ok (.imul, 1) := by decide +kernel
theorem dX10_numberFrom_27 : decode cX10_numberFrom 27 = .ok (.aload_n 0, 1) := by decide +kernel
theorem dX10_numberFrom_28 : decode cX10_numberFrom 28 = .ok (.getfield 9, 3) := by decide +kernel
theorem dX10_numberFrom_31 : decode cX10_numberFrom 31 = .ok (.iload_n 2, 1) := by decide +kernel
theorem dX10_numberFrom_32 : decode cX10_numberFrom 32 = .ok (.iconst 1, 1) := by decide +kernel
theorem dX10_numberFrom_33 : decode cX10_numberFrom 33 = .ok (.isub, 1) := by decide +kernel
theorem dX10_numberFrom_34 : decode cX10_numberFrom 34 = .ok (.invokestatic 66, 3) := by decide +kernel
theorem dX10_numberFrom_37 : decode cX10_numberFrom 37 = .ok (.iadd, 1) := by decide +kernel
theorem dX10_numberFrom_38 : decode cX10_numberFrom 38 = .ok (.bipush 48, 2) := by decide +kernel
theorem dX10_numberFrom_40 : decode cX10_numberFrom 40 = .ok (.isub, 1) := by decide +kernel
theorem dX10_numberFrom_41 : decode cX10_numberFrom 41 = .ok (.ireturn, 1) := by decide +kernel
theorem dX10_sortOf_0 : decode cX10_sortOf 0 = .ok (.iload_n 0, 1) := by decide +kernel
theorem dX10_sortOf_1 : decode cX10_sortOf 1 = .ok (.bipush 32, 2) := by decide +kernel
theorem dX10_sortOf_3 : decode cX10_sortOf 3 = .ok (.if_icmp .ne 5, 3) := by decide +kernel
theorem dX10_sortOf_6 : decode cX10_sortOf 6 = .ok (.iconst 0, 1) := by decide +kernel
theorem dX10_sortOf_7 : decode cX10_sortOf 7 = .ok (.ireturn, 1) := by decide +kernel
theorem dX10_sortOf_8 : decode cX10_sortOf 8 = .ok (.iload_n 0, 1) := by decide +kernel
theorem dX10_sortOf_9 : decode cX10_sortOf 9 = .ok (.bipush 97, 2) := by decide +kernel
theorem dX10_sortOf_11 : decode cX10_sortOf 11 = .ok (.if_icmp .lt 11, 3) := by decide +kernel
theorem dX10_sortOf_14 : decode cX10_sortOf 14 = .ok (.iload_n 0, 1) := by decide +kernel
theorem dX10_sortOf_15 : decode cX10_sortOf 15 = .ok (.bipush 122, 2) := by decide +kernel
theorem dX10_sortOf_17 : decode cX10_sortOf 17 = .ok (.if_icmp .gt 5, 3) := by decide +kernel
theorem dX10_sortOf_20 : decode cX10_sortOf 20 = .ok (.iconst 1, 1) := by decide +kernel
theorem dX10_sortOf_21 : decode cX10_sortOf 21 = .ok (.ireturn, 1) := by decide +kernel
theorem dX10_sortOf_22 : decode cX10_sortOf 22 = .ok (.iload_n 0, 1) := by decide +kernel
theorem dX10_sortOf_23 : decode cX10_sortOf 23 = .ok (.bipush 48, 2) := by decide +kernel
theorem dX10_sortOf_25 : decode cX10_sortOf 25 = .ok (.if_icmp .lt 13, 3) := by decide +kernel
theorem dX10_sortOf_28 : decode cX10_sortOf 28 = .ok (.iload_n 0, 1) := by decide +kernel
theorem dX10_sortOf_29 : decode cX10_sortOf 29 = .ok (.bipush 57, 2) := by decide +kernel
theorem dX10_sortOf_31 : decode cX10_sortOf 31 = .ok (.if_icmp .gt 7, 3) := by decide +kernel
theorem dX10_sortOf_34 : decode cX10_sortOf 34 = .ok (.iconst 2, 1) := by decide +kernel
theorem dX10_sortOf_35 : decode cX10_sortOf 35 = .ok (.goto 4, 3) := by decide +kernel
theorem dX10_sortOf_38 : decode cX10_sortOf 38 = .ok (.iconst 3, 1) := by decide +kernel
theorem dX10_sortOf_39 : decode cX10_sortOf 39 = .ok (.ireturn, 1) := by decide +kernel
theorem dX11_init_0 : decode cX11_init 0 = .ok (.aload_n 0, 1) := by decide +kernel
theorem dX11_init_1 : decode cX11_init 1 = .ok (.invokespecial 1, 3) := by decide +kernel
theorem dX11_init_4 : decode cX11_init 4 = .ok (.aload_n 0, 1) := by decide +kernel
theorem dX11_init_5 : decode cX11_init 5 = .ok (.new 7, 3) := by decide +kernel
theorem dX11_init_8 : decode cX11_init 8 = .ok (.dup, 1) := by decide +kernel
theorem dX11_init_9 : decode cX11_init 9 = .ok (.invokespecial 9, 3) := by decide +kernel
theorem dX11_init_12 : decode cX11_init 12 = .ok (.putfield 10, 3) := by decide +kernel
theorem dX11_init_15 : decode cX11_init 15 = .ok (.aload_n 0, 1) := by decide +kernel
theorem dX11_init_16 : decode cX11_init 16 = .ok (.new 7, 3) := by decide +kernel
theorem dX11_init_19 : decode cX11_init 19 = .ok (.dup, 1) := by decide +kernel
theorem dX11_init_20 : decode cX11_init 20 = .ok (.invokespecial 9, 3) := by decide +kernel
theorem dX11_init_23 : decode cX11_init 23 = .ok (.putfield 16, 3) := by decide +kernel
theorem dX11_init_26 : decode cX11_init 26 = .ok (.aload_n 0, 1) := by decide +kernel
theorem dX11_init_27 : decode cX11_init 27 = .ok (.new 7, 3) := by decide +kernel
theorem dX11_init_30 : decode cX11_init 30 = .ok (.dup, 1) := by decide +kernel
theorem dX11_init_31 : decode cX11_init 31 = .ok (.invokespecial 9, 3) := by decide +kernel
theorem dX11_init_34 : decode cX11_init 34 = .ok (.putfield 19, 3) := by decide +kernel
theorem dX11_init_37 : decode cX11_init 37 = .ok (.aload_n 0, 1) := by decide +kernel
theorem dX11_init_38 : decode cX11_init 38 = .ok (.new 22, 3) := by decide +kernel
theorem dX11_init_41 : decode cX11_init 41 = .ok (.dup, 1) := by decide +kernel
theorem dX11_init_42 : decode cX11_init 42 = .ok (.invokespecial 24, 3) := by decide +kernel
theorem dX11_init_45 : decode cX11_init 45 = .ok (.putfield 25, 3) := by decide +kernel
theorem dX11_init_48 : decode cX11_init 48 = .ok (.aload_n 0, 1) := by decide +kernel
theorem dX11_init_49 : decode cX11_init 49 = .ok (.lconst 1, 1) := by decide +kernel
theorem dX11_init_50 : decode cX11_init 50 = .ok (.putfield 29, 3) := by decide +kernel
theorem dX11_init_53 : decode cX11_init 53 = .ok (.aload_n 0, 1) := by decide +kernel
theorem dX11_init_54 : decode cX11_init 54 = .ok (.new 33, 3) := by decide +kernel
theorem dX11_init_57 : decode cX11_init 57 = .ok (.dup, 1) := by decide +kernel
theorem dX11_init_58 : decode cX11_init 58 = .ok (.invokespecial 35, 3) := by decide +kernel
theorem dX11_init_61 : decode cX11_init 61 = .ok (.putfield 36, 3) := by decide +kernel
theorem dX11_init_64 : decode cX11_init 64 = .ok (.aload_n 0, 1) := by decide +kernel
theorem dX11_init_65 : decode cX11_init 65 = .ok (.new 40, 3) := by decide +kernel
theorem dX11_init_68 : decode cX11_init 68 = .ok (.dup, 1) := by decide +kernel
theorem dX11_init_69 : decode cX11_init 69 = .ok (.invokespecial 42, 3) := by decide +kernel
theorem dX11_init_72 : decode cX11_init 72 = .ok (.putfield 43, 3) := by decide +kernel
theorem dX11_init_75 : decode cX11_init 75 = .ok (.aload_n 0, 1) := by decide +kernel
theorem dX11_init_76 : decode cX11_init 76 = .ok (.new 47, 3) := by decide +kernel
theorem dX11_init_79 : decode cX11_init 79 = .ok (.dup, 1) := by decide +kernel
theorem dX11_init_80 : decode cX11_init 80 = .ok (.invokespecial 49, 3) := by decide +kernel
theorem dX11_init_83 : decode cX11_init 83 = .ok (.putfield 50, 3) := by decide +kernel
theorem dX11_init_86 : decode cX11_init 86 = .ok (.aload_n 0, 1) := by decide +kernel
theorem dX11_init_87 : decode cX11_init 87 = .ok (.new 54, 3) := by decide +kernel
theorem dX11_init_90 : decode cX11_init 90 = .ok (.dup, 1) := by decide +kernel
theorem dX11_init_91 : decode cX11_init 91 = .ok (.invokespecial 56, 3) := by decide +kernel
theorem dX11_init_94 : decode cX11_init 94 = .ok (.putfield 57, 3) := by decide +kernel
theorem dX11_init_97 : decode cX11_init 97 = .ok (.aload_n 0, 1) := by decide +kernel
theorem dX11_init_98 : decode cX11_init 98 = .ok (.new 61, 3) := by decide +kernel
theorem dX11_init_101 : decode cX11_init 101 = .ok (.dup, 1) := by decide +kernel
theorem dX11_init_102 : decode cX11_init 102 = .ok (.invokespecial 63, 3) := by decide +kernel
theorem dX11_init_105 : decode cX11_init 105 = .ok (.putfield 64, 3) := by decide +kernel
theorem dX11_init_108 : decode cX11_init 108 = .ok (.aload_n 0, 1) := by decide +kernel
theorem dX11_init_109 : decode cX11_init 109 = .ok (.bipush 8, 2) := by decide +kernel
theorem dX11_init_111 : decode cX11_init 111 = .ok (.newarray .int, 2) := by decide +kernel
theorem dX11_init_113 : decode cX11_init 113 = .ok (.putfield 68, 3) := by decide +kernel
theorem dX11_init_116 : decode cX11_init 116 = .ok (.aload_n 0, 1) := by decide +kernel
theorem dX11_init_117 : decode cX11_init 117 = .ok (.bipush 8, 2) := by decide +kernel
theorem dX11_init_119 : decode cX11_init 119 = .ok (.newarray .int, 2) := by decide +kernel
theorem dX11_init_121 : decode cX11_init 121 = .ok (.putfield 72, 3) := by decide +kernel
theorem dX11_init_124 : decode cX11_init 124 = .ok (.return_, 1) := by decide +kernel
theorem dX11_drum_0 : decode cX11_drum 0 = .ok (.iload_n 1, 1) := by decide +kernel
theorem dX11_drum_1 : decode cX11_drum 1 = .ok (.iconst 2, 1) := by decide +kernel
theorem dX11_drum_2 : decode cX11_drum 2 = .ok (.bipush 12, 2) := by decide +kernel
theorem dX11_drum_4 : decode cX11_drum 4 = .ok (.invokestatic 75, 3) := by decide +kernel
theorem dX11_drum_7 : decode cX11_drum 7 = .ok (.ifCond .eq 17, 3) := by decide +kernel
theorem dX11_drum_10 : decode cX11_drum 10 = .ok (.iload_n 2, 1) := by decide +kernel
theorem dX11_drum_11 : decode cX11_drum 11 = .ok (.invokestatic 79, 3) := by decide +kernel
theorem dX11_drum_14 : decode cX11_drum 14 = .ok (.ifCond .eq 10, 3) := by decide +kernel
theorem dX11_drum_17 : decode cX11_drum 17 = .ok (.iload_n 3, 1) := by decide +kernel
theorem dX11_drum_18 : decode cX11_drum 18 = .ok (.invokestatic 83, 3) := by decide +kernel
theorem dX11_drum_21 : decode cX11_drum 21 = .ok (.ifCond .ne 10, 3) := by decide +kernel
theorem dX11_drum_24 : decode cX11_drum 24 = .ok (.aload_n 0, 1) := by decide +kernel
theorem dX11_drum_25 : decode cX11_drum 25 = .ok (.bipush (-2), 2) := by decide +kernel
theorem dX11_drum_27 : decode cX11_drum 27 = .ok (.invokevirtual 86, 3) := by decide +kernel
theorem dX11_drum_30 : decode cX11_drum 30 = .ok (.ireturn, 1) := by decide +kernel
theorem dX11_drum_31 : decode cX11_drum 31 = .ok (.aload_n 0, 1) := by decide +kernel
theorem dX11_drum_32 : decode cX11_drum 32 = .ok (.getfield 10, 3) := by decide +kernel
theorem dX11_drum_35 : decode cX11_drum 35 = .ok (.getfield 90, 3) := by decide +kernel
theorem dX11_drum_38 : decode cX11_drum 38 = .ok (.istore 4, 2) := by decide +kernel
theorem dX11_drum_40 : decode cX11_drum 40 = .ok (.aload_n 0, 1) := by decide +kernel
theorem dX11_drum_41 : decode cX11_drum 41 = .ok (.getfield 10, 3) := by decide +kernel
theorem dX11_drum_44 : decode cX11_drum 44 = .ok (.iload_n 1, 1) := by decide +kernel
theorem dX11_drum_45 : decode cX11_drum 45 = .ok (.iload_n 2, 1) := by decide +kernel
theorem dX11_drum_46 : decode cX11_drum 46 = .ok (.iload_n 3, 1) := by decide +kernel
theorem dX11_drum_47 : decode cX11_drum 47 = .ok (.invokevirtual 94, 3) := by decide +kernel
theorem dX11_drum_50 : decode cX11_drum 50 = .ok (.iload 4, 2) := by decide +kernel
theorem dX11_drum_52 : decode cX11_drum 52 = .ok (.ireturn, 1) := by decide +kernel
theorem dX11_lamp_0 : decode cX11_lamp 0 = .ok (.iload_n 1, 1) := by decide +kernel
theorem dX11_lamp_1 : decode cX11_lamp 1 = .ok (.invokestatic 79, 3) := by decide +kernel
theorem dX11_lamp_4 : decode cX11_lamp 4 = .ok (.ifCond .ne 10, 3) := by decide +kernel
theorem dX11_lamp_7 : decode cX11_lamp 7 = .ok (.aload_n 0, 1) := by decide +kernel
theorem dX11_lamp_8 : decode cX11_lamp 8 = .ok (.bipush (-2), 2) := by decide +kernel
theorem dX11_lamp_10 : decode cX11_lamp 10 = .ok (.invokevirtual 86, 3) := by decide +kernel
theorem dX11_lamp_13 : decode cX11_lamp 13 = .ok (.ireturn, 1) := by decide +kernel
theorem dX11_lamp_14 : decode cX11_lamp 14 = .ok (.aload_n 0, 1) := by decide +kernel
theorem dX11_lamp_15 : decode cX11_lamp 15 = .ok (.getfield 10, 3) := by decide +kernel
theorem dX11_lamp_18 : decode cX11_lamp 18 = .ok (.getfield 98, 3) := by decide +kernel
theorem dX11_lamp_21 : decode cX11_lamp 21 = .ok (.istore_n 2, 1) := by decide +kernel
theorem dX11_lamp_22 : decode cX11_lamp 22 = .ok (.aload_n 0, 1) := by decide +kernel
theorem dX11_lamp_23 : decode cX11_lamp 23 = .ok (.getfield 10, 3) := by decide +kernel
theorem dX11_lamp_26 : decode cX11_lamp 26 = .ok (.iload_n 1, 1) := by decide +kernel
theorem dX11_lamp_27 : decode cX11_lamp 27 = .ok (.putfield 98, 3) := by decide +kernel
theorem dX11_lamp_30 : decode cX11_lamp 30 = .ok (.aload_n 0, 1) := by decide +kernel
theorem dX11_lamp_31 : decode cX11_lamp 31 = .ok (.getfield 10, 3) := by decide +kernel
theorem dX11_lamp_34 : decode cX11_lamp 34 = .ok (.getfield 101, 3) := by decide +kernel
theorem dX11_lamp_37 : decode cX11_lamp 37 = .ok (.invokevirtual 105, 3) := by decide +kernel
theorem dX11_lamp_40 : decode cX11_lamp 40 = .ok (.iload_n 2, 1) := by decide +kernel
theorem dX11_lamp_41 : decode cX11_lamp 41 = .ok (.ireturn, 1) := by decide +kernel
theorem dX11_eye_0 : decode cX11_eye 0 = .ok (.iload_n 1, 1) := by decide +kernel
theorem dX11_eye_1 : decode cX11_eye 1 = .ok (.invokestatic 79, 3) := by decide +kernel
theorem dX11_eye_4 : decode cX11_eye 4 = .ok (.ifCond .ne 10, 3) := by decide +kernel
theorem dX11_eye_7 : decode cX11_eye 7 = .ok (.aload_n 0, 1) := by decide +kernel
theorem dX11_eye_8 : decode cX11_eye 8 = .ok (.bipush (-2), 2) := by decide +kernel
theorem dX11_eye_10 : decode cX11_eye 10 = .ok (.invokevirtual 86, 3) := by decide +kernel
theorem dX11_eye_13 : decode cX11_eye 13 = .ok (.ireturn, 1) := by decide +kernel
theorem dX11_eye_14 : decode cX11_eye 14 = .ok (.aload_n 0, 1) := by decide +kernel
theorem dX11_eye_15 : decode cX11_eye 15 = .ok (.getfield 10, 3) := by decide +kernel
theorem dX11_eye_18 : decode cX11_eye 18 = .ok (.getfield 90, 3) := by decide +kernel
theorem dX11_eye_21 : decode cX11_eye 21 = .ok (.iconst 5, 1) := by decide +kernel
theorem dX11_eye_22 : decode cX11_eye 22 = .ok (.if_icmp .lt 8, 3) := by decide +kernel
theorem dX11_eye_25 : decode cX11_eye 25 = .ok (.aload_n 0, 1) := by decide +kernel
theorem dX11_eye_26 : decode cX11_eye 26 = .ok (.invokevirtual 110, 3) := by decide +kernel
theorem dX11_eye_29 : decode cX11_eye 29 = .ok (.ireturn, 1) := by decide +kernel
theorem dX11_eye_30 : decode cX11_eye 30 = .ok (.aload_n 0, 1) := by decide +kernel
theorem dX11_eye_31 : decode cX11_eye 31 = .ok (.getfield 10, 3) := by decide +kernel
theorem dX11_eye_34 : decode cX11_eye 34 = .ok (.iload_n 1, 1) := by decide +kernel
theorem dX11_eye_35 : decode cX11_eye 35 = .ok (.invokevirtual 114, 3) := by decide +kernel
theorem dX11_eye_38 : decode cX11_eye 38 = .ok (.aload_n 0, 1) := by decide +kernel
theorem dX11_eye_39 : decode cX11_eye 39 = .ok (.getfield 10, 3) := by decide +kernel
theorem dX11_eye_42 : decode cX11_eye 42 = .ok (.getfield 101, 3) := by decide +kernel
theorem dX11_eye_45 : decode cX11_eye 45 = .ok (.invokevirtual 105, 3) := by decide +kernel
theorem dX11_eye_48 : decode cX11_eye 48 = .ok (.aload_n 0, 1) := by decide +kernel
theorem dX11_eye_49 : decode cX11_eye 49 = .ok (.getfield 10, 3) := by decide +kernel
theorem dX11_eye_52 : decode cX11_eye 52 = .ok (.getfield 90, 3) := by decide +kernel
theorem dX11_eye_55 : decode cX11_eye 55 = .ok (.iconst 1, 1) := by decide +kernel
theorem dX11_eye_56 : decode cX11_eye 56 = .ok (.isub, 1) := by decide +kernel
theorem dX11_eye_57 : decode cX11_eye 57 = .ok (.ireturn, 1) := by decide +kernel
theorem dX11_type_0 : decode cX11_type 0 = .ok (.iload_n 1, 1) := by decide +kernel
theorem dX11_type_1 : decode cX11_type 1 = .ok (.iconst 0, 1) := by decide +kernel
theorem dX11_type_2 : decode cX11_type 2 = .ok (.bipush 127, 2) := by decide +kernel
theorem dX11_type_4 : decode cX11_type 4 = .ok (.invokestatic 75, 3) := by decide +kernel
theorem dX11_type_7 : decode cX11_type 7 = .ok (.ifCond .ne 10, 3) := by decide +kernel
theorem dX11_type_10 : decode cX11_type 10 = .ok (.aload_n 0, 1) := by decide +kernel
theorem dX11_type_11 : decode cX11_type 11 = .ok (.bipush (-2), 2) := by decide +kernel
theorem dX11_type_13 : decode cX11_type 13 = .ok (.invokevirtual 86, 3) := by decide +kernel
theorem dX11_type_16 : decode cX11_type 16 = .ok (.ireturn, 1) := by decide +kernel
theorem dX11_type_17 : decode cX11_type 17 = .ok (.aload_n 0, 1) := by decide +kernel
theorem dX11_type_18 : decode cX11_type 18 = .ok (.getfield 25, 3) := by decide +kernel
theorem dX11_type_21 : decode cX11_type 21 = .ok (.invokevirtual 118, 3) := by decide +kernel
theorem dX11_type_24 : decode cX11_type 24 = .ok (.ifCond .eq 10, 3) := by decide +kernel
theorem dX11_type_27 : decode cX11_type 27 = .ok (.aload_n 0, 1) := by decide +kernel
theorem dX11_type_28 : decode cX11_type 28 = .ok (.invokevirtual 110, 3) := by decide +kernel
theorem dX11_type_31 : decode cX11_type 31 = .ok (.goto 11, 3) := by decide +kernel
theorem dX11_type_34 : decode cX11_type 34 = .ok (.aload_n 0, 1) := by decide +kernel
theorem dX11_type_35 : decode cX11_type 35 = .ok (.getfield 25, 3) := by decide +kernel
theorem dX11_type_38 : decode cX11_type 38 = .ok (.iload_n 1, 1) := by decide +kernel
theorem dX11_type_39 : decode cX11_type 39 = .ok (.invokevirtual 122, 3) := by decide +kernel
theorem dX11_type_42 : decode cX11_type 42 = .ok (.ireturn, 1) := by decide +kernel
theorem dX11_clear_0 : decode cX11_clear 0 = .ok (.aload_n 0, 1) := by decide +kernel
theorem dX11_clear_1 : decode cX11_clear 1 = .ok (.getfield 25, 3) := by decide +kernel
theorem dX11_clear_4 : decode cX11_clear 4 = .ok (.invokevirtual 125, 3) := by decide +kernel
theorem dX11_clear_7 : decode cX11_clear 7 = .ok (.ireturn, 1) := by decide +kernel
theorem dX11_read_0 : decode cX11_read 0 = .ok (.aload_n 0, 1) := by decide +kernel
theorem dX11_read_1 : decode cX11_read 1 = .ok (.getfield 25, 3) := by decide +kernel
theorem dX11_read_4 : decode cX11_read 4 = .ok (.invokevirtual 127, 3) := by decide +kernel
theorem dX11_read_7 : decode cX11_read 7 = .ok (.istore_n 1, 1) := by decide +kernel
theorem dX11_read_8 : decode cX11_read 8 = .ok (.iload_n 1, 1) := by decide +kernel
theorem dX11_read_9 : decode cX11_read 9 = .ok (.ifCond .le 17, 3) := by decide +kernel
theorem dX11_read_12 : decode cX11_read 12 = .ok (.aload_n 0, 1) := by decide +kernel
theorem dX11_read_13 : decode cX11_read 13 = .ok (.getfield 10, 3) := by decide +kernel
theorem dX11_read_16 : decode cX11_read 16 = .ok (.aload_n 0, 1) := by decide +kernel
theorem dX11_read_17 : decode cX11_read 17 = .ok (.getfield 25, 3) := by decide +kernel
theorem dX11_read_20 : decode cX11_read 20 = .ok (.getfield 130, 3) := by decide +kernel
theorem dX11_read_23 : decode cX11_read 23 = .ok (.invokevirtual 133, 3) := by decide +kernel
theorem dX11_read_26 : decode cX11_read 26 = .ok (.iload_n 1, 1) := by decide +kernel
theorem dX11_read_27 : decode cX11_read 27 = .ok (.ireturn, 1) := by decide +kernel
theorem dX11_spins_0 : decode cX11_spins 0 = .ok (.iload_n 1, 1) := by decide +kernel
theorem dX11_spins_1 : decode cX11_spins 1 = .ok (.iconst 1, 1) := by decide +kernel
theorem dX11_spins_2 : decode cX11_spins 2 = .ok (.bipush 60, 2) := by decide +kernel
theorem dX11_spins_4 : decode cX11_spins 4 = .ok (.invokestatic 75, 3) := by decide +kernel
theorem dX11_spins_7 : decode cX11_spins 7 = .ok (.ifCond .ne 10, 3) := by decide +kernel
theorem dX11_spins_10 : decode cX11_spins 10 = .ok (.aload_n 0, 1) := by decide +kernel
theorem dX11_spins_11 : decode cX11_spins 11 = .ok (.bipush (-2), 2) := by decide +kernel
theorem dX11_spins_13 : decode cX11_spins 13 = .ok (.invokevirtual 86, 3) := by decide +kernel
theorem dX11_spins_16 : decode cX11_spins 16 = .ok (.ireturn, 1) := by decide +kernel
theorem dX11_spins_17 : decode cX11_spins 17 = .ok (.aload_n 0, 1) := by decide +kernel
theorem dX11_spins_18 : decode cX11_spins 18 = .ok (.getfield 10, 3) := by decide +kernel
theorem dX11_spins_21 : decode cX11_spins 21 = .ok (.getfield 137, 3) := by decide +kernel
theorem dX11_spins_24 : decode cX11_spins 24 = .ok (.getfield 140, 3) := by decide +kernel
theorem dX11_spins_27 : decode cX11_spins 27 = .ok (.sipush 9999, 3) := by decide +kernel
theorem dX11_spins_30 : decode cX11_spins 30 = .ok (.if_icmp .ge 20, 3) := by decide +kernel
theorem dX11_spins_33 : decode cX11_spins 33 = .ok (.aload_n 0, 1) := by decide +kernel
theorem dX11_spins_34 : decode cX11_spins 34 = .ok (.getfield 10, 3) := by decide +kernel
theorem dX11_spins_37 : decode cX11_spins 37 = .ok (.getfield 101, 3) := by decide +kernel
theorem dX11_spins_40 : decode cX11_spins 40 = .ok (.aload_n 0, 1) := by decide +kernel
theorem dX11_spins_41 : decode cX11_spins 41 = .ok (.getfield 10, 3) := by decide +kernel
theorem dX11_spins_44 : decode cX11_spins 44 = .ok (.getfield 137, 3) := by decide +kernel
theorem dX11_spins_47 : decode cX11_spins 47 = .ok (.invokevirtual 143, 3) := by decide +kernel
theorem dX11_spins_50 : decode cX11_spins 50 = .ok (.aload_n 0, 1) := by decide +kernel
theorem dX11_spins_51 : decode cX11_spins 51 = .ok (.getfield 10, 3) := by decide +kernel
theorem dX11_spins_54 : decode cX11_spins 54 = .ok (.iload_n 1, 1) := by decide +kernel
theorem dX11_spins_55 : decode cX11_spins 55 = .ok (.invokevirtual 147, 3) := by decide +kernel
theorem dX11_spins_58 : decode cX11_spins 58 = .ok (.aload_n 0, 1) := by decide +kernel
theorem dX11_spins_59 : decode cX11_spins 59 = .ok (.getfield 10, 3) := by decide +kernel
theorem dX11_spins_62 : decode cX11_spins 62 = .ok (.getfield 137, 3) := by decide +kernel
theorem dX11_spins_65 : decode cX11_spins 65 = .ok (.getfield 150, 3) := by decide +kernel
theorem dX11_spins_68 : decode cX11_spins 68 = .ok (.ireturn, 1) := by decide +kernel
theorem dX11_steps_0 : decode cX11_steps 0 = .ok (.iload_n 1, 1) := by decide +kernel
theorem dX11_steps_1 : decode cX11_steps 1 = .ok (.invokestatic 83, 3) := by decide +kernel
theorem dX11_steps_4 : decode cX11_steps 4 = .ok (.ifCond .ne 10, 3) := by decide +kernel
theorem dX11_steps_7 : decode cX11_steps 7 = .ok (.aload_n 0, 1) := by decide +kernel
theorem dX11_steps_8 : decode cX11_steps 8 = .ok (.bipush (-2), 2) := by decide +kernel
theorem dX11_steps_10 : decode cX11_steps 10 = .ok (.invokevirtual 86, 3) := by decide +kernel
theorem dX11_steps_13 : decode cX11_steps 13 = .ok (.ireturn, 1) := by decide +kernel
theorem dX11_steps_14 : decode cX11_steps 14 = .ok (.aload_n 0, 1) := by decide +kernel
theorem dX11_steps_15 : decode cX11_steps 15 = .ok (.getfield 10, 3) := by decide +kernel
theorem dX11_steps_18 : decode cX11_steps 18 = .ok (.getfield 137, 3) := by decide +kernel
theorem dX11_steps_21 : decode cX11_steps 21 = .ok (.getfield 153, 3) := by decide +kernel
theorem dX11_steps_24 : decode cX11_steps 24 = .ok (.istore_n 2, 1) := by decide +kernel
theorem dX11_steps_25 : decode cX11_steps 25 = .ok (.iload_n 2, 1) := by decide +kernel
theorem dX11_steps_26 : decode cX11_steps 26 = .ok (.iload_n 1, 1) := by decide +kernel
theorem dX11_steps_27 : decode cX11_steps 27 = .ok (.if_icmp .ne 8, 3) := by decide +kernel
theorem dX11_steps_30 : decode cX11_steps 30 = .ok (.aload_n 0, 1) := by decide +kernel
theorem dX11_steps_31 : decode cX11_steps 31 = .ok (.invokevirtual 156, 3) := by decide +kernel
theorem dX11_steps_34 : decode cX11_steps 34 = .ok (.ireturn, 1) := by decide +kernel
theorem dX11_steps_35 : decode cX11_steps 35 = .ok (.aload_n 0, 1) := by decide +kernel
theorem dX11_steps_36 : decode cX11_steps 36 = .ok (.getfield 10, 3) := by decide +kernel
theorem dX11_steps_39 : decode cX11_steps 39 = .ok (.getfield 101, 3) := by decide +kernel
theorem dX11_steps_42 : decode cX11_steps 42 = .ok (.aload_n 0, 1) := by decide +kernel
theorem dX11_steps_43 : decode cX11_steps 43 = .ok (.getfield 10, 3) := by decide +kernel
theorem dX11_steps_46 : decode cX11_steps 46 = .ok (.getfield 137, 3) := by decide +kernel
theorem dX11_steps_49 : decode cX11_steps 49 = .ok (.invokevirtual 143, 3) := by decide +kernel
theorem dX11_steps_52 : decode cX11_steps 52 = .ok (.aload_n 0, 1) := by decide +kernel
theorem dX11_steps_53 : decode cX11_steps 53 = .ok (.getfield 10, 3) := by decide +kernel
theorem dX11_steps_56 : decode cX11_steps 56 = .ok (.getfield 137, 3) := by decide +kernel
theorem dX11_steps_59 : decode cX11_steps 59 = .ok (.iload_n 1, 1) := by decide +kernel
theorem dX11_steps_60 : decode cX11_steps 60 = .ok (.putfield 153, 3) := by decide +kernel
theorem dX11_steps_63 : decode cX11_steps 63 = .ok (.iload_n 2, 1) := by decide +kernel
theorem dX11_steps_64 : decode cX11_steps 64 = .ok (.ireturn, 1) := by decide +kernel
theorem dX11_draws_0 : decode cX11_draws 0 = .ok (.aload_n 0, 1) := by decide +kernel
theorem dX11_draws_1 : decode cX11_draws 1 = .ok (.iload_n 1, 1) := by decide +kernel
theorem dX11_draws_2 : decode cX11_draws 2 = .ok (.invokevirtual 159, 3) := by decide +kernel
theorem dX11_draws_5 : decode cX11_draws 5 = .ok (.ifCond .eq 10, 3) := by decide +kernel
theorem dX11_draws_8 : decode cX11_draws 8 = .ok (.iload_n 2, 1) := by decide +kernel
theorem dX11_draws_9 : decode cX11_draws 9 = .ok (.invokestatic 162, 3) := by decide +kernel
theorem dX11_draws_12 : decode cX11_draws 12 = .ok (.ifCond .ne 10, 3) := by decide +kernel
theorem dX11_draws_15 : decode cX11_draws 15 = .ok (.aload_n 0, 1) := by decide +kernel
theorem dX11_draws_16 : decode cX11_draws 16 = .ok (.bipush (-2), 2) := by decide +kernel
theorem dX11_draws_18 : decode cX11_draws 18 = .ok (.invokevirtual 86, 3) := by decide +kernel
theorem dX11_draws_21 : decode cX11_draws 21 = .ok (.ireturn, 1) := by decide +kernel
theorem dX11_draws_22 : decode cX11_draws 22 = .ok (.aload_n 0, 1) := by decide +kernel
theorem dX11_draws_23 : decode cX11_draws 23 = .ok (.getfield 10, 3) := by decide +kernel
theorem dX11_draws_26 : decode cX11_draws 26 = .ok (.getfield 137, 3) := by decide +kernel
theorem dX11_draws_29 : decode cX11_draws 29 = .ok (.getfield 165, 3) := by decide +kernel
theorem dX11_draws_32 : decode cX11_draws 32 = .ok (.iload_n 1, 1) := by decide +kernel
theorem dX11_draws_33 : decode cX11_draws 33 = .ok (.invokestatic 168, 3) := by decide +kernel
theorem dX11_draws_36 : decode cX11_draws 36 = .ok (.istore_n 3, 1) := by decide +kernel
theorem dX11_draws_37 : decode cX11_draws 37 = .ok (.iload_n 3, 1) := by decide +kernel
theorem dX11_draws_38 : decode cX11_draws 38 = .ok (.iload_n 2, 1) := by decide +kernel
theorem dX11_draws_39 : decode cX11_draws 39 = .ok (.if_icmp .ne 8, 3) := by decide +kernel
theorem dX11_draws_42 : decode cX11_draws 42 = .ok (.aload_n 0, 1) := by decide +kernel
theorem dX11_draws_43 : decode cX11_draws 43 = .ok (.invokevirtual 156, 3) := by decide +kernel
theorem dX11_draws_46 : decode cX11_draws 46 = .ok (.ireturn, 1) := by decide +kernel
theorem dX11_draws_47 : decode cX11_draws 47 = .ok (.aload_n 0, 1) := by decide +kernel
theorem dX11_draws_48 : decode cX11_draws 48 = .ok (.getfield 10, 3) := by decide +kernel
theorem dX11_draws_51 : decode cX11_draws 51 = .ok (.getfield 101, 3) := by decide +kernel
theorem dX11_draws_54 : decode cX11_draws 54 = .ok (.aload_n 0, 1) := by decide +kernel
theorem dX11_draws_55 : decode cX11_draws 55 = .ok (.getfield 10, 3) := by decide +kernel
theorem dX11_draws_58 : decode cX11_draws 58 = .ok (.getfield 137, 3) := by decide +kernel
theorem dX11_draws_61 : decode cX11_draws 61 = .ok (.invokevirtual 143, 3) := by decide +kernel
theorem dX11_draws_64 : decode cX11_draws 64 = .ok (.aload_n 0, 1) := by decide +kernel
theorem dX11_draws_65 : decode cX11_draws 65 = .ok (.getfield 10, 3) := by decide +kernel
theorem dX11_draws_68 : decode cX11_draws 68 = .ok (.getfield 137, 3) := by decide +kernel
theorem dX11_draws_71 : decode cX11_draws 71 = .ok (.getfield 165, 3) := by decide +kernel
theorem dX11_draws_74 : decode cX11_draws 74 = .ok (.iload_n 1, 1) := by decide +kernel
theorem dX11_draws_75 : decode cX11_draws 75 = .ok (.iload_n 2, 1) := by decide +kernel
theorem dX11_draws_76 : decode cX11_draws 76 = .ok (.invokestatic 172, 3) := by decide +kernel
theorem dX11_draws_79 : decode cX11_draws 79 = .ok (.iload_n 3, 1) := by decide +kernel
theorem dX11_draws_80 : decode cX11_draws 80 = .ok (.ireturn, 1) := by decide +kernel
theorem dX11_undo_0 : decode cX11_undo 0 = .ok (.aload_n 0, 1) := by decide +kernel
theorem dX11_undo_1 : decode cX11_undo 1 = .ok (.getfield 10, 3) := by decide +kernel
theorem dX11_undo_4 : decode cX11_undo 4 = .ok (.getfield 101, 3) := by decide +kernel
theorem dX11_undo_7 : decode cX11_undo 7 = .ok (.getfield 176, 3) := by decide +kernel
theorem dX11_undo_10 : decode cX11_undo 10 = .ok (.iconst 1, 1) := by decide +kernel
theorem dX11_undo_11 : decode cX11_undo 11 = .ok (.if_icmp .ge 8, 3) := by decide +kernel
theorem dX11_undo_14 : decode cX11_undo 14 = .ok (.aload_n 0, 1) := by decide +kernel
theorem dX11_undo_15 : decode cX11_undo 15 = .ok (.invokevirtual 156, 3) := by decide +kernel
theorem dX11_undo_18 : decode cX11_undo 18 = .ok (.ireturn, 1) := by decide +kernel
theorem dX11_undo_19 : decode cX11_undo 19 = .ok (.aload_n 0, 1) := by decide +kernel
theorem dX11_undo_20 : decode cX11_undo 20 = .ok (.getfield 10, 3) := by decide +kernel
theorem dX11_undo_23 : decode cX11_undo 23 = .ok (.getfield 101, 3) := by decide +kernel
theorem dX11_undo_26 : decode cX11_undo 26 = .ok (.aload_n 0, 1) := by decide +kernel
theorem dX11_undo_27 : decode cX11_undo 27 = .ok (.getfield 10, 3) := by decide +kernel
theorem dX11_undo_30 : decode cX11_undo 30 = .ok (.getfield 137, 3) := by decide +kernel
theorem dX11_undo_33 : decode cX11_undo 33 = .ok (.invokevirtual 179, 3) := by decide +kernel
theorem dX11_undo_36 : decode cX11_undo 36 = .ok (.aload_n 0, 1) := by decide +kernel
theorem dX11_undo_37 : decode cX11_undo 37 = .ok (.getfield 10, 3) := by decide +kernel
theorem dX11_undo_40 : decode cX11_undo 40 = .ok (.getfield 137, 3) := by decide +kernel
theorem dX11_undo_43 : decode cX11_undo 43 = .ok (.getfield 140, 3) := by decide +kernel
theorem dX11_undo_46 : decode cX11_undo 46 = .ok (.ireturn, 1) := by decide +kernel
theorem dX11_of_0 : decode cX11_of 0 = .ok (.aload_n 0, 1) := by decide +kernel
theorem dX11_of_1 : decode cX11_of 1 = .ok (.iload_n 1, 1) := by decide +kernel
theorem dX11_of_2 : decode cX11_of 2 = .ok (.invokevirtual 182, 3) := by decide +kernel
theorem dX11_of_5 : decode cX11_of 5 = .ok (.ifCond .ne 10, 3) := by decide +kernel
theorem dX11_of_8 : decode cX11_of 8 = .ok (.aload_n 0, 1) := by decide +kernel
theorem dX11_of_9 : decode cX11_of 9 = .ok (.bipush (-2), 2) := by decide +kernel
theorem dX11_of_11 : decode cX11_of 11 = .ok (.invokevirtual 86, 3) := by decide +kernel
theorem dX11_of_14 : decode cX11_of 14 = .ok (.ireturn, 1) := by decide +kernel
theorem dX11_of_15 : decode cX11_of 15 = .ok (.iload_n 2, 1) := by decide +kernel
theorem dX11_of_16 : decode cX11_of 16 = .ok (.tableswitch 70 0 2 #[28, 40, 55], 28) := by decide +kernel
theorem dX11_of_44 : decode cX11_of 44 = .ok (.aload_n 0, 1) := by decide +kernel
theorem dX11_of_45 : decode cX11_of 45 = .ok (.getfield 10, 3) := by decide +kernel
theorem dX11_of_48 : decode cX11_of 48 = .ok (.getfield 185, 3) := by decide +kernel
theorem dX11_of_51 : decode cX11_of 51 = .ok (.iload_n 1, 1) := by decide +kernel
theorem dX11_of_52 : decode cX11_of 52 = .ok (.invokestatic 168, 3) := by decide +kernel
theorem dX11_of_55 : decode cX11_of 55 = .ok (.ireturn, 1) := by decide +kernel
theorem dX11_of_56 : decode cX11_of 56 = .ok (.aload_n 0, 1) := by decide +kernel
theorem dX11_of_57 : decode cX11_of 57 = .ok (.getfield 10, 3) := by decide +kernel
theorem dX11_of_60 : decode cX11_of 60 = .ok (.getfield 137, 3) := by decide +kernel
theorem dX11_of_63 : decode cX11_of 63 = .ok (.getfield 188, 3) := by decide +kernel
theorem dX11_of_66 : decode cX11_of 66 = .ok (.iload_n 1, 1) := by decide +kernel
theorem dX11_of_67 : decode cX11_of 67 = .ok (.invokestatic 168, 3) := by decide +kernel
theorem dX11_of_70 : decode cX11_of 70 = .ok (.ireturn, 1) := by decide +kernel
theorem dX11_of_71 : decode cX11_of 71 = .ok (.aload_n 0, 1) := by decide +kernel
theorem dX11_of_72 : decode cX11_of 72 = .ok (.getfield 10, 3) := by decide +kernel
theorem dX11_of_75 : decode cX11_of 75 = .ok (.getfield 137, 3) := by decide +kernel
theorem dX11_of_78 : decode cX11_of 78 = .ok (.getfield 191, 3) := by decide +kernel
theorem dX11_of_81 : decode cX11_of 81 = .ok (.iload_n 1, 1) := by decide +kernel
theorem dX11_of_82 : decode cX11_of 82 = .ok (.invokestatic 168, 3) := by decide +kernel
theorem dX11_of_85 : decode cX11_of 85 = .ok (.ireturn, 1) := by decide +kernel
theorem dX11_of_86 : decode cX11_of 86 = .ok (.aload_n 0, 1) := by decide +kernel
theorem dX11_of_87 : decode cX11_of 87 = .ok (.bipush (-2), 2) := by decide +kernel
theorem dX11_of_89 : decode cX11_of 89 = .ok (.invokevirtual 86, 3) := by decide +kernel
theorem dX11_of_92 : decode cX11_of 92 = .ok (.ireturn, 1) := by decide +kernel
theorem dX11_drawn_0 : decode cX11_drawn 0 = .ok (.aload_n 0, 1) := by decide +kernel
theorem dX11_drawn_1 : decode cX11_drawn 1 = .ok (.iload_n 1, 1) := by decide +kernel
theorem dX11_drawn_2 : decode cX11_drawn 2 = .ok (.invokevirtual 159, 3) := by decide +kernel
theorem dX11_drawn_5 : decode cX11_drawn 5 = .ok (.ifCond .eq 20, 3) := by decide +kernel
theorem dX11_drawn_8 : decode cX11_drawn 8 = .ok (.aload_n 0, 1) := by decide +kernel
theorem dX11_drawn_9 : decode cX11_drawn 9 = .ok (.getfield 10, 3) := by decide +kernel
theorem dX11_drawn_12 : decode cX11_drawn 12 = .ok (.getfield 137, 3) := by decide +kernel
theorem dX11_drawn_15 : decode cX11_drawn 15 = .ok (.getfield 165, 3) := by decide +kernel
theorem dX11_drawn_18 : decode cX11_drawn 18 = .ok (.iload_n 1, 1) := by decide +kernel
theorem dX11_drawn_19 : decode cX11_drawn 19 = .ok (.invokestatic 168, 3) := by decide +kernel
theorem dX11_drawn_22 : decode cX11_drawn 22 = .ok (.goto 9, 3) := by decide +kernel
theorem dX11_drawn_25 : decode cX11_drawn 25 = .ok (.aload_n 0, 1) := by decide +kernel
theorem dX11_drawn_26 : decode cX11_drawn 26 = .ok (.bipush (-2), 2) := by decide +kernel
theorem dX11_drawn_28 : decode cX11_drawn 28 = .ok (.invokevirtual 86, 3) := by decide +kernel
theorem dX11_drawn_31 : decode cX11_drawn 31 = .ok (.ireturn, 1) := by decide +kernel
theorem dX11_at_0 : decode cX11_at 0 = .ok (.iload_n 1, 1) := by decide +kernel
theorem dX11_at_1 : decode cX11_at 1 = .ok (.iconst 0, 1) := by decide +kernel
theorem dX11_at_2 : decode cX11_at 2 = .ok (.bipush 60, 2) := by decide +kernel
theorem dX11_at_4 : decode cX11_at 4 = .ok (.invokestatic 75, 3) := by decide +kernel
theorem dX11_at_7 : decode cX11_at 7 = .ok (.ifCond .ne 10, 3) := by decide +kernel
theorem dX11_at_10 : decode cX11_at 10 = .ok (.aload_n 0, 1) := by decide +kernel
theorem dX11_at_11 : decode cX11_at 11 = .ok (.bipush (-2), 2) := by decide +kernel
theorem dX11_at_13 : decode cX11_at 13 = .ok (.invokevirtual 86, 3) := by decide +kernel
theorem dX11_at_16 : decode cX11_at 16 = .ok (.ireturn, 1) := by decide +kernel
theorem dX11_at_17 : decode cX11_at 17 = .ok (.aload_n 0, 1) := by decide +kernel
theorem dX11_at_18 : decode cX11_at 18 = .ok (.aload_n 0, 1) := by decide +kernel
theorem dX11_at_19 : decode cX11_at 19 = .ok (.getfield 10, 3) := by decide +kernel
theorem dX11_at_22 : decode cX11_at 22 = .ok (.getfield 137, 3) := by decide +kernel
theorem dX11_at_25 : decode cX11_at 25 = .ok (.getfield 153, 3) := by decide +kernel
theorem dX11_at_28 : decode cX11_at 28 = .ok (.iload_n 1, 1) := by decide +kernel
theorem dX11_at_29 : decode cX11_at 29 = .ok (.invokevirtual 194, 3) := by decide +kernel
theorem dX11_at_32 : decode cX11_at 32 = .ok (.aload_n 0, 1) := by decide +kernel
theorem dX11_at_33 : decode cX11_at 33 = .ok (.getfield 36, 3) := by decide +kernel
theorem dX11_at_36 : decode cX11_at 36 = .ok (.getfield 150, 3) := by decide +kernel
theorem dX11_at_39 : decode cX11_at 39 = .ok (.ireturn, 1) := by decide +kernel
theorem dX11_sees_0 : decode cX11_sees 0 = .ok (.aload_n 0, 1) := by decide +kernel
theorem dX11_sees_1 : decode cX11_sees 1 = .ok (.iload_n 1, 1) := by decide +kernel
theorem dX11_sees_2 : decode cX11_sees 2 = .ok (.invokevirtual 182, 3) := by decide +kernel
theorem dX11_sees_5 : decode cX11_sees 5 = .ok (.ifCond .eq 13, 3) := by decide +kernel
theorem dX11_sees_8 : decode cX11_sees 8 = .ok (.iload_n 2, 1) := by decide +kernel
theorem dX11_sees_9 : decode cX11_sees 9 = .ok (.iconst 0, 1) := by decide +kernel
theorem dX11_sees_10 : decode cX11_sees 10 = .ok (.bipush 60, 2) := by decide +kernel
theorem dX11_sees_12 : decode cX11_sees 12 = .ok (.invokestatic 75, 3) := by decide +kernel
theorem dX11_sees_15 : decode cX11_sees 15 = .ok (.ifCond .ne 10, 3) := by decide +kernel
theorem dX11_sees_18 : decode cX11_sees 18 = .ok (.aload_n 0, 1) := by decide +kernel
theorem dX11_sees_19 : decode cX11_sees 19 = .ok (.bipush (-2), 2) := by decide +kernel
theorem dX11_sees_21 : decode cX11_sees 21 = .ok (.invokevirtual 86, 3) := by decide +kernel
theorem dX11_sees_24 : decode cX11_sees 24 = .ok (.ireturn, 1) := by decide +kernel
theorem dX11_sees_25 : decode cX11_sees 25 = .ok (.aload_n 0, 1) := by decide +kernel
theorem dX11_sees_26 : decode cX11_sees 26 = .ok (.aload_n 0, 1) := by decide +kernel
theorem dX11_sees_27 : decode cX11_sees 27 = .ok (.getfield 10, 3) := by decide +kernel
theorem dX11_sees_30 : decode cX11_sees 30 = .ok (.getfield 137, 3) := by decide +kernel
theorem dX11_sees_33 : decode cX11_sees 33 = .ok (.getfield 153, 3) := by decide +kernel
theorem dX11_sees_36 : decode cX11_sees 36 = .ok (.iload_n 2, 1) := by decide +kernel
theorem dX11_sees_37 : decode cX11_sees 37 = .ok (.invokevirtual 194, 3) := by decide +kernel
theorem dX11_sees_40 : decode cX11_sees 40 = .ok (.aload_n 0, 1) := by decide +kernel
theorem dX11_sees_41 : decode cX11_sees 41 = .ok (.getfield 36, 3) := by decide +kernel
theorem dX11_sees_44 : decode cX11_sees 44 = .ok (.getfield 188, 3) := by decide +kernel
theorem dX11_sees_47 : decode cX11_sees 47 = .ok (.iload_n 1, 1) := by decide +kernel
theorem dX11_sees_48 : decode cX11_sees 48 = .ok (.invokestatic 168, 3) := by decide +kernel
theorem dX11_sees_51 : decode cX11_sees 51 = .ok (.ireturn, 1) := by decide +kernel
theorem dX11_round_0 : decode cX11_round 0 = .ok (.aload_n 0, 1) := by decide +kernel
theorem dX11_round_1 : decode cX11_round 1 = .ok (.aload_n 0, 1) := by decide +kernel
theorem dX11_round_2 : decode cX11_round 2 = .ok (.getfield 10, 3) := by decide +kernel
theorem dX11_round_5 : decode cX11_round 5 = .ok (.getfield 137, 3) := by decide +kernel
theorem dX11_round_8 : decode cX11_round 8 = .ok (.getfield 153, 3) := by decide +kernel
theorem dX11_round_11 : decode cX11_round 11 = .ok (.invokevirtual 198, 3) := by decide +kernel
theorem dX11_round_14 : decode cX11_round 14 = .ok (.iconst 1, 1) := by decide +kernel
theorem dX11_round_15 : decode cX11_round 15 = .ok (.istore_n 1, 1) := by decide +kernel
theorem dX11_round_16 : decode cX11_round 16 = .ok (.iload_n 1, 1) := by decide +kernel
theorem dX11_round_17 : decode cX11_round 17 = .ok (.bipush 60, 2) := by decide +kernel
theorem dX11_round_19 : decode cX11_round 19 = .ok (.if_icmp .gt 29, 3) := by decide +kernel
theorem dX11_round_22 : decode cX11_round 22 = .ok (.aload_n 0, 1) := by decide +kernel
theorem dX11_round_23 : decode cX11_round 23 = .ok (.getfield 10, 3) := by decide +kernel
theorem dX11_round_26 : decode cX11_round 26 = .ok (.aload_n 0, 1) := by decide +kernel
theorem dX11_round_27 : decode cX11_round 27 = .ok (.getfield 36, 3) := by decide +kernel
theorem dX11_round_30 : decode cX11_round 30 = .ok (.invokevirtual 201, 3) := by decide +kernel
theorem dX11_round_33 : decode cX11_round 33 = .ok (.aload_n 0, 1) := by decide +kernel
theorem dX11_round_34 : decode cX11_round 34 = .ok (.invokevirtual 203, 3) := by decide +kernel
theorem dX11_round_37 : decode cX11_round 37 = .ok (.ifCond .eq 5, 3) := by decide +kernel
theorem dX11_round_40 : decode cX11_round 40 = .ok (.iload_n 1, 1) := by decide +kernel
theorem dX11_round_41 : decode cX11_round 41 = .ok (.ireturn, 1) := by decide +kernel
theorem dX11_round_42 : decode cX11_round 42 = .ok (.iinc 1 1, 3) := by decide +kernel
theorem dX11_round_45 : decode cX11_round 45 = .ok (.goto (-29), 3) := by decide +kernel
theorem dX11_round_48 : decode cX11_round 48 = .ok (.iconst (-1), 1) := by decide +kernel
theorem dX11_round_49 : decode cX11_round 49 = .ok (.ireturn, 1) := by decide +kernel
theorem dX11_still_0 : decode cX11_still 0 = .ok (.iload_n 1, 1) := by decide +kernel
theorem dX11_still_1 : decode cX11_still 1 = .ok (.iconst 1, 1) := by decide +kernel
theorem dX11_still_2 : decode cX11_still 2 = .ok (.bipush 60, 2) := by decide +kernel
theorem dX11_still_4 : decode cX11_still 4 = .ok (.invokestatic 75, 3) := by decide +kernel
theorem dX11_still_7 : decode cX11_still 7 = .ok (.ifCond .ne 10, 3) := by decide +kernel
theorem dX11_still_10 : decode cX11_still 10 = .ok (.aload_n 0, 1) := by decide +kernel
theorem dX11_still_11 : decode cX11_still 11 = .ok (.bipush (-2), 2) := by decide +kernel
theorem dX11_still_13 : decode cX11_still 13 = .ok (.invokevirtual 86, 3) := by decide +kernel
theorem dX11_still_16 : decode cX11_still 16 = .ok (.ireturn, 1) := by decide +kernel
theorem dX11_still_17 : decode cX11_still 17 = .ok (.iconst 0, 1) := by decide +kernel
theorem dX11_still_18 : decode cX11_still 18 = .ok (.istore_n 2, 1) := by decide +kernel
theorem dX11_still_19 : decode cX11_still 19 = .ok (.iconst 0, 1) := by decide +kernel
theorem dX11_still_20 : decode cX11_still 20 = .ok (.istore_n 3, 1) := by decide +kernel
theorem dX11_still_21 : decode cX11_still 21 = .ok (.iload_n 3, 1) := by decide +kernel
theorem dX11_still_22 : decode cX11_still 22 = .ok (.bipush 12, 2) := by decide +kernel
theorem dX11_still_24 : decode cX11_still 24 = .ok (.if_icmp .ge 24, 3) := by decide +kernel
theorem dX11_still_27 : decode cX11_still 27 = .ok (.aload_n 0, 1) := by decide +kernel
theorem dX11_still_28 : decode cX11_still 28 = .ok (.iload_n 3, 1) := by decide +kernel
theorem dX11_still_29 : decode cX11_still 29 = .ok (.iload_n 1, 1) := by decide +kernel
theorem dX11_still_30 : decode cX11_still 30 = .ok (.invokevirtual 206, 3) := by decide +kernel
theorem dX11_still_33 : decode cX11_still 33 = .ok (.ifCond .eq 9, 3) := by decide +kernel
theorem dX11_still_36 : decode cX11_still 36 = .ok (.iload_n 2, 1) := by decide +kernel
theorem dX11_still_37 : decode cX11_still 37 = .ok (.iconst 1, 1) := by decide +kernel
theorem dX11_still_38 : decode cX11_still 38 = .ok (.iload_n 3, 1) := by decide +kernel
theorem dX11_still_39 : decode cX11_still 39 = .ok (.ishl, 1) := by decide +kernel
theorem dX11_still_40 : decode cX11_still 40 = .ok (.ior, 1) := by decide +kernel
theorem dX11_still_41 : decode cX11_still 41 = .ok (.istore_n 2, 1) := by decide +kernel
theorem dX11_still_42 : decode cX11_still 42 = .ok (.iinc 3 1, 3) := by decide +kernel
theorem dX11_still_45 : decode cX11_still 45 = .ok (.goto (-24), 3) := by decide +kernel
theorem dX11_still_48 : decode cX11_still 48 = .ok (.iload_n 2, 1) := by decide +kernel
theorem dX11_still_49 : decode cX11_still 49 = .ok (.ireturn, 1) := by decide +kernel
theorem dX11_most_0 : decode cX11_most 0 = .ok (.aload_n 0, 1) := by decide +kernel
theorem dX11_most_1 : decode cX11_most 1 = .ok (.iload_n 1, 1) := by decide +kernel
theorem dX11_most_2 : decode cX11_most 2 = .ok (.invokevirtual 182, 3) := by decide +kernel
theorem dX11_most_5 : decode cX11_most 5 = .ok (.ifCond .eq 22, 3) := by decide +kernel
theorem dX11_most_8 : decode cX11_most 8 = .ok (.iload_n 2, 1) := by decide +kernel
theorem dX11_most_9 : decode cX11_most 9 = .ok (.iconst 1, 1) := by decide +kernel
theorem dX11_most_10 : decode cX11_most 10 = .ok (.bipush 60, 2) := by decide +kernel
theorem dX11_most_12 : decode cX11_most 12 = .ok (.invokestatic 75, 3) := by decide +kernel
theorem dX11_most_15 : decode cX11_most 15 = .ok (.ifCond .eq 12, 3) := by decide +kernel
theorem dX11_most_18 : decode cX11_most 18 = .ok (.iload_n 3, 1) := by decide +kernel
theorem dX11_most_19 : decode cX11_most 19 = .ok (.iconst 0, 1) := by decide +kernel
theorem dX11_most_20 : decode cX11_most 20 = .ok (.iconst 1, 1) := by decide +kernel
theorem dX11_most_21 : decode cX11_most 21 = .ok (.invokestatic 75, 3) := by decide +kernel
theorem dX11_most_24 : decode cX11_most 24 = .ok (.ifCond .ne 10, 3) := by decide +kernel
theorem dX11_most_27 : decode cX11_most 27 = .ok (.aload_n 0, 1) := by decide +kernel
theorem dX11_most_28 : decode cX11_most 28 = .ok (.bipush (-2), 2) := by decide +kernel
theorem dX11_most_30 : decode cX11_most 30 = .ok (.invokevirtual 86, 3) := by decide +kernel
theorem dX11_most_33 : decode cX11_most 33 = .ok (.ireturn, 1) := by decide +kernel
theorem dX11_most_34 : decode cX11_most 34 = .ok (.iconst 0, 1) := by decide +kernel
theorem dX11_most_35 : decode cX11_most 35 = .ok (.istore 4, 2) := by decide +kernel
theorem dX11_most_37 : decode cX11_most 37 = .ok (.iconst (-1), 1) := by decide +kernel
theorem dX11_most_38 : decode cX11_most 38 = .ok (.istore 5, 2) := by decide +kernel
theorem dX11_most_40 : decode cX11_most 40 = .ok (.iconst 0, 1) := by decide +kernel
theorem dX11_most_41 : decode cX11_most 41 = .ok (.istore 6, 2) := by decide +kernel
theorem dX11_most_43 : decode cX11_most 43 = .ok (.iload 6, 2) := by decide +kernel
theorem dX11_most_45 : decode cX11_most 45 = .ok (.bipush 12, 2) := by decide +kernel
theorem dX11_most_47 : decode cX11_most 47 = .ok (.if_icmp .ge 44, 3) := by decide +kernel
theorem dX11_most_50 : decode cX11_most 50 = .ok (.aload_n 0, 1) := by decide +kernel
theorem dX11_most_51 : decode cX11_most 51 = .ok (.iload 6, 2) := by decide +kernel
theorem dX11_most_53 : decode cX11_most 53 = .ok (.iload_n 2, 1) := by decide +kernel
theorem dX11_most_54 : decode cX11_most 54 = .ok (.invokevirtual 194, 3) := by decide +kernel
theorem dX11_most_57 : decode cX11_most 57 = .ok (.aload_n 0, 1) := by decide +kernel
theorem dX11_most_58 : decode cX11_most 58 = .ok (.getfield 36, 3) := by decide +kernel
theorem dX11_most_61 : decode cX11_most 61 = .ok (.getfield 191, 3) := by decide +kernel
theorem dX11_most_64 : decode cX11_most 64 = .ok (.iload_n 1, 1) := by decide +kernel
theorem dX11_most_65 : decode cX11_most 65 = .ok (.invokestatic 168, 3) := by decide +kernel
theorem dX11_most_68 : decode cX11_most 68 = .ok (.istore 7, 2) := by decide +kernel
theorem dX11_most_70 : decode cX11_most 70 = .ok (.iload 7, 2) := by decide +kernel
theorem dX11_most_72 : decode cX11_most 72 = .ok (.iload 5, 2) := by decide +kernel
theorem dX11_most_74 : decode cX11_most 74 = .ok (.if_icmp .le 11, 3) := by decide +kernel
theorem dX11_most_77 : decode cX11_most 77 = .ok (.iload 7, 2) := by decide +kernel
theorem dX11_most_79 : decode cX11_most 79 = .ok (.istore 5, 2) := by decide +kernel
theorem dX11_most_81 : decode cX11_most 81 = .ok (.iload 6, 2) := by decide +kernel
theorem dX11_most_83 : decode cX11_most 83 = .ok (.istore 4, 2) := by decide +kernel
theorem dX11_most_85 : decode cX11_most 85 = .ok (.iinc 6 1, 3) := by decide +kernel
theorem dX11_most_88 : decode cX11_most 88 = .ok (.goto (-45), 3) := by decide +kernel
theorem dX11_most_91 : decode cX11_most 91 = .ok (.iload_n 3, 1) := by decide +kernel
theorem dX11_most_92 : decode cX11_most 92 = .ok (.ifCond .ne 8, 3) := by decide +kernel
theorem dX11_most_95 : decode cX11_most 95 = .ok (.iload 4, 2) := by decide +kernel
theorem dX11_most_97 : decode cX11_most 97 = .ok (.goto 5, 3) := by decide +kernel
theorem dX11_most_100 : decode cX11_most 100 = .ok (.iload 5, 2) := by decide +kernel
theorem dX11_most_102 : decode cX11_most 102 = .ok (.ireturn, 1) := by decide +kernel
theorem dX11_smooth_0 : decode cX11_smooth 0 = .ok (.iload_n 1, 1) := by decide +kernel
theorem dX11_smooth_1 : decode cX11_smooth 1 = .ok (.iconst (-1), 1) := by decide +kernel
theorem dX11_smooth_2 : decode cX11_smooth 2 = .ok (.if_icmp .eq 18, 3) := by decide +kernel
theorem dX11_smooth_5 : decode cX11_smooth 5 = .ok (.aload_n 0, 1) := by decide +kernel
theorem dX11_smooth_6 : decode cX11_smooth 6 = .ok (.iload_n 1, 1) := by decide +kernel
theorem dX11_smooth_7 : decode cX11_smooth 7 = .ok (.invokevirtual 159, 3) := by decide +kernel
theorem dX11_smooth_10 : decode cX11_smooth 10 = .ok (.ifCond .ne 10, 3) := by decide +kernel
theorem dX11_smooth_13 : decode cX11_smooth 13 = .ok (.aload_n 0, 1) := by decide +kernel
theorem dX11_smooth_14 : decode cX11_smooth 14 = .ok (.bipush (-10), 2) := by decide +kernel
theorem dX11_smooth_16 : decode cX11_smooth 16 = .ok (.invokevirtual 86, 3) := by decide +kernel
theorem dX11_smooth_19 : decode cX11_smooth 19 = .ok (.ireturn, 1) := by decide +kernel
theorem dX11_smooth_20 : decode cX11_smooth 20 = .ok (.aload_n 0, 1) := by decide +kernel
theorem dX11_smooth_21 : decode cX11_smooth 21 = .ok (.getfield 43, 3) := by decide +kernel
theorem dX11_smooth_24 : decode cX11_smooth 24 = .ok (.aload_n 0, 1) := by decide +kernel
theorem dX11_smooth_25 : decode cX11_smooth 25 = .ok (.getfield 10, 3) := by decide +kernel
theorem dX11_smooth_28 : decode cX11_smooth 28 = .ok (.getfield 137, 3) := by decide +kernel
theorem dX11_smooth_31 : decode cX11_smooth 31 = .ok (.getfield 165, 3) := by decide +kernel
theorem dX11_smooth_34 : decode cX11_smooth 34 = .ok (.aload_n 0, 1) := by decide +kernel
theorem dX11_smooth_35 : decode cX11_smooth 35 = .ok (.getfield 10, 3) := by decide +kernel
theorem dX11_smooth_38 : decode cX11_smooth 38 = .ok (.getfield 210, 3) := by decide +kernel
theorem dX11_smooth_41 : decode cX11_smooth 41 = .ok (.invokevirtual 213, 3) := by decide +kernel
theorem dX11_smooth_44 : decode cX11_smooth 44 = .ok (.iload_n 1, 1) := by decide +kernel
theorem dX11_smooth_45 : decode cX11_smooth 45 = .ok (.iconst (-1), 1) := by decide +kernel
theorem dX11_smooth_46 : decode cX11_smooth 46 = .ok (.if_icmp .ne 13, 3) := by decide +kernel
theorem dX11_smooth_49 : decode cX11_smooth 49 = .ok (.aload_n 0, 1) := by decide +kernel
theorem dX11_smooth_50 : decode cX11_smooth 50 = .ok (.getfield 43, 3) := by decide +kernel
theorem dX11_smooth_53 : decode cX11_smooth 53 = .ok (.getfield 217, 3) := by decide +kernel
theorem dX11_smooth_56 : decode cX11_smooth 56 = .ok (.goto 14, 3) := by decide +kernel
theorem dX11_smooth_59 : decode cX11_smooth 59 = .ok (.aload_n 0, 1) := by decide +kernel
theorem dX11_smooth_60 : decode cX11_smooth 60 = .ok (.getfield 43, 3) := by decide +kernel
theorem dX11_smooth_63 : decode cX11_smooth 63 = .ok (.getfield 220, 3) := by decide +kernel
theorem dX11_smooth_66 : decode cX11_smooth 66 = .ok (.iload_n 1, 1) := by decide +kernel
theorem dX11_smooth_67 : decode cX11_smooth 67 = .ok (.invokestatic 168, 3) := by decide +kernel
theorem dX11_smooth_70 : decode cX11_smooth 70 = .ok (.ireturn, 1) := by decide +kernel
theorem dX11_seen_0 : decode cX11_seen 0 = .ok (.iload_n 1, 1) := by decide +kernel
theorem dX11_seen_1 : decode cX11_seen 1 = .ok (.iconst 1, 1) := by decide +kernel
theorem dX11_seen_2 : decode cX11_seen 2 = .ok (.bipush 30, 2) := by decide +kernel
theorem dX11_seen_4 : decode cX11_seen 4 = .ok (.invokestatic 75, 3) := by decide +kernel
theorem dX11_seen_7 : decode cX11_seen 7 = .ok (.ifCond .eq 10, 3) := by decide +kernel
theorem dX11_seen_10 : decode cX11_seen 10 = .ok (.iload_n 2, 1) := by decide +kernel
theorem dX11_seen_11 : decode cX11_seen 11 = .ok (.invokestatic 162, 3) := by decide +kernel
theorem dX11_seen_14 : decode cX11_seen 14 = .ok (.ifCond .ne 10, 3) := by decide +kernel
theorem dX11_seen_17 : decode cX11_seen 17 = .ok (.aload_n 0, 1) := by decide +kernel
theorem dX11_seen_18 : decode cX11_seen 18 = .ok (.bipush (-2), 2) := by decide +kernel
theorem dX11_seen_20 : decode cX11_seen 20 = .ok (.invokevirtual 86, 3) := by decide +kernel
theorem dX11_seen_23 : decode cX11_seen 23 = .ok (.ireturn, 1) := by decide +kernel
theorem dX11_seen_24 : decode cX11_seen 24 = .ok (.aload_n 0, 1) := by decide +kernel
theorem dX11_seen_25 : decode cX11_seen 25 = .ok (.getfield 10, 3) := by decide +kernel
theorem dX11_seen_28 : decode cX11_seen 28 = .ok (.getfield 223, 3) := by decide +kernel
theorem dX11_seen_31 : decode cX11_seen 31 = .ok (.invokevirtual 227, 3) := by decide +kernel
theorem dX11_seen_34 : decode cX11_seen 34 = .ok (.ifCond .eq 10, 3) := by decide +kernel
theorem dX11_seen_37 : decode cX11_seen 37 = .ok (.aload_n 0, 1) := by decide +kernel
theorem dX11_seen_38 : decode cX11_seen 38 = .ok (.invokevirtual 110, 3) := by decide +kernel
theorem dX11_seen_41 : decode cX11_seen 41 = .ok (.goto 17, 3) := by decide +kernel
theorem dX11_seen_44 : decode cX11_seen 44 = .ok (.aload_n 0, 1) := by decide +kernel
theorem dX11_seen_45 : decode cX11_seen 45 = .ok (.getfield 10, 3) := by decide +kernel
theorem dX11_seen_48 : decode cX11_seen 48 = .ok (.getfield 223, 3) := by decide +kernel
theorem dX11_seen_51 : decode cX11_seen 51 = .ok (.iload_n 1, 1) := by decide +kernel
theorem dX11_seen_52 : decode cX11_seen 52 = .ok (.iload_n 2, 1) := by decide +kernel
theorem dX11_seen_53 : decode cX11_seen 53 = .ok (.iconst 0, 1) := by decide +kernel
theorem dX11_seen_54 : decode cX11_seen 54 = .ok (.iconst 0, 1) := by decide +kernel
theorem dX11_seen_55 : decode cX11_seen 55 = .ok (.invokevirtual 230, 3) := by decide +kernel
theorem dX11_seen_58 : decode cX11_seen 58 = .ok (.ireturn, 1) := by decide +kernel
theorem dX11_began_0 : decode cX11_began 0 = .ok (.iload_n 1, 1) := by decide +kernel
theorem dX11_began_1 : decode cX11_began 1 = .ok (.iconst (-1), 1) := by decide +kernel
theorem dX11_began_2 : decode cX11_began 2 = .ok (.if_icmp .ge 10, 3) := by decide +kernel
theorem dX11_began_5 : decode cX11_began 5 = .ok (.aload_n 0, 1) := by decide +kernel
theorem dX11_began_6 : decode cX11_began 6 = .ok (.bipush (-10), 2) := by decide +kernel
theorem dX11_began_8 : decode cX11_began 8 = .ok (.invokevirtual 86, 3) := by decide +kernel
theorem dX11_began_11 : decode cX11_began 11 = .ok (.ireturn, 1) := by decide +kernel
theorem dX11_began_12 : decode cX11_began 12 = .ok (.aload_n 0, 1) := by decide +kernel
theorem dX11_began_13 : decode cX11_began 13 = .ok (.getfield 50, 3) := by decide +kernel
theorem dX11_began_16 : decode cX11_began 16 = .ok (.aload_n 0, 1) := by decide +kernel
theorem dX11_began_17 : decode cX11_began 17 = .ok (.getfield 10, 3) := by decide +kernel
theorem dX11_began_20 : decode cX11_began 20 = .ok (.invokevirtual 233, 3) := by decide +kernel
theorem dX11_began_23 : decode cX11_began 23 = .ok (.iload_n 1, 1) := by decide +kernel
theorem dX11_began_24 : decode cX11_began 24 = .ok (.iconst (-1), 1) := by decide +kernel
theorem dX11_began_25 : decode cX11_began 25 = .ok (.if_icmp .ne 11, 3) := by decide +kernel
theorem dX11_began_28 : decode cX11_began 28 = .ok (.aload_n 0, 1) := by decide +kernel
theorem dX11_began_29 : decode cX11_began 29 = .ok (.getfield 50, 3) := by decide +kernel
theorem dX11_began_32 : decode cX11_began 32 = .ok (.getfield 236, 3) := by decide +kernel
theorem dX11_began_35 : decode cX11_began 35 = .ok (.ireturn, 1) := by decide +kernel
theorem dX11_began_36 : decode cX11_began 36 = .ok (.iload_n 1, 1) := by decide +kernel
theorem dX11_began_37 : decode cX11_began 37 = .ok (.aload_n 0, 1) := by decide +kernel
theorem dX11_began_38 : decode cX11_began 38 = .ok (.getfield 50, 3) := by decide +kernel
theorem dX11_began_41 : decode cX11_began 41 = .ok (.getfield 236, 3) := by decide +kernel
theorem dX11_began_44 : decode cX11_began 44 = .ok (.if_icmp .ge 17, 3) := by decide +kernel
theorem dX11_began_47 : decode cX11_began 47 = .ok (.aload_n 0, 1) := by decide +kernel
theorem dX11_began_48 : decode cX11_began 48 = .ok (.getfield 50, 3) := by decide +kernel
theorem dX11_began_51 : decode cX11_began 51 = .ok (.getfield 237, 3) := by decide +kernel
theorem dX11_began_54 : decode cX11_began 54 = .ok (.iload_n 1, 1) := by decide +kernel
theorem dX11_began_55 : decode cX11_began 55 = .ok (.invokestatic 168, 3) := by decide +kernel
theorem dX11_began_58 : decode cX11_began 58 = .ok (.goto 5, 3) := by decide +kernel
theorem dX11_began_61 : decode cX11_began 61 = .ok (.bipush (-5), 2) := by decide +kernel
theorem dX11_began_63 : decode cX11_began 63 = .ok (.ireturn, 1) := by decide +kernel
theorem dX11_tell_0 : decode cX11_tell 0 = .ok (.aload_n 0, 1) := by decide +kernel
theorem dX11_tell_1 : decode cX11_tell 1 = .ok (.getfield 50, 3) := by decide +kernel
theorem dX11_tell_4 : decode cX11_tell 4 = .ok (.aload_n 0, 1) := by decide +kernel
theorem dX11_tell_5 : decode cX11_tell 5 = .ok (.getfield 10, 3) := by decide +kernel
theorem dX11_tell_8 : decode cX11_tell 8 = .ok (.invokevirtual 233, 3) := by decide +kernel
theorem dX11_tell_11 : decode cX11_tell 11 = .ok (.aload_n 0, 1) := by decide +kernel
theorem dX11_tell_12 : decode cX11_tell 12 = .ok (.getfield 50, 3) := by decide +kernel
theorem dX11_tell_15 : decode cX11_tell 15 = .ok (.getfield 236, 3) := by decide +kernel
theorem dX11_tell_18 : decode cX11_tell 18 = .ok (.iconst 1, 1) := by decide +kernel
theorem dX11_tell_19 : decode cX11_tell 19 = .ok (.if_icmp .ge 5, 3) := by decide +kernel
theorem dX11_tell_22 : decode cX11_tell 22 = .ok (.iconst (-1), 1) := by decide +kernel
theorem dX11_tell_23 : decode cX11_tell 23 = .ok (.ireturn, 1) := by decide +kernel
theorem dX11_tell_24 : decode cX11_tell 24 = .ok (.iconst (-1), 1) := by decide +kernel
theorem dX11_tell_25 : decode cX11_tell 25 = .ok (.istore_n 1, 1) := by decide +kernel
theorem dX11_tell_26 : decode cX11_tell 26 = .ok (.ldc 240, 2) := by decide +kernel
theorem dX11_tell_28 : decode cX11_tell 28 = .ok (.istore_n 2, 1) := by decide +kernel
theorem dX11_tell_29 : decode cX11_tell 29 = .ok (.iconst 1, 1) := by decide +kernel
theorem dX11_tell_30 : decode cX11_tell 30 = .ok (.istore_n 3, 1) := by decide +kernel
theorem dX11_tell_31 : decode cX11_tell 31 = .ok (.iload_n 3, 1) := by decide +kernel
theorem dX11_tell_32 : decode cX11_tell 32 = .ok (.bipush 30, 2) := by decide +kernel
theorem dX11_tell_34 : decode cX11_tell 34 = .ok (.if_icmp .gt 46, 3) := by decide +kernel
theorem dX11_tell_37 : decode cX11_tell 37 = .ok (.aload_n 0, 1) := by decide +kernel
theorem dX11_tell_38 : decode cX11_tell 38 = .ok (.getfield 50, 3) := by decide +kernel
theorem dX11_tell_41 : decode cX11_tell 41 = .ok (.iload_n 3, 1) := by decide +kernel
theorem dX11_tell_42 : decode cX11_tell 42 = .ok (.aload_n 0, 1) := by decide +kernel
theorem dX11_tell_43 : decode cX11_tell 43 = .ok (.getfield 10, 3) := by decide +kernel
theorem dX11_tell_46 : decode cX11_tell 46 = .ok (.aload_n 0, 1) := by decide +kernel
theorem dX11_tell_47 : decode cX11_tell 47 = .ok (.getfield 57, 3) := by decide +kernel
theorem dX11_tell_50 : decode cX11_tell 50 = .ok (.invokevirtual 241, 3) := by decide +kernel
theorem dX11_tell_53 : decode cX11_tell 53 = .ok (.aload_n 0, 1) := by decide +kernel
theorem dX11_tell_54 : decode cX11_tell 54 = .ok (.getfield 57, 3) := by decide +kernel
theorem dX11_tell_57 : decode cX11_tell 57 = .ok (.getfield 245, 3) := by decide +kernel
theorem dX11_tell_60 : decode cX11_tell 60 = .ok (.iload_n 2, 1) := by decide +kernel
theorem dX11_tell_61 : decode cX11_tell 61 = .ok (.if_icmp .ge 13, 3) := by decide +kernel
theorem dX11_tell_64 : decode cX11_tell 64 = .ok (.aload_n 0, 1) := by decide +kernel
theorem dX11_tell_65 : decode cX11_tell 65 = .ok (.getfield 57, 3) := by decide +kernel
theorem dX11_tell_68 : decode cX11_tell 68 = .ok (.getfield 245, 3) := by decide +kernel
theorem dX11_tell_71 : decode cX11_tell 71 = .ok (.istore_n 2, 1) := by decide +kernel
theorem dX11_tell_72 : decode cX11_tell 72 = .ok (.iload_n 3, 1) := by decide +kernel
theorem dX11_tell_73 : decode cX11_tell 73 = .ok (.istore_n 1, 1) := by decide +kernel
theorem dX11_tell_74 : decode cX11_tell 74 = .ok (.iinc 3 1, 3) := by decide +kernel
theorem dX11_tell_77 : decode cX11_tell 77 = .ok (.goto (-46), 3) := by decide +kernel
theorem dX11_tell_80 : decode cX11_tell 80 = .ok (.iload_n 1, 1) := by decide +kernel
theorem dX11_tell_81 : decode cX11_tell 81 = .ok (.ireturn, 1) := by decide +kernel
theorem dX11_note_0 : decode cX11_note 0 = .ok (.aload_n 0, 1) := by decide +kernel
theorem dX11_note_1 : decode cX11_note 1 = .ok (.iload_n 1, 1) := by decide +kernel
theorem dX11_note_2 : decode cX11_note 2 = .ok (.invokevirtual 182, 3) := by decide +kernel
theorem dX11_note_5 : decode cX11_note 5 = .ok (.ifCond .eq 25, 3) := by decide +kernel
theorem dX11_note_8 : decode cX11_note 8 = .ok (.iload_n 2, 1) := by decide +kernel
theorem dX11_note_9 : decode cX11_note 9 = .ok (.invokestatic 162, 3) := by decide +kernel
theorem dX11_note_12 : decode cX11_note 12 = .ok (.ifCond .eq 18, 3) := by decide +kernel
theorem dX11_note_15 : decode cX11_note 15 = .ok (.iload_n 3, 1) := by decide +kernel
theorem dX11_note_16 : decode cX11_note 16 = .ok (.invokestatic 162, 3) := by decide +kernel
theorem dX11_note_19 : decode cX11_note 19 = .ok (.ifCond .eq 11, 3) := by decide +kernel
theorem dX11_note_22 : decode cX11_note 22 = .ok (.iload 4, 2) := by decide +kernel
theorem dX11_note_24 : decode cX11_note 24 = .ok (.invokestatic 162, 3) := by decide +kernel
theorem dX11_note_27 : decode cX11_note 27 = .ok (.ifCond .ne 10, 3) := by decide +kernel
theorem dX11_note_30 : decode cX11_note 30 = .ok (.aload_n 0, 1) := by decide +kernel
theorem dX11_note_31 : decode cX11_note 31 = .ok (.bipush (-2), 2) := by decide +kernel
theorem dX11_note_33 : decode cX11_note 33 = .ok (.invokevirtual 86, 3) := by decide +kernel
theorem dX11_note_36 : decode cX11_note 36 = .ok (.ireturn, 1) := by decide +kernel
theorem dX11_note_37 : decode cX11_note 37 = .ok (.aload_n 0, 1) := by decide +kernel
theorem dX11_note_38 : decode cX11_note 38 = .ok (.getfield 10, 3) := by decide +kernel
theorem dX11_note_41 : decode cX11_note 41 = .ok (.getfield 248, 3) := by decide +kernel
theorem dX11_note_44 : decode cX11_note 44 = .ok (.invokevirtual 227, 3) := by decide +kernel
theorem dX11_note_47 : decode cX11_note 47 = .ok (.ifCond .eq 10, 3) := by decide +kernel
theorem dX11_note_50 : decode cX11_note 50 = .ok (.aload_n 0, 1) := by decide +kernel
theorem dX11_note_51 : decode cX11_note 51 = .ok (.invokevirtual 110, 3) := by decide +kernel
theorem dX11_note_54 : decode cX11_note 54 = .ok (.goto 18, 3) := by decide +kernel
theorem dX11_note_57 : decode cX11_note 57 = .ok (.aload_n 0, 1) := by decide +kernel
theorem dX11_note_58 : decode cX11_note 58 = .ok (.getfield 10, 3) := by decide +kernel
theorem dX11_note_61 : decode cX11_note 61 = .ok (.getfield 248, 3) := by decide +kernel
theorem dX11_note_64 : decode cX11_note 64 = .ok (.iload_n 1, 1) := by decide +kernel
theorem dX11_note_65 : decode cX11_note 65 = .ok (.iload_n 2, 1) := by decide +kernel
theorem dX11_note_66 : decode cX11_note 66 = .ok (.iload_n 3, 1) := by decide +kernel
theorem dX11_note_67 : decode cX11_note 67 = .ok (.iload 4, 2) := by decide +kernel
theorem dX11_note_69 : decode cX11_note 69 = .ok (.invokevirtual 230, 3) := by decide +kernel
theorem dX11_note_72 : decode cX11_note 72 = .ok (.ireturn, 1) := by decide +kernel
theorem dX11_mark_0 : decode cX11_mark 0 = .ok (.iload_n 1, 1) := by decide +kernel
theorem dX11_mark_1 : decode cX11_mark 1 = .ok (.invokestatic 83, 3) := by decide +kernel
theorem dX11_mark_4 : decode cX11_mark 4 = .ok (.ifCond .eq 23, 3) := by decide +kernel
theorem dX11_mark_7 : decode cX11_mark 7 = .ok (.iload_n 2, 1) := by decide +kernel
theorem dX11_mark_8 : decode cX11_mark 8 = .ok (.iconst 0, 1) := by decide +kernel
theorem dX11_mark_9 : decode cX11_mark 9 = .ok (.bipush 99, 2) := by decide +kernel
theorem dX11_mark_11 : decode cX11_mark 11 = .ok (.invokestatic 75, 3) := by decide +kernel
theorem dX11_mark_14 : decode cX11_mark 14 = .ok (.ifCond .eq 13, 3) := by decide +kernel
theorem dX11_mark_17 : decode cX11_mark 17 = .ok (.iload_n 3, 1) := by decide +kernel
theorem dX11_mark_18 : decode cX11_mark 18 = .ok (.iconst 0, 1) := by decide +kernel
theorem dX11_mark_19 : decode cX11_mark 19 = .ok (.bipush 30, 2) := by decide +kernel
theorem dX11_mark_21 : decode cX11_mark 21 = .ok (.invokestatic 75, 3) := by decide +kernel
theorem dX11_mark_24 : decode cX11_mark 24 = .ok (.ifCond .ne 10, 3) := by decide +kernel
theorem dX11_mark_27 : decode cX11_mark 27 = .ok (.aload_n 0, 1) := by decide +kernel
theorem dX11_mark_28 : decode cX11_mark 28 = .ok (.bipush (-2), 2) := by decide +kernel
theorem dX11_mark_30 : decode cX11_mark 30 = .ok (.invokevirtual 86, 3) := by decide +kernel
theorem dX11_mark_33 : decode cX11_mark 33 = .ok (.ireturn, 1) := by decide +kernel
theorem dX11_mark_34 : decode cX11_mark 34 = .ok (.aload_n 0, 1) := by decide +kernel
theorem dX11_mark_35 : decode cX11_mark 35 = .ok (.getfield 10, 3) := by decide +kernel
theorem dX11_mark_38 : decode cX11_mark 38 = .ok (.getfield 251, 3) := by decide +kernel
theorem dX11_mark_41 : decode cX11_mark 41 = .ok (.invokevirtual 227, 3) := by decide +kernel
theorem dX11_mark_44 : decode cX11_mark 44 = .ok (.ifCond .eq 10, 3) := by decide +kernel
theorem dX11_mark_47 : decode cX11_mark 47 = .ok (.aload_n 0, 1) := by decide +kernel
theorem dX11_mark_48 : decode cX11_mark 48 = .ok (.invokevirtual 110, 3) := by decide +kernel
theorem dX11_mark_51 : decode cX11_mark 51 = .ok (.goto 17, 3) := by decide +kernel
theorem dX11_mark_54 : decode cX11_mark 54 = .ok (.aload_n 0, 1) := by decide +kernel
theorem dX11_mark_55 : decode cX11_mark 55 = .ok (.getfield 10, 3) := by decide +kernel
theorem dX11_mark_58 : decode cX11_mark 58 = .ok (.getfield 251, 3) := by decide +kernel
theorem dX11_mark_61 : decode cX11_mark 61 = .ok (.iload_n 1, 1) := by decide +kernel
theorem dX11_mark_62 : decode cX11_mark 62 = .ok (.iload_n 2, 1) := by decide +kernel
theorem dX11_mark_63 : decode cX11_mark 63 = .ok (.iload_n 3, 1) := by decide +kernel
theorem dX11_mark_64 : decode cX11_mark 64 = .ok (.iconst 0, 1) := by decide +kernel
theorem dX11_mark_65 : decode cX11_mark 65 = .ok (.invokevirtual 230, 3) := by decide +kernel
theorem dX11_mark_68 : decode cX11_mark 68 = .ok (.ireturn, 1) := by decide +kernel
theorem dX11_forget_0 : decode cX11_forget 0 = .ok (.iload_n 1, 1) := by decide +kernel
theorem dX11_forget_1 : decode cX11_forget 1 = .ok (.tableswitch 60 0 2 #[27, 38, 49], 27) := by decide +kernel
theorem dX11_forget_28 : decode cX11_forget 28 = .ok (.aload_n 0, 1) := by decide +kernel
theorem dX11_forget_29 : decode cX11_forget 29 = .ok (.getfield 10, 3) := by decide +kernel
theorem dX11_forget_32 : decode cX11_forget 32 = .ok (.getfield 223, 3) := by decide +kernel
theorem dX11_forget_35 : decode cX11_forget 35 = .ok (.invokevirtual 254, 3) := by decide +kernel
theorem dX11_forget_38 : decode cX11_forget 38 = .ok (.ireturn, 1) := by decide +kernel
theorem dX11_forget_39 : decode cX11_forget 39 = .ok (.aload_n 0, 1) := by decide +kernel
theorem dX11_forget_40 : decode cX11_forget 40 = .ok (.getfield 10, 3) := by decide +kernel
theorem dX11_forget_43 : decode cX11_forget 43 = .ok (.getfield 248, 3) := by decide +kernel
theorem dX11_forget_46 : decode cX11_forget 46 = .ok (.invokevirtual 254, 3) := by decide +kernel
theorem dX11_forget_49 : decode cX11_forget 49 = .ok (.ireturn, 1) := by decide +kernel
theorem dX11_forget_50 : decode cX11_forget 50 = .ok (.aload_n 0, 1) := by decide +kernel
theorem dX11_forget_51 : decode cX11_forget 51 = .ok (.getfield 10, 3) := by decide +kernel
theorem dX11_forget_54 : decode cX11_forget 54 = .ok (.getfield 251, 3) := by decide +kernel
theorem dX11_forget_57 : decode cX11_forget 57 = .ok (.invokevirtual 254, 3) := by decide +kernel
theorem dX11_forget_60 : decode cX11_forget 60 = .ok (.ireturn, 1) := by decide +kernel
theorem dX11_forget_61 : decode cX11_forget 61 = .ok (.aload_n 0, 1) := by decide +kernel
theorem dX11_forget_62 : decode cX11_forget 62 = .ok (.bipush (-2), 2) := by decide +kernel
theorem dX11_forget_64 : decode cX11_forget 64 = .ok (.invokevirtual 86, 3) := by decide +kernel
theorem dX11_forget_67 : decode cX11_forget 67 = .ok (.ireturn, 1) := by decide +kernel
theorem dX11_is_0 : decode cX11_is 0 = .ok (.aload_n 0, 1) := by decide +kernel
theorem dX11_is_1 : decode cX11_is 1 = .ok (.iload_n 1, 1) := by decide +kernel
theorem dX11_is_2 : decode cX11_is 2 = .ok (.invokevirtual 182, 3) := by decide +kernel
theorem dX11_is_5 : decode cX11_is 5 = .ok (.ifCond .eq 11, 3) := by decide +kernel
theorem dX11_is_8 : decode cX11_is 8 = .ok (.aload_n 0, 1) := by decide +kernel
theorem dX11_is_9 : decode cX11_is 9 = .ok (.iload_n 1, 1) := by decide +kernel
theorem dX11_is_10 : decode cX11_is 10 = .ok (.invokevirtual 255, 3) := by decide +kernel
theorem dX11_is_13 : decode cX11_is 13 = .ok (.goto 9, 3) := by decide +kernel
theorem dX11_is_16 : decode cX11_is 16 = .ok (.aload_n 0, 1) := by decide +kernel
theorem dX11_is_17 : decode cX11_is 17 = .ok (.bipush (-2), 2) := by decide +kernel
theorem dX11_is_19 : decode cX11_is 19 = .ok (.invokevirtual 86, 3) := by decide +kernel
theorem dX11_is_22 : decode cX11_is 22 = .ok (.ireturn, 1) := by decide +kernel
theorem dX11_look_0 : decode cX11_look 0 = .ok (.aload_n 0, 1) := by decide +kernel
theorem dX11_look_1 : decode cX11_look 1 = .ok (.iload_n 1, 1) := by decide +kernel
theorem dX11_look_2 : decode cX11_look 2 = .ok (.invokevirtual 182, 3) := by decide +kernel
theorem dX11_look_5 : decode cX11_look 5 = .ok (.ifCond .ne 10, 3) := by decide +kernel
theorem dX11_look_8 : decode cX11_look 8 = .ok (.aload_n 0, 1) := by decide +kernel
theorem dX11_look_9 : decode cX11_look 9 = .ok (.bipush (-2), 2) := by decide +kernel
theorem dX11_look_11 : decode cX11_look 11 = .ok (.invokevirtual 86, 3) := by decide +kernel
theorem dX11_look_14 : decode cX11_look 14 = .ok (.ireturn, 1) := by decide +kernel
theorem dX11_look_15 : decode cX11_look 15 = .ok (.aload_n 0, 1) := by decide +kernel
theorem dX11_look_16 : decode cX11_look 16 = .ok (.iload_n 1, 1) := by decide +kernel
theorem dX11_look_17 : decode cX11_look 17 = .ok (.invokevirtual 255, 3) := by decide +kernel
theorem dX11_look_20 : decode cX11_look 20 = .ok (.istore_n 2, 1) := by decide +kernel
theorem dX11_look_21 : decode cX11_look 21 = .ok (.iload_n 2, 1) := by decide +kernel
theorem dX11_look_22 : decode cX11_look 22 = .ok (.ifCond .ne 7, 3) := by decide +kernel
theorem dX11_look_25 : decode cX11_look 25 = .ok (.iconst (-1), 1) := by decide +kernel
theorem dX11_look_26 : decode cX11_look 26 = .ok (.goto 8, 3) := by decide +kernel
theorem dX11_look_29 : decode cX11_look 29 = .ok (.aload_n 0, 1) := by decide +kernel
theorem dX11_look_30 : decode cX11_look 30 = .ok (.iload_n 2, 1) := by decide +kernel
theorem dX11_look_31 : decode cX11_look 31 = .ok (.invokevirtual 258, 3) := by decide +kernel
theorem dX11_look_34 : decode cX11_look 34 = .ok (.ireturn, 1) := by decide +kernel
theorem dX11_kinds_0 : decode cX11_kinds 0 = .ok (.aload_n 0, 1) := by decide +kernel
theorem dX11_kinds_1 : decode cX11_kinds 1 = .ok (.invokevirtual 261, 3) := by decide +kernel
theorem dX11_kinds_4 : decode cX11_kinds 4 = .ok (.ireturn, 1) := by decide +kernel
theorem dX11_ask_0 : decode cX11_ask 0 = .ok (.aload_n 0, 1) := by decide +kernel
theorem dX11_ask_1 : decode cX11_ask 1 = .ok (.invokevirtual 261, 3) := by decide +kernel
theorem dX11_ask_4 : decode cX11_ask 4 = .ok (.istore_n 1, 1) := by decide +kernel
theorem dX11_ask_5 : decode cX11_ask 5 = .ok (.iload_n 1, 1) := by decide +kernel
theorem dX11_ask_6 : decode cX11_ask 6 = .ok (.ifCond .ne 7, 3) := by decide +kernel
theorem dX11_ask_9 : decode cX11_ask 9 = .ok (.iconst (-1), 1) := by decide +kernel
theorem dX11_ask_10 : decode cX11_ask 10 = .ok (.goto 8, 3) := by decide +kernel
theorem dX11_ask_13 : decode cX11_ask 13 = .ok (.aload_n 0, 1) := by decide +kernel
theorem dX11_ask_14 : decode cX11_ask 14 = .ok (.iload_n 1, 1) := by decide +kernel
theorem dX11_ask_15 : decode cX11_ask 15 = .ok (.invokevirtual 264, 3) := by decide +kernel
theorem dX11_ask_18 : decode cX11_ask 18 = .ok (.ireturn, 1) := by decide +kernel
theorem dX11_hands_0 : decode cX11_hands 0 = .ok (.aload_n 0, 1) := by decide +kernel
theorem dX11_hands_1 : decode cX11_hands 1 = .ok (.iload_n 1, 1) := by decide +kernel
theorem dX11_hands_2 : decode cX11_hands 2 = .ok (.invokevirtual 182, 3) := by decide +kernel
theorem dX11_hands_5 : decode cX11_hands 5 = .ok (.ifCond .eq 21, 3) := by decide +kernel
theorem dX11_hands_8 : decode cX11_hands 8 = .ok (.aload_n 0, 1) := by decide +kernel
theorem dX11_hands_9 : decode cX11_hands 9 = .ok (.iload_n 2, 1) := by decide +kernel
theorem dX11_hands_10 : decode cX11_hands 10 = .ok (.invokevirtual 182, 3) := by decide +kernel
theorem dX11_hands_13 : decode cX11_hands 13 = .ok (.ifCond .eq 13, 3) := by decide +kernel
theorem dX11_hands_16 : decode cX11_hands 16 = .ok (.iload_n 1, 1) := by decide +kernel
theorem dX11_hands_17 : decode cX11_hands 17 = .ok (.iload_n 2, 1) := by decide +kernel
theorem dX11_hands_18 : decode cX11_hands 18 = .ok (.if_icmp .eq 8, 3) := by decide +kernel
theorem dX11_hands_21 : decode cX11_hands 21 = .ok (.iload_n 3, 1) := by decide +kernel
theorem dX11_hands_22 : decode cX11_hands 22 = .ok (.iconst (-1), 1) := by decide +kernel
theorem dX11_hands_23 : decode cX11_hands 23 = .ok (.if_icmp .ge 10, 3) := by decide +kernel
theorem dX11_hands_26 : decode cX11_hands 26 = .ok (.aload_n 0, 1) := by decide +kernel
theorem dX11_hands_27 : decode cX11_hands 27 = .ok (.bipush (-10), 2) := by decide +kernel
theorem dX11_hands_29 : decode cX11_hands 29 = .ok (.invokevirtual 86, 3) := by decide +kernel
theorem dX11_hands_32 : decode cX11_hands 32 = .ok (.ireturn, 1) := by decide +kernel
theorem dX11_hands_33 : decode cX11_hands 33 = .ok (.aload_n 0, 1) := by decide +kernel
theorem dX11_hands_34 : decode cX11_hands 34 = .ok (.iload_n 1, 1) := by decide +kernel
theorem dX11_hands_35 : decode cX11_hands 35 = .ok (.iload_n 2, 1) := by decide +kernel
theorem dX11_hands_36 : decode cX11_hands 36 = .ok (.invokevirtual 267, 3) := by decide +kernel
theorem dX11_hands_39 : decode cX11_hands 39 = .ok (.iconst 0, 1) := by decide +kernel
theorem dX11_hands_40 : decode cX11_hands 40 = .ok (.istore 4, 2) := by decide +kernel
theorem dX11_hands_42 : decode cX11_hands 42 = .ok (.iconst 0, 1) := by decide +kernel
theorem dX11_hands_43 : decode cX11_hands 43 = .ok (.istore 5, 2) := by decide +kernel
theorem dX11_hands_45 : decode cX11_hands 45 = .ok (.iload 5, 2) := by decide +kernel
theorem dX11_hands_47 : decode cX11_hands 47 = .ok (.iconst 4, 1) := by decide +kernel
theorem dX11_hands_48 : decode cX11_hands 48 = .ok (.if_icmp .ge 53, 3) := by decide +kernel
theorem dX11_hands_51 : decode cX11_hands 51 = .ok (.iconst 0, 1) := by decide +kernel
theorem dX11_hands_52 : decode cX11_hands 52 = .ok (.istore 6, 2) := by decide +kernel
theorem dX11_hands_54 : decode cX11_hands 54 = .ok (.iload 6, 2) := by decide +kernel
theorem dX11_hands_56 : decode cX11_hands 56 = .ok (.iconst 4, 1) := by decide +kernel
theorem dX11_hands_57 : decode cX11_hands 57 = .ok (.if_icmp .ge 38, 3) := by decide +kernel
theorem dX11_hands_60 : decode cX11_hands 60 = .ok (.aload_n 0, 1) := by decide +kernel
theorem dX11_hands_61 : decode cX11_hands 61 = .ok (.iload 5, 2) := by decide +kernel
theorem dX11_hands_63 : decode cX11_hands 63 = .ok (.iload 6, 2) := by decide +kernel
theorem dX11_hands_65 : decode cX11_hands 65 = .ok (.invokevirtual 270, 3) := by decide +kernel
theorem dX11_hands_68 : decode cX11_hands 68 = .ok (.ifCond .eq 21, 3) := by decide +kernel
theorem dX11_hands_71 : decode cX11_hands 71 = .ok (.iload 4, 2) := by decide +kernel
theorem dX11_hands_73 : decode cX11_hands 73 = .ok (.iload_n 3, 1) := by decide +kernel
theorem dX11_hands_74 : decode cX11_hands 74 = .ok (.if_icmp .ne 12, 3) := by decide +kernel
theorem dX11_hands_77 : decode cX11_hands 77 = .ok (.bipush 10, 2) := by decide +kernel
theorem dX11_hands_79 : decode cX11_hands 79 = .ok (.iload 5, 2) := by decide +kernel
theorem dX11_hands_81 : decode cX11_hands 81 = .ok (.imul, 1) := by decide +kernel
theorem dX11_hands_82 : decode cX11_hands 82 = .ok (.iload 6, 2) := by decide +kernel
theorem dX11_hands_84 : decode cX11_hands 84 = .ok (.iadd, 1) := by decide +kernel
theorem dX11_hands_85 : decode cX11_hands 85 = .ok (.ireturn, 1) := by decide +kernel
theorem dX11_hands_86 : decode cX11_hands 86 = .ok (.iinc 4 1, 3) := by decide +kernel
theorem dX11_hands_89 : decode cX11_hands 89 = .ok (.iinc 6 1, 3) := by decide +kernel
theorem dX11_hands_92 : decode cX11_hands 92 = .ok (.goto (-38), 3) := by decide +kernel
theorem dX11_hands_95 : decode cX11_hands 95 = .ok (.iinc 5 1, 3) := by decide +kernel
theorem dX11_hands_98 : decode cX11_hands 98 = .ok (.goto (-53), 3) := by decide +kernel
theorem dX11_hands_101 : decode cX11_hands 101 = .ok (.iload_n 3, 1) := by decide +kernel
theorem dX11_hands_102 : decode cX11_hands 102 = .ok (.iconst (-1), 1) := by decide +kernel
theorem dX11_hands_103 : decode cX11_hands 103 = .ok (.if_icmp .ne 8, 3) := by decide +kernel
theorem dX11_hands_106 : decode cX11_hands 106 = .ok (.iload 4, 2) := by decide +kernel
theorem dX11_hands_108 : decode cX11_hands 108 = .ok (.goto 5, 3) := by decide +kernel
theorem dX11_hands_111 : decode cX11_hands 111 = .ok (.bipush (-5), 2) := by decide +kernel
theorem dX11_hands_113 : decode cX11_hands 113 = .ok (.ireturn, 1) := by decide +kernel
theorem dX11_smear_0 : decode cX11_smear 0 = .ok (.aload_n 0, 1) := by decide +kernel
theorem dX11_smear_1 : decode cX11_smear 1 = .ok (.iload_n 1, 1) := by decide +kernel
theorem dX11_smear_2 : decode cX11_smear 2 = .ok (.invokevirtual 182, 3) := by decide +kernel
theorem dX11_smear_5 : decode cX11_smear 5 = .ok (.ifCond .eq 31, 3) := by decide +kernel
theorem dX11_smear_8 : decode cX11_smear 8 = .ok (.iload_n 2, 1) := by decide +kernel
theorem dX11_smear_9 : decode cX11_smear 9 = .ok (.invokestatic 162, 3) := by decide +kernel
theorem dX11_smear_12 : decode cX11_smear 12 = .ok (.ifCond .eq 24, 3) := by decide +kernel
theorem dX11_smear_15 : decode cX11_smear 15 = .ok (.iload_n 3, 1) := by decide +kernel
theorem dX11_smear_16 : decode cX11_smear 16 = .ok (.iconst 0, 1) := by decide +kernel
theorem dX11_smear_17 : decode cX11_smear 17 = .ok (.bipush 6, 2) := by decide +kernel
theorem dX11_smear_19 : decode cX11_smear 19 = .ok (.invokestatic 75, 3) := by decide +kernel
theorem dX11_smear_22 : decode cX11_smear 22 = .ok (.ifCond .eq 14, 3) := by decide +kernel
theorem dX11_smear_25 : decode cX11_smear 25 = .ok (.iload 4, 2) := by decide +kernel
theorem dX11_smear_27 : decode cX11_smear 27 = .ok (.iconst 0, 1) := by decide +kernel
theorem dX11_smear_28 : decode cX11_smear 28 = .ok (.bipush 10, 2) := by decide +kernel
theorem dX11_smear_30 : decode cX11_smear 30 = .ok (.invokestatic 75, 3) := by decide +kernel
theorem dX11_smear_33 : decode cX11_smear 33 = .ok (.ifCond .ne 10, 3) := by decide +kernel
theorem dX11_smear_36 : decode cX11_smear 36 = .ok (.aload_n 0, 1) := by decide +kernel
theorem dX11_smear_37 : decode cX11_smear 37 = .ok (.bipush (-2), 2) := by decide +kernel
theorem dX11_smear_39 : decode cX11_smear 39 = .ok (.invokevirtual 86, 3) := by decide +kernel
theorem dX11_smear_42 : decode cX11_smear 42 = .ok (.ireturn, 1) := by decide +kernel
theorem dX11_smear_43 : decode cX11_smear 43 = .ok (.aload_n 0, 1) := by decide +kernel
theorem dX11_smear_44 : decode cX11_smear 44 = .ok (.aload_n 0, 1) := by decide +kernel
theorem dX11_smear_45 : decode cX11_smear 45 = .ok (.getfield 10, 3) := by decide +kernel
theorem dX11_smear_48 : decode cX11_smear 48 = .ok (.getfield 137, 3) := by decide +kernel
theorem dX11_smear_51 : decode cX11_smear 51 = .ok (.getfield 153, 3) := by decide +kernel
theorem dX11_smear_54 : decode cX11_smear 54 = .ok (.invokevirtual 198, 3) := by decide +kernel
theorem dX11_smear_57 : decode cX11_smear 57 = .ok (.aload_n 0, 1) := by decide +kernel
theorem dX11_smear_58 : decode cX11_smear 58 = .ok (.getfield 64, 3) := by decide +kernel
theorem dX11_smear_61 : decode cX11_smear 61 = .ok (.aload_n 0, 1) := by decide +kernel
theorem dX11_smear_62 : decode cX11_smear 62 = .ok (.getfield 10, 3) := by decide +kernel
theorem dX11_smear_65 : decode cX11_smear 65 = .ok (.getfield 137, 3) := by decide +kernel
theorem dX11_smear_68 : decode cX11_smear 68 = .ok (.getfield 188, 3) := by decide +kernel
theorem dX11_smear_71 : decode cX11_smear 71 = .ok (.iload_n 1, 1) := by decide +kernel
theorem dX11_smear_72 : decode cX11_smear 72 = .ok (.invokestatic 168, 3) := by decide +kernel
theorem dX11_smear_75 : decode cX11_smear 75 = .ok (.invokevirtual 273, 3) := by decide +kernel
theorem dX11_smear_78 : decode cX11_smear 78 = .ok (.lconst 1, 1) := by decide +kernel
theorem dX11_smear_79 : decode cX11_smear 79 = .ok (.lstore 5, 2) := by decide +kernel
theorem dX11_smear_81 : decode cX11_smear 81 = .ok (.iconst 0, 1) := by decide +kernel
theorem dX11_smear_82 : decode cX11_smear 82 = .ok (.istore 7, 2) := by decide +kernel
theorem dX11_smear_84 : decode cX11_smear 84 = .ok (.iload 7, 2) := by decide +kernel
theorem dX11_smear_86 : decode cX11_smear 86 = .ok (.iload_n 3, 1) := by decide +kernel
theorem dX11_smear_87 : decode cX11_smear 87 = .ok (.if_icmp .ge 59, 3) := by decide +kernel
theorem dX11_smear_90 : decode cX11_smear 90 = .ok (.aload_n 0, 1) := by decide +kernel
theorem dX11_smear_91 : decode cX11_smear 91 = .ok (.getfield 10, 3) := by decide +kernel
theorem dX11_smear_94 : decode cX11_smear 94 = .ok (.aload_n 0, 1) := by decide +kernel
theorem dX11_smear_95 : decode cX11_smear 95 = .ok (.getfield 36, 3) := by decide +kernel
theorem dX11_smear_98 : decode cX11_smear 98 = .ok (.invokevirtual 201, 3) := by decide +kernel
theorem dX11_smear_101 : decode cX11_smear 101 = .ok (.aload_n 0, 1) := by decide +kernel
theorem dX11_smear_102 : decode cX11_smear 102 = .ok (.getfield 64, 3) := by decide +kernel
theorem dX11_smear_105 : decode cX11_smear 105 = .ok (.aload_n 0, 1) := by decide +kernel
theorem dX11_smear_106 : decode cX11_smear 106 = .ok (.getfield 10, 3) := by decide +kernel
theorem dX11_smear_109 : decode cX11_smear 109 = .ok (.getfield 185, 3) := by decide +kernel
theorem dX11_smear_112 : decode cX11_smear 112 = .ok (.iload_n 1, 1) := by decide +kernel
theorem dX11_smear_113 : decode cX11_smear 113 = .ok (.invokestatic 168, 3) := by decide +kernel
theorem dX11_smear_116 : decode cX11_smear 116 = .ok (.aload_n 0, 1) := by decide +kernel
theorem dX11_smear_117 : decode cX11_smear 117 = .ok (.getfield 10, 3) := by decide +kernel
theorem dX11_smear_120 : decode cX11_smear 120 = .ok (.aload_n 0, 1) := by decide +kernel
theorem dX11_smear_121 : decode cX11_smear 121 = .ok (.getfield 36, 3) := by decide +kernel
theorem dX11_smear_124 : decode cX11_smear 124 = .ok (.invokevirtual 275, 3) := by decide +kernel
theorem dX11_smear_127 : decode cX11_smear 127 = .ok (.iload 4, 2) := by decide +kernel
theorem dX11_smear_129 : decode cX11_smear 129 = .ok (.invokevirtual 279, 3) := by decide +kernel
theorem dX11_smear_132 : decode cX11_smear 132 = .ok (.lload 5, 2) := by decide +kernel
theorem dX11_smear_134 : decode cX11_smear 134 = .ok (.ldc2_w 281, 3) := by decide +kernel
theorem dX11_smear_137 : decode cX11_smear 137 = .ok (.lmul, 1) := by decide +kernel
theorem dX11_smear_138 : decode cX11_smear 138 = .ok (.lstore 5, 2) := by decide +kernel
theorem dX11_smear_140 : decode cX11_smear 140 = .ok (.iinc 7 1, 3) := by decide +kernel
theorem dX11_smear_143 : decode cX11_smear 143 = .ok (.goto (-59), 3) := by decide +kernel
theorem dX11_smear_146 : decode cX11_smear 146 = .ok (.aload_n 0, 1) := by decide +kernel
theorem dX11_smear_147 : decode cX11_smear 147 = .ok (.aload_n 0, 1) := by decide +kernel
theorem dX11_smear_148 : decode cX11_smear 148 = .ok (.getfield 64, 3) := by decide +kernel
theorem dX11_smear_151 : decode cX11_smear 151 = .ok (.iload_n 2, 1) := by decide +kernel
theorem dX11_smear_152 : decode cX11_smear 152 = .ok (.invokevirtual 283, 3) := by decide +kernel
theorem dX11_smear_155 : decode cX11_smear 155 = .ok (.i2l, 1) := by decide +kernel
theorem dX11_smear_156 : decode cX11_smear 156 = .ok (.lload 5, 2) := by decide +kernel
theorem dX11_smear_158 : decode cX11_smear 158 = .ok (.invokevirtual 286, 3) := by decide +kernel
theorem dX11_smear_161 : decode cX11_smear 161 = .ok (.iconst 1, 1) := by decide +kernel
theorem dX11_smear_162 : decode cX11_smear 162 = .ok (.ireturn, 1) := by decide +kernel
theorem dX11_nights_0 : decode cX11_nights 0 = .ok (.iload_n 1, 1) := by decide +kernel
theorem dX11_nights_1 : decode cX11_nights 1 = .ok (.iconst 0, 1) := by decide +kernel
theorem dX11_nights_2 : decode cX11_nights 2 = .ok (.ldc_w 290, 3) := by decide +kernel
theorem dX11_nights_5 : decode cX11_nights 5 = .ok (.invokestatic 75, 3) := by decide +kernel
theorem dX11_nights_8 : decode cX11_nights 8 = .ok (.ifCond .eq 13, 3) := by decide +kernel
theorem dX11_nights_11 : decode cX11_nights 11 = .ok (.iload_n 2, 1) := by decide +kernel
theorem dX11_nights_12 : decode cX11_nights 12 = .ok (.iconst 0, 1) := by decide +kernel
theorem dX11_nights_13 : decode cX11_nights 13 = .ok (.bipush 60, 2) := by decide +kernel
theorem dX11_nights_15 : decode cX11_nights 15 = .ok (.invokestatic 75, 3) := by decide +kernel
theorem dX11_nights_18 : decode cX11_nights 18 = .ok (.ifCond .ne 10, 3) := by decide +kernel
theorem dX11_nights_21 : decode cX11_nights 21 = .ok (.aload_n 0, 1) := by decide +kernel
theorem dX11_nights_22 : decode cX11_nights 22 = .ok (.bipush (-2), 2) := by decide +kernel
theorem dX11_nights_24 : decode cX11_nights 24 = .ok (.invokevirtual 86, 3) := by decide +kernel
theorem dX11_nights_27 : decode cX11_nights 27 = .ok (.ireturn, 1) := by decide +kernel
theorem dX11_nights_28 : decode cX11_nights 28 = .ok (.aload_n 0, 1) := by decide +kernel
theorem dX11_nights_29 : decode cX11_nights 29 = .ok (.aload_n 0, 1) := by decide +kernel
theorem dX11_nights_30 : decode cX11_nights 30 = .ok (.getfield 10, 3) := by decide +kernel
theorem dX11_nights_33 : decode cX11_nights 33 = .ok (.getfield 137, 3) := by decide +kernel
theorem dX11_nights_36 : decode cX11_nights 36 = .ok (.getfield 153, 3) := by decide +kernel
theorem dX11_nights_39 : decode cX11_nights 39 = .ok (.invokevirtual 198, 3) := by decide +kernel
theorem dX11_nights_42 : decode cX11_nights 42 = .ok (.iload_n 1, 1) := by decide +kernel
theorem dX11_nights_43 : decode cX11_nights 43 = .ok (.i2l, 1) := by decide +kernel
theorem dX11_nights_44 : decode cX11_nights 44 = .ok (.lstore_n 3, 1) := by decide +kernel
theorem dX11_nights_45 : decode cX11_nights 45 = .ok (.iconst 0, 1) := by decide +kernel
theorem dX11_nights_46 : decode cX11_nights 46 = .ok (.istore 5, 2) := by decide +kernel
theorem dX11_nights_48 : decode cX11_nights 48 = .ok (.iload 5, 2) := by decide +kernel
theorem dX11_nights_50 : decode cX11_nights 50 = .ok (.iload_n 2, 1) := by decide +kernel
theorem dX11_nights_51 : decode cX11_nights 51 = .ok (.if_icmp .ge 51, 3) := by decide +kernel
theorem dX11_nights_54 : decode cX11_nights 54 = .ok (.lload_n 3, 1) := by decide +kernel
theorem dX11_nights_55 : decode cX11_nights 55 = .ok (.ldc2_w 291, 3) := by decide +kernel
theorem dX11_nights_58 : decode cX11_nights 58 = .ok (.lmul, 1) := by decide +kernel
theorem dX11_nights_59 : decode cX11_nights 59 = .ok (.ldc2_w 293, 3) := by decide +kernel
theorem dX11_nights_62 : decode cX11_nights 62 = .ok (.ladd, 1) := by decide +kernel
theorem dX11_nights_63 : decode cX11_nights 63 = .ok (.ldc2_w 295, 3) := by decide +kernel
theorem dX11_nights_66 : decode cX11_nights 66 = .ok (.lrem, 1) := by decide +kernel
theorem dX11_nights_67 : decode cX11_nights 67 = .ok (.lstore_n 3, 1) := by decide +kernel
theorem dX11_nights_68 : decode cX11_nights 68 = .ok (.aload_n 0, 1) := by decide +kernel
theorem dX11_nights_69 : decode cX11_nights 69 = .ok (.getfield 36, 3) := by decide +kernel
theorem dX11_nights_72 : decode cX11_nights 72 = .ok (.lload_n 3, 1) := by decide +kernel
theorem dX11_nights_73 : decode cX11_nights 73 = .ok (.ldc2_w 297, 3) := by decide +kernel
theorem dX11_nights_76 : decode cX11_nights 76 = .ok (.ldiv, 1) := by decide +kernel
theorem dX11_nights_77 : decode cX11_nights 77 = .ok (.ldc2_w 299, 3) := by decide +kernel
theorem dX11_nights_80 : decode cX11_nights 80 = .ok (.lrem, 1) := by decide +kernel
theorem dX11_nights_81 : decode cX11_nights 81 = .ok (.l2i, 1) := by decide +kernel
theorem dX11_nights_82 : decode cX11_nights 82 = .ok (.putfield 153, 3) := by decide +kernel
theorem dX11_nights_85 : decode cX11_nights 85 = .ok (.aload_n 0, 1) := by decide +kernel
theorem dX11_nights_86 : decode cX11_nights 86 = .ok (.getfield 10, 3) := by decide +kernel
theorem dX11_nights_89 : decode cX11_nights 89 = .ok (.aload_n 0, 1) := by decide +kernel
theorem dX11_nights_90 : decode cX11_nights 90 = .ok (.getfield 36, 3) := by decide +kernel
theorem dX11_nights_93 : decode cX11_nights 93 = .ok (.invokevirtual 201, 3) := by decide +kernel
theorem dX11_nights_96 : decode cX11_nights 96 = .ok (.iinc 5 1, 3) := by decide +kernel
theorem dX11_nights_99 : decode cX11_nights 99 = .ok (.goto (-51), 3) := by decide +kernel
theorem dX11_nights_102 : decode cX11_nights 102 = .ok (.aload_n 0, 1) := by decide +kernel
theorem dX11_nights_103 : decode cX11_nights 103 = .ok (.getfield 10, 3) := by decide +kernel
theorem dX11_nights_106 : decode cX11_nights 106 = .ok (.aload_n 0, 1) := by decide +kernel
theorem dX11_nights_107 : decode cX11_nights 107 = .ok (.getfield 36, 3) := by decide +kernel
theorem dX11_nights_110 : decode cX11_nights 110 = .ok (.invokevirtual 301, 3) := by decide +kernel
theorem dX11_nights_113 : decode cX11_nights 113 = .ok (.ireturn, 1) := by decide +kernel
theorem dX11_part_0 : decode cX11_part 0 = .ok (.iload_n 1, 1) := by decide +kernel
theorem dX11_part_1 : decode cX11_part 1 = .ok (.lookupswitch 37 #[(0, 27), (1, 32)], 27) := by decide +kernel
theorem dX11_part_28 : decode cX11_part 28 = .ok (.aload_n 0, 1) := by decide +kernel
theorem dX11_part_29 : decode cX11_part 29 = .ok (.getfield 304, 3) := by decide +kernel
theorem dX11_part_32 : decode cX11_part 32 = .ok (.lreturn, 1) := by decide +kernel
theorem dX11_part_33 : decode cX11_part 33 = .ok (.aload_n 0, 1) := by decide +kernel
theorem dX11_part_34 : decode cX11_part 34 = .ok (.getfield 29, 3) := by decide +kernel
theorem dX11_part_37 : decode cX11_part 37 = .ok (.lreturn, 1) := by decide +kernel
theorem dX11_part_38 : decode cX11_part 38 = .ok (.aload_n 0, 1) := by decide +kernel
theorem dX11_part_39 : decode cX11_part 39 = .ok (.bipush (-2), 2) := by decide +kernel
theorem dX11_part_41 : decode cX11_part 41 = .ok (.invokevirtual 86, 3) := by decide +kernel
theorem dX11_part_44 : decode cX11_part 44 = .ok (.i2l, 1) := by decide +kernel
theorem dX11_part_45 : decode cX11_part 45 = .ok (.lreturn, 1) := by decide +kernel
theorem dX11_image_0 : decode cX11_image 0 = .ok (.iload_n 1, 1) := by decide +kernel
theorem dX11_image_1 : decode cX11_image 1 = .ok (.iconst 0, 1) := by decide +kernel
theorem dX11_image_2 : decode cX11_image 2 = .ok (.iconst 1, 1) := by decide +kernel
theorem dX11_image_3 : decode cX11_image 3 = .ok (.invokestatic 75, 3) := by decide +kernel
theorem dX11_image_6 : decode cX11_image 6 = .ok (.ifCond .ne 10, 3) := by decide +kernel
theorem dX11_image_9 : decode cX11_image 9 = .ok (.aload_n 0, 1) := by decide +kernel
theorem dX11_image_10 : decode cX11_image 10 = .ok (.bipush (-2), 2) := by decide +kernel
theorem dX11_image_12 : decode cX11_image 12 = .ok (.invokevirtual 86, 3) := by decide +kernel
theorem dX11_image_15 : decode cX11_image 15 = .ok (.ireturn, 1) := by decide +kernel
theorem dX11_image_16 : decode cX11_image 16 = .ok (.iload_n 1, 1) := by decide +kernel
theorem dX11_image_17 : decode cX11_image 17 = .ok (.ifCond .ne 22, 3) := by decide +kernel
theorem dX11_image_20 : decode cX11_image 20 = .ok (.aload_n 0, 1) := by decide +kernel
theorem dX11_image_21 : decode cX11_image 21 = .ok (.getfield 16, 3) := by decide +kernel
theorem dX11_image_24 : decode cX11_image 24 = .ok (.aload_n 0, 1) := by decide +kernel
theorem dX11_image_25 : decode cX11_image 25 = .ok (.getfield 10, 3) := by decide +kernel
theorem dX11_image_28 : decode cX11_image 28 = .ok (.invokevirtual 133, 3) := by decide +kernel
theorem dX11_image_31 : decode cX11_image 31 = .ok (.aload_n 0, 1) := by decide +kernel
theorem dX11_image_32 : decode cX11_image 32 = .ok (.iconst 1, 1) := by decide +kernel
theorem dX11_image_33 : decode cX11_image 33 = .ok (.putfield 307, 3) := by decide +kernel
theorem dX11_image_36 : decode cX11_image 36 = .ok (.goto 19, 3) := by decide +kernel
theorem dX11_image_39 : decode cX11_image 39 = .ok (.aload_n 0, 1) := by decide +kernel
theorem dX11_image_40 : decode cX11_image 40 = .ok (.getfield 19, 3) := by decide +kernel
theorem dX11_image_43 : decode cX11_image 43 = .ok (.aload_n 0, 1) := by decide +kernel
theorem dX11_image_44 : decode cX11_image 44 = .ok (.getfield 10, 3) := by decide +kernel
theorem dX11_image_47 : decode cX11_image 47 = .ok (.invokevirtual 133, 3) := by decide +kernel
theorem dX11_image_50 : decode cX11_image 50 = .ok (.aload_n 0, 1) := by decide +kernel
theorem dX11_image_51 : decode cX11_image 51 = .ok (.iconst 1, 1) := by decide +kernel
theorem dX11_image_52 : decode cX11_image 52 = .ok (.putfield 311, 3) := by decide +kernel
theorem dX11_image_55 : decode cX11_image 55 = .ok (.iconst 1, 1) := by decide +kernel
theorem dX11_image_56 : decode cX11_image 56 = .ok (.ireturn, 1) := by decide +kernel
theorem dX11_from_0 : decode cX11_from 0 = .ok (.iload_n 1, 1) := by decide +kernel
theorem dX11_from_1 : decode cX11_from 1 = .ok (.iconst 0, 1) := by decide +kernel
theorem dX11_from_2 : decode cX11_from 2 = .ok (.iconst 1, 1) := by decide +kernel
theorem dX11_from_3 : decode cX11_from 3 = .ok (.invokestatic 75, 3) := by decide +kernel
theorem dX11_from_6 : decode cX11_from 6 = .ok (.ifCond .ne 10, 3) := by decide +kernel
theorem dX11_from_9 : decode cX11_from 9 = .ok (.aload_n 0, 1) := by decide +kernel
theorem dX11_from_10 : decode cX11_from 10 = .ok (.bipush (-2), 2) := by decide +kernel
theorem dX11_from_12 : decode cX11_from 12 = .ok (.invokevirtual 86, 3) := by decide +kernel
theorem dX11_from_15 : decode cX11_from 15 = .ok (.ireturn, 1) := by decide +kernel
theorem dX11_from_16 : decode cX11_from 16 = .ok (.iload_n 1, 1) := by decide +kernel
theorem dX11_from_17 : decode cX11_from 17 = .ok (.ifCond .ne 10, 3) := by decide +kernel
theorem dX11_from_20 : decode cX11_from 20 = .ok (.aload_n 0, 1) := by decide +kernel
theorem dX11_from_21 : decode cX11_from 21 = .ok (.getfield 307, 3) := by decide +kernel
theorem dX11_from_24 : decode cX11_from 24 = .ok (.goto 7, 3) := by decide +kernel
theorem dX11_from_27 : decode cX11_from 27 = .ok (.aload_n 0, 1) := by decide +kernel
theorem dX11_from_28 : decode cX11_from 28 = .ok (.getfield 311, 3) := by decide +kernel
theorem dX11_from_31 : decode cX11_from 31 = .ok (.istore_n 2, 1) := by decide +kernel
theorem dX11_from_32 : decode cX11_from 32 = .ok (.iload_n 2, 1) := by decide +kernel
theorem dX11_from_33 : decode cX11_from 33 = .ok (.ifCond .ne 8, 3) := by decide +kernel
theorem dX11_from_36 : decode cX11_from 36 = .ok (.aload_n 0, 1) := by decide +kernel
theorem dX11_from_37 : decode cX11_from 37 = .ok (.invokevirtual 156, 3) := by decide +kernel
theorem dX11_from_40 : decode cX11_from 40 = .ok (.ireturn, 1) := by decide +kernel
theorem dX11_from_41 : decode cX11_from 41 = .ok (.aload_n 0, 1) := by decide +kernel
theorem dX11_from_42 : decode cX11_from 42 = .ok (.getfield 10, 3) := by decide +kernel
theorem dX11_from_45 : decode cX11_from 45 = .ok (.iload_n 1, 1) := by decide +kernel
theorem dX11_from_46 : decode cX11_from 46 = .ok (.ifCond .ne 10, 3) := by decide +kernel
theorem dX11_from_49 : decode cX11_from 49 = .ok (.aload_n 0, 1) := by decide +kernel
theorem dX11_from_50 : decode cX11_from 50 = .ok (.getfield 16, 3) := by decide +kernel
theorem dX11_from_53 : decode cX11_from 53 = .ok (.goto 7, 3) := by decide +kernel
theorem dX11_from_56 : decode cX11_from 56 = .ok (.aload_n 0, 1) := by decide +kernel
theorem dX11_from_57 : decode cX11_from 57 = .ok (.getfield 19, 3) := by decide +kernel
theorem dX11_from_60 : decode cX11_from 60 = .ok (.invokevirtual 133, 3) := by decide +kernel
theorem dX11_from_63 : decode cX11_from 63 = .ok (.iconst 1, 1) := by decide +kernel
theorem dX11_from_64 : decode cX11_from 64 = .ok (.ireturn, 1) := by decide +kernel
theorem dX11_status_0 : decode cX11_status 0 = .ok (.iload_n 1, 1) := by decide +kernel
theorem dX11_status_1 : decode cX11_status 1 = .ok (.tableswitch 42 0 2 #[27, 32, 37], 27) := by decide +kernel
theorem dX11_status_28 : decode cX11_status 28 = .ok (.aload_n 0, 1) := by decide +kernel
theorem dX11_status_29 : decode cX11_status 29 = .ok (.getfield 314, 3) := by decide +kernel
theorem dX11_status_32 : decode cX11_status 32 = .ok (.ireturn, 1) := by decide +kernel
theorem dX11_status_33 : decode cX11_status 33 = .ok (.aload_n 0, 1) := by decide +kernel
theorem dX11_status_34 : decode cX11_status 34 = .ok (.getfield 317, 3) := by decide +kernel
theorem dX11_status_37 : decode cX11_status 37 = .ok (.ireturn, 1) := by decide +kernel
theorem dX11_status_38 : decode cX11_status 38 = .ok (.aload_n 0, 1) := by decide +kernel
theorem dX11_status_39 : decode cX11_status 39 = .ok (.getfield 320, 3) := by decide +kernel
theorem dX11_status_42 : decode cX11_status 42 = .ok (.ireturn, 1) := by decide +kernel
theorem dX11_status_43 : decode cX11_status 43 = .ok (.aload_n 0, 1) := by decide +kernel
theorem dX11_status_44 : decode cX11_status 44 = .ok (.iconst (-1), 1) := by decide +kernel
theorem dX11_status_45 : decode cX11_status 45 = .ok (.invokevirtual 86, 3) := by decide +kernel
theorem dX11_status_48 : decode cX11_status 48 = .ok (.ireturn, 1) := by decide +kernel
theorem dX11_count_0 : decode cX11_count 0 = .ok (.iload_n 1, 1) := by decide +kernel
theorem dX11_count_1 : decode cX11_count 1 = .ok (.iconst 0, 1) := by decide +kernel
theorem dX11_count_2 : decode cX11_count 2 = .ok (.bipush 11, 2) := by decide +kernel
theorem dX11_count_4 : decode cX11_count 4 = .ok (.invokestatic 75, 3) := by decide +kernel
theorem dX11_count_7 : decode cX11_count 7 = .ok (.ifCond .eq 11, 3) := by decide +kernel
theorem dX11_count_10 : decode cX11_count 10 = .ok (.aload_n 0, 1) := by decide +kernel
theorem dX11_count_11 : decode cX11_count 11 = .ok (.iload_n 1, 1) := by decide +kernel
theorem dX11_count_12 : decode cX11_count 12 = .ok (.invokevirtual 323, 3) := by decide +kernel
theorem dX11_count_15 : decode cX11_count 15 = .ok (.goto 9, 3) := by decide +kernel
theorem dX11_count_18 : decode cX11_count 18 = .ok (.aload_n 0, 1) := by decide +kernel
theorem dX11_count_19 : decode cX11_count 19 = .ok (.bipush (-2), 2) := by decide +kernel
theorem dX11_count_21 : decode cX11_count 21 = .ok (.invokevirtual 86, 3) := by decide +kernel
theorem dX11_count_24 : decode cX11_count 24 = .ok (.ireturn, 1) := by decide +kernel
theorem dX11_digest_0 : decode cX11_digest 0 = .ok (.ldc2_w 326, 3) := by decide +kernel
theorem dX11_digest_3 : decode cX11_digest 3 = .ok (.lstore_n 1, 1) := by decide +kernel
theorem dX11_digest_4 : decode cX11_digest 4 = .ok (.iconst 0, 1) := by decide +kernel
theorem dX11_digest_5 : decode cX11_digest 5 = .ok (.istore_n 3, 1) := by decide +kernel
theorem dX11_digest_6 : decode cX11_digest 6 = .ok (.iload_n 3, 1) := by decide +kernel
theorem dX11_digest_7 : decode cX11_digest 7 = .ok (.bipush 12, 2) := by decide +kernel
theorem dX11_digest_9 : decode cX11_digest 9 = .ok (.if_icmp .ge 22, 3) := by decide +kernel
theorem dX11_digest_12 : decode cX11_digest 12 = .ok (.ldc2_w 328, 3) := by decide +kernel
theorem dX11_digest_15 : decode cX11_digest 15 = .ok (.lload_n 1, 1) := by decide +kernel
theorem dX11_digest_16 : decode cX11_digest 16 = .ok (.lmul, 1) := by decide +kernel
theorem dX11_digest_17 : decode cX11_digest 17 = .ok (.aload_n 0, 1) := by decide +kernel
theorem dX11_digest_18 : decode cX11_digest 18 = .ok (.iload_n 3, 1) := by decide +kernel
theorem dX11_digest_19 : decode cX11_digest 19 = .ok (.invokevirtual 323, 3) := by decide +kernel
theorem dX11_digest_22 : decode cX11_digest 22 = .ok (.i2l, 1) := by decide +kernel
theorem dX11_digest_23 : decode cX11_digest 23 = .ok (.ladd, 1) := by decide +kernel
theorem dX11_digest_24 : decode cX11_digest 24 = .ok (.lstore_n 1, 1) := by decide +kernel
theorem dX11_digest_25 : decode cX11_digest 25 = .ok (.iinc 3 1, 3) := by decide +kernel
theorem dX11_digest_28 : decode cX11_digest 28 = .ok (.goto (-22), 3) := by decide +kernel
theorem dX11_digest_31 : decode cX11_digest 31 = .ok (.iconst 0, 1) := by decide +kernel
theorem dX11_digest_32 : decode cX11_digest 32 = .ok (.istore_n 3, 1) := by decide +kernel
theorem dX11_digest_33 : decode cX11_digest 33 = .ok (.iload_n 3, 1) := by decide +kernel
theorem dX11_digest_34 : decode cX11_digest 34 = .ok (.aload_n 0, 1) := by decide +kernel
theorem dX11_digest_35 : decode cX11_digest 35 = .ok (.getfield 10, 3) := by decide +kernel
theorem dX11_digest_38 : decode cX11_digest 38 = .ok (.getfield 210, 3) := by decide +kernel
theorem dX11_digest_41 : decode cX11_digest 41 = .ok (.if_icmp .ge 31, 3) := by decide +kernel
theorem dX11_digest_44 : decode cX11_digest 44 = .ok (.ldc2_w 328, 3) := by decide +kernel
theorem dX11_digest_47 : decode cX11_digest 47 = .ok (.lload_n 1, 1) := by decide +kernel
theorem dX11_digest_48 : decode cX11_digest 48 = .ok (.lmul, 1) := by decide +kernel
theorem dX11_digest_49 : decode cX11_digest 49 = .ok (.aload_n 0, 1) := by decide +kernel
theorem dX11_digest_50 : decode cX11_digest 50 = .ok (.getfield 10, 3) := by decide +kernel
theorem dX11_digest_53 : decode cX11_digest 53 = .ok (.getfield 137, 3) := by decide +kernel
theorem dX11_digest_56 : decode cX11_digest 56 = .ok (.getfield 165, 3) := by decide +kernel
theorem dX11_digest_59 : decode cX11_digest 59 = .ok (.iload_n 3, 1) := by decide +kernel
theorem dX11_digest_60 : decode cX11_digest 60 = .ok (.invokestatic 168, 3) := by decide +kernel
theorem dX11_digest_63 : decode cX11_digest 63 = .ok (.i2l, 1) := by decide +kernel
theorem dX11_digest_64 : decode cX11_digest 64 = .ok (.ladd, 1) := by decide +kernel
theorem dX11_digest_65 : decode cX11_digest 65 = .ok (.lstore_n 1, 1) := by decide +kernel
theorem dX11_digest_66 : decode cX11_digest 66 = .ok (.iinc 3 1, 3) := by decide +kernel
theorem dX11_digest_69 : decode cX11_digest 69 = .ok (.goto (-36), 3) := by decide +kernel
theorem dX11_digest_72 : decode cX11_digest 72 = .ok (.iconst 0, 1) := by decide +kernel
theorem dX11_digest_73 : decode cX11_digest 73 = .ok (.istore_n 3, 1) := by decide +kernel
theorem dX11_digest_74 : decode cX11_digest 74 = .ok (.iload_n 3, 1) := by decide +kernel
theorem dX11_digest_75 : decode cX11_digest 75 = .ok (.aload_n 0, 1) := by decide +kernel
theorem dX11_digest_76 : decode cX11_digest 76 = .ok (.getfield 10, 3) := by decide +kernel
theorem dX11_digest_79 : decode cX11_digest 79 = .ok (.getfield 90, 3) := by decide +kernel
theorem dX11_digest_82 : decode cX11_digest 82 = .ok (.if_icmp .ge 72, 3) := by decide +kernel
theorem dX11_digest_85 : decode cX11_digest 85 = .ok (.ldc2_w 328, 3) := by decide +kernel
theorem dX11_digest_88 : decode cX11_digest 88 = .ok (.lload_n 1, 1) := by decide +kernel
theorem dX11_digest_89 : decode cX11_digest 89 = .ok (.lmul, 1) := by decide +kernel
theorem dX11_digest_90 : decode cX11_digest 90 = .ok (.aload_n 0, 1) := by decide +kernel
theorem dX11_digest_91 : decode cX11_digest 91 = .ok (.getfield 10, 3) := by decide +kernel
theorem dX11_digest_94 : decode cX11_digest 94 = .ok (.getfield 185, 3) := by decide +kernel
theorem dX11_digest_97 : decode cX11_digest 97 = .ok (.iload_n 3, 1) := by decide +kernel
theorem dX11_digest_98 : decode cX11_digest 98 = .ok (.invokestatic 168, 3) := by decide +kernel
theorem dX11_digest_101 : decode cX11_digest 101 = .ok (.i2l, 1) := by decide +kernel
theorem dX11_digest_102 : decode cX11_digest 102 = .ok (.ladd, 1) := by decide +kernel
theorem dX11_digest_103 : decode cX11_digest 103 = .ok (.lstore_n 1, 1) := by decide +kernel
theorem dX11_digest_104 : decode cX11_digest 104 = .ok (.ldc2_w 328, 3) := by decide +kernel
theorem dX11_digest_107 : decode cX11_digest 107 = .ok (.lload_n 1, 1) := by decide +kernel
theorem dX11_digest_108 : decode cX11_digest 108 = .ok (.lmul, 1) := by decide +kernel
theorem dX11_digest_109 : decode cX11_digest 109 = .ok (.aload_n 0, 1) := by decide +kernel
theorem dX11_digest_110 : decode cX11_digest 110 = .ok (.getfield 10, 3) := by decide +kernel
theorem dX11_digest_113 : decode cX11_digest 113 = .ok (.getfield 137, 3) := by decide +kernel
theorem dX11_digest_116 : decode cX11_digest 116 = .ok (.getfield 188, 3) := by decide +kernel
theorem dX11_digest_119 : decode cX11_digest 119 = .ok (.iload_n 3, 1) := by decide +kernel
theorem dX11_digest_120 : decode cX11_digest 120 = .ok (.invokestatic 168, 3) := by decide +kernel
theorem dX11_digest_123 : decode cX11_digest 123 = .ok (.i2l, 1) := by decide +kernel
theorem dX11_digest_124 : decode cX11_digest 124 = .ok (.ladd, 1) := by decide +kernel
theorem dX11_digest_125 : decode cX11_digest 125 = .ok (.lstore_n 1, 1) := by decide +kernel
theorem dX11_digest_126 : decode cX11_digest 126 = .ok (.ldc2_w 328, 3) := by decide +kernel
theorem dX11_digest_129 : decode cX11_digest 129 = .ok (.lload_n 1, 1) := by decide +kernel
theorem dX11_digest_130 : decode cX11_digest 130 = .ok (.lmul, 1) := by decide +kernel
theorem dX11_digest_131 : decode cX11_digest 131 = .ok (.aload_n 0, 1) := by decide +kernel
theorem dX11_digest_132 : decode cX11_digest 132 = .ok (.getfield 10, 3) := by decide +kernel
theorem dX11_digest_135 : decode cX11_digest 135 = .ok (.getfield 137, 3) := by decide +kernel
theorem dX11_digest_138 : decode cX11_digest 138 = .ok (.getfield 191, 3) := by decide +kernel
theorem dX11_digest_141 : decode cX11_digest 141 = .ok (.iload_n 3, 1) := by decide +kernel
theorem dX11_digest_142 : decode cX11_digest 142 = .ok (.invokestatic 168, 3) := by decide +kernel
theorem dX11_digest_145 : decode cX11_digest 145 = .ok (.i2l, 1) := by decide +kernel
theorem dX11_digest_146 : decode cX11_digest 146 = .ok (.ladd, 1) := by decide +kernel
theorem dX11_digest_147 : decode cX11_digest 147 = .ok (.lstore_n 1, 1) := by decide +kernel
theorem dX11_digest_148 : decode cX11_digest 148 = .ok (.iinc 3 1, 3) := by decide +kernel
theorem dX11_digest_151 : decode cX11_digest 151 = .ok (.goto (-77), 3) := by decide +kernel
theorem dX11_digest_154 : decode cX11_digest 154 = .ok (.aload_n 0, 1) := by decide +kernel
theorem dX11_digest_155 : decode cX11_digest 155 = .ok (.getfield 10, 3) := by decide +kernel
theorem dX11_digest_158 : decode cX11_digest 158 = .ok (.getfield 223, 3) := by decide +kernel
theorem dX11_digest_161 : decode cX11_digest 161 = .ok (.lload_n 1, 1) := by decide +kernel
theorem dX11_digest_162 : decode cX11_digest 162 = .ok (.invokevirtual 330, 3) := by decide +kernel
theorem dX11_digest_165 : decode cX11_digest 165 = .ok (.lstore_n 1, 1) := by decide +kernel
theorem dX11_digest_166 : decode cX11_digest 166 = .ok (.aload_n 0, 1) := by decide +kernel
theorem dX11_digest_167 : decode cX11_digest 167 = .ok (.getfield 10, 3) := by decide +kernel
theorem dX11_digest_170 : decode cX11_digest 170 = .ok (.getfield 248, 3) := by decide +kernel
theorem dX11_digest_173 : decode cX11_digest 173 = .ok (.lload_n 1, 1) := by decide +kernel
theorem dX11_digest_174 : decode cX11_digest 174 = .ok (.invokevirtual 330, 3) := by decide +kernel
theorem dX11_digest_177 : decode cX11_digest 177 = .ok (.lstore_n 1, 1) := by decide +kernel
theorem dX11_digest_178 : decode cX11_digest 178 = .ok (.aload_n 0, 1) := by decide +kernel
theorem dX11_digest_179 : decode cX11_digest 179 = .ok (.getfield 10, 3) := by decide +kernel
theorem dX11_digest_182 : decode cX11_digest 182 = .ok (.getfield 251, 3) := by decide +kernel
theorem dX11_digest_185 : decode cX11_digest 185 = .ok (.lload_n 1, 1) := by decide +kernel
theorem dX11_digest_186 : decode cX11_digest 186 = .ok (.invokevirtual 330, 3) := by decide +kernel
theorem dX11_digest_189 : decode cX11_digest 189 = .ok (.lstore_n 1, 1) := by decide +kernel
theorem dX11_digest_190 : decode cX11_digest 190 = .ok (.ldc2_w 328, 3) := by decide +kernel
theorem dX11_digest_193 : decode cX11_digest 193 = .ok (.lload_n 1, 1) := by decide +kernel
theorem dX11_digest_194 : decode cX11_digest 194 = .ok (.lmul, 1) := by decide +kernel
theorem dX11_digest_195 : decode cX11_digest 195 = .ok (.aload_n 0, 1) := by decide +kernel
theorem dX11_digest_196 : decode cX11_digest 196 = .ok (.getfield 304, 3) := by decide +kernel
theorem dX11_digest_199 : decode cX11_digest 199 = .ok (.ladd, 1) := by decide +kernel
theorem dX11_digest_200 : decode cX11_digest 200 = .ok (.lstore_n 1, 1) := by decide +kernel
theorem dX11_digest_201 : decode cX11_digest 201 = .ok (.ldc2_w 328, 3) := by decide +kernel
theorem dX11_digest_204 : decode cX11_digest 204 = .ok (.lload_n 1, 1) := by decide +kernel
theorem dX11_digest_205 : decode cX11_digest 205 = .ok (.lmul, 1) := by decide +kernel
theorem dX11_digest_206 : decode cX11_digest 206 = .ok (.aload_n 0, 1) := by decide +kernel
theorem dX11_digest_207 : decode cX11_digest 207 = .ok (.getfield 29, 3) := by decide +kernel
theorem dX11_digest_210 : decode cX11_digest 210 = .ok (.ladd, 1) := by decide +kernel
theorem dX11_digest_211 : decode cX11_digest 211 = .ok (.lreturn, 1) := by decide +kernel
theorem dX11_refuseBad_0 : decode cX11_refuseBad 0 = .ok (.aload_n 0, 1) := by decide +kernel
theorem dX11_refuseBad_1 : decode cX11_refuseBad 1 = .ok (.dup, 1) := by decide +kernel
theorem dX11_refuseBad_2 : decode cX11_refuseBad 2 = .ok (.getfield 314, 3) := by decide +kernel
theorem dX11_refuseBad_5 : decode cX11_refuseBad 5 = .ok (.iconst 1, 1) := by decide +kernel
theorem dX11_refuseBad_6 : decode cX11_refuseBad 6 = .ok (.iadd, 1) := by decide +kernel
theorem dX11_refuseBad_7 : decode cX11_refuseBad 7 = .ok (.putfield 314, 3) := by decide +kernel
theorem dX11_refuseBad_10 : decode cX11_refuseBad 10 = .ok (.iload_n 1, 1) := by decide +kernel
theorem dX11_refuseBad_11 : decode cX11_refuseBad 11 = .ok (.ireturn, 1) := by decide +kernel
theorem dX11_refuseNo_0 : decode cX11_refuseNo 0 = .ok (.aload_n 0, 1) := by decide +kernel
theorem dX11_refuseNo_1 : decode cX11_refuseNo 1 = .ok (.dup, 1) := by decide +kernel
theorem dX11_refuseNo_2 : decode cX11_refuseNo 2 = .ok (.getfield 317, 3) := by decide +kernel
theorem dX11_refuseNo_5 : decode cX11_refuseNo 5 = .ok (.iconst 1, 1) := by decide +kernel
theorem dX11_refuseNo_6 : decode cX11_refuseNo 6 = .ok (.iadd, 1) := by decide +kernel
theorem dX11_refuseNo_7 : decode cX11_refuseNo 7 = .ok (.putfield 317, 3) := by decide +kernel
theorem dX11_refuseNo_10 : decode cX11_refuseNo 10 = .ok (.bipush (-3), 2) := by decide +kernel
theorem dX11_refuseNo_12 : decode cX11_refuseNo 12 = .ok (.ireturn, 1) := by decide +kernel
theorem dX11_refuseFull_0 : decode cX11_refuseFull 0 = .ok (.aload_n 0, 1) := by decide +kernel
theorem dX11_refuseFull_1 : decode cX11_refuseFull 1 = .ok (.dup, 1) := by decide +kernel
theorem dX11_refuseFull_2 : decode cX11_refuseFull 2 = .ok (.getfield 320, 3) := by decide +kernel
theorem dX11_refuseFull_5 : decode cX11_refuseFull 5 = .ok (.iconst 1, 1) := by decide +kernel
theorem dX11_refuseFull_6 : decode cX11_refuseFull 6 = .ok (.iadd, 1) := by decide +kernel
theorem dX11_refuseFull_7 : decode cX11_refuseFull 7 = .ok (.putfield 320, 3) := by decide +kernel
theorem dX11_refuseFull_10 : decode cX11_refuseFull 10 = .ok (.bipush (-4), 2) := by decide +kernel
theorem dX11_refuseFull_12 : decode cX11_refuseFull 12 = .ok (.ireturn, 1) := by decide +kernel
theorem dX11_within_0 : decode cX11_within 0 = .ok (.iload_n 0, 1) := by decide +kernel
theorem dX11_within_1 : decode cX11_within 1 = .ok (.iload_n 1, 1) := by decide +kernel
theorem dX11_within_2 : decode cX11_within 2 = .ok (.if_icmp .lt 12, 3) := by decide +kernel
theorem dX11_within_5 : decode cX11_within 5 = .ok (.iload_n 0, 1) := by decide +kernel
theorem dX11_within_6 : decode cX11_within 6 = .ok (.iload_n 2, 1) := by decide +kernel
theorem dX11_within_7 : decode cX11_within 7 = .ok (.if_icmp .gt 7, 3) := by decide +kernel
theorem dX11_within_10 : decode cX11_within 10 = .ok (.iconst 1, 1) := by decide +kernel
theorem dX11_within_11 : decode cX11_within 11 = .ok (.goto 4, 3) := by decide +kernel
theorem dX11_within_14 : decode cX11_within 14 = .ok (.iconst 0, 1) := by decide +kernel
theorem dX11_within_15 : decode cX11_within 15 = .ok (.ireturn, 1) := by decide +kernel
theorem dX11_isKind_0 : decode cX11_isKind 0 = .ok (.iload_n 0, 1) := by decide +kernel
theorem dX11_isKind_1 : decode cX11_isKind 1 = .ok (.iconst 0, 1) := by decide +kernel
theorem dX11_isKind_2 : decode cX11_isKind 2 = .ok (.iconst 5, 1) := by decide +kernel
theorem dX11_isKind_3 : decode cX11_isKind 3 = .ok (.invokestatic 75, 3) := by decide +kernel
theorem dX11_isKind_6 : decode cX11_isKind 6 = .ok (.ireturn, 1) := by decide +kernel
theorem dX11_isStep_0 : decode cX11_isStep 0 = .ok (.iload_n 0, 1) := by decide +kernel
theorem dX11_isStep_1 : decode cX11_isStep 1 = .ok (.iconst 0, 1) := by decide +kernel
theorem dX11_isStep_2 : decode cX11_isStep 2 = .ok (.bipush 11, 2) := by decide +kernel
theorem dX11_isStep_4 : decode cX11_isStep 4 = .ok (.invokestatic 75, 3) := by decide +kernel
theorem dX11_isStep_7 : decode cX11_isStep 7 = .ok (.ireturn, 1) := by decide +kernel
theorem dX11_isDrawing_0 : decode cX11_isDrawing 0 = .ok (.iload_n 0, 1) := by decide +kernel
theorem dX11_isDrawing_1 : decode cX11_isDrawing 1 = .ok (.iconst 0, 1) := by decide +kernel
theorem dX11_isDrawing_2 : decode cX11_isDrawing 2 = .ok (.bipush 9, 2) := by decide +kernel
theorem dX11_isDrawing_4 : decode cX11_isDrawing 4 = .ok (.invokestatic 75, 3) := by decide +kernel
theorem dX11_isDrawing_7 : decode cX11_isDrawing 7 = .ok (.ireturn, 1) := by decide +kernel
theorem dX11_isFrame_0 : decode cX11_isFrame 0 = .ok (.iload_n 1, 1) := by decide +kernel
theorem dX11_isFrame_1 : decode cX11_isFrame 1 = .ok (.iconst 0, 1) := by decide +kernel
theorem dX11_isFrame_2 : decode cX11_isFrame 2 = .ok (.aload_n 0, 1) := by decide +kernel
theorem dX11_isFrame_3 : decode cX11_isFrame 3 = .ok (.getfield 10, 3) := by decide +kernel
theorem dX11_isFrame_6 : decode cX11_isFrame 6 = .ok (.getfield 210, 3) := by decide +kernel
theorem dX11_isFrame_9 : decode cX11_isFrame 9 = .ok (.iconst 1, 1) := by decide +kernel
theorem dX11_isFrame_10 : decode cX11_isFrame 10 = .ok (.isub, 1) := by decide +kernel
theorem dX11_isFrame_11 : decode cX11_isFrame 11 = .ok (.invokestatic 75, 3) := by decide +kernel
theorem dX11_isFrame_14 : decode cX11_isFrame 14 = .ok (.ireturn, 1) := by decide +kernel
theorem dX11_isEye_0 : decode cX11_isEye 0 = .ok (.iload_n 1, 1) := by decide +kernel
theorem dX11_isEye_1 : decode cX11_isEye 1 = .ok (.iconst 0, 1) := by decide +kernel
