theorem dX0_init_0 : decode cX0_init 0 = .ok (.aload_n 0, 1) := by decide +kernel
theorem dX0_init_1 : decode cX0_init 1 = .ok (.invokespecial 3, 3) := by decide +kernel
theorem dX0_init_4 : decode cX0_init 4 = .ok (.aload_n 0, 1) := by decide +kernel
theorem dX0_init_5 : decode cX0_init 5 = .ok (.sipush 372, 3) := by decide +kernel
theorem dX0_init_8 : decode cX0_init 8 = .ok (.newarray .int, 2) := by decide +kernel
theorem dX0_init_10 : decode cX0_init 10 = .ok (.putfield 9, 3) := by decide +kernel
theorem dX0_init_13 : decode cX0_init 13 = .ok (.aload_n 0, 1) := by decide +kernel
theorem dX0_init_14 : decode cX0_init 14 = .ok (.sipush 144, 3) := by decide +kernel
theorem dX0_init_17 : decode cX0_init 17 = .ok (.newarray .int, 2) := by decide +kernel
theorem dX0_init_19 : decode cX0_init 19 = .ok (.putfield 15, 3) := by decide +kernel
theorem dX0_init_22 : decode cX0_init 22 = .ok (.return_, 1) := by decide +kernel
theorem dX0_gather_0 : decode cX0_gather 0 = .ok (.aload_n 0, 1) := by decide +kernel
theorem dX0_gather_1 : decode cX0_gather 1 = .ok (.aload_n 1, 1) := by decide +kernel
theorem dX0_gather_2 : decode cX0_gather 2 = .ok (.getfield 18, 3) := by decide +kernel
theorem dX0_gather_5 : decode cX0_gather 5 = .ok (.invokevirtual 24, 3) := by decide +kernel
theorem dX0_gather_8 : decode cX0_gather 8 = .ok (.aload_n 0, 1) := by decide +kernel
theorem dX0_gather_9 : decode cX0_gather 9 = .ok (.iconst 0, 1) := by decide +kernel
theorem dX0_gather_10 : decode cX0_gather 10 = .ok (.putfield 28, 3) := by decide +kernel
theorem dX0_gather_13 : decode cX0_gather 13 = .ok (.iconst 0, 1) := by decide +kernel
theorem dX0_gather_14 : decode cX0_gather 14 = .ok (.istore_n 2, 1) := by decide +kernel
theorem dX0_gather_15 : decode cX0_gather 15 = .ok (.iload_n 2, 1) := by decide +kernel
theorem dX0_gather_16 : decode cX0_gather 16 = .ok (.aload_n 1, 1) := by decide +kernel
theorem dX0_gather_17 : decode cX0_gather 17 = .ok (.getfield 31, 3) := by decide +kernel
theorem dX0_gather_20 : decode cX0_gather 20 = .ok (.bipush 12, 2) := by decide +kernel
theorem dX0_gather_22 : decode cX0_gather 22 = .ok (.imul, 1) := by decide +kernel
theorem dX0_gather_23 : decode cX0_gather 23 = .ok (.if_icmp .ge 40, 3) := by decide +kernel
theorem dX0_gather_26 : decode cX0_gather 26 = .ok (.aload_n 0, 1) := by decide +kernel
theorem dX0_gather_27 : decode cX0_gather 27 = .ok (.iload_n 2, 1) := by decide +kernel
theorem dX0_gather_28 : decode cX0_gather 28 = .ok (.aload_n 1, 1) := by decide +kernel
theorem dX0_gather_29 : decode cX0_gather 29 = .ok (.invokevirtual 34, 3) := by decide +kernel
theorem dX0_gather_32 : decode cX0_gather 32 = .ok (.ifCond .eq 25, 3) := by decide +kernel
theorem dX0_gather_35 : decode cX0_gather 35 = .ok (.aload_n 0, 1) := by decide +kernel
theorem dX0_gather_36 : decode cX0_gather 36 = .ok (.getfield 15, 3) := by decide +kernel
theorem dX0_gather_39 : decode cX0_gather 39 = .ok (.aload_n 0, 1) := by decide +kernel
theorem dX0_gather_40 : decode cX0_gather 40 = .ok (.getfield 28, 3) := by decide +kernel
theorem dX0_gather_43 : decode cX0_gather 43 = .ok (.iload_n 2, 1) := by decide +kernel
theorem dX0_gather_44 : decode cX0_gather 44 = .ok (.invokestatic 38, 3) := by decide +kernel
theorem dX0_gather_47 : decode cX0_gather 47 = .ok (.aload_n 0, 1) := by decide +kernel
theorem dX0_gather_48 : decode cX0_gather 48 = .ok (.dup, 1) := by decide +kernel
theorem dX0_gather_49 : decode cX0_gather 49 = .ok (.getfield 28, 3) := by decide +kernel
theorem dX0_gather_52 : decode cX0_gather 52 = .ok (.iconst 1, 1) := by decide +kernel
theorem dX0_gather_53 : decode cX0_gather 53 = .ok (.iadd, 1) := by decide +kernel
theorem dX0_gather_54 : decode cX0_gather 54 = .ok (.putfield 28, 3) := by decide +kernel
theorem dX0_gather_57 : decode cX0_gather 57 = .ok (.iinc 2 1, 3) := by decide +kernel
theorem dX0_gather_60 : decode cX0_gather 60 = .ok (.goto (-45), 3) := by decide +kernel
theorem dX0_gather_63 : decode cX0_gather 63 = .ok (.return_, 1) := by decide +kernel
theorem dX0_tallyAt_0 : decode cX0_tallyAt 0 = .ok (.aload_n 3, 1) := by decide +kernel
theorem dX0_tallyAt_1 : decode cX0_tallyAt 1 = .ok (.invokevirtual 42, 3) := by decide +kernel
theorem dX0_tallyAt_4 : decode cX0_tallyAt 4 = .ok (.iconst 0, 1) := by decide +kernel
theorem dX0_tallyAt_5 : decode cX0_tallyAt 5 = .ok (.istore 4, 2) := by decide +kernel
theorem dX0_tallyAt_7 : decode cX0_tallyAt 7 = .ok (.iload 4, 2) := by decide +kernel
theorem dX0_tallyAt_9 : decode cX0_tallyAt 9 = .ok (.aload_n 0, 1) := by decide +kernel
theorem dX0_tallyAt_10 : decode cX0_tallyAt 10 = .ok (.getfield 28, 3) := by decide +kernel
theorem dX0_tallyAt_13 : decode cX0_tallyAt 13 = .ok (.if_icmp .ge 28, 3) := by decide +kernel
theorem dX0_tallyAt_16 : decode cX0_tallyAt 16 = .ok (.aload_n 3, 1) := by decide +kernel
theorem dX0_tallyAt_17 : decode cX0_tallyAt 17 = .ok (.aload_n 0, 1) := by decide +kernel
theorem dX0_tallyAt_18 : decode cX0_tallyAt 18 = .ok (.aload_n 0, 1) := by decide +kernel
theorem dX0_tallyAt_19 : decode cX0_tallyAt 19 = .ok (.getfield 15, 3) := by decide +kernel
theorem dX0_tallyAt_22 : decode cX0_tallyAt 22 = .ok (.iload 4, 2) := by decide +kernel
theorem dX0_tallyAt_24 : decode cX0_tallyAt 24 = .ok (.invokestatic 47, 3) := by decide +kernel
theorem dX0_tallyAt_27 : decode cX0_tallyAt 27 = .ok (.iload_n 1, 1) := by decide +kernel
theorem dX0_tallyAt_28 : decode cX0_tallyAt 28 = .ok (.aload_n 2, 1) := by decide +kernel
theorem dX0_tallyAt_29 : decode cX0_tallyAt 29 = .ok (.invokevirtual 51, 3) := by decide +kernel
theorem dX0_tallyAt_32 : decode cX0_tallyAt 32 = .ok (.invokevirtual 55, 3) := by decide +kernel
theorem dX0_tallyAt_35 : decode cX0_tallyAt 35 = .ok (.iinc 4 1, 3) := by decide +kernel
theorem dX0_tallyAt_38 : decode cX0_tallyAt 38 = .ok (.goto (-31), 3) := by decide +kernel
theorem dX0_tallyAt_41 : decode cX0_tallyAt 41 = .ok (.return_, 1) := by decide +kernel
theorem dX0_fillPassed_0 : decode cX0_fillPassed 0 = .ok (.iconst 0, 1) := by decide +kernel
theorem dX0_fillPassed_1 : decode cX0_fillPassed 1 = .ok (.istore_n 2, 1) := by decide +kernel
theorem dX0_fillPassed_2 : decode cX0_fillPassed 2 = .ok (.iload_n 2, 1) := by decide +kernel
theorem dX0_fillPassed_3 : decode cX0_fillPassed 3 = .ok (.bipush 12, 2) := by decide +kernel
theorem dX0_fillPassed_5 : decode cX0_fillPassed 5 = .ok (.if_icmp .ge 52, 3) := by decide +kernel
theorem dX0_fillPassed_8 : decode cX0_fillPassed 8 = .ok (.iconst 0, 1) := by decide +kernel
theorem dX0_fillPassed_9 : decode cX0_fillPassed 9 = .ok (.istore_n 3, 1) := by decide +kernel
theorem dX0_fillPassed_10 : decode cX0_fillPassed 10 = .ok (.iconst 1, 1) := by decide +kernel
theorem dX0_fillPassed_11 : decode cX0_fillPassed 11 = .ok (.istore 4, 2) := by decide +kernel
theorem dX0_fillPassed_13 : decode cX0_fillPassed 13 = .ok (.iload 4, 2) := by decide +kernel
theorem dX0_fillPassed_15 : decode cX0_fillPassed 15 = .ok (.bipush 30, 2) := by decide +kernel
theorem dX0_fillPassed_17 : decode cX0_fillPassed 17 = .ok (.if_icmp .gt 34, 3) := by decide +kernel
theorem dX0_fillPassed_20 : decode cX0_fillPassed 20 = .ok (.iload_n 3, 1) := by decide +kernel
theorem dX0_fillPassed_21 : decode cX0_fillPassed 21 = .ok (.iload_n 1, 1) := by decide +kernel
theorem dX0_fillPassed_22 : decode cX0_fillPassed 22 = .ok (.iload_n 2, 1) := by decide +kernel
theorem dX0_fillPassed_23 : decode cX0_fillPassed 23 = .ok (.iload 4, 2) := by decide +kernel
theorem dX0_fillPassed_25 : decode cX0_fillPassed 25 = .ok (.invokestatic 58, 3) := by decide +kernel
theorem dX0_fillPassed_28 : decode cX0_fillPassed 28 = .ok (.iadd, 1) := by decide +kernel
theorem dX0_fillPassed_29 : decode cX0_fillPassed 29 = .ok (.istore_n 3, 1) := by decide +kernel
theorem dX0_fillPassed_30 : decode cX0_fillPassed 30 = .ok (.aload_n 0, 1) := by decide +kernel
theorem dX0_fillPassed_31 : decode cX0_fillPassed 31 = .ok (.getfield 9, 3) := by decide +kernel
theorem dX0_fillPassed_34 : decode cX0_fillPassed 34 = .ok (.iload_n 2, 1) := by decide +kernel
theorem dX0_fillPassed_35 : decode cX0_fillPassed 35 = .ok (.bipush 31, 2) := by decide +kernel
theorem dX0_fillPassed_37 : decode cX0_fillPassed 37 = .ok (.imul, 1) := by decide +kernel
theorem dX0_fillPassed_38 : decode cX0_fillPassed 38 = .ok (.iload 4, 2) := by decide +kernel
theorem dX0_fillPassed_40 : decode cX0_fillPassed 40 = .ok (.iadd, 1) := by decide +kernel
theorem dX0_fillPassed_41 : decode cX0_fillPassed 41 = .ok (.iload_n 3, 1) := by decide +kernel
theorem dX0_fillPassed_42 : decode cX0_fillPassed 42 = .ok (.invokestatic 38, 3) := by decide +kernel
theorem dX0_fillPassed_45 : decode cX0_fillPassed 45 = .ok (.iinc 4 1, 3) := by decide +kernel
theorem dX0_fillPassed_48 : decode cX0_fillPassed 48 = .ok (.goto (-35), 3) := by decide +kernel
theorem dX0_fillPassed_51 : decode cX0_fillPassed 51 = .ok (.iinc 2 1, 3) := by decide +kernel
theorem dX0_fillPassed_54 : decode cX0_fillPassed 54 = .ok (.goto (-52), 3) := by decide +kernel
theorem dX0_fillPassed_57 : decode cX0_fillPassed 57 = .ok (.return_, 1) := by decide +kernel
theorem dX0_fits_0 : decode cX0_fits 0 = .ok (.iconst 0, 1) := by decide +kernel
theorem dX0_fits_1 : decode cX0_fits 1 = .ok (.istore_n 3, 1) := by decide +kernel
theorem dX0_fits_2 : decode cX0_fits 2 = .ok (.iload_n 3, 1) := by decide +kernel
theorem dX0_fits_3 : decode cX0_fits 3 = .ok (.aload_n 2, 1) := by decide +kernel
theorem dX0_fits_4 : decode cX0_fits 4 = .ok (.getfield 64, 3) := by decide +kernel
theorem dX0_fits_7 : decode cX0_fits 7 = .ok (.getfield 68, 3) := by decide +kernel
theorem dX0_fits_10 : decode cX0_fits 10 = .ok (.if_icmp .ge 38, 3) := by decide +kernel
theorem dX0_fits_13 : decode cX0_fits 13 = .ok (.aload_n 0, 1) := by decide +kernel
theorem dX0_fits_14 : decode cX0_fits 14 = .ok (.iload_n 1, 1) := by decide +kernel
theorem dX0_fits_15 : decode cX0_fits 15 = .ok (.aload_n 2, 1) := by decide +kernel
theorem dX0_fits_16 : decode cX0_fits 16 = .ok (.getfield 64, 3) := by decide +kernel
theorem dX0_fits_19 : decode cX0_fits 19 = .ok (.iload_n 3, 1) := by decide +kernel
theorem dX0_fits_20 : decode cX0_fits 20 = .ok (.iconst 0, 1) := by decide +kernel
theorem dX0_fits_21 : decode cX0_fits 21 = .ok (.invokevirtual 71, 3) := by decide +kernel
theorem dX0_fits_24 : decode cX0_fits 24 = .ok (.aload_n 2, 1) := by decide +kernel
theorem dX0_fits_25 : decode cX0_fits 25 = .ok (.invokevirtual 51, 3) := by decide +kernel
theorem dX0_fits_28 : decode cX0_fits 28 = .ok (.aload_n 2, 1) := by decide +kernel
theorem dX0_fits_29 : decode cX0_fits 29 = .ok (.getfield 64, 3) := by decide +kernel
theorem dX0_fits_32 : decode cX0_fits 32 = .ok (.iload_n 3, 1) := by decide +kernel
theorem dX0_fits_33 : decode cX0_fits 33 = .ok (.iconst 1, 1) := by decide +kernel
theorem dX0_fits_34 : decode cX0_fits 34 = .ok (.invokevirtual 71, 3) := by decide +kernel
theorem dX0_fits_37 : decode cX0_fits 37 = .ok (.if_icmp .eq 5, 3) := by decide +kernel
theorem dX0_fits_40 : decode cX0_fits 40 = .ok (.iconst 0, 1) := by decide +kernel
theorem dX0_fits_41 : decode cX0_fits 41 = .ok (.ireturn, 1) := by decide +kernel
theorem dX0_fits_42 : decode cX0_fits 42 = .ok (.iinc 3 1, 3) := by decide +kernel
theorem dX0_fits_45 : decode cX0_fits 45 = .ok (.goto (-43), 3) := by decide +kernel
theorem dX0_fits_48 : decode cX0_fits 48 = .ok (.iconst 1, 1) := by decide +kernel
theorem dX0_fits_49 : decode cX0_fits 49 = .ok (.ireturn, 1) := by decide +kernel
theorem dX0_drawingAt_0 : decode cX0_drawingAt 0 = .ok (.aload_n 0, 1) := by decide +kernel
theorem dX0_drawingAt_1 : decode cX0_drawingAt 1 = .ok (.getfield 9, 3) := by decide +kernel
theorem dX0_drawingAt_4 : decode cX0_drawingAt 4 = .ok (.iload_n 1, 1) := by decide +kernel
theorem dX0_drawingAt_5 : decode cX0_drawingAt 5 = .ok (.bipush 12, 2) := by decide +kernel
theorem dX0_drawingAt_7 : decode cX0_drawingAt 7 = .ok (.irem, 1) := by decide +kernel
theorem dX0_drawingAt_8 : decode cX0_drawingAt 8 = .ok (.bipush 31, 2) := by decide +kernel
theorem dX0_drawingAt_10 : decode cX0_drawingAt 10 = .ok (.imul, 1) := by decide +kernel
theorem dX0_drawingAt_11 : decode cX0_drawingAt 11 = .ok (.iload_n 2, 1) := by decide +kernel
theorem dX0_drawingAt_12 : decode cX0_drawingAt 12 = .ok (.iadd, 1) := by decide +kernel
theorem dX0_drawingAt_13 : decode cX0_drawingAt 13 = .ok (.invokestatic 47, 3) := by decide +kernel
theorem dX0_drawingAt_16 : decode cX0_drawingAt 16 = .ok (.istore 4, 2) := by decide +kernel
theorem dX0_drawingAt_18 : decode cX0_drawingAt 18 = .ok (.aload_n 3, 1) := by decide +kernel
theorem dX0_drawingAt_19 : decode cX0_drawingAt 19 = .ok (.getfield 75, 3) := by decide +kernel
theorem dX0_drawingAt_22 : decode cX0_drawingAt 22 = .ok (.getfield 79, 3) := by decide +kernel
theorem dX0_drawingAt_25 : decode cX0_drawingAt 25 = .ok (.iload_n 1, 1) := by decide +kernel
theorem dX0_drawingAt_26 : decode cX0_drawingAt 26 = .ok (.bipush 12, 2) := by decide +kernel
theorem dX0_drawingAt_28 : decode cX0_drawingAt 28 = .ok (.idiv, 1) := by decide +kernel
theorem dX0_drawingAt_29 : decode cX0_drawingAt 29 = .ok (.iload 4, 2) := by decide +kernel
theorem dX0_drawingAt_31 : decode cX0_drawingAt 31 = .ok (.iadd, 1) := by decide +kernel
theorem dX0_drawingAt_32 : decode cX0_drawingAt 32 = .ok (.aload_n 3, 1) := by decide +kernel
theorem dX0_drawingAt_33 : decode cX0_drawingAt 33 = .ok (.getfield 31, 3) := by decide +kernel
theorem dX0_drawingAt_36 : decode cX0_drawingAt 36 = .ok (.invokestatic 84, 3) := by decide +kernel
theorem dX0_drawingAt_39 : decode cX0_drawingAt 39 = .ok (.invokestatic 47, 3) := by decide +kernel
theorem dX0_drawingAt_42 : decode cX0_drawingAt 42 = .ok (.ireturn, 1) := by decide +kernel
theorem dX1_sight_0 : decode cX1_sight 0 = .ok (.iload_n 0, 1) := by decide +kernel
theorem dX1_sight_1 : decode cX1_sight 1 = .ok (.tableswitch 82 1 5 #[35, 41, 47, 61, 71], 35) := by decide +kernel
theorem dX1_sight_36 : decode cX1_sight 36 = .ok (.iload_n 1, 1) := by decide +kernel
theorem dX1_sight_37 : decode cX1_sight 37 = .ok (.iload_n 2, 1) := by decide +kernel
theorem dX1_sight_38 : decode cX1_sight 38 = .ok (.invokestatic 9, 3) := by decide +kernel
theorem dX1_sight_41 : decode cX1_sight 41 = .ok (.ireturn, 1) := by decide +kernel
theorem dX1_sight_42 : decode cX1_sight 42 = .ok (.iload_n 1, 1) := by decide +kernel
theorem dX1_sight_43 : decode cX1_sight 43 = .ok (.iload_n 2, 1) := by decide +kernel
theorem dX1_sight_44 : decode cX1_sight 44 = .ok (.invokestatic 15, 3) := by decide +kernel
theorem dX1_sight_47 : decode cX1_sight 47 = .ok (.ireturn, 1) := by decide +kernel
theorem dX1_sight_48 : decode cX1_sight 48 = .ok (.iload_n 1, 1) := by decide +kernel
theorem dX1_sight_49 : decode cX1_sight 49 = .ok (.ifCond .ne 7, 3) := by decide +kernel
theorem dX1_sight_52 : decode cX1_sight 52 = .ok (.iload_n 2, 1) := by decide +kernel
theorem dX1_sight_53 : decode cX1_sight 53 = .ok (.goto 8, 3) := by decide +kernel
theorem dX1_sight_56 : decode cX1_sight 56 = .ok (.iload_n 1, 1) := by decide +kernel
theorem dX1_sight_57 : decode cX1_sight 57 = .ok (.iload_n 2, 1) := by decide +kernel
theorem dX1_sight_58 : decode cX1_sight 58 = .ok (.invokestatic 9, 3) := by decide +kernel
theorem dX1_sight_61 : decode cX1_sight 61 = .ok (.ireturn, 1) := by decide +kernel
theorem dX1_sight_62 : decode cX1_sight 62 = .ok (.iload_n 1, 1) := by decide +kernel
theorem dX1_sight_63 : decode cX1_sight 63 = .ok (.iload_n 2, 1) := by decide +kernel
theorem dX1_sight_64 : decode cX1_sight 64 = .ok (.invokestatic 15, 3) := by decide +kernel
theorem dX1_sight_67 : decode cX1_sight 67 = .ok (.iload_n 2, 1) := by decide +kernel
theorem dX1_sight_68 : decode cX1_sight 68 = .ok (.invokestatic 18, 3) := by decide +kernel
theorem dX1_sight_71 : decode cX1_sight 71 = .ok (.ireturn, 1) := by decide +kernel
theorem dX1_sight_72 : decode cX1_sight 72 = .ok (.iload_n 1, 1) := by decide +kernel
theorem dX1_sight_73 : decode cX1_sight 73 = .ok (.iload_n 2, 1) := by decide +kernel
theorem dX1_sight_74 : decode cX1_sight 74 = .ok (.if_icmp .ne 7, 3) := by decide +kernel
theorem dX1_sight_77 : decode cX1_sight 77 = .ok (.iconst 0, 1) := by decide +kernel
theorem dX1_sight_78 : decode cX1_sight 78 = .ok (.goto 4, 3) := by decide +kernel
theorem dX1_sight_81 : decode cX1_sight 81 = .ok (.iload_n 1, 1) := by decide +kernel
theorem dX1_sight_82 : decode cX1_sight 82 = .ok (.ireturn, 1) := by decide +kernel
theorem dX1_sight_83 : decode cX1_sight 83 = .ok (.iload_n 1, 1) := by decide +kernel
theorem dX1_sight_84 : decode cX1_sight 84 = .ok (.ireturn, 1) := by decide +kernel
theorem dX1_lazy_0 : decode cX1_lazy 0 = .ok (.iload_n 0, 1) := by decide +kernel
theorem dX1_lazy_1 : decode cX1_lazy 1 = .ok (.iload_n 1, 1) := by decide +kernel
theorem dX1_lazy_2 : decode cX1_lazy 2 = .ok (.iadd, 1) := by decide +kernel
theorem dX1_lazy_3 : decode cX1_lazy 3 = .ok (.iconst 2, 1) := by decide +kernel
theorem dX1_lazy_4 : decode cX1_lazy 4 = .ok (.idiv, 1) := by decide +kernel
theorem dX1_lazy_5 : decode cX1_lazy 5 = .ok (.ireturn, 1) := by decide +kernel
theorem dX1_sharp_0 : decode cX1_sharp 0 = .ok (.iload_n 0, 1) := by decide +kernel
theorem dX1_sharp_1 : decode cX1_sharp 1 = .ok (.iload_n 1, 1) := by decide +kernel
theorem dX1_sharp_2 : decode cX1_sharp 2 = .ok (.isub, 1) := by decide +kernel
theorem dX1_sharp_3 : decode cX1_sharp 3 = .ok (.invokestatic 21, 3) := by decide +kernel
theorem dX1_sharp_6 : decode cX1_sharp 6 = .ok (.iconst 1, 1) := by decide +kernel
theorem dX1_sharp_7 : decode cX1_sharp 7 = .ok (.if_icmp .ne 7, 3) := by decide +kernel
theorem dX1_sharp_10 : decode cX1_sharp 10 = .ok (.iload_n 1, 1) := by decide +kernel
theorem dX1_sharp_11 : decode cX1_sharp 11 = .ok (.goto 4, 3) := by decide +kernel
theorem dX1_sharp_14 : decode cX1_sharp 14 = .ok (.iload_n 0, 1) := by decide +kernel
theorem dX1_sharp_15 : decode cX1_sharp 15 = .ok (.ireturn, 1) := by decide +kernel
theorem dX1_child_0 : decode cX1_child 0 = .ok (.iload_n 0, 1) := by decide +kernel
theorem dX1_child_1 : decode cX1_child 1 = .ok (.iload_n 1, 1) := by decide +kernel
theorem dX1_child_2 : decode cX1_child 2 = .ok (.if_icmp .le 14, 3) := by decide +kernel
theorem dX1_child_5 : decode cX1_child 5 = .ok (.bipush 9, 2) := by decide +kernel
theorem dX1_child_7 : decode cX1_child 7 = .ok (.iload_n 0, 1) := by decide +kernel
theorem dX1_child_8 : decode cX1_child 8 = .ok (.iconst 1, 1) := by decide +kernel
theorem dX1_child_9 : decode cX1_child 9 = .ok (.iadd, 1) := by decide +kernel
theorem dX1_child_10 : decode cX1_child 10 = .ok (.invokestatic 27, 3) := by decide +kernel
theorem dX1_child_13 : decode cX1_child 13 = .ok (.goto 4, 3) := by decide +kernel
theorem dX1_child_16 : decode cX1_child 16 = .ok (.iload_n 0, 1) := by decide +kernel
theorem dX1_child_17 : decode cX1_child 17 = .ok (.ireturn, 1) := by decide +kernel
theorem dX2_passing_0 : decode cX2_passing 0 = .ok (.iload_n 0, 1) := by decide +kernel
theorem dX2_passing_1 : decode cX2_passing 1 = .ok (.tableswitch 89 1 5 #[35, 40, 46, 66, 83], 35) := by decide +kernel
theorem dX2_passing_36 : decode cX2_passing 36 = .ok (.iload_n 1, 1) := by decide +kernel
theorem dX2_passing_37 : decode cX2_passing 37 = .ok (.invokestatic 7, 3) := by decide +kernel
theorem dX2_passing_40 : decode cX2_passing 40 = .ok (.ireturn, 1) := by decide +kernel
theorem dX2_passing_41 : decode cX2_passing 41 = .ok (.iload_n 1, 1) := by decide +kernel
theorem dX2_passing_42 : decode cX2_passing 42 = .ok (.iload_n 2, 1) := by decide +kernel
theorem dX2_passing_43 : decode cX2_passing 43 = .ok (.invokestatic 13, 3) := by decide +kernel
theorem dX2_passing_46 : decode cX2_passing 46 = .ok (.ireturn, 1) := by decide +kernel
theorem dX2_passing_47 : decode cX2_passing 47 = .ok (.iload_n 2, 1) := by decide +kernel
theorem dX2_passing_48 : decode cX2_passing 48 = .ok (.iconst 4, 1) := by decide +kernel
theorem dX2_passing_49 : decode cX2_passing 49 = .ok (.irem, 1) := by decide +kernel
theorem dX2_passing_50 : decode cX2_passing 50 = .ok (.ifCond .ne 12, 3) := by decide +kernel
theorem dX2_passing_53 : decode cX2_passing 53 = .ok (.iload_n 1, 1) := by decide +kernel
theorem dX2_passing_54 : decode cX2_passing 54 = .ok (.invokestatic 7, 3) := by decide +kernel
theorem dX2_passing_57 : decode cX2_passing 57 = .ok (.iconst 1, 1) := by decide +kernel
theorem dX2_passing_58 : decode cX2_passing 58 = .ok (.iadd, 1) := by decide +kernel
theorem dX2_passing_59 : decode cX2_passing 59 = .ok (.goto 7, 3) := by decide +kernel
theorem dX2_passing_62 : decode cX2_passing 62 = .ok (.iload_n 1, 1) := by decide +kernel
theorem dX2_passing_63 : decode cX2_passing 63 = .ok (.invokestatic 7, 3) := by decide +kernel
theorem dX2_passing_66 : decode cX2_passing 66 = .ok (.ireturn, 1) := by decide +kernel
theorem dX2_passing_67 : decode cX2_passing 67 = .ok (.iload_n 2, 1) := by decide +kernel
theorem dX2_passing_68 : decode cX2_passing 68 = .ok (.iconst 5, 1) := by decide +kernel
theorem dX2_passing_69 : decode cX2_passing 69 = .ok (.irem, 1) := by decide +kernel
theorem dX2_passing_70 : decode cX2_passing 70 = .ok (.iconst 4, 1) := by decide +kernel
theorem dX2_passing_71 : decode cX2_passing 71 = .ok (.if_icmp .ne 7, 3) := by decide +kernel
theorem dX2_passing_74 : decode cX2_passing 74 = .ok (.iconst 0, 1) := by decide +kernel
theorem dX2_passing_75 : decode cX2_passing 75 = .ok (.goto 8, 3) := by decide +kernel
theorem dX2_passing_78 : decode cX2_passing 78 = .ok (.iload_n 1, 1) := by decide +kernel
theorem dX2_passing_79 : decode cX2_passing 79 = .ok (.iload_n 2, 1) := by decide +kernel
theorem dX2_passing_80 : decode cX2_passing 80 = .ok (.invokestatic 13, 3) := by decide +kernel
theorem dX2_passing_83 : decode cX2_passing 83 = .ok (.ireturn, 1) := by decide +kernel
theorem dX2_passing_84 : decode cX2_passing 84 = .ok (.iconst 1, 1) := by decide +kernel
theorem dX2_passing_85 : decode cX2_passing 85 = .ok (.iload_n 1, 1) := by decide +kernel
theorem dX2_passing_86 : decode cX2_passing 86 = .ok (.invokestatic 17, 3) := by decide +kernel
theorem dX2_passing_89 : decode cX2_passing 89 = .ok (.ireturn, 1) := by decide +kernel
theorem dX2_passing_90 : decode cX2_passing 90 = .ok (.iload_n 1, 1) := by decide +kernel
theorem dX2_passing_91 : decode cX2_passing 91 = .ok (.ireturn, 1) := by decide +kernel
theorem dX2_twice_0 : decode cX2_twice 0 = .ok (.iconst 2, 1) := by decide +kernel
theorem dX2_twice_1 : decode cX2_twice 1 = .ok (.iload_n 0, 1) := by decide +kernel
theorem dX2_twice_2 : decode cX2_twice 2 = .ok (.imul, 1) := by decide +kernel
theorem dX2_twice_3 : decode cX2_twice 3 = .ok (.ireturn, 1) := by decide +kernel
theorem dX2_jerk_0 : decode cX2_jerk 0 = .ok (.iload_n 1, 1) := by decide +kernel
theorem dX2_jerk_1 : decode cX2_jerk 1 = .ok (.iconst 2, 1) := by decide +kernel
theorem dX2_jerk_2 : decode cX2_jerk 2 = .ok (.irem, 1) := by decide +kernel
theorem dX2_jerk_3 : decode cX2_jerk 3 = .ok (.ifCond .ne 7, 3) := by decide +kernel
theorem dX2_jerk_6 : decode cX2_jerk 6 = .ok (.iload_n 0, 1) := by decide +kernel
theorem dX2_jerk_7 : decode cX2_jerk 7 = .ok (.goto 6, 3) := by decide +kernel
theorem dX2_jerk_10 : decode cX2_jerk 10 = .ok (.iload_n 0, 1) := by decide +kernel
theorem dX2_jerk_11 : decode cX2_jerk 11 = .ok (.iconst 1, 1) := by decide +kernel
theorem dX2_jerk_12 : decode cX2_jerk 12 = .ok (.iadd, 1) := by decide +kernel
theorem dX2_jerk_13 : decode cX2_jerk 13 = .ok (.ireturn, 1) := by decide +kernel
theorem dX3_init_0 : decode cX3_init 0 = .ok (.aload_n 0, 1) := by decide +kernel
theorem dX3_init_1 : decode cX3_init 1 = .ok (.invokespecial 3, 3) := by decide +kernel
theorem dX3_init_4 : decode cX3_init 4 = .ok (.aload_n 0, 1) := by decide +kernel
theorem dX3_init_5 : decode cX3_init 5 = .ok (.iconst 1, 1) := by decide +kernel
theorem dX3_init_6 : decode cX3_init 6 = .ok (.putfield 9, 3) := by decide +kernel
theorem dX3_init_9 : decode cX3_init 9 = .ok (.aload_n 0, 1) := by decide +kernel
theorem dX3_init_10 : decode cX3_init 10 = .ok (.bipush 12, 2) := by decide +kernel
theorem dX3_init_12 : decode cX3_init 12 = .ok (.newarray .int, 2) := by decide +kernel
theorem dX3_init_14 : decode cX3_init 14 = .ok (.putfield 15, 3) := by decide +kernel
theorem dX3_init_17 : decode cX3_init 17 = .ok (.aload_n 0, 1) := by decide +kernel
theorem dX3_init_18 : decode cX3_init 18 = .ok (.iconst 5, 1) := by decide +kernel
theorem dX3_init_19 : decode cX3_init 19 = .ok (.newarray .int, 2) := by decide +kernel
theorem dX3_init_21 : decode cX3_init 21 = .ok (.putfield 19, 3) := by decide +kernel
theorem dX3_init_24 : decode cX3_init 24 = .ok (.aload_n 0, 1) := by decide +kernel
theorem dX3_init_25 : decode cX3_init 25 = .ok (.iconst 5, 1) := by decide +kernel
theorem dX3_init_26 : decode cX3_init 26 = .ok (.newarray .int, 2) := by decide +kernel
theorem dX3_init_28 : decode cX3_init 28 = .ok (.putfield 22, 3) := by decide +kernel
theorem dX3_init_31 : decode cX3_init 31 = .ok (.return_, 1) := by decide +kernel
theorem dX3_begin_0 : decode cX3_begin 0 = .ok (.aload_n 0, 1) := by decide +kernel
theorem dX3_begin_1 : decode cX3_begin 1 = .ok (.iconst 0, 1) := by decide +kernel
theorem dX3_begin_2 : decode cX3_begin 2 = .ok (.putfield 25, 3) := by decide +kernel
theorem dX3_begin_5 : decode cX3_begin 5 = .ok (.aload_n 0, 1) := by decide +kernel
theorem dX3_begin_6 : decode cX3_begin 6 = .ok (.iconst 0, 1) := by decide +kernel
theorem dX3_begin_7 : decode cX3_begin 7 = .ok (.putfield 28, 3) := by decide +kernel
theorem dX3_begin_10 : decode cX3_begin 10 = .ok (.aload_n 0, 1) := by decide +kernel
theorem dX3_begin_11 : decode cX3_begin 11 = .ok (.iload_n 1, 1) := by decide +kernel
theorem dX3_begin_12 : decode cX3_begin 12 = .ok (.putfield 9, 3) := by decide +kernel
theorem dX3_begin_15 : decode cX3_begin 15 = .ok (.aload_n 0, 1) := by decide +kernel
theorem dX3_begin_16 : decode cX3_begin 16 = .ok (.getfield 15, 3) := by decide +kernel
theorem dX3_begin_19 : decode cX3_begin 19 = .ok (.iconst 0, 1) := by decide +kernel
theorem dX3_begin_20 : decode cX3_begin 20 = .ok (.invokestatic 31, 3) := by decide +kernel
theorem dX3_begin_23 : decode cX3_begin 23 = .ok (.aload_n 0, 1) := by decide +kernel
theorem dX3_begin_24 : decode cX3_begin 24 = .ok (.getfield 19, 3) := by decide +kernel
theorem dX3_begin_27 : decode cX3_begin 27 = .ok (.iconst 0, 1) := by decide +kernel
theorem dX3_begin_28 : decode cX3_begin 28 = .ok (.invokestatic 31, 3) := by decide +kernel
theorem dX3_begin_31 : decode cX3_begin 31 = .ok (.aload_n 0, 1) := by decide +kernel
theorem dX3_begin_32 : decode cX3_begin 32 = .ok (.getfield 22, 3) := by decide +kernel
theorem dX3_begin_35 : decode cX3_begin 35 = .ok (.iconst 0, 1) := by decide +kernel
theorem dX3_begin_36 : decode cX3_begin 36 = .ok (.invokestatic 31, 3) := by decide +kernel
theorem dX3_begin_39 : decode cX3_begin 39 = .ok (.return_, 1) := by decide +kernel
theorem dX3_become_0 : decode cX3_become 0 = .ok (.aload_n 0, 1) := by decide +kernel
theorem dX3_become_1 : decode cX3_become 1 = .ok (.aload_n 1, 1) := by decide +kernel
theorem dX3_become_2 : decode cX3_become 2 = .ok (.getfield 25, 3) := by decide +kernel
theorem dX3_become_5 : decode cX3_become 5 = .ok (.putfield 25, 3) := by decide +kernel
theorem dX3_become_8 : decode cX3_become 8 = .ok (.aload_n 0, 1) := by decide +kernel
theorem dX3_become_9 : decode cX3_become 9 = .ok (.aload_n 1, 1) := by decide +kernel
theorem dX3_become_10 : decode cX3_become 10 = .ok (.getfield 28, 3) := by decide +kernel
theorem dX3_become_13 : decode cX3_become 13 = .ok (.putfield 28, 3) := by decide +kernel
theorem dX3_become_16 : decode cX3_become 16 = .ok (.aload_n 0, 1) := by decide +kernel
theorem dX3_become_17 : decode cX3_become 17 = .ok (.aload_n 1, 1) := by decide +kernel
theorem dX3_become_18 : decode cX3_become 18 = .ok (.getfield 9, 3) := by decide +kernel
theorem dX3_become_21 : decode cX3_become 21 = .ok (.putfield 9, 3) := by decide +kernel
theorem dX3_become_24 : decode cX3_become 24 = .ok (.aload_n 1, 1) := by decide +kernel
theorem dX3_become_25 : decode cX3_become 25 = .ok (.getfield 15, 3) := by decide +kernel
theorem dX3_become_28 : decode cX3_become 28 = .ok (.aload_n 0, 1) := by decide +kernel
theorem dX3_become_29 : decode cX3_become 29 = .ok (.getfield 15, 3) := by decide +kernel
theorem dX3_become_32 : decode cX3_become 32 = .ok (.invokestatic 35, 3) := by decide +kernel
theorem dX3_become_35 : decode cX3_become 35 = .ok (.aload_n 1, 1) := by decide +kernel
theorem dX3_become_36 : decode cX3_become 36 = .ok (.getfield 19, 3) := by decide +kernel
theorem dX3_become_39 : decode cX3_become 39 = .ok (.aload_n 0, 1) := by decide +kernel
theorem dX3_become_40 : decode cX3_become 40 = .ok (.getfield 19, 3) := by decide +kernel
theorem dX3_become_43 : decode cX3_become 43 = .ok (.invokestatic 35, 3) := by decide +kernel
theorem dX3_become_46 : decode cX3_become 46 = .ok (.aload_n 1, 1) := by decide +kernel
theorem dX3_become_47 : decode cX3_become 47 = .ok (.getfield 22, 3) := by decide +kernel
theorem dX3_become_50 : decode cX3_become 50 = .ok (.aload_n 0, 1) := by decide +kernel
theorem dX3_become_51 : decode cX3_become 51 = .ok (.getfield 22, 3) := by decide +kernel
theorem dX3_become_54 : decode cX3_become 54 = .ok (.invokestatic 35, 3) := by decide +kernel
theorem dX3_become_57 : decode cX3_become 57 = .ok (.return_, 1) := by decide +kernel
theorem dX3_writeTo_0 : decode cX3_writeTo 0 = .ok (.aload_n 1, 1) := by decide +kernel
theorem dX3_writeTo_1 : decode cX3_writeTo 1 = .ok (.iload_n 2, 1) := by decide +kernel
theorem dX3_writeTo_2 : decode cX3_writeTo 2 = .ok (.aload_n 0, 1) := by decide +kernel
theorem dX3_writeTo_3 : decode cX3_writeTo 3 = .ok (.getfield 25, 3) := by decide +kernel
theorem dX3_writeTo_6 : decode cX3_writeTo 6 = .ok (.invokestatic 39, 3) := by decide +kernel
theorem dX3_writeTo_9 : decode cX3_writeTo 9 = .ok (.aload_n 1, 1) := by decide +kernel
theorem dX3_writeTo_10 : decode cX3_writeTo 10 = .ok (.iload_n 2, 1) := by decide +kernel
theorem dX3_writeTo_11 : decode cX3_writeTo 11 = .ok (.iconst 1, 1) := by decide +kernel
theorem dX3_writeTo_12 : decode cX3_writeTo 12 = .ok (.iadd, 1) := by decide +kernel
theorem dX3_writeTo_13 : decode cX3_writeTo 13 = .ok (.aload_n 0, 1) := by decide +kernel
theorem dX3_writeTo_14 : decode cX3_writeTo 14 = .ok (.getfield 28, 3) := by decide +kernel
theorem dX3_writeTo_17 : decode cX3_writeTo 17 = .ok (.invokestatic 39, 3) := by decide +kernel
theorem dX3_writeTo_20 : decode cX3_writeTo 20 = .ok (.aload_n 1, 1) := by decide +kernel
theorem dX3_writeTo_21 : decode cX3_writeTo 21 = .ok (.iload_n 2, 1) := by decide +kernel
theorem dX3_writeTo_22 : decode cX3_writeTo 22 = .ok (.iconst 2, 1) := by decide +kernel
theorem dX3_writeTo_23 : decode cX3_writeTo 23 = .ok (.iadd, 1) := by decide +kernel
theorem dX3_writeTo_24 : decode cX3_writeTo 24 = .ok (.aload_n 0, 1) := by decide +kernel
theorem dX3_writeTo_25 : decode cX3_writeTo 25 = .ok (.getfield 9, 3) := by decide +kernel
theorem dX3_writeTo_28 : decode cX3_writeTo 28 = .ok (.invokestatic 39, 3) := by decide +kernel
theorem dX3_writeTo_31 : decode cX3_writeTo 31 = .ok (.iload_n 2, 1) := by decide +kernel
theorem dX3_writeTo_32 : decode cX3_writeTo 32 = .ok (.iconst 3, 1) := by decide +kernel
theorem dX3_writeTo_33 : decode cX3_writeTo 33 = .ok (.iadd, 1) := by decide +kernel
theorem dX3_writeTo_34 : decode cX3_writeTo 34 = .ok (.istore_n 3, 1) := by decide +kernel
theorem dX3_writeTo_35 : decode cX3_writeTo 35 = .ok (.iconst 0, 1) := by decide +kernel
theorem dX3_writeTo_36 : decode cX3_writeTo 36 = .ok (.istore 4, 2) := by decide +kernel
theorem dX3_writeTo_38 : decode cX3_writeTo 38 = .ok (.iload 4, 2) := by decide +kernel
theorem dX3_writeTo_40 : decode cX3_writeTo 40 = .ok (.bipush 12, 2) := by decide +kernel
theorem dX3_writeTo_42 : decode cX3_writeTo 42 = .ok (.if_icmp .ge 26, 3) := by decide +kernel
theorem dX3_writeTo_45 : decode cX3_writeTo 45 = .ok (.aload_n 1, 1) := by decide +kernel
theorem dX3_writeTo_46 : decode cX3_writeTo 46 = .ok (.iload_n 3, 1) := by decide +kernel
theorem dX3_writeTo_47 : decode cX3_writeTo 47 = .ok (.iload 4, 2) := by decide +kernel
theorem dX3_writeTo_49 : decode cX3_writeTo 49 = .ok (.iadd, 1) := by decide +kernel
theorem dX3_writeTo_50 : decode cX3_writeTo 50 = .ok (.aload_n 0, 1) := by decide +kernel
theorem dX3_writeTo_51 : decode cX3_writeTo 51 = .ok (.getfield 15, 3) := by decide +kernel
theorem dX3_writeTo_54 : decode cX3_writeTo 54 = .ok (.iload 4, 2) := by decide +kernel
theorem dX3_writeTo_56 : decode cX3_writeTo 56 = .ok (.invokestatic 43, 3) := by decide +kernel
theorem dX3_writeTo_59 : decode cX3_writeTo 59 = .ok (.invokestatic 39, 3) := by decide +kernel
theorem dX3_writeTo_62 : decode cX3_writeTo 62 = .ok (.iinc 4 1, 3) := by decide +kernel
theorem dX3_writeTo_65 : decode cX3_writeTo 65 = .ok (.goto (-27), 3) := by decide +kernel
theorem dX3_writeTo_68 : decode cX3_writeTo 68 = .ok (.iinc 3 12, 3) := by decide +kernel
theorem dX3_writeTo_71 : decode cX3_writeTo 71 = .ok (.iconst 0, 1) := by decide +kernel
theorem dX3_writeTo_72 : decode cX3_writeTo 72 = .ok (.istore 4, 2) := by decide +kernel
theorem dX3_writeTo_74 : decode cX3_writeTo 74 = .ok (.iload 4, 2) := by decide +kernel
theorem dX3_writeTo_76 : decode cX3_writeTo 76 = .ok (.iconst 5, 1) := by decide +kernel
theorem dX3_writeTo_77 : decode cX3_writeTo 77 = .ok (.if_icmp .ge 45, 3) := by decide +kernel
theorem dX3_writeTo_80 : decode cX3_writeTo 80 = .ok (.aload_n 1, 1) := by decide +kernel
theorem dX3_writeTo_81 : decode cX3_writeTo 81 = .ok (.iload_n 3, 1) := by decide +kernel
theorem dX3_writeTo_82 : decode cX3_writeTo 82 = .ok (.iload 4, 2) := by decide +kernel
theorem dX3_writeTo_84 : decode cX3_writeTo 84 = .ok (.iadd, 1) := by decide +kernel
theorem dX3_writeTo_85 : decode cX3_writeTo 85 = .ok (.aload_n 0, 1) := by decide +kernel
theorem dX3_writeTo_86 : decode cX3_writeTo 86 = .ok (.getfield 19, 3) := by decide +kernel
theorem dX3_writeTo_89 : decode cX3_writeTo 89 = .ok (.iload 4, 2) := by decide +kernel
theorem dX3_writeTo_91 : decode cX3_writeTo 91 = .ok (.invokestatic 43, 3) := by decide +kernel
theorem dX3_writeTo_94 : decode cX3_writeTo 94 = .ok (.invokestatic 39, 3) := by decide +kernel
theorem dX3_writeTo_97 : decode cX3_writeTo 97 = .ok (.aload_n 1, 1) := by decide +kernel
theorem dX3_writeTo_98 : decode cX3_writeTo 98 = .ok (.iload_n 3, 1) := by decide +kernel
theorem dX3_writeTo_99 : decode cX3_writeTo 99 = .ok (.iconst 5, 1) := by decide +kernel
theorem dX3_writeTo_100 : decode cX3_writeTo 100 = .ok (.iadd, 1) := by decide +kernel
theorem dX3_writeTo_101 : decode cX3_writeTo 101 = .ok (.iload 4, 2) := by decide +kernel
theorem dX3_writeTo_103 : decode cX3_writeTo 103 = .ok (.iadd, 1) := by decide +kernel
theorem dX3_writeTo_104 : decode cX3_writeTo 104 = .ok (.aload_n 0, 1) := by decide +kernel
theorem dX3_writeTo_105 : decode cX3_writeTo 105 = .ok (.getfield 22, 3) := by decide +kernel
theorem dX3_writeTo_108 : decode cX3_writeTo 108 = .ok (.iload 4, 2) := by decide +kernel
theorem dX3_writeTo_110 : decode cX3_writeTo 110 = .ok (.invokestatic 43, 3) := by decide +kernel
theorem dX3_writeTo_113 : decode cX3_writeTo 113 = .ok (.invokestatic 39, 3) := by decide +kernel
theorem dX3_writeTo_116 : decode cX3_writeTo 116 = .ok (.iinc 4 1, 3) := by decide +kernel
theorem dX3_writeTo_119 : decode cX3_writeTo 119 = .ok (.goto (-45), 3) := by decide +kernel
theorem dX3_writeTo_122 : decode cX3_writeTo 122 = .ok (.return_, 1) := by decide +kernel
theorem dX3_takeFrom_0 : decode cX3_takeFrom 0 = .ok (.aload_n 0, 1) := by decide +kernel
theorem dX3_takeFrom_1 : decode cX3_takeFrom 1 = .ok (.aload_n 1, 1) := by decide +kernel
theorem dX3_takeFrom_2 : decode cX3_takeFrom 2 = .ok (.iload_n 2, 1) := by decide +kernel
theorem dX3_takeFrom_3 : decode cX3_takeFrom 3 = .ok (.invokestatic 43, 3) := by decide +kernel
theorem dX3_takeFrom_6 : decode cX3_takeFrom 6 = .ok (.putfield 25, 3) := by decide +kernel
theorem dX3_takeFrom_9 : decode cX3_takeFrom 9 = .ok (.aload_n 0, 1) := by decide +kernel
theorem dX3_takeFrom_10 : decode cX3_takeFrom 10 = .ok (.aload_n 1, 1) := by decide +kernel
theorem dX3_takeFrom_11 : decode cX3_takeFrom 11 = .ok (.iload_n 2, 1) := by decide +kernel
theorem dX3_takeFrom_12 : decode cX3_takeFrom 12 = .ok (.iconst 1, 1) := by decide +kernel
theorem dX3_takeFrom_13 : decode cX3_takeFrom 13 = .ok (.iadd, 1) := by decide +kernel
theorem dX3_takeFrom_14 : decode cX3_takeFrom 14 = .ok (.invokestatic 43, 3) := by decide +kernel
theorem dX3_takeFrom_17 : decode cX3_takeFrom 17 = .ok (.putfield 28, 3) := by decide +kernel
theorem dX3_takeFrom_20 : decode cX3_takeFrom 20 = .ok (.aload_n 0, 1) := by decide +kernel
theorem dX3_takeFrom_21 : decode cX3_takeFrom 21 = .ok (.aload_n 1, 1) := by decide +kernel
theorem dX3_takeFrom_22 : decode cX3_takeFrom 22 = .ok (.iload_n 2, 1) := by decide +kernel
theorem dX3_takeFrom_23 : decode cX3_takeFrom 23 = .ok (.iconst 2, 1) := by decide +kernel
theorem dX3_takeFrom_24 : decode cX3_takeFrom 24 = .ok (.iadd, 1) := by decide +kernel
theorem dX3_takeFrom_25 : decode cX3_takeFrom 25 = .ok (.invokestatic 43, 3) := by decide +kernel
theorem dX3_takeFrom_28 : decode cX3_takeFrom 28 = .ok (.putfield 9, 3) := by decide +kernel
theorem dX3_takeFrom_31 : decode cX3_takeFrom 31 = .ok (.iload_n 2, 1) := by decide +kernel
theorem dX3_takeFrom_32 : decode cX3_takeFrom 32 = .ok (.iconst 3, 1) := by decide +kernel
theorem dX3_takeFrom_33 : decode cX3_takeFrom 33 = .ok (.iadd, 1) := by decide +kernel
theorem dX3_takeFrom_34 : decode cX3_takeFrom 34 = .ok (.istore_n 3, 1) := by decide +kernel
theorem dX3_takeFrom_35 : decode cX3_takeFrom 35 = .ok (.iconst 0, 1) := by decide +kernel
theorem dX3_takeFrom_36 : decode cX3_takeFrom 36 = .ok (.istore 4, 2) := by decide +kernel
theorem dX3_takeFrom_38 : decode cX3_takeFrom 38 = .ok (.iload 4, 2) := by decide +kernel
theorem dX3_takeFrom_40 : decode cX3_takeFrom 40 = .ok (.bipush 12, 2) := by decide +kernel
theorem dX3_takeFrom_42 : decode cX3_takeFrom 42 = .ok (.if_icmp .ge 26, 3) := by decide +kernel
theorem dX3_takeFrom_45 : decode cX3_takeFrom 45 = .ok (.aload_n 0, 1) := by decide +kernel
theorem dX3_takeFrom_46 : decode cX3_takeFrom 46 = .ok (.getfield 15, 3) := by decide +kernel
theorem dX3_takeFrom_49 : decode cX3_takeFrom 49 = .ok (.iload 4, 2) := by decide +kernel
theorem dX3_takeFrom_51 : decode cX3_takeFrom 51 = .ok (.aload_n 1, 1) := by decide +kernel
theorem dX3_takeFrom_52 : decode cX3_takeFrom 52 = .ok (.iload_n 3, 1) := by decide +kernel
theorem dX3_takeFrom_53 : decode cX3_takeFrom 53 = .ok (.iload 4, 2) := by decide +kernel
theorem dX3_takeFrom_55 : decode cX3_takeFrom 55 = .ok (.iadd, 1) := by decide +kernel
theorem dX3_takeFrom_56 : decode cX3_takeFrom 56 = .ok (.invokestatic 43, 3) := by decide +kernel
theorem dX3_takeFrom_59 : decode cX3_takeFrom 59 = .ok (.invokestatic 39, 3) := by decide +kernel
theorem dX3_takeFrom_62 : decode cX3_takeFrom 62 = .ok (.iinc 4 1, 3) := by decide +kernel
theorem dX3_takeFrom_65 : decode cX3_takeFrom 65 = .ok (.goto (-27), 3) := by decide +kernel
theorem dX3_takeFrom_68 : decode cX3_takeFrom 68 = .ok (.iinc 3 12, 3) := by decide +kernel
theorem dX3_takeFrom_71 : decode cX3_takeFrom 71 = .ok (.iconst 0, 1) := by decide +kernel
theorem dX3_takeFrom_72 : decode cX3_takeFrom 72 = .ok (.istore 4, 2) := by decide +kernel
theorem dX3_takeFrom_74 : decode cX3_takeFrom 74 = .ok (.iload 4, 2) := by decide +kernel
theorem dX3_takeFrom_76 : decode cX3_takeFrom 76 = .ok (.iconst 5, 1) := by decide +kernel
theorem dX3_takeFrom_77 : decode cX3_takeFrom 77 = .ok (.if_icmp .ge 45, 3) := by decide +kernel
theorem dX3_takeFrom_80 : decode cX3_takeFrom 80 = .ok (.aload_n 0, 1) := by decide +kernel
theorem dX3_takeFrom_81 : decode cX3_takeFrom 81 = .ok (.getfield 19, 3) := by decide +kernel
theorem dX3_takeFrom_84 : decode cX3_takeFrom 84 = .ok (.iload 4, 2) := by decide +kernel
theorem dX3_takeFrom_86 : decode cX3_takeFrom 86 = .ok (.aload_n 1, 1) := by decide +kernel
theorem dX3_takeFrom_87 : decode cX3_takeFrom 87 = .ok (.iload_n 3, 1) := by decide +kernel
theorem dX3_takeFrom_88 : decode cX3_takeFrom 88 = .ok (.iload 4, 2) := by decide +kernel
theorem dX3_takeFrom_90 : decode cX3_takeFrom 90 = .ok (.iadd, 1) := by decide +kernel
theorem dX3_takeFrom_91 : decode cX3_takeFrom 91 = .ok (.invokestatic 43, 3) := by decide +kernel
theorem dX3_takeFrom_94 : decode cX3_takeFrom 94 = .ok (.invokestatic 39, 3) := by decide +kernel
theorem dX3_takeFrom_97 : decode cX3_takeFrom 97 = .ok (.aload_n 0, 1) := by decide +kernel
theorem dX3_takeFrom_98 : decode cX3_takeFrom 98 = .ok (.getfield 22, 3) := by decide +kernel
theorem dX3_takeFrom_101 : decode cX3_takeFrom 101 = .ok (.iload 4, 2) := by decide +kernel
theorem dX3_takeFrom_103 : decode cX3_takeFrom 103 = .ok (.aload_n 1, 1) := by decide +kernel
theorem dX3_takeFrom_104 : decode cX3_takeFrom 104 = .ok (.iload_n 3, 1) := by decide +kernel
theorem dX3_takeFrom_105 : decode cX3_takeFrom 105 = .ok (.iconst 5, 1) := by decide +kernel
theorem dX3_takeFrom_106 : decode cX3_takeFrom 106 = .ok (.iadd, 1) := by decide +kernel
theorem dX3_takeFrom_107 : decode cX3_takeFrom 107 = .ok (.iload 4, 2) := by decide +kernel
theorem dX3_takeFrom_109 : decode cX3_takeFrom 109 = .ok (.iadd, 1) := by decide +kernel
theorem dX3_takeFrom_110 : decode cX3_takeFrom 110 = .ok (.invokestatic 43, 3) := by decide +kernel
theorem dX3_takeFrom_113 : decode cX3_takeFrom 113 = .ok (.invokestatic 39, 3) := by decide +kernel
theorem dX3_takeFrom_116 : decode cX3_takeFrom 116 = .ok (.iinc 4 1, 3) := by decide +kernel
theorem dX3_takeFrom_119 : decode cX3_takeFrom 119 = .ok (.goto (-45), 3) := by decide +kernel
theorem dX3_takeFrom_122 : decode cX3_takeFrom 122 = .ok (.return_, 1) := by decide +kernel
theorem dX4_init_0 : decode cX4_init 0 = .ok (.aload_n 0, 1) := by decide +kernel
theorem dX4_init_1 : decode cX4_init 1 = .ok (.invokespecial 3, 3) := by decide +kernel
theorem dX4_init_4 : decode cX4_init 4 = .ok (.aload_n 0, 1) := by decide +kernel
theorem dX4_init_5 : decode cX4_init 5 = .ok (.sipush 200, 3) := by decide +kernel
theorem dX4_init_8 : decode cX4_init 8 = .ok (.newarray .int, 2) := by decide +kernel
theorem dX4_init_10 : decode cX4_init 10 = .ok (.putfield 11, 3) := by decide +kernel
theorem dX4_init_13 : decode cX4_init 13 = .ok (.return_, 1) := by decide +kernel
theorem dX4_empty_0 : decode cX4_empty 0 = .ok (.aload_n 0, 1) := by decide +kernel
theorem dX4_empty_1 : decode cX4_empty 1 = .ok (.iconst 0, 1) := by decide +kernel
theorem dX4_empty_2 : decode cX4_empty 2 = .ok (.putfield 17, 3) := by decide +kernel
theorem dX4_empty_5 : decode cX4_empty 5 = .ok (.return_, 1) := by decide +kernel
theorem dX4_push_0 : decode cX4_push 0 = .ok (.aload_n 0, 1) := by decide +kernel
theorem dX4_push_1 : decode cX4_push 1 = .ok (.getfield 17, 3) := by decide +kernel
theorem dX4_push_4 : decode cX4_push 4 = .ok (.bipush 8, 2) := by decide +kernel
theorem dX4_push_6 : decode cX4_push 6 = .ok (.if_icmp .lt 7, 3) := by decide +kernel
theorem dX4_push_9 : decode cX4_push 9 = .ok (.aload_n 0, 1) := by decide +kernel
theorem dX4_push_10 : decode cX4_push 10 = .ok (.invokevirtual 21, 3) := by decide +kernel
theorem dX4_push_13 : decode cX4_push 13 = .ok (.aload_n 1, 1) := by decide +kernel
theorem dX4_push_14 : decode cX4_push 14 = .ok (.aload_n 0, 1) := by decide +kernel
theorem dX4_push_15 : decode cX4_push 15 = .ok (.getfield 11, 3) := by decide +kernel
theorem dX4_push_18 : decode cX4_push 18 = .ok (.aload_n 0, 1) := by decide +kernel
theorem dX4_push_19 : decode cX4_push 19 = .ok (.getfield 17, 3) := by decide +kernel
theorem dX4_push_22 : decode cX4_push 22 = .ok (.bipush 25, 2) := by decide +kernel
theorem dX4_push_24 : decode cX4_push 24 = .ok (.imul, 1) := by decide +kernel
theorem dX4_push_25 : decode cX4_push 25 = .ok (.invokevirtual 24, 3) := by decide +kernel
theorem dX4_push_28 : decode cX4_push 28 = .ok (.aload_n 0, 1) := by decide +kernel
theorem dX4_push_29 : decode cX4_push 29 = .ok (.dup, 1) := by decide +kernel
theorem dX4_push_30 : decode cX4_push 30 = .ok (.getfield 17, 3) := by decide +kernel
theorem dX4_push_33 : decode cX4_push 33 = .ok (.iconst 1, 1) := by decide +kernel
theorem dX4_push_34 : decode cX4_push 34 = .ok (.iadd, 1) := by decide +kernel
theorem dX4_push_35 : decode cX4_push 35 = .ok (.putfield 17, 3) := by decide +kernel
theorem dX4_push_38 : decode cX4_push 38 = .ok (.return_, 1) := by decide +kernel
theorem dX4_pop_0 : decode cX4_pop 0 = .ok (.aload_n 0, 1) := by decide +kernel
theorem dX4_pop_1 : decode cX4_pop 1 = .ok (.getfield 17, 3) := by decide +kernel
theorem dX4_pop_4 : decode cX4_pop 4 = .ok (.ifCond .le 28, 3) := by decide +kernel
theorem dX4_pop_7 : decode cX4_pop 7 = .ok (.aload_n 0, 1) := by decide +kernel
theorem dX4_pop_8 : decode cX4_pop 8 = .ok (.dup, 1) := by decide +kernel
theorem dX4_pop_9 : decode cX4_pop 9 = .ok (.getfield 17, 3) := by decide +kernel
theorem dX4_pop_12 : decode cX4_pop 12 = .ok (.iconst 1, 1) := by decide +kernel
theorem dX4_pop_13 : decode cX4_pop 13 = .ok (.isub, 1) := by decide +kernel
theorem dX4_pop_14 : decode cX4_pop 14 = .ok (.putfield 17, 3) := by decide +kernel
theorem dX4_pop_17 : decode cX4_pop 17 = .ok (.aload_n 1, 1) := by decide +kernel
theorem dX4_pop_18 : decode cX4_pop 18 = .ok (.aload_n 0, 1) := by decide +kernel
theorem dX4_pop_19 : decode cX4_pop 19 = .ok (.getfield 11, 3) := by decide +kernel
theorem dX4_pop_22 : decode cX4_pop 22 = .ok (.aload_n 0, 1) := by decide +kernel
theorem dX4_pop_23 : decode cX4_pop 23 = .ok (.getfield 17, 3) := by decide +kernel
theorem dX4_pop_26 : decode cX4_pop 26 = .ok (.bipush 25, 2) := by decide +kernel
theorem dX4_pop_28 : decode cX4_pop 28 = .ok (.imul, 1) := by decide +kernel
theorem dX4_pop_29 : decode cX4_pop 29 = .ok (.invokevirtual 28, 3) := by decide +kernel
theorem dX4_pop_32 : decode cX4_pop 32 = .ok (.return_, 1) := by decide +kernel
theorem dX4_become_0 : decode cX4_become 0 = .ok (.aload_n 1, 1) := by decide +kernel
theorem dX4_become_1 : decode cX4_become 1 = .ok (.getfield 11, 3) := by decide +kernel
theorem dX4_become_4 : decode cX4_become 4 = .ok (.aload_n 0, 1) := by decide +kernel
theorem dX4_become_5 : decode cX4_become 5 = .ok (.getfield 11, 3) := by decide +kernel
theorem dX4_become_8 : decode cX4_become 8 = .ok (.invokestatic 31, 3) := by decide +kernel
theorem dX4_become_11 : decode cX4_become 11 = .ok (.aload_n 0, 1) := by decide +kernel
theorem dX4_become_12 : decode cX4_become 12 = .ok (.aload_n 1, 1) := by decide +kernel
theorem dX4_become_13 : decode cX4_become 13 = .ok (.getfield 17, 3) := by decide +kernel
theorem dX4_become_16 : decode cX4_become 16 = .ok (.putfield 17, 3) := by decide +kernel
theorem dX4_become_19 : decode cX4_become 19 = .ok (.return_, 1) := by decide +kernel
theorem dX4_dropOldest_0 : decode cX4_dropOldest 0 = .ok (.bipush 25, 2) := by decide +kernel
theorem dX4_dropOldest_2 : decode cX4_dropOldest 2 = .ok (.istore_n 1, 1) := by decide +kernel
theorem dX4_dropOldest_3 : decode cX4_dropOldest 3 = .ok (.iload_n 1, 1) := by decide +kernel
theorem dX4_dropOldest_4 : decode cX4_dropOldest 4 = .ok (.aload_n 0, 1) := by decide +kernel
theorem dX4_dropOldest_5 : decode cX4_dropOldest 5 = .ok (.getfield 11, 3) := by decide +kernel
theorem dX4_dropOldest_8 : decode cX4_dropOldest 8 = .ok (.arraylength, 1) := by decide +kernel
theorem dX4_dropOldest_9 : decode cX4_dropOldest 9 = .ok (.if_icmp .ge 28, 3) := by decide +kernel
theorem dX4_dropOldest_12 : decode cX4_dropOldest 12 = .ok (.aload_n 0, 1) := by decide +kernel
theorem dX4_dropOldest_13 : decode cX4_dropOldest 13 = .ok (.getfield 11, 3) := by decide +kernel
theorem dX4_dropOldest_16 : decode cX4_dropOldest 16 = .ok (.iload_n 1, 1) := by decide +kernel
theorem dX4_dropOldest_17 : decode cX4_dropOldest 17 = .ok (.bipush 25, 2) := by decide +kernel
theorem dX4_dropOldest_19 : decode cX4_dropOldest 19 = .ok (.isub, 1) := by decide +kernel
theorem dX4_dropOldest_20 : decode cX4_dropOldest 20 = .ok (.aload_n 0, 1) := by decide +kernel
theorem dX4_dropOldest_21 : decode cX4_dropOldest 21 = .ok (.getfield 11, 3) := by decide +kernel
theorem dX4_dropOldest_24 : decode cX4_dropOldest 24 = .ok (.iload_n 1, 1) := by decide +kernel
theorem dX4_dropOldest_25 : decode cX4_dropOldest 25 = .ok (.invokestatic 35, 3) := by decide +kernel
theorem dX4_dropOldest_28 : decode cX4_dropOldest 28 = .ok (.invokestatic 39, 3) := by decide +kernel
theorem dX4_dropOldest_31 : decode cX4_dropOldest 31 = .ok (.iinc 1 1, 3) := by decide +kernel
theorem dX4_dropOldest_34 : decode cX4_dropOldest 34 = .ok (.goto (-31), 3) := by decide +kernel
theorem dX4_dropOldest_37 : decode cX4_dropOldest 37 = .ok (.aload_n 0, 1) := by decide +kernel
theorem dX4_dropOldest_38 : decode cX4_dropOldest 38 = .ok (.bipush 7, 2) := by decide +kernel
theorem dX4_dropOldest_40 : decode cX4_dropOldest 40 = .ok (.putfield 17, 3) := by decide +kernel
theorem dX4_dropOldest_43 : decode cX4_dropOldest 43 = .ok (.return_, 1) := by decide +kernel
theorem dX5_init_0 : decode cX5_init 0 = .ok (.aload_n 0, 1) := by decide +kernel
theorem dX5_init_1 : decode cX5_init 1 = .ok (.invokespecial 3, 3) := by decide +kernel
theorem dX5_init_4 : decode cX5_init 4 = .ok (.aload_n 0, 1) := by decide +kernel
theorem dX5_init_5 : decode cX5_init 5 = .ok (.bipush 24, 2) := by decide +kernel
theorem dX5_init_7 : decode cX5_init 7 = .ok (.newarray .int, 2) := by decide +kernel
theorem dX5_init_9 : decode cX5_init 9 = .ok (.putfield 9, 3) := by decide +kernel
theorem dX5_init_12 : decode cX5_init 12 = .ok (.aload_n 0, 1) := by decide +kernel
theorem dX5_init_13 : decode cX5_init 13 = .ok (.iload_n 1, 1) := by decide +kernel
theorem dX5_init_14 : decode cX5_init 14 = .ok (.putfield 15, 3) := by decide +kernel
theorem dX5_init_17 : decode cX5_init 17 = .ok (.return_, 1) := by decide +kernel
theorem dX5_isFull_0 : decode cX5_isFull 0 = .ok (.aload_n 0, 1) := by decide +kernel
theorem dX5_isFull_1 : decode cX5_isFull 1 = .ok (.getfield 19, 3) := by decide +kernel
theorem dX5_isFull_4 : decode cX5_isFull 4 = .ok (.bipush 6, 2) := by decide +kernel
theorem dX5_isFull_6 : decode cX5_isFull 6 = .ok (.if_icmp .lt 7, 3) := by decide +kernel
theorem dX5_isFull_9 : decode cX5_isFull 9 = .ok (.iconst 1, 1) := by decide +kernel
theorem dX5_isFull_10 : decode cX5_isFull 10 = .ok (.goto 4, 3) := by decide +kernel
theorem dX5_isFull_13 : decode cX5_isFull 13 = .ok (.iconst 0, 1) := by decide +kernel
theorem dX5_isFull_14 : decode cX5_isFull 14 = .ok (.ireturn, 1) := by decide +kernel
theorem dX5_add_0 : decode cX5_add 0 = .ok (.iconst 4, 1) := by decide +kernel
theorem dX5_add_1 : decode cX5_add 1 = .ok (.aload_n 0, 1) := by decide +kernel
theorem dX5_add_2 : decode cX5_add 2 = .ok (.getfield 19, 3) := by decide +kernel
theorem dX5_add_5 : decode cX5_add 5 = .ok (.imul, 1) := by decide +kernel
theorem dX5_add_6 : decode cX5_add 6 = .ok (.istore 5, 2) := by decide +kernel
theorem dX5_add_8 : decode cX5_add 8 = .ok (.aload_n 0, 1) := by decide +kernel
theorem dX5_add_9 : decode cX5_add 9 = .ok (.getfield 9, 3) := by decide +kernel
theorem dX5_add_12 : decode cX5_add 12 = .ok (.iload 5, 2) := by decide +kernel
theorem dX5_add_14 : decode cX5_add 14 = .ok (.iload_n 1, 1) := by decide +kernel
theorem dX5_add_15 : decode cX5_add 15 = .ok (.invokestatic 22, 3) := by decide +kernel
theorem dX5_add_18 : decode cX5_add 18 = .ok (.aload_n 0, 1) := by decide +kernel
theorem dX5_add_19 : decode cX5_add 19 = .ok (.getfield 9, 3) := by decide +kernel
theorem dX5_add_22 : decode cX5_add 22 = .ok (.iload 5, 2) := by decide +kernel
theorem dX5_add_24 : decode cX5_add 24 = .ok (.iconst 1, 1) := by decide +kernel
theorem dX5_add_25 : decode cX5_add 25 = .ok (.iadd, 1) := by decide +kernel
theorem dX5_add_26 : decode cX5_add 26 = .ok (.iload_n 2, 1) := by decide +kernel
theorem dX5_add_27 : decode cX5_add 27 = .ok (.invokestatic 22, 3) := by decide +kernel
theorem dX5_add_30 : decode cX5_add 30 = .ok (.aload_n 0, 1) := by decide +kernel
theorem dX5_add_31 : decode cX5_add 31 = .ok (.getfield 9, 3) := by decide +kernel
theorem dX5_add_34 : decode cX5_add 34 = .ok (.iload 5, 2) := by decide +kernel
theorem dX5_add_36 : decode cX5_add 36 = .ok (.iconst 2, 1) := by decide +kernel
theorem dX5_add_37 : decode cX5_add 37 = .ok (.iadd, 1) := by decide +kernel
theorem dX5_add_38 : decode cX5_add 38 = .ok (.iload_n 3, 1) := by decide +kernel
theorem dX5_add_39 : decode cX5_add 39 = .ok (.invokestatic 22, 3) := by decide +kernel
theorem dX5_add_42 : decode cX5_add 42 = .ok (.aload_n 0, 1) := by decide +kernel
theorem dX5_add_43 : decode cX5_add 43 = .ok (.getfield 9, 3) := by decide +kernel
theorem dX5_add_46 : decode cX5_add 46 = .ok (.iload 5, 2) := by decide +kernel
theorem dX5_add_48 : decode cX5_add 48 = .ok (.iconst 3, 1) := by decide +kernel
theorem dX5_add_49 : decode cX5_add 49 = .ok (.iadd, 1) := by decide +kernel
theorem dX5_add_50 : decode cX5_add 50 = .ok (.iload 4, 2) := by decide +kernel
theorem dX5_add_52 : decode cX5_add 52 = .ok (.invokestatic 22, 3) := by decide +kernel
theorem dX5_add_55 : decode cX5_add 55 = .ok (.aload_n 0, 1) := by decide +kernel
theorem dX5_add_56 : decode cX5_add 56 = .ok (.dup, 1) := by decide +kernel
theorem dX5_add_57 : decode cX5_add 57 = .ok (.getfield 19, 3) := by decide +kernel
theorem dX5_add_60 : decode cX5_add 60 = .ok (.iconst 1, 1) := by decide +kernel
theorem dX5_add_61 : decode cX5_add 61 = .ok (.iadd, 1) := by decide +kernel
theorem dX5_add_62 : decode cX5_add 62 = .ok (.putfield 19, 3) := by decide +kernel
theorem dX5_add_65 : decode cX5_add 65 = .ok (.aload_n 0, 1) := by decide +kernel
theorem dX5_add_66 : decode cX5_add 66 = .ok (.getfield 19, 3) := by decide +kernel
theorem dX5_add_69 : decode cX5_add 69 = .ok (.ireturn, 1) := by decide +kernel
theorem dX5_value_0 : decode cX5_value 0 = .ok (.aload_n 0, 1) := by decide +kernel
theorem dX5_value_1 : decode cX5_value 1 = .ok (.getfield 9, 3) := by decide +kernel
theorem dX5_value_4 : decode cX5_value 4 = .ok (.iconst 4, 1) := by decide +kernel
theorem dX5_value_5 : decode cX5_value 5 = .ok (.iload_n 1, 1) := by decide +kernel
theorem dX5_value_6 : decode cX5_value 6 = .ok (.imul, 1) := by decide +kernel
theorem dX5_value_7 : decode cX5_value 7 = .ok (.iload_n 2, 1) := by decide +kernel
theorem dX5_value_8 : decode cX5_value 8 = .ok (.iadd, 1) := by decide +kernel
theorem dX5_value_9 : decode cX5_value 9 = .ok (.invokestatic 26, 3) := by decide +kernel
theorem dX5_value_12 : decode cX5_value 12 = .ok (.ireturn, 1) := by decide +kernel
theorem dX5_empty_0 : decode cX5_empty 0 = .ok (.aload_n 0, 1) := by decide +kernel
theorem dX5_empty_1 : decode cX5_empty 1 = .ok (.getfield 19, 3) := by decide +kernel
theorem dX5_empty_4 : decode cX5_empty 4 = .ok (.istore_n 1, 1) := by decide +kernel
theorem dX5_empty_5 : decode cX5_empty 5 = .ok (.aload_n 0, 1) := by decide +kernel
theorem dX5_empty_6 : decode cX5_empty 6 = .ok (.iconst 0, 1) := by decide +kernel
theorem dX5_empty_7 : decode cX5_empty 7 = .ok (.putfield 19, 3) := by decide +kernel
theorem dX5_empty_10 : decode cX5_empty 10 = .ok (.iload_n 1, 1) := by decide +kernel
theorem dX5_empty_11 : decode cX5_empty 11 = .ok (.ireturn, 1) := by decide +kernel
theorem dX5_become_0 : decode cX5_become 0 = .ok (.aload_n 1, 1) := by decide +kernel
theorem dX5_become_1 : decode cX5_become 1 = .ok (.getfield 9, 3) := by decide +kernel
theorem dX5_become_4 : decode cX5_become 4 = .ok (.aload_n 0, 1) := by decide +kernel
theorem dX5_become_5 : decode cX5_become 5 = .ok (.getfield 9, 3) := by decide +kernel
theorem dX5_become_8 : decode cX5_become 8 = .ok (.invokestatic 30, 3) := by decide +kernel
theorem dX5_become_11 : decode cX5_become 11 = .ok (.aload_n 0, 1) := by decide +kernel
theorem dX5_become_12 : decode cX5_become 12 = .ok (.aload_n 1, 1) := by decide +kernel
theorem dX5_become_13 : decode cX5_become 13 = .ok (.getfield 19, 3) := by decide +kernel
theorem dX5_become_16 : decode cX5_become 16 = .ok (.putfield 19, 3) := by decide +kernel
theorem dX5_become_19 : decode cX5_become 19 = .ok (.return_, 1) := by decide +kernel
theorem dX5_digestOnto_0 : decode cX5_digestOnto 0 = .ok (.iconst 0, 1) := by decide +kernel
theorem dX5_digestOnto_1 : decode cX5_digestOnto 1 = .ok (.istore_n 3, 1) := by decide +kernel
theorem dX5_digestOnto_2 : decode cX5_digestOnto 2 = .ok (.iload_n 3, 1) := by decide +kernel
theorem dX5_digestOnto_3 : decode cX5_digestOnto 3 = .ok (.aload_n 0, 1) := by decide +kernel
theorem dX5_digestOnto_4 : decode cX5_digestOnto 4 = .ok (.getfield 19, 3) := by decide +kernel
theorem dX5_digestOnto_7 : decode cX5_digestOnto 7 = .ok (.if_icmp .ge 42, 3) := by decide +kernel
theorem dX5_digestOnto_10 : decode cX5_digestOnto 10 = .ok (.iconst 0, 1) := by decide +kernel
theorem dX5_digestOnto_11 : decode cX5_digestOnto 11 = .ok (.istore 4, 2) := by decide +kernel
theorem dX5_digestOnto_13 : decode cX5_digestOnto 13 = .ok (.iload 4, 2) := by decide +kernel
theorem dX5_digestOnto_15 : decode cX5_digestOnto 15 = .ok (.aload_n 0, 1) := by decide +kernel
theorem dX5_digestOnto_16 : decode cX5_digestOnto 16 = .ok (.getfield 15, 3) := by decide +kernel
theorem dX5_digestOnto_19 : decode cX5_digestOnto 19 = .ok (.if_icmp .ge 24, 3) := by decide +kernel
theorem dX5_digestOnto_22 : decode cX5_digestOnto 22 = .ok (.ldc2_w 34, 3) := by decide +kernel
theorem dX5_digestOnto_25 : decode cX5_digestOnto 25 = .ok (.lload_n 1, 1) := by decide +kernel
theorem dX5_digestOnto_26 : decode cX5_digestOnto 26 = .ok (.lmul, 1) := by decide +kernel
theorem dX5_digestOnto_27 : decode cX5_digestOnto 27 = .ok (.aload_n 0, 1) := by decide +kernel
theorem dX5_digestOnto_28 : decode cX5_digestOnto 28 = .ok (.iload_n 3, 1) := by decide +kernel
theorem dX5_digestOnto_29 : decode cX5_digestOnto 29 = .ok (.iload 4, 2) := by decide +kernel
theorem dX5_digestOnto_31 : decode cX5_digestOnto 31 = .ok (.invokevirtual 36, 3) := by decide +kernel
theorem dX5_digestOnto_34 : decode cX5_digestOnto 34 = .ok (.i2l, 1) := by decide +kernel
theorem dX5_digestOnto_35 : decode cX5_digestOnto 35 = .ok (.ladd, 1) := by decide +kernel
theorem dX5_digestOnto_36 : decode cX5_digestOnto 36 = .ok (.lstore_n 1, 1) := by decide +kernel
theorem dX5_digestOnto_37 : decode cX5_digestOnto 37 = .ok (.iinc 4 1, 3) := by decide +kernel
theorem dX5_digestOnto_40 : decode cX5_digestOnto 40 = .ok (.goto (-27), 3) := by decide +kernel
theorem dX5_digestOnto_43 : decode cX5_digestOnto 43 = .ok (.iinc 3 1, 3) := by decide +kernel
theorem dX5_digestOnto_46 : decode cX5_digestOnto 46 = .ok (.goto (-44), 3) := by decide +kernel
theorem dX5_digestOnto_49 : decode cX5_digestOnto 49 = .ok (.lload_n 1, 1) := by decide +kernel
theorem dX5_digestOnto_50 : decode cX5_digestOnto 50 = .ok (.lreturn, 1) := by decide +kernel
theorem dX6_init_0 : decode cX6_init 0 = .ok (.aload_n 0, 1) := by decide +kernel
theorem dX6_init_1 : decode cX6_init 1 = .ok (.invokespecial 3, 3) := by decide +kernel
theorem dX6_init_4 : decode cX6_init 4 = .ok (.aload_n 0, 1) := by decide +kernel
theorem dX6_init_5 : decode cX6_init 5 = .ok (.iconst 2, 1) := by decide +kernel
theorem dX6_init_6 : decode cX6_init 6 = .ok (.putfield 9, 3) := by decide +kernel
theorem dX6_init_9 : decode cX6_init 9 = .ok (.aload_n 0, 1) := by decide +kernel
theorem dX6_init_10 : decode cX6_init 10 = .ok (.iconst 5, 1) := by decide +kernel
theorem dX6_init_11 : decode cX6_init 11 = .ok (.newarray .int, 2) := by decide +kernel
theorem dX6_init_13 : decode cX6_init 13 = .ok (.putfield 15, 3) := by decide +kernel
theorem dX6_init_16 : decode cX6_init 16 = .ok (.aload_n 0, 1) := by decide +kernel
theorem dX6_init_17 : decode cX6_init 17 = .ok (.new 19, 3) := by decide +kernel
theorem dX6_init_20 : decode cX6_init 20 = .ok (.dup, 1) := by decide +kernel
theorem dX6_init_21 : decode cX6_init 21 = .ok (.invokespecial 21, 3) := by decide +kernel
theorem dX6_init_24 : decode cX6_init 24 = .ok (.putfield 22, 3) := by decide +kernel
theorem dX6_init_27 : decode cX6_init 27 = .ok (.aload_n 0, 1) := by decide +kernel
theorem dX6_init_28 : decode cX6_init 28 = .ok (.new 26, 3) := by decide +kernel
theorem dX6_init_31 : decode cX6_init 31 = .ok (.dup, 1) := by decide +kernel
theorem dX6_init_32 : decode cX6_init 32 = .ok (.invokespecial 28, 3) := by decide +kernel
theorem dX6_init_35 : decode cX6_init 35 = .ok (.putfield 29, 3) := by decide +kernel
theorem dX6_init_38 : decode cX6_init 38 = .ok (.aload_n 0, 1) := by decide +kernel
theorem dX6_init_39 : decode cX6_init 39 = .ok (.new 33, 3) := by decide +kernel
theorem dX6_init_42 : decode cX6_init 42 = .ok (.dup, 1) := by decide +kernel
theorem dX6_init_43 : decode cX6_init 43 = .ok (.iconst 2, 1) := by decide +kernel
theorem dX6_init_44 : decode cX6_init 44 = .ok (.invokespecial 35, 3) := by decide +kernel
theorem dX6_init_47 : decode cX6_init 47 = .ok (.putfield 38, 3) := by decide +kernel
theorem dX6_init_50 : decode cX6_init 50 = .ok (.aload_n 0, 1) := by decide +kernel
theorem dX6_init_51 : decode cX6_init 51 = .ok (.new 33, 3) := by decide +kernel
theorem dX6_init_54 : decode cX6_init 54 = .ok (.dup, 1) := by decide +kernel
theorem dX6_init_55 : decode cX6_init 55 = .ok (.iconst 4, 1) := by decide +kernel
theorem dX6_init_56 : decode cX6_init 56 = .ok (.invokespecial 35, 3) := by decide +kernel
theorem dX6_init_59 : decode cX6_init 59 = .ok (.putfield 42, 3) := by decide +kernel
theorem dX6_init_62 : decode cX6_init 62 = .ok (.aload_n 0, 1) := by decide +kernel
theorem dX6_init_63 : decode cX6_init 63 = .ok (.new 33, 3) := by decide +kernel
theorem dX6_init_66 : decode cX6_init 66 = .ok (.dup, 1) := by decide +kernel
theorem dX6_init_67 : decode cX6_init 67 = .ok (.iconst 3, 1) := by decide +kernel
theorem dX6_init_68 : decode cX6_init 68 = .ok (.invokespecial 35, 3) := by decide +kernel
theorem dX6_init_71 : decode cX6_init 71 = .ok (.putfield 45, 3) := by decide +kernel
theorem dX6_init_74 : decode cX6_init 74 = .ok (.return_, 1) := by decide +kernel
theorem dX6_begin_0 : decode cX6_begin 0 = .ok (.aload_n 0, 1) := by decide +kernel
theorem dX6_begin_1 : decode cX6_begin 1 = .ok (.iload_n 1, 1) := by decide +kernel
theorem dX6_begin_2 : decode cX6_begin 2 = .ok (.putfield 9, 3) := by decide +kernel
theorem dX6_begin_5 : decode cX6_begin 5 = .ok (.aload_n 0, 1) := by decide +kernel
theorem dX6_begin_6 : decode cX6_begin 6 = .ok (.iload_n 2, 1) := by decide +kernel
theorem dX6_begin_7 : decode cX6_begin 7 = .ok (.putfield 48, 3) := by decide +kernel
theorem dX6_begin_10 : decode cX6_begin 10 = .ok (.aload_n 0, 1) := by decide +kernel
theorem dX6_begin_11 : decode cX6_begin 11 = .ok (.iconst 0, 1) := by decide +kernel
theorem dX6_begin_12 : decode cX6_begin 12 = .ok (.putfield 51, 3) := by decide +kernel
theorem dX6_begin_15 : decode cX6_begin 15 = .ok (.aload_n 0, 1) := by decide +kernel
theorem dX6_begin_16 : decode cX6_begin 16 = .ok (.getfield 15, 3) := by decide +kernel
theorem dX6_begin_19 : decode cX6_begin 19 = .ok (.iconst 0, 1) := by decide +kernel
theorem dX6_begin_20 : decode cX6_begin 20 = .ok (.invokestatic 54, 3) := by decide +kernel
theorem dX6_begin_23 : decode cX6_begin 23 = .ok (.aload_n 0, 1) := by decide +kernel
theorem dX6_begin_24 : decode cX6_begin 24 = .ok (.getfield 22, 3) := by decide +kernel
theorem dX6_begin_27 : decode cX6_begin 27 = .ok (.iload_n 3, 1) := by decide +kernel
theorem dX6_begin_28 : decode cX6_begin 28 = .ok (.invokevirtual 58, 3) := by decide +kernel
theorem dX6_begin_31 : decode cX6_begin 31 = .ok (.aload_n 0, 1) := by decide +kernel
theorem dX6_begin_32 : decode cX6_begin 32 = .ok (.getfield 29, 3) := by decide +kernel
theorem dX6_begin_35 : decode cX6_begin 35 = .ok (.invokevirtual 61, 3) := by decide +kernel
theorem dX6_begin_38 : decode cX6_begin 38 = .ok (.aload_n 0, 1) := by decide +kernel
theorem dX6_begin_39 : decode cX6_begin 39 = .ok (.getfield 38, 3) := by decide +kernel
theorem dX6_begin_42 : decode cX6_begin 42 = .ok (.invokevirtual 64, 3) := by decide +kernel
theorem dX6_begin_45 : decode cX6_begin 45 = .ok (.pop, 1) := by decide +kernel
theorem dX6_begin_46 : decode cX6_begin 46 = .ok (.aload_n 0, 1) := by decide +kernel
theorem dX6_begin_47 : decode cX6_begin 47 = .ok (.getfield 42, 3) := by decide +kernel
theorem dX6_begin_50 : decode cX6_begin 50 = .ok (.invokevirtual 64, 3) := by decide +kernel
theorem dX6_begin_53 : decode cX6_begin 53 = .ok (.pop, 1) := by decide +kernel
theorem dX6_begin_54 : decode cX6_begin 54 = .ok (.aload_n 0, 1) := by decide +kernel
theorem dX6_begin_55 : decode cX6_begin 55 = .ok (.getfield 45, 3) := by decide +kernel
theorem dX6_begin_58 : decode cX6_begin 58 = .ok (.invokevirtual 64, 3) := by decide +kernel
theorem dX6_begin_61 : decode cX6_begin 61 = .ok (.pop, 1) := by decide +kernel
theorem dX6_begin_62 : decode cX6_begin 62 = .ok (.return_, 1) := by decide +kernel
theorem dX6_become_0 : decode cX6_become 0 = .ok (.aload_n 0, 1) := by decide +kernel
theorem dX6_become_1 : decode cX6_become 1 = .ok (.aload_n 1, 1) := by decide +kernel
theorem dX6_become_2 : decode cX6_become 2 = .ok (.getfield 9, 3) := by decide +kernel
theorem dX6_become_5 : decode cX6_become 5 = .ok (.putfield 9, 3) := by decide +kernel
theorem dX6_become_8 : decode cX6_become 8 = .ok (.aload_n 0, 1) := by decide +kernel
theorem dX6_become_9 : decode cX6_become 9 = .ok (.aload_n 1, 1) := by decide +kernel
theorem dX6_become_10 : decode cX6_become 10 = .ok (.getfield 48, 3) := by decide +kernel
theorem dX6_become_13 : decode cX6_become 13 = .ok (.putfield 48, 3) := by decide +kernel
theorem dX6_become_16 : decode cX6_become 16 = .ok (.aload_n 0, 1) := by decide +kernel
theorem dX6_become_17 : decode cX6_become 17 = .ok (.aload_n 1, 1) := by decide +kernel
theorem dX6_become_18 : decode cX6_become 18 = .ok (.getfield 51, 3) := by decide +kernel
theorem dX6_become_21 : decode cX6_become 21 = .ok (.putfield 51, 3) := by decide +kernel
theorem dX6_become_24 : decode cX6_become 24 = .ok (.aload_n 1, 1) := by decide +kernel
theorem dX6_become_25 : decode cX6_become 25 = .ok (.getfield 15, 3) := by decide +kernel
theorem dX6_become_28 : decode cX6_become 28 = .ok (.aload_n 0, 1) := by decide +kernel
theorem dX6_become_29 : decode cX6_become 29 = .ok (.getfield 15, 3) := by decide +kernel
theorem dX6_become_32 : decode cX6_become 32 = .ok (.invokestatic 67, 3) := by decide +kernel
theorem dX6_become_35 : decode cX6_become 35 = .ok (.aload_n 0, 1) := by decide +kernel
theorem dX6_become_36 : decode cX6_become 36 = .ok (.getfield 22, 3) := by decide +kernel
theorem dX6_become_39 : decode cX6_become 39 = .ok (.aload_n 1, 1) := by decide +kernel
theorem dX6_become_40 : decode cX6_become 40 = .ok (.getfield 22, 3) := by decide +kernel
theorem dX6_become_43 : decode cX6_become 43 = .ok (.invokevirtual 71, 3) := by decide +kernel
theorem dX6_become_46 : decode cX6_become 46 = .ok (.aload_n 0, 1) := by decide +kernel
theorem dX6_become_47 : decode cX6_become 47 = .ok (.getfield 29, 3) := by decide +kernel
theorem dX6_become_50 : decode cX6_become 50 = .ok (.aload_n 1, 1) := by decide +kernel
theorem dX6_become_51 : decode cX6_become 51 = .ok (.getfield 29, 3) := by decide +kernel
theorem dX6_become_54 : decode cX6_become 54 = .ok (.invokevirtual 75, 3) := by decide +kernel
theorem dX6_become_57 : decode cX6_become 57 = .ok (.aload_n 0, 1) := by decide +kernel
theorem dX6_become_58 : decode cX6_become 58 = .ok (.getfield 38, 3) := by decide +kernel
theorem dX6_become_61 : decode cX6_become 61 = .ok (.aload_n 1, 1) := by decide +kernel
theorem dX6_become_62 : decode cX6_become 62 = .ok (.getfield 38, 3) := by decide +kernel
theorem dX6_become_65 : decode cX6_become 65 = .ok (.invokevirtual 78, 3) := by decide +kernel
theorem dX6_become_68 : decode cX6_become 68 = .ok (.aload_n 0, 1) := by decide +kernel
theorem dX6_become_69 : decode cX6_become 69 = .ok (.getfield 42, 3) := by decide +kernel
theorem dX6_become_72 : decode cX6_become 72 = .ok (.aload_n 1, 1) := by decide +kernel
theorem dX6_become_73 : decode cX6_become 73 = .ok (.getfield 42, 3) := by decide +kernel
theorem dX6_become_76 : decode cX6_become 76 = .ok (.invokevirtual 78, 3) := by decide +kernel
theorem dX6_become_79 : decode cX6_become 79 = .ok (.aload_n 0, 1) := by decide +kernel
theorem dX6_become_80 : decode cX6_become 80 = .ok (.getfield 45, 3) := by decide +kernel
theorem dX6_become_83 : decode cX6_become 83 = .ok (.aload_n 1, 1) := by decide +kernel
theorem dX6_become_84 : decode cX6_become 84 = .ok (.getfield 45, 3) := by decide +kernel
theorem dX6_become_87 : decode cX6_become 87 = .ok (.invokevirtual 78, 3) := by decide +kernel
theorem dX6_become_90 : decode cX6_become 90 = .ok (.return_, 1) := by decide +kernel
theorem dX6_addEye_0 : decode cX6_addEye 0 = .ok (.aload_n 0, 1) := by decide +kernel
theorem dX6_addEye_1 : decode cX6_addEye 1 = .ok (.getfield 15, 3) := by decide +kernel
theorem dX6_addEye_4 : decode cX6_addEye 4 = .ok (.aload_n 0, 1) := by decide +kernel
theorem dX6_addEye_5 : decode cX6_addEye 5 = .ok (.getfield 51, 3) := by decide +kernel
theorem dX6_addEye_8 : decode cX6_addEye 8 = .ok (.iload_n 1, 1) := by decide +kernel
theorem dX6_addEye_9 : decode cX6_addEye 9 = .ok (.invokestatic 81, 3) := by decide +kernel
theorem dX6_addEye_12 : decode cX6_addEye 12 = .ok (.aload_n 0, 1) := by decide +kernel
theorem dX6_addEye_13 : decode cX6_addEye 13 = .ok (.getfield 22, 3) := by decide +kernel
theorem dX6_addEye_16 : decode cX6_addEye 16 = .ok (.getfield 85, 3) := by decide +kernel
theorem dX6_addEye_19 : decode cX6_addEye 19 = .ok (.aload_n 0, 1) := by decide +kernel
theorem dX6_addEye_20 : decode cX6_addEye 20 = .ok (.getfield 51, 3) := by decide +kernel
theorem dX6_addEye_23 : decode cX6_addEye 23 = .ok (.iconst 0, 1) := by decide +kernel
theorem dX6_addEye_24 : decode cX6_addEye 24 = .ok (.invokestatic 81, 3) := by decide +kernel
theorem dX6_addEye_27 : decode cX6_addEye 27 = .ok (.aload_n 0, 1) := by decide +kernel
theorem dX6_addEye_28 : decode cX6_addEye 28 = .ok (.getfield 22, 3) := by decide +kernel
theorem dX6_addEye_31 : decode cX6_addEye 31 = .ok (.getfield 88, 3) := by decide +kernel
theorem dX6_addEye_34 : decode cX6_addEye 34 = .ok (.aload_n 0, 1) := by decide +kernel
theorem dX6_addEye_35 : decode cX6_addEye 35 = .ok (.getfield 51, 3) := by decide +kernel
theorem dX6_addEye_38 : decode cX6_addEye 38 = .ok (.iconst 0, 1) := by decide +kernel
theorem dX6_addEye_39 : decode cX6_addEye 39 = .ok (.invokestatic 81, 3) := by decide +kernel
theorem dX6_addEye_42 : decode cX6_addEye 42 = .ok (.aload_n 0, 1) := by decide +kernel
theorem dX6_addEye_43 : decode cX6_addEye 43 = .ok (.dup, 1) := by decide +kernel
theorem dX6_addEye_44 : decode cX6_addEye 44 = .ok (.getfield 51, 3) := by decide +kernel
theorem dX6_addEye_47 : decode cX6_addEye 47 = .ok (.iconst 1, 1) := by decide +kernel
theorem dX6_addEye_48 : decode cX6_addEye 48 = .ok (.iadd, 1) := by decide +kernel
theorem dX6_addEye_49 : decode cX6_addEye 49 = .ok (.putfield 51, 3) := by decide +kernel
theorem dX6_addEye_52 : decode cX6_addEye 52 = .ok (.return_, 1) := by decide +kernel
theorem dX6_turn_0 : decode cX6_turn 0 = .ok (.iconst 0, 1) := by decide +kernel
theorem dX6_turn_1 : decode cX6_turn 1 = .ok (.istore_n 2, 1) := by decide +kernel
theorem dX6_turn_2 : decode cX6_turn 2 = .ok (.iload_n 2, 1) := by decide +kernel
theorem dX6_turn_3 : decode cX6_turn 3 = .ok (.iload_n 1, 1) := by decide +kernel
theorem dX6_turn_4 : decode cX6_turn 4 = .ok (.if_icmp .ge 30, 3) := by decide +kernel
theorem dX6_turn_7 : decode cX6_turn 7 = .ok (.aload_n 0, 1) := by decide +kernel
theorem dX6_turn_8 : decode cX6_turn 8 = .ok (.getfield 22, 3) := by decide +kernel
theorem dX6_turn_11 : decode cX6_turn 11 = .ok (.getfield 91, 3) := by decide +kernel
theorem dX6_turn_14 : decode cX6_turn 14 = .ok (.sipush 9999, 3) := by decide +kernel
theorem dX6_turn_17 : decode cX6_turn 17 = .ok (.if_icmp .ge 17, 3) := by decide +kernel
theorem dX6_turn_20 : decode cX6_turn 20 = .ok (.aload_n 0, 1) := by decide +kernel
theorem dX6_turn_21 : decode cX6_turn 21 = .ok (.aload_n 0, 1) := by decide +kernel
theorem dX6_turn_22 : decode cX6_turn 22 = .ok (.getfield 22, 3) := by decide +kernel
theorem dX6_turn_25 : decode cX6_turn 25 = .ok (.invokevirtual 94, 3) := by decide +kernel
theorem dX6_turn_28 : decode cX6_turn 28 = .ok (.iinc 2 1, 3) := by decide +kernel
theorem dX6_turn_31 : decode cX6_turn 31 = .ok (.goto (-29), 3) := by decide +kernel
theorem dX6_turn_34 : decode cX6_turn 34 = .ok (.return_, 1) := by decide +kernel
theorem dX6_flash_0 : decode cX6_flash 0 = .ok (.aload_n 1, 1) := by decide +kernel
theorem dX6_flash_1 : decode cX6_flash 1 = .ok (.dup, 1) := by decide +kernel
theorem dX6_flash_2 : decode cX6_flash 2 = .ok (.getfield 91, 3) := by decide +kernel
theorem dX6_flash_5 : decode cX6_flash 5 = .ok (.iconst 1, 1) := by decide +kernel
theorem dX6_flash_6 : decode cX6_flash 6 = .ok (.iadd, 1) := by decide +kernel
theorem dX6_flash_7 : decode cX6_flash 7 = .ok (.putfield 91, 3) := by decide +kernel
theorem dX6_flash_10 : decode cX6_flash 10 = .ok (.aload_n 1, 1) := by decide +kernel
theorem dX6_flash_11 : decode cX6_flash 11 = .ok (.aload_n 1, 1) := by decide +kernel
theorem dX6_flash_12 : decode cX6_flash 12 = .ok (.getfield 96, 3) := by decide +kernel
theorem dX6_flash_15 : decode cX6_flash 15 = .ok (.aload_n 0, 1) := by decide +kernel
theorem dX6_flash_16 : decode cX6_flash 16 = .ok (.getfield 48, 3) := by decide +kernel
theorem dX6_flash_19 : decode cX6_flash 19 = .ok (.aload_n 1, 1) := by decide +kernel
theorem dX6_flash_20 : decode cX6_flash 20 = .ok (.getfield 99, 3) := by decide +kernel
theorem dX6_flash_23 : decode cX6_flash 23 = .ok (.aload_n 1, 1) := by decide +kernel
theorem dX6_flash_24 : decode cX6_flash 24 = .ok (.getfield 91, 3) := by decide +kernel
theorem dX6_flash_27 : decode cX6_flash 27 = .ok (.invokestatic 102, 3) := by decide +kernel
theorem dX6_flash_30 : decode cX6_flash 30 = .ok (.iadd, 1) := by decide +kernel
theorem dX6_flash_31 : decode cX6_flash 31 = .ok (.aload_n 0, 1) := by decide +kernel
theorem dX6_flash_32 : decode cX6_flash 32 = .ok (.getfield 9, 3) := by decide +kernel
theorem dX6_flash_35 : decode cX6_flash 35 = .ok (.invokestatic 108, 3) := by decide +kernel
theorem dX6_flash_38 : decode cX6_flash 38 = .ok (.putfield 96, 3) := by decide +kernel
theorem dX6_flash_41 : decode cX6_flash 41 = .ok (.aload_n 0, 1) := by decide +kernel
theorem dX6_flash_42 : decode cX6_flash 42 = .ok (.aload_n 1, 1) := by decide +kernel
theorem dX6_flash_43 : decode cX6_flash 43 = .ok (.invokevirtual 112, 3) := by decide +kernel
theorem dX6_flash_46 : decode cX6_flash 46 = .ok (.istore_n 2, 1) := by decide +kernel
theorem dX6_flash_47 : decode cX6_flash 47 = .ok (.iconst 0, 1) := by decide +kernel
theorem dX6_flash_48 : decode cX6_flash 48 = .ok (.istore_n 3, 1) := by decide +kernel
theorem dX6_flash_49 : decode cX6_flash 49 = .ok (.iload_n 3, 1) := by decide +kernel
theorem dX6_flash_50 : decode cX6_flash 50 = .ok (.aload_n 0, 1) := by decide +kernel
theorem dX6_flash_51 : decode cX6_flash 51 = .ok (.getfield 51, 3) := by decide +kernel
theorem dX6_flash_54 : decode cX6_flash 54 = .ok (.if_icmp .ge 76, 3) := by decide +kernel
theorem dX6_flash_57 : decode cX6_flash 57 = .ok (.aload_n 1, 1) := by decide +kernel
theorem dX6_flash_58 : decode cX6_flash 58 = .ok (.getfield 85, 3) := by decide +kernel
theorem dX6_flash_61 : decode cX6_flash 61 = .ok (.iload_n 3, 1) := by decide +kernel
theorem dX6_flash_62 : decode cX6_flash 62 = .ok (.invokestatic 116, 3) := by decide +kernel
theorem dX6_flash_65 : decode cX6_flash 65 = .ok (.istore 4, 2) := by decide +kernel
theorem dX6_flash_67 : decode cX6_flash 67 = .ok (.aload_n 0, 1) := by decide +kernel
theorem dX6_flash_68 : decode cX6_flash 68 = .ok (.getfield 15, 3) := by decide +kernel
theorem dX6_flash_71 : decode cX6_flash 71 = .ok (.iload_n 3, 1) := by decide +kernel
theorem dX6_flash_72 : decode cX6_flash 72 = .ok (.invokestatic 116, 3) := by decide +kernel
theorem dX6_flash_75 : decode cX6_flash 75 = .ok (.iload_n 2, 1) := by decide +kernel
theorem dX6_flash_76 : decode cX6_flash 76 = .ok (.iload 4, 2) := by decide +kernel
theorem dX6_flash_78 : decode cX6_flash 78 = .ok (.invokestatic 120, 3) := by decide +kernel
theorem dX6_flash_81 : decode cX6_flash 81 = .ok (.istore 5, 2) := by decide +kernel
theorem dX6_flash_83 : decode cX6_flash 83 = .ok (.iload 5, 2) := by decide +kernel
theorem dX6_flash_85 : decode cX6_flash 85 = .ok (.iload 4, 2) := by decide +kernel
theorem dX6_flash_87 : decode cX6_flash 87 = .ok (.if_icmp .eq 27, 3) := by decide +kernel
theorem dX6_flash_90 : decode cX6_flash 90 = .ok (.aload_n 1, 1) := by decide +kernel
theorem dX6_flash_91 : decode cX6_flash 91 = .ok (.getfield 88, 3) := by decide +kernel
theorem dX6_flash_94 : decode cX6_flash 94 = .ok (.iload_n 3, 1) := by decide +kernel
theorem dX6_flash_95 : decode cX6_flash 95 = .ok (.sipush 9999, 3) := by decide +kernel
theorem dX6_flash_98 : decode cX6_flash 98 = .ok (.aload_n 1, 1) := by decide +kernel
theorem dX6_flash_99 : decode cX6_flash 99 = .ok (.getfield 88, 3) := by decide +kernel
theorem dX6_flash_102 : decode cX6_flash 102 = .ok (.iload_n 3, 1) := by decide +kernel
theorem dX6_flash_103 : decode cX6_flash 103 = .ok (.invokestatic 116, 3) := by decide +kernel
theorem dX6_flash_106 : decode cX6_flash 106 = .ok (.iconst 1, 1) := by decide +kernel
theorem dX6_flash_107 : decode cX6_flash 107 = .ok (.iadd, 1) := by decide +kernel
theorem dX6_flash_108 : decode cX6_flash 108 = .ok (.invokestatic 125, 3) := by decide +kernel
theorem dX6_flash_111 : decode cX6_flash 111 = .ok (.invokestatic 81, 3) := by decide +kernel
theorem dX6_flash_114 : decode cX6_flash 114 = .ok (.aload_n 1, 1) := by decide +kernel
theorem dX6_flash_115 : decode cX6_flash 115 = .ok (.getfield 85, 3) := by decide +kernel
theorem dX6_flash_118 : decode cX6_flash 118 = .ok (.iload_n 3, 1) := by decide +kernel
theorem dX6_flash_119 : decode cX6_flash 119 = .ok (.iload 5, 2) := by decide +kernel
theorem dX6_flash_121 : decode cX6_flash 121 = .ok (.invokestatic 81, 3) := by decide +kernel
theorem dX6_flash_124 : decode cX6_flash 124 = .ok (.iinc 3 1, 3) := by decide +kernel
theorem dX6_flash_127 : decode cX6_flash 127 = .ok (.goto (-78), 3) := by decide +kernel
theorem dX6_flash_130 : decode cX6_flash 130 = .ok (.return_, 1) := by decide +kernel
theorem dX6_drawingAtHand_0 : decode cX6_drawingAtHand 0 = .ok (.aload_n 1, 1) := by decide +kernel
theorem dX6_drawingAtHand_1 : decode cX6_drawingAtHand 1 = .ok (.getfield 130, 3) := by decide +kernel
theorem dX6_drawingAtHand_4 : decode cX6_drawingAtHand 4 = .ok (.aload_n 1, 1) := by decide +kernel
theorem dX6_drawingAtHand_5 : decode cX6_drawingAtHand 5 = .ok (.getfield 96, 3) := by decide +kernel
theorem dX6_drawingAtHand_8 : decode cX6_drawingAtHand 8 = .ok (.invokestatic 116, 3) := by decide +kernel
theorem dX6_drawingAtHand_11 : decode cX6_drawingAtHand 11 = .ok (.ireturn, 1) := by decide +kernel
theorem dX6_movesTogether_0 : decode cX6_movesTogether 0 = .ok (.iconst 0, 1) := by decide +kernel
theorem dX6_movesTogether_1 : decode cX6_movesTogether 1 = .ok (.istore_n 2, 1) := by decide +kernel
theorem dX6_movesTogether_2 : decode cX6_movesTogether 2 = .ok (.iconst 0, 1) := by decide +kernel
theorem dX6_movesTogether_3 : decode cX6_movesTogether 3 = .ok (.istore_n 3, 1) := by decide +kernel
theorem dX6_movesTogether_4 : decode cX6_movesTogether 4 = .ok (.iload_n 3, 1) := by decide +kernel
theorem dX6_movesTogether_5 : decode cX6_movesTogether 5 = .ok (.aload_n 0, 1) := by decide +kernel
theorem dX6_movesTogether_6 : decode cX6_movesTogether 6 = .ok (.getfield 51, 3) := by decide +kernel
theorem dX6_movesTogether_9 : decode cX6_movesTogether 9 = .ok (.if_icmp .ge 20, 3) := by decide +kernel
theorem dX6_movesTogether_12 : decode cX6_movesTogether 12 = .ok (.iload_n 2, 1) := by decide +kernel
theorem dX6_movesTogether_13 : decode cX6_movesTogether 13 = .ok (.aload_n 1, 1) := by decide +kernel
theorem dX6_movesTogether_14 : decode cX6_movesTogether 14 = .ok (.getfield 88, 3) := by decide +kernel
theorem dX6_movesTogether_17 : decode cX6_movesTogether 17 = .ok (.iload_n 3, 1) := by decide +kernel
theorem dX6_movesTogether_18 : decode cX6_movesTogether 18 = .ok (.invokestatic 116, 3) := by decide +kernel
theorem dX6_movesTogether_21 : decode cX6_movesTogether 21 = .ok (.iadd, 1) := by decide +kernel
theorem dX6_movesTogether_22 : decode cX6_movesTogether 22 = .ok (.istore_n 2, 1) := by decide +kernel
theorem dX6_movesTogether_23 : decode cX6_movesTogether 23 = .ok (.iinc 3 1, 3) := by decide +kernel
theorem dX6_movesTogether_26 : decode cX6_movesTogether 26 = .ok (.goto (-22), 3) := by decide +kernel
theorem dX6_movesTogether_29 : decode cX6_movesTogether 29 = .ok (.iload_n 2, 1) := by decide +kernel
theorem dX6_movesTogether_30 : decode cX6_movesTogether 30 = .ok (.ireturn, 1) := by decide +kernel
theorem dX7_init_0 : decode cX7_init 0 = .ok (.aload_n 0, 1) := by decide +kernel
theorem dX7_init_1 : decode cX7_init 1 = .ok (.invokespecial 3, 3) := by decide +kernel
theorem dX7_init_4 : decode cX7_init 4 = .ok (.aload_n 0, 1) := by decide +kernel
theorem dX7_init_5 : decode cX7_init 5 = .ok (.bipush 10, 2) := by decide +kernel
theorem dX7_init_7 : decode cX7_init 7 = .ok (.newarray .int, 2) := by decide +kernel
theorem dX7_init_9 : decode cX7_init 9 = .ok (.putfield 9, 3) := by decide +kernel
theorem dX7_init_12 : decode cX7_init 12 = .ok (.aload_n 0, 1) := by decide +kernel
theorem dX7_init_13 : decode cX7_init 13 = .ok (.bipush 10, 2) := by decide +kernel
theorem dX7_init_15 : decode cX7_init 15 = .ok (.newarray .int, 2) := by decide +kernel
theorem dX7_init_17 : decode cX7_init 17 = .ok (.putfield 15, 3) := by decide +kernel
theorem dX7_init_20 : decode cX7_init 20 = .ok (.return_, 1) := by decide +kernel
theorem dX7_begin_0 : decode cX7_begin 0 = .ok (.aload_n 0, 1) := by decide +kernel
theorem dX7_begin_1 : decode cX7_begin 1 = .ok (.getfield 9, 3) := by decide +kernel
theorem dX7_begin_4 : decode cX7_begin 4 = .ok (.iconst 0, 1) := by decide +kernel
theorem dX7_begin_5 : decode cX7_begin 5 = .ok (.invokestatic 18, 3) := by decide +kernel
theorem dX7_begin_8 : decode cX7_begin 8 = .ok (.aload_n 0, 1) := by decide +kernel
theorem dX7_begin_9 : decode cX7_begin 9 = .ok (.getfield 9, 3) := by decide +kernel
theorem dX7_begin_12 : decode cX7_begin 12 = .ok (.iload_n 1, 1) := by decide +kernel
theorem dX7_begin_13 : decode cX7_begin 13 = .ok (.iconst 1, 1) := by decide +kernel
theorem dX7_begin_14 : decode cX7_begin 14 = .ok (.invokestatic 22, 3) := by decide +kernel
theorem dX7_begin_17 : decode cX7_begin 17 = .ok (.return_, 1) := by decide +kernel
theorem dX7_flash_0 : decode cX7_flash 0 = .ok (.aload_n 0, 1) := by decide +kernel
theorem dX7_flash_1 : decode cX7_flash 1 = .ok (.getfield 9, 3) := by decide +kernel
theorem dX7_flash_4 : decode cX7_flash 4 = .ok (.aload_n 0, 1) := by decide +kernel
theorem dX7_flash_5 : decode cX7_flash 5 = .ok (.getfield 15, 3) := by decide +kernel
theorem dX7_flash_8 : decode cX7_flash 8 = .ok (.invokestatic 26, 3) := by decide +kernel
theorem dX7_flash_11 : decode cX7_flash 11 = .ok (.aload_n 0, 1) := by decide +kernel
theorem dX7_flash_12 : decode cX7_flash 12 = .ok (.getfield 9, 3) := by decide +kernel
theorem dX7_flash_15 : decode cX7_flash 15 = .ok (.iconst 0, 1) := by decide +kernel
theorem dX7_flash_16 : decode cX7_flash 16 = .ok (.invokestatic 18, 3) := by decide +kernel
theorem dX7_flash_19 : decode cX7_flash 19 = .ok (.iconst 0, 1) := by decide +kernel
theorem dX7_flash_20 : decode cX7_flash 20 = .ok (.istore 4, 2) := by decide +kernel
theorem dX7_flash_22 : decode cX7_flash 22 = .ok (.iload 4, 2) := by decide +kernel
theorem dX7_flash_24 : decode cX7_flash 24 = .ok (.bipush 10, 2) := by decide +kernel
theorem dX7_flash_26 : decode cX7_flash 26 = .ok (.if_icmp .ge 48, 3) := by decide +kernel
theorem dX7_flash_29 : decode cX7_flash 29 = .ok (.aload_n 0, 1) := by decide +kernel
theorem dX7_flash_30 : decode cX7_flash 30 = .ok (.getfield 15, 3) := by decide +kernel
theorem dX7_flash_33 : decode cX7_flash 33 = .ok (.iload 4, 2) := by decide +kernel
theorem dX7_flash_35 : decode cX7_flash 35 = .ok (.invokestatic 30, 3) := by decide +kernel
theorem dX7_flash_38 : decode cX7_flash 38 = .ok (.istore 5, 2) := by decide +kernel
theorem dX7_flash_40 : decode cX7_flash 40 = .ok (.aload_n 0, 1) := by decide +kernel
theorem dX7_flash_41 : decode cX7_flash 41 = .ok (.iload 4, 2) := by decide +kernel
theorem dX7_flash_43 : decode cX7_flash 43 = .ok (.iload 5, 2) := by decide +kernel
theorem dX7_flash_45 : decode cX7_flash 45 = .ok (.iload_n 3, 1) := by decide +kernel
theorem dX7_flash_46 : decode cX7_flash 46 = .ok (.imul, 1) := by decide +kernel
theorem dX7_flash_47 : decode cX7_flash 47 = .ok (.invokevirtual 34, 3) := by decide +kernel
theorem dX7_flash_50 : decode cX7_flash 50 = .ok (.aload_n 0, 1) := by decide +kernel
theorem dX7_flash_51 : decode cX7_flash 51 = .ok (.iload_n 1, 1) := by decide +kernel
theorem dX7_flash_52 : decode cX7_flash 52 = .ok (.iload_n 2, 1) := by decide +kernel
theorem dX7_flash_53 : decode cX7_flash 53 = .ok (.iload 4, 2) := by decide +kernel
theorem dX7_flash_55 : decode cX7_flash 55 = .ok (.invokestatic 38, 3) := by decide +kernel
theorem dX7_flash_58 : decode cX7_flash 58 = .ok (.iload 5, 2) := by decide +kernel
theorem dX7_flash_60 : decode cX7_flash 60 = .ok (.bipush 10, 2) := by decide +kernel
theorem dX7_flash_62 : decode cX7_flash 62 = .ok (.iload_n 3, 1) := by decide +kernel
theorem dX7_flash_63 : decode cX7_flash 63 = .ok (.isub, 1) := by decide +kernel
theorem dX7_flash_64 : decode cX7_flash 64 = .ok (.imul, 1) := by decide +kernel
theorem dX7_flash_65 : decode cX7_flash 65 = .ok (.invokevirtual 34, 3) := by decide +kernel
theorem dX7_flash_68 : decode cX7_flash 68 = .ok (.iinc 4 1, 3) := by decide +kernel
theorem dX7_flash_71 : decode cX7_flash 71 = .ok (.goto (-49), 3) := by decide +kernel
theorem dX7_flash_74 : decode cX7_flash 74 = .ok (.return_, 1) := by decide +kernel
theorem dX7_weightOf_0 : decode cX7_weightOf 0 = .ok (.aload_n 0, 1) := by decide +kernel
theorem dX7_weightOf_1 : decode cX7_weightOf 1 = .ok (.getfield 9, 3) := by decide +kernel
theorem dX7_weightOf_4 : decode cX7_weightOf 4 = .ok (.iload_n 1, 1) := by decide +kernel
theorem dX7_weightOf_5 : decode cX7_weightOf 5 = .ok (.invokestatic 30, 3) := by decide +kernel
theorem dX7_weightOf_8 : decode cX7_weightOf 8 = .ok (.ireturn, 1) := by decide +kernel
theorem dX7_add_0 : decode cX7_add 0 = .ok (.aload_n 0, 1) := by decide +kernel
theorem dX7_add_1 : decode cX7_add 1 = .ok (.getfield 9, 3) := by decide +kernel
theorem dX7_add_4 : decode cX7_add 4 = .ok (.iload_n 1, 1) := by decide +kernel
theorem dX7_add_5 : decode cX7_add 5 = .ok (.aload_n 0, 1) := by decide +kernel
theorem dX7_add_6 : decode cX7_add 6 = .ok (.iload_n 1, 1) := by decide +kernel
theorem dX7_add_7 : decode cX7_add 7 = .ok (.invokevirtual 44, 3) := by decide +kernel
theorem dX7_add_10 : decode cX7_add 10 = .ok (.iload_n 2, 1) := by decide +kernel
theorem dX7_add_11 : decode cX7_add 11 = .ok (.iadd, 1) := by decide +kernel
theorem dX7_add_12 : decode cX7_add 12 = .ok (.invokestatic 22, 3) := by decide +kernel
theorem dX7_add_15 : decode cX7_add 15 = .ok (.return_, 1) := by decide +kernel
theorem dX8_init_0 : decode cX8_init 0 = .ok (.aload_n 0, 1) := by decide +kernel
theorem dX8_init_1 : decode cX8_init 1 = .ok (.invokespecial 3, 3) := by decide +kernel
theorem dX8_init_4 : decode cX8_init 4 = .ok (.aload_n 0, 1) := by decide +kernel
theorem dX8_init_5 : decode cX8_init 5 = .ok (.bipush 120, 2) := by decide +kernel
theorem dX8_init_7 : decode cX8_init 7 = .ok (.newarray .int, 2) := by decide +kernel
theorem dX8_init_9 : decode cX8_init 9 = .ok (.putfield 9, 3) := by decide +kernel
theorem dX8_init_12 : decode cX8_init 12 = .ok (.aload_n 0, 1) := by decide +kernel
theorem dX8_init_13 : decode cX8_init 13 = .ok (.bipush 12, 2) := by decide +kernel
theorem dX8_init_15 : decode cX8_init 15 = .ok (.newarray .int, 2) := by decide +kernel
theorem dX8_init_17 : decode cX8_init 17 = .ok (.putfield 15, 3) := by decide +kernel
theorem dX8_init_20 : decode cX8_init 20 = .ok (.return_, 1) := by decide +kernel
theorem dX8_plan_0 : decode cX8_plan 0 = .ok (.aload_n 0, 1) := by decide +kernel
theorem dX8_plan_1 : decode cX8_plan 1 = .ok (.ldc 18, 2) := by decide +kernel
theorem dX8_plan_3 : decode cX8_plan 3 = .ok (.putfield 19, 3) := by decide +kernel
theorem dX8_plan_6 : decode cX8_plan 6 = .ok (.iconst 0, 1) := by decide +kernel
theorem dX8_plan_7 : decode cX8_plan 7 = .ok (.istore_n 3, 1) := by decide +kernel
theorem dX8_plan_8 : decode cX8_plan 8 = .ok (.iconst 0, 1) := by decide +kernel
theorem dX8_plan_9 : decode cX8_plan 9 = .ok (.istore 4, 2) := by decide +kernel
theorem dX8_plan_11 : decode cX8_plan 11 = .ok (.iload 4, 2) := by decide +kernel
theorem dX8_plan_13 : decode cX8_plan 13 = .ok (.bipush 10, 2) := by decide +kernel
theorem dX8_plan_15 : decode cX8_plan 15 = .ok (.if_icmp .ge 45, 3) := by decide +kernel
theorem dX8_plan_18 : decode cX8_plan 18 = .ok (.aload_n 0, 1) := by decide +kernel
theorem dX8_plan_19 : decode cX8_plan 19 = .ok (.aload_n 1, 1) := by decide +kernel
theorem dX8_plan_20 : decode cX8_plan 20 = .ok (.iload_n 2, 1) := by decide +kernel
theorem dX8_plan_21 : decode cX8_plan 21 = .ok (.iload 4, 2) := by decide +kernel
theorem dX8_plan_23 : decode cX8_plan 23 = .ok (.invokevirtual 23, 3) := by decide +kernel
theorem dX8_plan_26 : decode cX8_plan 26 = .ok (.aload_n 0, 1) := by decide +kernel
theorem dX8_plan_27 : decode cX8_plan 27 = .ok (.iconst 0, 1) := by decide +kernel
theorem dX8_plan_28 : decode cX8_plan 28 = .ok (.iload 4, 2) := by decide +kernel
theorem dX8_plan_30 : decode cX8_plan 30 = .ok (.invokevirtual 27, 3) := by decide +kernel
theorem dX8_plan_33 : decode cX8_plan 33 = .ok (.aload_n 0, 1) := by decide +kernel
theorem dX8_plan_34 : decode cX8_plan 34 = .ok (.getfield 19, 3) := by decide +kernel
theorem dX8_plan_37 : decode cX8_plan 37 = .ok (.if_icmp .ge 17, 3) := by decide +kernel
theorem dX8_plan_40 : decode cX8_plan 40 = .ok (.aload_n 0, 1) := by decide +kernel
theorem dX8_plan_41 : decode cX8_plan 41 = .ok (.aload_n 0, 1) := by decide +kernel
theorem dX8_plan_42 : decode cX8_plan 42 = .ok (.iconst 0, 1) := by decide +kernel
theorem dX8_plan_43 : decode cX8_plan 43 = .ok (.iload 4, 2) := by decide +kernel
theorem dX8_plan_45 : decode cX8_plan 45 = .ok (.invokevirtual 27, 3) := by decide +kernel
theorem dX8_plan_48 : decode cX8_plan 48 = .ok (.putfield 19, 3) := by decide +kernel
theorem dX8_plan_51 : decode cX8_plan 51 = .ok (.iload 4, 2) := by decide +kernel
theorem dX8_plan_53 : decode cX8_plan 53 = .ok (.istore_n 3, 1) := by decide +kernel
theorem dX8_plan_54 : decode cX8_plan 54 = .ok (.iinc 4 1, 3) := by decide +kernel
theorem dX8_plan_57 : decode cX8_plan 57 = .ok (.goto (-46), 3) := by decide +kernel
theorem dX8_plan_60 : decode cX8_plan 60 = .ok (.aload_n 0, 1) := by decide +kernel
theorem dX8_plan_61 : decode cX8_plan 61 = .ok (.aload_n 1, 1) := by decide +kernel
theorem dX8_plan_62 : decode cX8_plan 62 = .ok (.iload_n 2, 1) := by decide +kernel
theorem dX8_plan_63 : decode cX8_plan 63 = .ok (.iload_n 3, 1) := by decide +kernel
theorem dX8_plan_64 : decode cX8_plan 64 = .ok (.invokevirtual 23, 3) := by decide +kernel
theorem dX8_plan_67 : decode cX8_plan 67 = .ok (.aload_n 0, 1) := by decide +kernel
theorem dX8_plan_68 : decode cX8_plan 68 = .ok (.getfield 15, 3) := by decide +kernel
theorem dX8_plan_71 : decode cX8_plan 71 = .ok (.iconst 0, 1) := by decide +kernel
theorem dX8_plan_72 : decode cX8_plan 72 = .ok (.iload_n 3, 1) := by decide +kernel
theorem dX8_plan_73 : decode cX8_plan 73 = .ok (.invokestatic 31, 3) := by decide +kernel
theorem dX8_plan_76 : decode cX8_plan 76 = .ok (.iconst 1, 1) := by decide +kernel
theorem dX8_plan_77 : decode cX8_plan 77 = .ok (.istore 4, 2) := by decide +kernel
theorem dX8_plan_79 : decode cX8_plan 79 = .ok (.iload 4, 2) := by decide +kernel
theorem dX8_plan_81 : decode cX8_plan 81 = .ok (.iload_n 2, 1) := by decide +kernel
theorem dX8_plan_82 : decode cX8_plan 82 = .ok (.if_icmp .ge 35, 3) := by decide +kernel
theorem dX8_plan_85 : decode cX8_plan 85 = .ok (.aload_n 0, 1) := by decide +kernel
theorem dX8_plan_86 : decode cX8_plan 86 = .ok (.getfield 15, 3) := by decide +kernel
theorem dX8_plan_89 : decode cX8_plan 89 = .ok (.iload 4, 2) := by decide +kernel
theorem dX8_plan_91 : decode cX8_plan 91 = .ok (.aload_n 0, 1) := by decide +kernel
theorem dX8_plan_92 : decode cX8_plan 92 = .ok (.iload 4, 2) := by decide +kernel
theorem dX8_plan_94 : decode cX8_plan 94 = .ok (.aload_n 0, 1) := by decide +kernel
theorem dX8_plan_95 : decode cX8_plan 95 = .ok (.getfield 15, 3) := by decide +kernel
theorem dX8_plan_98 : decode cX8_plan 98 = .ok (.iload 4, 2) := by decide +kernel
theorem dX8_plan_100 : decode cX8_plan 100 = .ok (.iconst 1, 1) := by decide +kernel
theorem dX8_plan_101 : decode cX8_plan 101 = .ok (.isub, 1) := by decide +kernel
theorem dX8_plan_102 : decode cX8_plan 102 = .ok (.invokestatic 34, 3) := by decide +kernel
theorem dX8_plan_105 : decode cX8_plan 105 = .ok (.invokevirtual 38, 3) := by decide +kernel
theorem dX8_plan_108 : decode cX8_plan 108 = .ok (.invokestatic 31, 3) := by decide +kernel
theorem dX8_plan_111 : decode cX8_plan 111 = .ok (.iinc 4 1, 3) := by decide +kernel
theorem dX8_plan_114 : decode cX8_plan 114 = .ok (.goto (-35), 3) := by decide +kernel
theorem dX8_plan_117 : decode cX8_plan 117 = .ok (.return_, 1) := by decide +kernel
theorem dX8_fillCosts_0 : decode cX8_fillCosts 0 = .ok (.iload_n 2, 1) := by decide +kernel
theorem dX8_fillCosts_1 : decode cX8_fillCosts 1 = .ok (.iconst 1, 1) := by decide +kernel
theorem dX8_fillCosts_2 : decode cX8_fillCosts 2 = .ok (.isub, 1) := by decide +kernel
theorem dX8_fillCosts_3 : decode cX8_fillCosts 3 = .ok (.istore 4, 2) := by decide +kernel
theorem dX8_fillCosts_5 : decode cX8_fillCosts 5 = .ok (.iload 4, 2) := by decide +kernel
theorem dX8_fillCosts_7 : decode cX8_fillCosts 7 = .ok (.ifCond .lt 105, 3) := by decide +kernel
theorem dX8_fillCosts_10 : decode cX8_fillCosts 10 = .ok (.iconst 0, 1) := by decide +kernel
theorem dX8_fillCosts_11 : decode cX8_fillCosts 11 = .ok (.istore 5, 2) := by decide +kernel
theorem dX8_fillCosts_13 : decode cX8_fillCosts 13 = .ok (.iload 5, 2) := by decide +kernel
theorem dX8_fillCosts_15 : decode cX8_fillCosts 15 = .ok (.bipush 10, 2) := by decide +kernel
theorem dX8_fillCosts_17 : decode cX8_fillCosts 17 = .ok (.if_icmp .ge 89, 3) := by decide +kernel
theorem dX8_fillCosts_20 : decode cX8_fillCosts 20 = .ok (.aload_n 1, 1) := by decide +kernel
theorem dX8_fillCosts_21 : decode cX8_fillCosts 21 = .ok (.iload 4, 2) := by decide +kernel
theorem dX8_fillCosts_23 : decode cX8_fillCosts 23 = .ok (.invokestatic 34, 3) := by decide +kernel
theorem dX8_fillCosts_26 : decode cX8_fillCosts 26 = .ok (.iload 5, 2) := by decide +kernel
theorem dX8_fillCosts_28 : decode cX8_fillCosts 28 = .ok (.if_icmp .ne 7, 3) := by decide +kernel
theorem dX8_fillCosts_31 : decode cX8_fillCosts 31 = .ok (.iconst 0, 1) := by decide +kernel
theorem dX8_fillCosts_32 : decode cX8_fillCosts 32 = .ok (.goto 4, 3) := by decide +kernel
theorem dX8_fillCosts_35 : decode cX8_fillCosts 35 = .ok (.iconst 1, 1) := by decide +kernel
theorem dX8_fillCosts_36 : decode cX8_fillCosts 36 = .ok (.istore 6, 2) := by decide +kernel
theorem dX8_fillCosts_38 : decode cX8_fillCosts 38 = .ok (.iload 4, 2) := by decide +kernel
theorem dX8_fillCosts_40 : decode cX8_fillCosts 40 = .ok (.iload_n 2, 1) := by decide +kernel
theorem dX8_fillCosts_41 : decode cX8_fillCosts 41 = .ok (.iconst 1, 1) := by decide +kernel
theorem dX8_fillCosts_42 : decode cX8_fillCosts 42 = .ok (.isub, 1) := by decide +kernel
theorem dX8_fillCosts_43 : decode cX8_fillCosts 43 = .ok (.if_icmp .ne 12, 3) := by decide +kernel
theorem dX8_fillCosts_46 : decode cX8_fillCosts 46 = .ok (.iload 5, 2) := by decide +kernel
theorem dX8_fillCosts_48 : decode cX8_fillCosts 48 = .ok (.iload_n 3, 1) := by decide +kernel
theorem dX8_fillCosts_49 : decode cX8_fillCosts 49 = .ok (.invokestatic 41, 3) := by decide +kernel
theorem dX8_fillCosts_52 : decode cX8_fillCosts 52 = .ok (.goto 21, 3) := by decide +kernel
theorem dX8_fillCosts_55 : decode cX8_fillCosts 55 = .ok (.aload_n 0, 1) := by decide +kernel
theorem dX8_fillCosts_56 : decode cX8_fillCosts 56 = .ok (.iload 4, 2) := by decide +kernel
theorem dX8_fillCosts_58 : decode cX8_fillCosts 58 = .ok (.iconst 1, 1) := by decide +kernel
theorem dX8_fillCosts_59 : decode cX8_fillCosts 59 = .ok (.iadd, 1) := by decide +kernel
theorem dX8_fillCosts_60 : decode cX8_fillCosts 60 = .ok (.aload_n 0, 1) := by decide +kernel
theorem dX8_fillCosts_61 : decode cX8_fillCosts 61 = .ok (.iload 4, 2) := by decide +kernel
theorem dX8_fillCosts_63 : decode cX8_fillCosts 63 = .ok (.iconst 1, 1) := by decide +kernel
theorem dX8_fillCosts_64 : decode cX8_fillCosts 64 = .ok (.iadd, 1) := by decide +kernel
theorem dX8_fillCosts_65 : decode cX8_fillCosts 65 = .ok (.iload 5, 2) := by decide +kernel
theorem dX8_fillCosts_67 : decode cX8_fillCosts 67 = .ok (.invokevirtual 38, 3) := by decide +kernel
theorem dX8_fillCosts_70 : decode cX8_fillCosts 70 = .ok (.invokevirtual 27, 3) := by decide +kernel
theorem dX8_fillCosts_73 : decode cX8_fillCosts 73 = .ok (.istore 7, 2) := by decide +kernel
theorem dX8_fillCosts_75 : decode cX8_fillCosts 75 = .ok (.aload_n 0, 1) := by decide +kernel
theorem dX8_fillCosts_76 : decode cX8_fillCosts 76 = .ok (.getfield 9, 3) := by decide +kernel
theorem dX8_fillCosts_79 : decode cX8_fillCosts 79 = .ok (.iload 4, 2) := by decide +kernel
theorem dX8_fillCosts_81 : decode cX8_fillCosts 81 = .ok (.bipush 10, 2) := by decide +kernel
theorem dX8_fillCosts_83 : decode cX8_fillCosts 83 = .ok (.imul, 1) := by decide +kernel
theorem dX8_fillCosts_84 : decode cX8_fillCosts 84 = .ok (.iload 5, 2) := by decide +kernel
theorem dX8_fillCosts_86 : decode cX8_fillCosts 86 = .ok (.iadd, 1) := by decide +kernel
theorem dX8_fillCosts_87 : decode cX8_fillCosts 87 = .ok (.ldc 18, 2) := by decide +kernel
theorem dX8_fillCosts_89 : decode cX8_fillCosts 89 = .ok (.iload 6, 2) := by decide +kernel
theorem dX8_fillCosts_91 : decode cX8_fillCosts 91 = .ok (.iload 7, 2) := by decide +kernel
theorem dX8_fillCosts_93 : decode cX8_fillCosts 93 = .ok (.iadd, 1) := by decide +kernel
theorem dX8_fillCosts_94 : decode cX8_fillCosts 94 = .ok (.invokestatic 44, 3) := by decide +kernel
theorem dX8_fillCosts_97 : decode cX8_fillCosts 97 = .ok (.invokestatic 31, 3) := by decide +kernel
theorem dX8_fillCosts_100 : decode cX8_fillCosts 100 = .ok (.iinc 5 1, 3) := by decide +kernel
theorem dX8_fillCosts_103 : decode cX8_fillCosts 103 = .ok (.goto (-90), 3) := by decide +kernel
theorem dX8_fillCosts_106 : decode cX8_fillCosts 106 = .ok (.iinc 4 (-1), 3) := by decide +kernel
theorem dX8_fillCosts_109 : decode cX8_fillCosts 109 = .ok (.goto (-104), 3) := by decide +kernel
theorem dX8_fillCosts_112 : decode cX8_fillCosts 112 = .ok (.return_, 1) := by decide +kernel
theorem dX8_closing_0 : decode cX8_closing 0 = .ok (.iload_n 0, 1) := by decide +kernel
theorem dX8_closing_1 : decode cX8_closing 1 = .ok (.iload_n 1, 1) := by decide +kernel
theorem dX8_closing_2 : decode cX8_closing 2 = .ok (.isub, 1) := by decide +kernel
theorem dX8_closing_3 : decode cX8_closing 3 = .ok (.invokestatic 49, 3) := by decide +kernel
theorem dX8_closing_6 : decode cX8_closing 6 = .ok (.iconst 1, 1) := by decide +kernel
theorem dX8_closing_7 : decode cX8_closing 7 = .ok (.if_icmp .gt 7, 3) := by decide +kernel
theorem dX8_closing_10 : decode cX8_closing 10 = .ok (.iconst 0, 1) := by decide +kernel
theorem dX8_closing_11 : decode cX8_closing 11 = .ok (.goto 5, 3) := by decide +kernel
theorem dX8_closing_14 : decode cX8_closing 14 = .ok (.ldc 18, 2) := by decide +kernel
theorem dX8_closing_16 : decode cX8_closing 16 = .ok (.ireturn, 1) := by decide +kernel
theorem dX8_bestBeside_0 : decode cX8_bestBeside 0 = .ok (.iconst 0, 1) := by decide +kernel
theorem dX8_bestBeside_1 : decode cX8_bestBeside 1 = .ok (.iload_n 2, 1) := by decide +kernel
theorem dX8_bestBeside_2 : decode cX8_bestBeside 2 = .ok (.iconst 1, 1) := by decide +kernel
theorem dX8_bestBeside_3 : decode cX8_bestBeside 3 = .ok (.isub, 1) := by decide +kernel
theorem dX8_bestBeside_4 : decode cX8_bestBeside 4 = .ok (.invokestatic 53, 3) := by decide +kernel
theorem dX8_bestBeside_7 : decode cX8_bestBeside 7 = .ok (.istore_n 3, 1) := by decide +kernel
theorem dX8_bestBeside_8 : decode cX8_bestBeside 8 = .ok (.iload_n 3, 1) := by decide +kernel
theorem dX8_bestBeside_9 : decode cX8_bestBeside 9 = .ok (.istore 4, 2) := by decide +kernel
theorem dX8_bestBeside_11 : decode cX8_bestBeside 11 = .ok (.iload_n 3, 1) := by decide +kernel
theorem dX8_bestBeside_12 : decode cX8_bestBeside 12 = .ok (.istore 5, 2) := by decide +kernel
theorem dX8_bestBeside_14 : decode cX8_bestBeside 14 = .ok (.iload 5, 2) := by decide +kernel
theorem dX8_bestBeside_16 : decode cX8_bestBeside 16 = .ok (.iload_n 2, 1) := by decide +kernel
theorem dX8_bestBeside_17 : decode cX8_bestBeside 17 = .ok (.iconst 1, 1) := by decide +kernel
theorem dX8_bestBeside_18 : decode cX8_bestBeside 18 = .ok (.iadd, 1) := by decide +kernel
theorem dX8_bestBeside_19 : decode cX8_bestBeside 19 = .ok (.if_icmp .gt 37, 3) := by decide +kernel
theorem dX8_bestBeside_22 : decode cX8_bestBeside 22 = .ok (.iload 5, 2) := by decide +kernel
theorem dX8_bestBeside_24 : decode cX8_bestBeside 24 = .ok (.bipush 10, 2) := by decide +kernel
theorem dX8_bestBeside_26 : decode cX8_bestBeside 26 = .ok (.if_icmp .ge 30, 3) := by decide +kernel
theorem dX8_bestBeside_29 : decode cX8_bestBeside 29 = .ok (.aload_n 0, 1) := by decide +kernel
theorem dX8_bestBeside_30 : decode cX8_bestBeside 30 = .ok (.iload_n 1, 1) := by decide +kernel
theorem dX8_bestBeside_31 : decode cX8_bestBeside 31 = .ok (.iload 5, 2) := by decide +kernel
theorem dX8_bestBeside_33 : decode cX8_bestBeside 33 = .ok (.invokevirtual 27, 3) := by decide +kernel
theorem dX8_bestBeside_36 : decode cX8_bestBeside 36 = .ok (.aload_n 0, 1) := by decide +kernel
theorem dX8_bestBeside_37 : decode cX8_bestBeside 37 = .ok (.iload_n 1, 1) := by decide +kernel
theorem dX8_bestBeside_38 : decode cX8_bestBeside 38 = .ok (.iload 4, 2) := by decide +kernel
theorem dX8_bestBeside_40 : decode cX8_bestBeside 40 = .ok (.invokevirtual 27, 3) := by decide +kernel
theorem dX8_bestBeside_43 : decode cX8_bestBeside 43 = .ok (.if_icmp .ge 7, 3) := by decide +kernel
theorem dX8_bestBeside_46 : decode cX8_bestBeside 46 = .ok (.iload 5, 2) := by decide +kernel
theorem dX8_bestBeside_48 : decode cX8_bestBeside 48 = .ok (.istore 4, 2) := by decide +kernel
theorem dX8_bestBeside_50 : decode cX8_bestBeside 50 = .ok (.iinc 5 1, 3) := by decide +kernel
theorem dX8_bestBeside_53 : decode cX8_bestBeside 53 = .ok (.goto (-39), 3) := by decide +kernel
theorem dX8_bestBeside_56 : decode cX8_bestBeside 56 = .ok (.iload 4, 2) := by decide +kernel
theorem dX8_bestBeside_58 : decode cX8_bestBeside 58 = .ok (.ireturn, 1) := by decide +kernel
theorem dX8_cost_0 : decode cX8_cost 0 = .ok (.aload_n 0, 1) := by decide +kernel
theorem dX8_cost_1 : decode cX8_cost 1 = .ok (.getfield 9, 3) := by decide +kernel
theorem dX8_cost_4 : decode cX8_cost 4 = .ok (.iload_n 1, 1) := by decide +kernel
theorem dX8_cost_5 : decode cX8_cost 5 = .ok (.bipush 10, 2) := by decide +kernel
theorem dX8_cost_7 : decode cX8_cost 7 = .ok (.imul, 1) := by decide +kernel
theorem dX8_cost_8 : decode cX8_cost 8 = .ok (.iload_n 2, 1) := by decide +kernel
theorem dX8_cost_9 : decode cX8_cost 9 = .ok (.iadd, 1) := by decide +kernel
theorem dX8_cost_10 : decode cX8_cost 10 = .ok (.invokestatic 34, 3) := by decide +kernel
theorem dX8_cost_13 : decode cX8_cost 13 = .ok (.ireturn, 1) := by decide +kernel
theorem dX9_init_0 : decode cX9_init 0 = .ok (.aload_n 0, 1) := by decide +kernel
theorem dX9_init_1 : decode cX9_init 1 = .ok (.invokespecial 1, 3) := by decide +kernel
theorem dX9_init_4 : decode cX9_init 4 = .ok (.aload_n 0, 1) := by decide +kernel
theorem dX9_init_5 : decode cX9_init 5 = .ok (.bipush 32, 2) := by decide +kernel
theorem dX9_init_7 : decode cX9_init 7 = .ok (.newarray .int, 2) := by decide +kernel
theorem dX9_init_9 : decode cX9_init 9 = .ok (.putfield 7, 3) := by decide +kernel
theorem dX9_init_12 : decode cX9_init 12 = .ok (.return_, 1) := by decide +kernel
theorem dX9_begin_0 : decode cX9_begin 0 = .ok (.aload_n 0, 1) := by decide +kernel
theorem dX9_begin_1 : decode cX9_begin 1 = .ok (.getfield 7, 3) := by decide +kernel
theorem dX9_begin_4 : decode cX9_begin 4 = .ok (.iconst 0, 1) := by decide +kernel
theorem dX9_begin_5 : decode cX9_begin 5 = .ok (.invokestatic 13, 3) := by decide +kernel
theorem dX9_begin_8 : decode cX9_begin 8 = .ok (.aload_n 0, 1) := by decide +kernel
theorem dX9_begin_9 : decode cX9_begin 9 = .ok (.iconst 0, 1) := by decide +kernel
theorem dX9_begin_10 : decode cX9_begin 10 = .ok (.putfield 19, 3) := by decide +kernel
theorem dX9_begin_13 : decode cX9_begin 13 = .ok (.return_, 1) := by decide +kernel
theorem dX9_add_0 : decode cX9_add 0 = .ok (.aload_n 0, 1) := by decide +kernel
theorem dX9_add_1 : decode cX9_add 1 = .ok (.getfield 7, 3) := by decide +kernel
theorem dX9_add_4 : decode cX9_add 4 = .ok (.iload_n 1, 1) := by decide +kernel
theorem dX9_add_5 : decode cX9_add 5 = .ok (.invokestatic 23, 3) := by decide +kernel
theorem dX9_add_8 : decode cX9_add 8 = .ok (.iconst 1, 1) := by decide +kernel
theorem dX9_add_9 : decode cX9_add 9 = .ok (.iadd, 1) := by decide +kernel
theorem dX9_add_10 : decode cX9_add 10 = .ok (.istore_n 2, 1) := by decide +kernel
theorem dX9_add_11 : decode cX9_add 11 = .ok (.aload_n 0, 1) := by decide +kernel
theorem dX9_add_12 : decode cX9_add 12 = .ok (.getfield 7, 3) := by decide +kernel
theorem dX9_add_15 : decode cX9_add 15 = .ok (.iload_n 1, 1) := by decide +kernel
theorem dX9_add_16 : decode cX9_add 16 = .ok (.iload_n 2, 1) := by decide +kernel
theorem dX9_add_17 : decode cX9_add 17 = .ok (.invokestatic 27, 3) := by decide +kernel
theorem dX9_add_20 : decode cX9_add 20 = .ok (.aload_n 0, 1) := by decide +kernel
theorem dX9_add_21 : decode cX9_add 21 = .ok (.aload_n 0, 1) := by decide +kernel
theorem dX9_add_22 : decode cX9_add 22 = .ok (.getfield 19, 3) := by decide +kernel
theorem dX9_add_25 : decode cX9_add 25 = .ok (.iload_n 2, 1) := by decide +kernel
theorem dX9_add_26 : decode cX9_add 26 = .ok (.invokestatic 31, 3) := by decide +kernel
theorem dX9_add_29 : decode cX9_add 29 = .ok (.putfield 19, 3) := by decide +kernel
theorem dX9_add_32 : decode cX9_add 32 = .ok (.return_, 1) := by decide +kernel
theorem dX10_init_0 : decode cX10_init 0 = .ok (.aload_n 0, 1) := by decide +kernel
theorem dX10_init_1 : decode cX10_init 1 = .ok (.invokespecial 3, 3) := by decide +kernel
theorem dX10_init_4 : decode cX10_init 4 = .ok (.aload_n 0, 1) := by decide +kernel
theorem dX10_init_5 : decode cX10_init 5 = .ok (.sipush 150, 3) := by decide +kernel
theorem dX10_init_8 : decode cX10_init 8 = .ok (.newarray .int, 2) := by decide +kernel
theorem dX10_init_10 : decode cX10_init 10 = .ok (.putfield 9, 3) := by decide +kernel
theorem dX10_init_13 : decode cX10_init 13 = .ok (.aload_n 0, 1) := by decide +kernel
theorem dX10_init_14 : decode cX10_init 14 = .ok (.new 15, 3) := by decide +kernel
theorem dX10_init_17 : decode cX10_init 17 = .ok (.dup, 1) := by decide +kernel
theorem dX10_init_18 : decode cX10_init 18 = .ok (.invokespecial 17, 3) := by decide +kernel
theorem dX10_init_21 : decode cX10_init 21 = .ok (.putfield 18, 3) := by decide +kernel
theorem dX10_init_24 : decode cX10_init 24 = .ok (.aload_n 0, 1) := by decide +kernel
theorem dX10_init_25 : decode cX10_init 25 = .ok (.sipush 151, 3) := by decide +kernel
theorem dX10_init_28 : decode cX10_init 28 = .ok (.newarray .int, 2) := by decide +kernel
theorem dX10_init_30 : decode cX10_init 30 = .ok (.putfield 22, 3) := by decide +kernel
theorem dX10_init_33 : decode cX10_init 33 = .ok (.aload_n 0, 1) := by decide +kernel
theorem dX10_init_34 : decode cX10_init 34 = .ok (.sipush 151, 3) := by decide +kernel
theorem dX10_init_37 : decode cX10_init 37 = .ok (.newarray .int, 2) := by decide +kernel
theorem dX10_init_39 : decode cX10_init 39 = .ok (.putfield 25, 3) := by decide +kernel
theorem dX10_init_42 : decode cX10_init 42 = .ok (.aload_n 0, 1) := by decide +kernel
theorem dX10_init_43 : decode cX10_init 43 = .ok (.sipush 151, 3) := by decide +kernel
theorem dX10_init_46 : decode cX10_init 46 = .ok (.newarray .int, 2) := by decide +kernel
theorem dX10_init_48 : decode cX10_init 48 = .ok (.putfield 28, 3) := by decide +kernel
theorem dX10_init_51 : decode cX10_init 51 = .ok (.aload_n 0, 1) := by decide +kernel
theorem dX10_init_52 : decode cX10_init 52 = .ok (.sipush 151, 3) := by decide +kernel
theorem dX10_init_55 : decode cX10_init 55 = .ok (.newarray .int, 2) := by decide +kernel
theorem dX10_init_57 : decode cX10_init 57 = .ok (.putfield 31, 3) := by decide +kernel
theorem dX10_init_60 : decode cX10_init 60 = .ok (.return_, 1) := by decide +kernel
theorem dX10_isFull_0 : decode cX10_isFull 0 = .ok (.aload_n 0, 1) := by decide +kernel
theorem dX10_isFull_1 : decode cX10_isFull 1 = .ok (.getfield 34, 3) := by decide +kernel
theorem dX10_isFull_4 : decode cX10_isFull 4 = .ok (.sipush 150, 3) := by decide +kernel
theorem dX10_isFull_7 : decode cX10_isFull 7 = .ok (.if_icmp .lt 7, 3) := by decide +kernel
theorem dX10_isFull_10 : decode cX10_isFull 10 = .ok (.iconst 1, 1) := by decide +kernel
theorem dX10_isFull_11 : decode cX10_isFull 11 = .ok (.goto 4, 3) := by decide +kernel
theorem dX10_isFull_14 : decode cX10_isFull 14 = .ok (.iconst 0, 1) := by decide +kernel
theorem dX10_isFull_15 : decode cX10_isFull 15 = .ok (.ireturn, 1) := by decide +kernel
theorem dX10_add_0 : decode cX10_add 0 = .ok (.aload_n 0, 1) := by decide +kernel
theorem dX10_add_1 : decode cX10_add 1 = .ok (.getfield 9, 3) := by decide +kernel
theorem dX10_add_4 : decode cX10_add 4 = .ok (.aload_n 0, 1) := by decide +kernel
theorem dX10_add_5 : decode cX10_add 5 = .ok (.getfield 34, 3) := by decide +kernel
theorem dX10_add_8 : decode cX10_add 8 = .ok (.iload_n 1, 1) := by decide +kernel
theorem dX10_add_9 : decode cX10_add 9 = .ok (.invokestatic 38, 3) := by decide +kernel
theorem dX10_add_12 : decode cX10_add 12 = .ok (.aload_n 0, 1) := by decide +kernel
theorem dX10_add_13 : decode cX10_add 13 = .ok (.dup, 1) := by decide +kernel
theorem dX10_add_14 : decode cX10_add 14 = .ok (.getfield 34, 3) := by decide +kernel
theorem dX10_add_17 : decode cX10_add 17 = .ok (.iconst 1, 1) := by decide +kernel
theorem dX10_add_18 : decode cX10_add 18 = .ok (.iadd, 1) := by decide +kernel
theorem dX10_add_19 : decode cX10_add 19 = .ok (.putfield 34, 3) := by decide +kernel
theorem dX10_add_22 : decode cX10_add 22 = .ok (.aload_n 0, 1) := by decide +kernel
theorem dX10_add_23 : decode cX10_add 23 = .ok (.getfield 34, 3) := by decide +kernel
theorem dX10_add_26 : decode cX10_add 26 = .ok (.ireturn, 1) := by decide +kernel
theorem dX10_empty_0 : decode cX10_empty 0 = .ok (.aload_n 0, 1) := by decide +kernel
theorem dX10_empty_1 : decode cX10_empty 1 = .ok (.getfield 34, 3) := by decide +kernel
theorem dX10_empty_4 : decode cX10_empty 4 = .ok (.istore_n 1, 1) := by decide +kernel
theorem dX10_empty_5 : decode cX10_empty 5 = .ok (.aload_n 0, 1) := by decide +kernel
theorem dX10_empty_6 : decode cX10_empty 6 = .ok (.iconst 0, 1) := by decide +kernel
theorem dX10_empty_7 : decode cX10_empty 7 = .ok (.putfield 34, 3) := by decide +kernel
theorem dX10_empty_10 : decode cX10_empty 10 = .ok (.iload_n 1, 1) := by decide +kernel
theorem dX10_empty_11 : decode cX10_empty 11 = .ok (.ireturn, 1) := by decide +kernel
theorem dX10_readDraft_0 : decode cX10_readDraft 0 = .ok (.aload_n 0, 1) := by decide +kernel
theorem dX10_readDraft_1 : decode cX10_readDraft 1 = .ok (.aload_n 0, 1) := by decide +kernel
theorem dX10_readDraft_2 : decode cX10_readDraft 2 = .ok (.invokevirtual 42, 3) := by decide +kernel
theorem dX10_readDraft_5 : decode cX10_readDraft 5 = .ok (.invokevirtual 46, 3) := by decide +kernel
theorem dX10_readDraft_8 : decode cX10_readDraft 8 = .ok (.aload_n 0, 1) := by decide +kernel
theorem dX10_readDraft_9 : decode cX10_readDraft 9 = .ok (.iconst 0, 1) := by decide +kernel
theorem dX10_readDraft_10 : decode cX10_readDraft 10 = .ok (.putfield 50, 3) := by decide +kernel
theorem dX10_readDraft_13 : decode cX10_readDraft 13 = .ok (.aload_n 0, 1) := by decide +kernel
theorem dX10_readDraft_14 : decode cX10_readDraft 14 = .ok (.invokevirtual 53, 3) := by decide +kernel
theorem dX10_readDraft_17 : decode cX10_readDraft 17 = .ok (.iconst 4, 1) := by decide +kernel
theorem dX10_readDraft_18 : decode cX10_readDraft 18 = .ok (.if_icmp .ne 10, 3) := by decide +kernel
theorem dX10_readDraft_21 : decode cX10_readDraft 21 = .ok (.aload_n 0, 1) := by decide +kernel
theorem dX10_readDraft_22 : decode cX10_readDraft 22 = .ok (.invokevirtual 56, 3) := by decide +kernel
theorem dX10_readDraft_25 : decode cX10_readDraft 25 = .ok (.ifCond .ne 8, 3) := by decide +kernel
theorem dX10_readDraft_28 : decode cX10_readDraft 28 = .ok (.aload_n 0, 1) := by decide +kernel
theorem dX10_readDraft_29 : decode cX10_readDraft 29 = .ok (.invokevirtual 60, 3) := by decide +kernel
theorem dX10_readDraft_32 : decode cX10_readDraft 32 = .ok (.ireturn, 1) := by decide +kernel
theorem dX10_readDraft_33 : decode cX10_readDraft 33 = .ok (.iconst 1, 1) := by decide +kernel
theorem dX10_readDraft_34 : decode cX10_readDraft 34 = .ok (.istore_n 1, 1) := by decide +kernel
theorem dX10_readDraft_35 : decode cX10_readDraft 35 = .ok (.iload_n 1, 1) := by decide +kernel
theorem dX10_readDraft_36 : decode cX10_readDraft 36 = .ok (.sipush 150, 3) := by decide +kernel
theorem dX10_readDraft_39 : decode cX10_readDraft 39 = .ok (.if_icmp .gt 41, 3) := by decide +kernel
theorem dX10_readDraft_42 : decode cX10_readDraft 42 = .ok (.aload_n 0, 1) := by decide +kernel
theorem dX10_readDraft_43 : decode cX10_readDraft 43 = .ok (.dup, 1) := by decide +kernel
theorem dX10_readDraft_44 : decode cX10_readDraft 44 = .ok (.getfield 50, 3) := by decide +kernel
theorem dX10_readDraft_47 : decode cX10_readDraft 47 = .ok (.iconst 1, 1) := by decide +kernel
theorem dX10_readDraft_48 : decode cX10_readDraft 48 = .ok (.iadd, 1) := by decide +kernel
theorem dX10_readDraft_49 : decode cX10_readDraft 49 = .ok (.putfield 50, 3) := by decide +kernel
theorem dX10_readDraft_52 : decode cX10_readDraft 52 = .ok (.aload_n 0, 1) := by decide +kernel
theorem dX10_readDraft_53 : decode cX10_readDraft 53 = .ok (.invokevirtual 53, 3) := by decide +kernel
theorem dX10_readDraft_56 : decode cX10_readDraft 56 = .ok (.ifCond .ne 6, 3) := by decide +kernel
theorem dX10_readDraft_59 : decode cX10_readDraft 59 = .ok (.goto 21, 3) := by decide +kernel
theorem dX10_readDraft_62 : decode cX10_readDraft 62 = .ok (.aload_n 0, 1) := by decide +kernel
theorem dX10_readDraft_63 : decode cX10_readDraft 63 = .ok (.invokevirtual 63, 3) := by decide +kernel
theorem dX10_readDraft_66 : decode cX10_readDraft 66 = .ok (.ifCond .ne 8, 3) := by decide +kernel
theorem dX10_readDraft_69 : decode cX10_readDraft 69 = .ok (.aload_n 0, 1) := by decide +kernel
theorem dX10_readDraft_70 : decode cX10_readDraft 70 = .ok (.invokevirtual 60, 3) := by decide +kernel
theorem dX10_readDraft_73 : decode cX10_readDraft 73 = .ok (.ireturn, 1) := by decide +kernel
theorem dX10_readDraft_74 : decode cX10_readDraft 74 = .ok (.iinc 1 1, 3) := by decide +kernel
theorem dX10_readDraft_77 : decode cX10_readDraft 77 = .ok (.goto (-42), 3) := by decide +kernel
theorem dX10_readDraft_80 : decode cX10_readDraft 80 = .ok (.iload_n 1, 1) := by decide +kernel
theorem dX10_readDraft_81 : decode cX10_readDraft 81 = .ok (.ireturn, 1) := by decide +kernel
theorem dX10_fault_0 : decode cX10_fault 0 = .ok (.bipush (-10), 2) := by decide +kernel
theorem dX10_fault_2 : decode cX10_fault 2 = .ok (.aload_n 0, 1) := by decide +kernel
theorem dX10_fault_3 : decode cX10_fault 3 = .ok (.getfield 22, 3) := by decide +kernel
theorem dX10_fault_6 : decode cX10_fault 6 = .ok (.aload_n 0, 1) := by decide +kernel
theorem dX10_fault_7 : decode cX10_fault 7 = .ok (.getfield 50, 3) := by decide +kernel
theorem dX10_fault_10 : decode cX10_fault 10 = .ok (.invokestatic 66, 3) := by decide +kernel
theorem dX10_fault_13 : decode cX10_fault 13 = .ok (.isub, 1) := by decide +kernel
theorem dX10_fault_14 : decode cX10_fault 14 = .ok (.ireturn, 1) := by decide +kernel
theorem dX10_takeDrum_0 : decode cX10_takeDrum 0 = .ok (.aload_n 0, 1) := by decide +kernel
theorem dX10_takeDrum_1 : decode cX10_takeDrum 1 = .ok (.iconst 2, 1) := by decide +kernel
theorem dX10_takeDrum_2 : decode cX10_takeDrum 2 = .ok (.bipush 12, 2) := by decide +kernel
theorem dX10_takeDrum_4 : decode cX10_takeDrum 4 = .ok (.invokevirtual 70, 3) := by decide +kernel
theorem dX10_takeDrum_7 : decode cX10_takeDrum 7 = .ok (.ifCond .ne 5, 3) := by decide +kernel
theorem dX10_takeDrum_10 : decode cX10_takeDrum 10 = .ok (.iconst 0, 1) := by decide +kernel
theorem dX10_takeDrum_11 : decode cX10_takeDrum 11 = .ok (.ireturn, 1) := by decide +kernel
theorem dX10_takeDrum_12 : decode cX10_takeDrum 12 = .ok (.aload_n 0, 1) := by decide +kernel
theorem dX10_takeDrum_13 : decode cX10_takeDrum 13 = .ok (.invokevirtual 74, 3) := by decide +kernel
theorem dX10_takeDrum_16 : decode cX10_takeDrum 16 = .ok (.istore_n 1, 1) := by decide +kernel
theorem dX10_takeDrum_17 : decode cX10_takeDrum 17 = .ok (.aload_n 0, 1) := by decide +kernel
theorem dX10_takeDrum_18 : decode cX10_takeDrum 18 = .ok (.iconst 0, 1) := by decide +kernel
theorem dX10_takeDrum_19 : decode cX10_takeDrum 19 = .ok (.iconst 5, 1) := by decide +kernel
theorem dX10_takeDrum_20 : decode cX10_takeDrum 20 = .ok (.invokevirtual 70, 3) := by decide +kernel
theorem dX10_takeDrum_23 : decode cX10_takeDrum 23 = .ok (.ifCond .ne 5, 3) := by decide +kernel
theorem dX10_takeDrum_26 : decode cX10_takeDrum 26 = .ok (.iconst 0, 1) := by decide +kernel
theorem dX10_takeDrum_27 : decode cX10_takeDrum 27 = .ok (.ireturn, 1) := by decide +kernel
theorem dX10_takeDrum_28 : decode cX10_takeDrum 28 = .ok (.aload_n 0, 1) := by decide +kernel
theorem dX10_takeDrum_29 : decode cX10_takeDrum 29 = .ok (.invokevirtual 74, 3) := by decide +kernel
theorem dX10_takeDrum_32 : decode cX10_takeDrum 32 = .ok (.istore_n 2, 1) := by decide +kernel
theorem dX10_takeDrum_33 : decode cX10_takeDrum 33 = .ok (.aload_n 0, 1) := by decide +kernel
theorem dX10_takeDrum_34 : decode cX10_takeDrum 34 = .ok (.iconst 0, 1) := by decide +kernel
theorem dX10_takeDrum_35 : decode cX10_takeDrum 35 = .ok (.bipush 11, 2) := by decide +kernel
theorem dX10_takeDrum_37 : decode cX10_takeDrum 37 = .ok (.invokevirtual 70, 3) := by decide +kernel
theorem dX10_takeDrum_40 : decode cX10_takeDrum 40 = .ok (.ifCond .ne 5, 3) := by decide +kernel
theorem dX10_takeDrum_43 : decode cX10_takeDrum 43 = .ok (.iconst 0, 1) := by decide +kernel
theorem dX10_takeDrum_44 : decode cX10_takeDrum 44 = .ok (.ireturn, 1) := by decide +kernel
theorem dX10_takeDrum_45 : decode cX10_takeDrum 45 = .ok (.aload_n 0, 1) := by decide +kernel
theorem dX10_takeDrum_46 : decode cX10_takeDrum 46 = .ok (.getfield 18, 3) := by decide +kernel
theorem dX10_takeDrum_49 : decode cX10_takeDrum 49 = .ok (.iload_n 1, 1) := by decide +kernel
theorem dX10_takeDrum_50 : decode cX10_takeDrum 50 = .ok (.iload_n 2, 1) := by decide +kernel
theorem dX10_takeDrum_51 : decode cX10_takeDrum 51 = .ok (.aload_n 0, 1) := by decide +kernel
theorem dX10_takeDrum_52 : decode cX10_takeDrum 52 = .ok (.invokevirtual 74, 3) := by decide +kernel
theorem dX10_takeDrum_55 : decode cX10_takeDrum 55 = .ok (.invokevirtual 77, 3) := by decide +kernel
theorem dX10_takeDrum_58 : decode cX10_takeDrum 58 = .ok (.aload_n 0, 1) := by decide +kernel
theorem dX10_takeDrum_59 : decode cX10_takeDrum 59 = .ok (.invokevirtual 81, 3) := by decide +kernel
theorem dX10_takeDrum_62 : decode cX10_takeDrum 62 = .ok (.ireturn, 1) := by decide +kernel
theorem dX10_takeItem_0 : decode cX10_takeItem 0 = .ok (.aload_n 0, 1) := by decide +kernel
theorem dX10_takeItem_1 : decode cX10_takeItem 1 = .ok (.invokevirtual 53, 3) := by decide +kernel
theorem dX10_takeItem_4 : decode cX10_takeItem 4 = .ok (.tableswitch 134 5 8 #[32, 37, 75, 106], 32) := by decide +kernel
theorem dX10_takeItem_36 : decode cX10_takeItem 36 = .ok (.aload_n 0, 1) := by decide +kernel
theorem dX10_takeItem_37 : decode cX10_takeItem 37 = .ok (.invokevirtual 84, 3) := by decide +kernel
theorem dX10_takeItem_40 : decode cX10_takeItem 40 = .ok (.ireturn, 1) := by decide +kernel
theorem dX10_takeItem_41 : decode cX10_takeItem 41 = .ok (.aload_n 0, 1) := by decide +kernel
theorem dX10_takeItem_42 : decode cX10_takeItem 42 = .ok (.getfield 18, 3) := by decide +kernel
theorem dX10_takeItem_45 : decode cX10_takeItem 45 = .ok (.getfield 87, 3) := by decide +kernel
theorem dX10_takeItem_48 : decode cX10_takeItem 48 = .ok (.iconst 5, 1) := by decide +kernel
theorem dX10_takeItem_49 : decode cX10_takeItem 49 = .ok (.if_icmp .ge 12, 3) := by decide +kernel
theorem dX10_takeItem_52 : decode cX10_takeItem 52 = .ok (.aload_n 0, 1) := by decide +kernel
theorem dX10_takeItem_53 : decode cX10_takeItem 53 = .ok (.iconst 0, 1) := by decide +kernel
theorem dX10_takeItem_54 : decode cX10_takeItem 54 = .ok (.iconst 5, 1) := by decide +kernel
theorem dX10_takeItem_55 : decode cX10_takeItem 55 = .ok (.invokevirtual 70, 3) := by decide +kernel
theorem dX10_takeItem_58 : decode cX10_takeItem 58 = .ok (.ifCond .ne 5, 3) := by decide +kernel
theorem dX10_takeItem_61 : decode cX10_takeItem 61 = .ok (.iconst 0, 1) := by decide +kernel
theorem dX10_takeItem_62 : decode cX10_takeItem 62 = .ok (.ireturn, 1) := by decide +kernel
theorem dX10_takeItem_63 : decode cX10_takeItem 63 = .ok (.aload_n 0, 1) := by decide +kernel
theorem dX10_takeItem_64 : decode cX10_takeItem 64 = .ok (.getfield 18, 3) := by decide +kernel
theorem dX10_takeItem_67 : decode cX10_takeItem 67 = .ok (.aload_n 0, 1) := by decide +kernel
theorem dX10_takeItem_68 : decode cX10_takeItem 68 = .ok (.invokevirtual 74, 3) := by decide +kernel
theorem dX10_takeItem_71 : decode cX10_takeItem 71 = .ok (.invokevirtual 90, 3) := by decide +kernel
theorem dX10_takeItem_74 : decode cX10_takeItem 74 = .ok (.aload_n 0, 1) := by decide +kernel
theorem dX10_takeItem_75 : decode cX10_takeItem 75 = .ok (.invokevirtual 81, 3) := by decide +kernel
theorem dX10_takeItem_78 : decode cX10_takeItem 78 = .ok (.ireturn, 1) := by decide +kernel
theorem dX10_takeItem_79 : decode cX10_takeItem 79 = .ok (.aload_n 0, 1) := by decide +kernel
theorem dX10_takeItem_80 : decode cX10_takeItem 80 = .ok (.iconst 0, 1) := by decide +kernel
theorem dX10_takeItem_81 : decode cX10_takeItem 81 = .ok (.bipush 11, 2) := by decide +kernel
theorem dX10_takeItem_83 : decode cX10_takeItem 83 = .ok (.invokevirtual 70, 3) := by decide +kernel
theorem dX10_takeItem_86 : decode cX10_takeItem 86 = .ok (.ifCond .ne 5, 3) := by decide +kernel
theorem dX10_takeItem_89 : decode cX10_takeItem 89 = .ok (.iconst 0, 1) := by decide +kernel
theorem dX10_takeItem_90 : decode cX10_takeItem 90 = .ok (.ireturn, 1) := by decide +kernel
theorem dX10_takeItem_91 : decode cX10_takeItem 91 = .ok (.aload_n 0, 1) := by decide +kernel
theorem dX10_takeItem_92 : decode cX10_takeItem 92 = .ok (.getfield 18, 3) := by decide +kernel
theorem dX10_takeItem_95 : decode cX10_takeItem 95 = .ok (.getfield 93, 3) := by decide +kernel
theorem dX10_takeItem_98 : decode cX10_takeItem 98 = .ok (.aload_n 0, 1) := by decide +kernel
theorem dX10_takeItem_99 : decode cX10_takeItem 99 = .ok (.invokevirtual 74, 3) := by decide +kernel
theorem dX10_takeItem_102 : decode cX10_takeItem 102 = .ok (.putfield 97, 3) := by decide +kernel
theorem dX10_takeItem_105 : decode cX10_takeItem 105 = .ok (.aload_n 0, 1) := by decide +kernel
theorem dX10_takeItem_106 : decode cX10_takeItem 106 = .ok (.invokevirtual 81, 3) := by decide +kernel
theorem dX10_takeItem_109 : decode cX10_takeItem 109 = .ok (.ireturn, 1) := by decide +kernel
theorem dX10_takeItem_110 : decode cX10_takeItem 110 = .ok (.aload_n 0, 1) := by decide +kernel
theorem dX10_takeItem_111 : decode cX10_takeItem 111 = .ok (.iconst 1, 1) := by decide +kernel
theorem dX10_takeItem_112 : decode cX10_takeItem 112 = .ok (.bipush 99, 2) := by decide +kernel
theorem dX10_takeItem_114 : decode cX10_takeItem 114 = .ok (.invokevirtual 70, 3) := by decide +kernel
theorem dX10_takeItem_117 : decode cX10_takeItem 117 = .ok (.ifCond .ne 5, 3) := by decide +kernel
theorem dX10_takeItem_120 : decode cX10_takeItem 120 = .ok (.iconst 0, 1) := by decide +kernel
theorem dX10_takeItem_121 : decode cX10_takeItem 121 = .ok (.ireturn, 1) := by decide +kernel
theorem dX10_takeItem_122 : decode cX10_takeItem 122 = .ok (.aload_n 0, 1) := by decide +kernel
theorem dX10_takeItem_123 : decode cX10_takeItem 123 = .ok (.getfield 18, 3) := by decide +kernel
theorem dX10_takeItem_126 : decode cX10_takeItem 126 = .ok (.aload_n 0, 1) := by decide +kernel
theorem dX10_takeItem_127 : decode cX10_takeItem 127 = .ok (.invokevirtual 74, 3) := by decide +kernel
theorem dX10_takeItem_130 : decode cX10_takeItem 130 = .ok (.invokevirtual 102, 3) := by decide +kernel
theorem dX10_takeItem_133 : decode cX10_takeItem 133 = .ok (.aload_n 0, 1) := by decide +kernel
theorem dX10_takeItem_134 : decode cX10_takeItem 134 = .ok (.invokevirtual 81, 3) := by decide +kernel
theorem dX10_takeItem_137 : decode cX10_takeItem 137 = .ok (.ireturn, 1) := by decide +kernel
theorem dX10_takeItem_138 : decode cX10_takeItem 138 = .ok (.iconst 0, 1) := by decide +kernel
theorem dX10_takeItem_139 : decode cX10_takeItem 139 = .ok (.ireturn, 1) := by decide +kernel
theorem dX10_takeDraw_0 : decode cX10_takeDraw 0 = .ok (.iconst 0, 1) := by decide +kernel
theorem dX10_takeDraw_1 : decode cX10_takeDraw 1 = .ok (.istore_n 1, 1) := by decide +kernel
theorem dX10_takeDraw_2 : decode cX10_takeDraw 2 = .ok (.iload_n 1, 1) := by decide +kernel
theorem dX10_takeDraw_3 : decode cX10_takeDraw 3 = .ok (.aload_n 0, 1) := by decide +kernel
theorem dX10_takeDraw_4 : decode cX10_takeDraw 4 = .ok (.getfield 18, 3) := by decide +kernel
theorem dX10_takeDraw_7 : decode cX10_takeDraw 7 = .ok (.getfield 105, 3) := by decide +kernel
theorem dX10_takeDraw_10 : decode cX10_takeDraw 10 = .ok (.if_icmp .ge 55, 3) := by decide +kernel
theorem dX10_takeDraw_13 : decode cX10_takeDraw 13 = .ok (.aload_n 0, 1) := by decide +kernel
theorem dX10_takeDraw_14 : decode cX10_takeDraw 14 = .ok (.iconst 0, 1) := by decide +kernel
theorem dX10_takeDraw_15 : decode cX10_takeDraw 15 = .ok (.bipush 9, 2) := by decide +kernel
theorem dX10_takeDraw_17 : decode cX10_takeDraw 17 = .ok (.invokevirtual 70, 3) := by decide +kernel
theorem dX10_takeDraw_20 : decode cX10_takeDraw 20 = .ok (.ifCond .ne 21, 3) := by decide +kernel
theorem dX10_takeDraw_23 : decode cX10_takeDraw 23 = .ok (.iload_n 1, 1) := by decide +kernel
theorem dX10_takeDraw_24 : decode cX10_takeDraw 24 = .ok (.ifCond .le 15, 3) := by decide +kernel
theorem dX10_takeDraw_27 : decode cX10_takeDraw 27 = .ok (.aload_n 0, 1) := by decide +kernel
theorem dX10_takeDraw_28 : decode cX10_takeDraw 28 = .ok (.invokevirtual 53, 3) := by decide +kernel
theorem dX10_takeDraw_31 : decode cX10_takeDraw 31 = .ok (.iconst 2, 1) := by decide +kernel
theorem dX10_takeDraw_32 : decode cX10_takeDraw 32 = .ok (.if_icmp .ne 7, 3) := by decide +kernel
theorem dX10_takeDraw_35 : decode cX10_takeDraw 35 = .ok (.iconst 1, 1) := by decide +kernel
theorem dX10_takeDraw_36 : decode cX10_takeDraw 36 = .ok (.goto 4, 3) := by decide +kernel
theorem dX10_takeDraw_39 : decode cX10_takeDraw 39 = .ok (.iconst 0, 1) := by decide +kernel
theorem dX10_takeDraw_40 : decode cX10_takeDraw 40 = .ok (.ireturn, 1) := by decide +kernel
theorem dX10_takeDraw_41 : decode cX10_takeDraw 41 = .ok (.aload_n 0, 1) := by decide +kernel
theorem dX10_takeDraw_42 : decode cX10_takeDraw 42 = .ok (.getfield 18, 3) := by decide +kernel
theorem dX10_takeDraw_45 : decode cX10_takeDraw 45 = .ok (.getfield 93, 3) := by decide +kernel
theorem dX10_takeDraw_48 : decode cX10_takeDraw 48 = .ok (.getfield 108, 3) := by decide +kernel
theorem dX10_takeDraw_51 : decode cX10_takeDraw 51 = .ok (.iload_n 1, 1) := by decide +kernel
theorem dX10_takeDraw_52 : decode cX10_takeDraw 52 = .ok (.aload_n 0, 1) := by decide +kernel
theorem dX10_takeDraw_53 : decode cX10_takeDraw 53 = .ok (.invokevirtual 74, 3) := by decide +kernel
theorem dX10_takeDraw_56 : decode cX10_takeDraw 56 = .ok (.invokestatic 38, 3) := by decide +kernel
theorem dX10_takeDraw_59 : decode cX10_takeDraw 59 = .ok (.iinc 1 1, 3) := by decide +kernel
theorem dX10_takeDraw_62 : decode cX10_takeDraw 62 = .ok (.goto (-60), 3) := by decide +kernel
theorem dX10_takeDraw_65 : decode cX10_takeDraw 65 = .ok (.aload_n 0, 1) := by decide +kernel
theorem dX10_takeDraw_66 : decode cX10_takeDraw 66 = .ok (.invokevirtual 81, 3) := by decide +kernel
theorem dX10_takeDraw_69 : decode cX10_takeDraw 69 = .ok (.ireturn, 1) := by decide +kernel
theorem dX10_takeNumber_0 : decode cX10_takeNumber 0 = .ok (.aload_n 0, 1) := by decide +kernel
theorem dX10_takeNumber_1 : decode cX10_takeNumber 1 = .ok (.dup, 1) := by decide +kernel
theorem dX10_takeNumber_2 : decode cX10_takeNumber 2 = .ok (.getfield 50, 3) := by decide +kernel
theorem dX10_takeNumber_5 : decode cX10_takeNumber 5 = .ok (.iconst 1, 1) := by decide +kernel
theorem dX10_takeNumber_6 : decode cX10_takeNumber 6 = .ok (.iadd, 1) := by decide +kernel
theorem dX10_takeNumber_7 : decode cX10_takeNumber 7 = .ok (.putfield 50, 3) := by decide +kernel
theorem dX10_takeNumber_10 : decode cX10_takeNumber 10 = .ok (.aload_n 0, 1) := by decide +kernel
theorem dX10_takeNumber_11 : decode cX10_takeNumber 11 = .ok (.invokevirtual 53, 3) := by decide +kernel
theorem dX10_takeNumber_14 : decode cX10_takeNumber 14 = .ok (.iconst 1, 1) := by decide +kernel
theorem dX10_takeNumber_15 : decode cX10_takeNumber 15 = .ok (.if_icmp .ne 19, 3) := by decide +kernel
theorem dX10_takeNumber_18 : decode cX10_takeNumber 18 = .ok (.aload_n 0, 1) := by decide +kernel
theorem dX10_takeNumber_19 : decode cX10_takeNumber 19 = .ok (.invokevirtual 74, 3) := by decide +kernel
theorem dX10_takeNumber_22 : decode cX10_takeNumber 22 = .ok (.iload_n 1, 1) := by decide +kernel
theorem dX10_takeNumber_23 : decode cX10_takeNumber 23 = .ok (.iload_n 2, 1) := by decide +kernel
theorem dX10_takeNumber_24 : decode cX10_takeNumber 24 = .ok (.invokestatic 111, 3) := by decide +kernel
theorem dX10_takeNumber_27 : decode cX10_takeNumber 27 = .ok (.ifCond .eq 7, 3) := by decide +kernel
theorem dX10_takeNumber_30 : decode cX10_takeNumber 30 = .ok (.iconst 1, 1) := by decide +kernel
theorem dX10_takeNumber_31 : decode cX10_takeNumber 31 = .ok (.goto 4, 3) := by decide +kernel
theorem dX10_takeNumber_34 : decode cX10_takeNumber 34 = .ok (.iconst 0, 1) := by decide +kernel
theorem dX10_takeNumber_35 : decode cX10_takeNumber 35 = .ok (.ireturn, 1) := by decide +kernel
theorem dX10_takeStop_0 : decode cX10_takeStop 0 = .ok (.aload_n 0, 1) := by decide +kernel
theorem dX10_takeStop_1 : decode cX10_takeStop 1 = .ok (.dup, 1) := by decide +kernel
theorem dX10_takeStop_2 : decode cX10_takeStop 2 = .ok (.getfield 50, 3) := by decide +kernel
theorem dX10_takeStop_5 : decode cX10_takeStop 5 = .ok (.iconst 1, 1) := by decide +kernel
theorem dX10_takeStop_6 : decode cX10_takeStop 6 = .ok (.iadd, 1) := by decide +kernel
theorem dX10_takeStop_7 : decode cX10_takeStop 7 = .ok (.putfield 50, 3) := by decide +kernel
theorem dX10_takeStop_10 : decode cX10_takeStop 10 = .ok (.aload_n 0, 1) := by decide +kernel
theorem dX10_takeStop_11 : decode cX10_takeStop 11 = .ok (.invokevirtual 53, 3) := by decide +kernel
theorem dX10_takeStop_14 : decode cX10_takeStop 14 = .ok (.iconst 2, 1) := by decide +kernel
theorem dX10_takeStop_15 : decode cX10_takeStop 15 = .ok (.if_icmp .ne 7, 3) := by decide +kernel
theorem dX10_takeStop_18 : decode cX10_takeStop 18 = .ok (.iconst 1, 1) := by decide +kernel
theorem dX10_takeStop_19 : decode cX10_takeStop 19 = .ok (.goto 4, 3) := by decide +kernel
theorem dX10_takeStop_22 : decode cX10_takeStop 22 = .ok (.iconst 0, 1) := by decide +kernel
theorem dX10_takeStop_23 : decode cX10_takeStop 23 = .ok (.ireturn, 1) := by decide +kernel
theorem dX10_token_0 : decode cX10_token 0 = .ok (.aload_n 0, 1) := by decide +kernel
theorem dX10_token_1 : decode cX10_token 1 = .ok (.getfield 28, 3) := by decide +kernel
theorem dX10_token_4 : decode cX10_token 4 = .ok (.aload_n 0, 1) := by decide +kernel
theorem dX10_token_5 : decode cX10_token 5 = .ok (.getfield 50, 3) := by decide +kernel
theorem dX10_token_8 : decode cX10_token 8 = .ok (.invokestatic 66, 3) := by decide +kernel
theorem dX10_token_11 : decode cX10_token 11 = .ok (.ireturn, 1) := by decide +kernel
theorem dX10_value_0 : decode cX10_value 0 = .ok (.aload_n 0, 1) := by decide +kernel
theorem dX10_value_1 : decode cX10_value 1 = .ok (.getfield 31, 3) := by decide +kernel
theorem dX10_value_4 : decode cX10_value 4 = .ok (.aload_n 0, 1) := by decide +kernel
theorem dX10_value_5 : decode cX10_value 5 = .ok (.getfield 50, 3) := by decide +kernel
theorem dX10_value_8 : decode cX10_value 8 = .ok (.invokestatic 66, 3) := by decide +kernel
theorem dX10_value_11 : decode cX10_value 11 = .ok (.ireturn, 1) := by decide +kernel
theorem dX10_splitTokens_0 : decode cX10_splitTokens 0 = .ok (.iconst 0, 1) := by decide +kernel
theorem dX10_splitTokens_1 : decode cX10_splitTokens 1 = .ok (.istore_n 1, 1) := by decide +kernel
theorem dX10_splitTokens_2 : decode cX10_splitTokens 2 = .ok (.iconst 0, 1) := by decide +kernel
theorem dX10_splitTokens_3 : decode cX10_splitTokens 3 = .ok (.istore_n 2, 1) := by decide +kernel
theorem dX10_splitTokens_4 : decode cX10_splitTokens 4 = .ok (.iconst 0, 1) := by decide +kernel
theorem dX10_splitTokens_5 : decode cX10_splitTokens 5 = .ok (.istore_n 3, 1) := by decide +kernel
