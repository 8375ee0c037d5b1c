theorem dX11_isEye_2 : decode cX11_isEye 2 = .ok (.aload_n 0, 1) := by decide +kernel
theorem dX11_isEye_3 : decode cX11_isEye 3 = .ok (.getfield 10, 3) := by decide +kernel
theorem dX11_isEye_6 : decode cX11_isEye 6 = .ok (.getfield 90, 3) := by decide +kernel
theorem dX11_isEye_9 : decode cX11_isEye 9 = .ok (.iconst 1, 1) := by decide +kernel
theorem dX11_isEye_10 : decode cX11_isEye 10 = .ok (.isub, 1) := by decide +kernel
theorem dX11_isEye_11 : decode cX11_isEye 11 = .ok (.invokestatic 75, 3) := by decide +kernel
theorem dX11_isEye_14 : decode cX11_isEye 14 = .ok (.ireturn, 1) := by decide +kernel
theorem dX11_cell_0 : decode cX11_cell 0 = .ok (.iload_n 1, 1) := by decide +kernel
theorem dX11_cell_1 : decode cX11_cell 1 = .ok (.ifCond .lt 15, 3) := by decide +kernel
theorem dX11_cell_4 : decode cX11_cell 4 = .ok (.iload_n 1, 1) := by decide +kernel
theorem dX11_cell_5 : decode cX11_cell 5 = .ok (.aload_n 0, 1) := by decide +kernel
theorem dX11_cell_6 : decode cX11_cell 6 = .ok (.arraylength, 1) := by decide +kernel
theorem dX11_cell_7 : decode cX11_cell 7 = .ok (.if_icmp .ge 9, 3) := by decide +kernel
theorem dX11_cell_10 : decode cX11_cell 10 = .ok (.aload_n 0, 1) := by decide +kernel
theorem dX11_cell_11 : decode cX11_cell 11 = .ok (.iload_n 1, 1) := by decide +kernel
theorem dX11_cell_12 : decode cX11_cell 12 = .ok (.iaload, 1) := by decide +kernel
theorem dX11_cell_13 : decode cX11_cell 13 = .ok (.goto 4, 3) := by decide +kernel
theorem dX11_cell_16 : decode cX11_cell 16 = .ok (.iconst 0, 1) := by decide +kernel
theorem dX11_cell_17 : decode cX11_cell 17 = .ok (.ireturn, 1) := by decide +kernel
theorem dX11_put_0 : decode cX11_put 0 = .ok (.iload_n 1, 1) := by decide +kernel
theorem dX11_put_1 : decode cX11_put 1 = .ok (.ifCond .lt 13, 3) := by decide +kernel
theorem dX11_put_4 : decode cX11_put 4 = .ok (.iload_n 1, 1) := by decide +kernel
theorem dX11_put_5 : decode cX11_put 5 = .ok (.aload_n 0, 1) := by decide +kernel
theorem dX11_put_6 : decode cX11_put 6 = .ok (.arraylength, 1) := by decide +kernel
theorem dX11_put_7 : decode cX11_put 7 = .ok (.if_icmp .ge 7, 3) := by decide +kernel
theorem dX11_put_10 : decode cX11_put 10 = .ok (.aload_n 0, 1) := by decide +kernel
theorem dX11_put_11 : decode cX11_put 11 = .ok (.iload_n 1, 1) := by decide +kernel
theorem dX11_put_12 : decode cX11_put 12 = .ok (.iload_n 2, 1) := by decide +kernel
theorem dX11_put_13 : decode cX11_put 13 = .ok (.iastore, 1) := by decide +kernel
theorem dX11_put_14 : decode cX11_put 14 = .ok (.return_, 1) := by decide +kernel
theorem dX11_fill_0 : decode cX11_fill 0 = .ok (.iconst 0, 1) := by decide +kernel
theorem dX11_fill_1 : decode cX11_fill 1 = .ok (.istore_n 2, 1) := by decide +kernel
theorem dX11_fill_2 : decode cX11_fill 2 = .ok (.iload_n 2, 1) := by decide +kernel
theorem dX11_fill_3 : decode cX11_fill 3 = .ok (.aload_n 0, 1) := by decide +kernel
theorem dX11_fill_4 : decode cX11_fill 4 = .ok (.arraylength, 1) := by decide +kernel
theorem dX11_fill_5 : decode cX11_fill 5 = .ok (.if_icmp .ge 13, 3) := by decide +kernel
theorem dX11_fill_8 : decode cX11_fill 8 = .ok (.aload_n 0, 1) := by decide +kernel
theorem dX11_fill_9 : decode cX11_fill 9 = .ok (.iload_n 2, 1) := by decide +kernel
theorem dX11_fill_10 : decode cX11_fill 10 = .ok (.iload_n 1, 1) := by decide +kernel
theorem dX11_fill_11 : decode cX11_fill 11 = .ok (.iastore, 1) := by decide +kernel
theorem dX11_fill_12 : decode cX11_fill 12 = .ok (.iinc 2 1, 3) := by decide +kernel
theorem dX11_fill_15 : decode cX11_fill 15 = .ok (.goto (-13), 3) := by decide +kernel
theorem dX11_fill_18 : decode cX11_fill 18 = .ok (.return_, 1) := by decide +kernel
theorem dX11_copyRow_0 : decode cX11_copyRow 0 = .ok (.iconst 0, 1) := by decide +kernel
theorem dX11_copyRow_1 : decode cX11_copyRow 1 = .ok (.istore_n 2, 1) := by decide +kernel
theorem dX11_copyRow_2 : decode cX11_copyRow 2 = .ok (.iload_n 2, 1) := by decide +kernel
theorem dX11_copyRow_3 : decode cX11_copyRow 3 = .ok (.aload_n 0, 1) := by decide +kernel
theorem dX11_copyRow_4 : decode cX11_copyRow 4 = .ok (.arraylength, 1) := by decide +kernel
theorem dX11_copyRow_5 : decode cX11_copyRow 5 = .ok (.if_icmp .ge 21, 3) := by decide +kernel
theorem dX11_copyRow_8 : decode cX11_copyRow 8 = .ok (.iload_n 2, 1) := by decide +kernel
theorem dX11_copyRow_9 : decode cX11_copyRow 9 = .ok (.aload_n 1, 1) := by decide +kernel
theorem dX11_copyRow_10 : decode cX11_copyRow 10 = .ok (.arraylength, 1) := by decide +kernel
theorem dX11_copyRow_11 : decode cX11_copyRow 11 = .ok (.if_icmp .ge 15, 3) := by decide +kernel
theorem dX11_copyRow_14 : decode cX11_copyRow 14 = .ok (.aload_n 1, 1) := by decide +kernel
theorem dX11_copyRow_15 : decode cX11_copyRow 15 = .ok (.iload_n 2, 1) := by decide +kernel
theorem dX11_copyRow_16 : decode cX11_copyRow 16 = .ok (.aload_n 0, 1) := by decide +kernel
theorem dX11_copyRow_17 : decode cX11_copyRow 17 = .ok (.iload_n 2, 1) := by decide +kernel
theorem dX11_copyRow_18 : decode cX11_copyRow 18 = .ok (.iaload, 1) := by decide +kernel
theorem dX11_copyRow_19 : decode cX11_copyRow 19 = .ok (.iastore, 1) := by decide +kernel
theorem dX11_copyRow_20 : decode cX11_copyRow 20 = .ok (.iinc 2 1, 3) := by decide +kernel
theorem dX11_copyRow_23 : decode cX11_copyRow 23 = .ok (.goto (-21), 3) := by decide +kernel
theorem dX11_copyRow_26 : decode cX11_copyRow 26 = .ok (.return_, 1) := by decide +kernel
theorem dX11_wrap_0 : decode cX11_wrap 0 = .ok (.iload_n 1, 1) := by decide +kernel
theorem dX11_wrap_1 : decode cX11_wrap 1 = .ok (.iconst 1, 1) := by decide +kernel
theorem dX11_wrap_2 : decode cX11_wrap 2 = .ok (.if_icmp .ge 7, 3) := by decide +kernel
theorem dX11_wrap_5 : decode cX11_wrap 5 = .ok (.iconst 0, 1) := by decide +kernel
theorem dX11_wrap_6 : decode cX11_wrap 6 = .ok (.goto 8, 3) := by decide +kernel
theorem dX11_wrap_9 : decode cX11_wrap 9 = .ok (.iload_n 0, 1) := by decide +kernel
theorem dX11_wrap_10 : decode cX11_wrap 10 = .ok (.iload_n 1, 1) := by decide +kernel
theorem dX11_wrap_11 : decode cX11_wrap 11 = .ok (.invokestatic 334, 3) := by decide +kernel
theorem dX11_wrap_14 : decode cX11_wrap 14 = .ok (.ireturn, 1) := by decide +kernel
theorem dX11_startTrial_0 : decode cX11_startTrial 0 = .ok (.aload_n 0, 1) := by decide +kernel
theorem dX11_startTrial_1 : decode cX11_startTrial 1 = .ok (.getfield 36, 3) := by decide +kernel
theorem dX11_startTrial_4 : decode cX11_startTrial 4 = .ok (.aload_n 0, 1) := by decide +kernel
theorem dX11_startTrial_5 : decode cX11_startTrial 5 = .ok (.getfield 10, 3) := by decide +kernel
theorem dX11_startTrial_8 : decode cX11_startTrial 8 = .ok (.getfield 137, 3) := by decide +kernel
theorem dX11_startTrial_11 : decode cX11_startTrial 11 = .ok (.invokevirtual 340, 3) := by decide +kernel
theorem dX11_startTrial_14 : decode cX11_startTrial 14 = .ok (.aload_n 0, 1) := by decide +kernel
theorem dX11_startTrial_15 : decode cX11_startTrial 15 = .ok (.getfield 36, 3) := by decide +kernel
theorem dX11_startTrial_18 : decode cX11_startTrial 18 = .ok (.iload_n 1, 1) := by decide +kernel
theorem dX11_startTrial_19 : decode cX11_startTrial 19 = .ok (.putfield 153, 3) := by decide +kernel
theorem dX11_startTrial_22 : decode cX11_startTrial 22 = .ok (.aload_n 0, 1) := by decide +kernel
theorem dX11_startTrial_23 : decode cX11_startTrial 23 = .ok (.getfield 36, 3) := by decide +kernel
theorem dX11_startTrial_26 : decode cX11_startTrial 26 = .ok (.getfield 191, 3) := by decide +kernel
theorem dX11_startTrial_29 : decode cX11_startTrial 29 = .ok (.iconst 0, 1) := by decide +kernel
theorem dX11_startTrial_30 : decode cX11_startTrial 30 = .ok (.invokestatic 342, 3) := by decide +kernel
theorem dX11_startTrial_33 : decode cX11_startTrial 33 = .ok (.return_, 1) := by decide +kernel
theorem dX11_tryFlashes_0 : decode cX11_tryFlashes 0 = .ok (.aload_n 0, 1) := by decide +kernel
theorem dX11_tryFlashes_1 : decode cX11_tryFlashes 1 = .ok (.iload_n 1, 1) := by decide +kernel
theorem dX11_tryFlashes_2 : decode cX11_tryFlashes 2 = .ok (.invokevirtual 198, 3) := by decide +kernel
theorem dX11_tryFlashes_5 : decode cX11_tryFlashes 5 = .ok (.iconst 0, 1) := by decide +kernel
theorem dX11_tryFlashes_6 : decode cX11_tryFlashes 6 = .ok (.istore_n 3, 1) := by decide +kernel
theorem dX11_tryFlashes_7 : decode cX11_tryFlashes 7 = .ok (.iload_n 3, 1) := by decide +kernel
theorem dX11_tryFlashes_8 : decode cX11_tryFlashes 8 = .ok (.iload_n 2, 1) := by decide +kernel
theorem dX11_tryFlashes_9 : decode cX11_tryFlashes 9 = .ok (.if_icmp .ge 20, 3) := by decide +kernel
theorem dX11_tryFlashes_12 : decode cX11_tryFlashes 12 = .ok (.aload_n 0, 1) := by decide +kernel
theorem dX11_tryFlashes_13 : decode cX11_tryFlashes 13 = .ok (.getfield 10, 3) := by decide +kernel
theorem dX11_tryFlashes_16 : decode cX11_tryFlashes 16 = .ok (.aload_n 0, 1) := by decide +kernel
theorem dX11_tryFlashes_17 : decode cX11_tryFlashes 17 = .ok (.getfield 36, 3) := by decide +kernel
theorem dX11_tryFlashes_20 : decode cX11_tryFlashes 20 = .ok (.invokevirtual 201, 3) := by decide +kernel
theorem dX11_tryFlashes_23 : decode cX11_tryFlashes 23 = .ok (.iinc 3 1, 3) := by decide +kernel
theorem dX11_tryFlashes_26 : decode cX11_tryFlashes 26 = .ok (.goto (-19), 3) := by decide +kernel
theorem dX11_tryFlashes_29 : decode cX11_tryFlashes 29 = .ok (.return_, 1) := by decide +kernel
theorem dX11_trialIsAsNow_0 : decode cX11_trialIsAsNow 0 = .ok (.aload_n 0, 1) := by decide +kernel
theorem dX11_trialIsAsNow_1 : decode cX11_trialIsAsNow 1 = .ok (.getfield 36, 3) := by decide +kernel
theorem dX11_trialIsAsNow_4 : decode cX11_trialIsAsNow 4 = .ok (.getfield 150, 3) := by decide +kernel
theorem dX11_trialIsAsNow_7 : decode cX11_trialIsAsNow 7 = .ok (.aload_n 0, 1) := by decide +kernel
theorem dX11_trialIsAsNow_8 : decode cX11_trialIsAsNow 8 = .ok (.getfield 10, 3) := by decide +kernel
theorem dX11_trialIsAsNow_11 : decode cX11_trialIsAsNow 11 = .ok (.getfield 137, 3) := by decide +kernel
theorem dX11_trialIsAsNow_14 : decode cX11_trialIsAsNow 14 = .ok (.getfield 150, 3) := by decide +kernel
theorem dX11_trialIsAsNow_17 : decode cX11_trialIsAsNow 17 = .ok (.if_icmp .eq 5, 3) := by decide +kernel
theorem dX11_trialIsAsNow_20 : decode cX11_trialIsAsNow 20 = .ok (.iconst 0, 1) := by decide +kernel
theorem dX11_trialIsAsNow_21 : decode cX11_trialIsAsNow 21 = .ok (.ireturn, 1) := by decide +kernel
theorem dX11_trialIsAsNow_22 : decode cX11_trialIsAsNow 22 = .ok (.iconst 0, 1) := by decide +kernel
theorem dX11_trialIsAsNow_23 : decode cX11_trialIsAsNow 23 = .ok (.istore_n 1, 1) := by decide +kernel
theorem dX11_trialIsAsNow_24 : decode cX11_trialIsAsNow 24 = .ok (.iload_n 1, 1) := by decide +kernel
theorem dX11_trialIsAsNow_25 : decode cX11_trialIsAsNow 25 = .ok (.aload_n 0, 1) := by decide +kernel
theorem dX11_trialIsAsNow_26 : decode cX11_trialIsAsNow 26 = .ok (.getfield 10, 3) := by decide +kernel
theorem dX11_trialIsAsNow_29 : decode cX11_trialIsAsNow 29 = .ok (.getfield 90, 3) := by decide +kernel
theorem dX11_trialIsAsNow_32 : decode cX11_trialIsAsNow 32 = .ok (.if_icmp .ge 39, 3) := by decide +kernel
theorem dX11_trialIsAsNow_35 : decode cX11_trialIsAsNow 35 = .ok (.aload_n 0, 1) := by decide +kernel
theorem dX11_trialIsAsNow_36 : decode cX11_trialIsAsNow 36 = .ok (.getfield 36, 3) := by decide +kernel
theorem dX11_trialIsAsNow_39 : decode cX11_trialIsAsNow 39 = .ok (.getfield 188, 3) := by decide +kernel
theorem dX11_trialIsAsNow_42 : decode cX11_trialIsAsNow 42 = .ok (.iload_n 1, 1) := by decide +kernel
theorem dX11_trialIsAsNow_43 : decode cX11_trialIsAsNow 43 = .ok (.invokestatic 168, 3) := by decide +kernel
theorem dX11_trialIsAsNow_46 : decode cX11_trialIsAsNow 46 = .ok (.aload_n 0, 1) := by decide +kernel
theorem dX11_trialIsAsNow_47 : decode cX11_trialIsAsNow 47 = .ok (.getfield 10, 3) := by decide +kernel
theorem dX11_trialIsAsNow_50 : decode cX11_trialIsAsNow 50 = .ok (.getfield 137, 3) := by decide +kernel
theorem dX11_trialIsAsNow_53 : decode cX11_trialIsAsNow 53 = .ok (.getfield 188, 3) := by decide +kernel
theorem dX11_trialIsAsNow_56 : decode cX11_trialIsAsNow 56 = .ok (.iload_n 1, 1) := by decide +kernel
theorem dX11_trialIsAsNow_57 : decode cX11_trialIsAsNow 57 = .ok (.invokestatic 168, 3) := by decide +kernel
theorem dX11_trialIsAsNow_60 : decode cX11_trialIsAsNow 60 = .ok (.if_icmp .eq 5, 3) := by decide +kernel
theorem dX11_trialIsAsNow_63 : decode cX11_trialIsAsNow 63 = .ok (.iconst 0, 1) := by decide +kernel
theorem dX11_trialIsAsNow_64 : decode cX11_trialIsAsNow 64 = .ok (.ireturn, 1) := by decide +kernel
theorem dX11_trialIsAsNow_65 : decode cX11_trialIsAsNow 65 = .ok (.iinc 1 1, 3) := by decide +kernel
theorem dX11_trialIsAsNow_68 : decode cX11_trialIsAsNow 68 = .ok (.goto (-44), 3) := by decide +kernel
theorem dX11_trialIsAsNow_71 : decode cX11_trialIsAsNow 71 = .ok (.iconst 1, 1) := by decide +kernel
theorem dX11_trialIsAsNow_72 : decode cX11_trialIsAsNow 72 = .ok (.ireturn, 1) := by decide +kernel
theorem dX11_standsStill_0 : decode cX11_standsStill 0 = .ok (.aload_n 0, 1) := by decide +kernel
theorem dX11_standsStill_1 : decode cX11_standsStill 1 = .ok (.getfield 10, 3) := by decide +kernel
theorem dX11_standsStill_4 : decode cX11_standsStill 4 = .ok (.aload_n 0, 1) := by decide +kernel
theorem dX11_standsStill_5 : decode cX11_standsStill 5 = .ok (.getfield 10, 3) := by decide +kernel
theorem dX11_standsStill_8 : decode cX11_standsStill 8 = .ok (.getfield 137, 3) := by decide +kernel
theorem dX11_standsStill_11 : decode cX11_standsStill 11 = .ok (.invokevirtual 275, 3) := by decide +kernel
theorem dX11_standsStill_14 : decode cX11_standsStill 14 = .ok (.istore_n 3, 1) := by decide +kernel
theorem dX11_standsStill_15 : decode cX11_standsStill 15 = .ok (.aload_n 0, 1) := by decide +kernel
theorem dX11_standsStill_16 : decode cX11_standsStill 16 = .ok (.iload_n 1, 1) := by decide +kernel
theorem dX11_standsStill_17 : decode cX11_standsStill 17 = .ok (.invokevirtual 198, 3) := by decide +kernel
theorem dX11_standsStill_20 : decode cX11_standsStill 20 = .ok (.iconst 0, 1) := by decide +kernel
theorem dX11_standsStill_21 : decode cX11_standsStill 21 = .ok (.istore 4, 2) := by decide +kernel
theorem dX11_standsStill_23 : decode cX11_standsStill 23 = .ok (.iload 4, 2) := by decide +kernel
theorem dX11_standsStill_25 : decode cX11_standsStill 25 = .ok (.iload_n 2, 1) := by decide +kernel
theorem dX11_standsStill_26 : decode cX11_standsStill 26 = .ok (.if_icmp .ge 37, 3) := by decide +kernel
theorem dX11_standsStill_29 : decode cX11_standsStill 29 = .ok (.aload_n 0, 1) := by decide +kernel
theorem dX11_standsStill_30 : decode cX11_standsStill 30 = .ok (.getfield 10, 3) := by decide +kernel
theorem dX11_standsStill_33 : decode cX11_standsStill 33 = .ok (.aload_n 0, 1) := by decide +kernel
theorem dX11_standsStill_34 : decode cX11_standsStill 34 = .ok (.getfield 36, 3) := by decide +kernel
theorem dX11_standsStill_37 : decode cX11_standsStill 37 = .ok (.invokevirtual 201, 3) := by decide +kernel
theorem dX11_standsStill_40 : decode cX11_standsStill 40 = .ok (.aload_n 0, 1) := by decide +kernel
theorem dX11_standsStill_41 : decode cX11_standsStill 41 = .ok (.getfield 10, 3) := by decide +kernel
theorem dX11_standsStill_44 : decode cX11_standsStill 44 = .ok (.aload_n 0, 1) := by decide +kernel
theorem dX11_standsStill_45 : decode cX11_standsStill 45 = .ok (.getfield 36, 3) := by decide +kernel
theorem dX11_standsStill_48 : decode cX11_standsStill 48 = .ok (.invokevirtual 275, 3) := by decide +kernel
theorem dX11_standsStill_51 : decode cX11_standsStill 51 = .ok (.iload_n 3, 1) := by decide +kernel
theorem dX11_standsStill_52 : decode cX11_standsStill 52 = .ok (.if_icmp .eq 5, 3) := by decide +kernel
theorem dX11_standsStill_55 : decode cX11_standsStill 55 = .ok (.iconst 0, 1) := by decide +kernel
theorem dX11_standsStill_56 : decode cX11_standsStill 56 = .ok (.ireturn, 1) := by decide +kernel
theorem dX11_standsStill_57 : decode cX11_standsStill 57 = .ok (.iinc 4 1, 3) := by decide +kernel
theorem dX11_standsStill_60 : decode cX11_standsStill 60 = .ok (.goto (-37), 3) := by decide +kernel
theorem dX11_standsStill_63 : decode cX11_standsStill 63 = .ok (.iconst 1, 1) := by decide +kernel
theorem dX11_standsStill_64 : decode cX11_standsStill 64 = .ok (.ireturn, 1) := by decide +kernel
theorem dX11_eyeKinds_0 : decode cX11_eyeKinds 0 = .ok (.iconst 0, 1) := by decide +kernel
theorem dX11_eyeKinds_1 : decode cX11_eyeKinds 1 = .ok (.istore_n 2, 1) := by decide +kernel
theorem dX11_eyeKinds_2 : decode cX11_eyeKinds 2 = .ok (.iconst 0, 1) := by decide +kernel
theorem dX11_eyeKinds_3 : decode cX11_eyeKinds 3 = .ok (.istore_n 3, 1) := by decide +kernel
theorem dX11_eyeKinds_4 : decode cX11_eyeKinds 4 = .ok (.iload_n 3, 1) := by decide +kernel
theorem dX11_eyeKinds_5 : decode cX11_eyeKinds 5 = .ok (.bipush 6, 2) := by decide +kernel
theorem dX11_eyeKinds_7 : decode cX11_eyeKinds 7 = .ok (.if_icmp .ge 24, 3) := by decide +kernel
theorem dX11_eyeKinds_10 : decode cX11_eyeKinds 10 = .ok (.aload_n 0, 1) := by decide +kernel
theorem dX11_eyeKinds_11 : decode cX11_eyeKinds 11 = .ok (.iload_n 1, 1) := by decide +kernel
theorem dX11_eyeKinds_12 : decode cX11_eyeKinds 12 = .ok (.iload_n 3, 1) := by decide +kernel
theorem dX11_eyeKinds_13 : decode cX11_eyeKinds 13 = .ok (.invokevirtual 345, 3) := by decide +kernel
theorem dX11_eyeKinds_16 : decode cX11_eyeKinds 16 = .ok (.ifCond .eq 9, 3) := by decide +kernel
theorem dX11_eyeKinds_19 : decode cX11_eyeKinds 19 = .ok (.iload_n 2, 1) := by decide +kernel
theorem dX11_eyeKinds_20 : decode cX11_eyeKinds 20 = .ok (.iconst 1, 1) := by decide +kernel
theorem dX11_eyeKinds_21 : decode cX11_eyeKinds 21 = .ok (.iload_n 3, 1) := by decide +kernel
theorem dX11_eyeKinds_22 : decode cX11_eyeKinds 22 = .ok (.ishl, 1) := by decide +kernel
theorem dX11_eyeKinds_23 : decode cX11_eyeKinds 23 = .ok (.ior, 1) := by decide +kernel
theorem dX11_eyeKinds_24 : decode cX11_eyeKinds 24 = .ok (.istore_n 2, 1) := by decide +kernel
theorem dX11_eyeKinds_25 : decode cX11_eyeKinds 25 = .ok (.iinc 3 1, 3) := by decide +kernel
theorem dX11_eyeKinds_28 : decode cX11_eyeKinds 28 = .ok (.goto (-24), 3) := by decide +kernel
theorem dX11_eyeKinds_31 : decode cX11_eyeKinds 31 = .ok (.iload_n 2, 1) := by decide +kernel
theorem dX11_eyeKinds_32 : decode cX11_eyeKinds 32 = .ok (.ireturn, 1) := by decide +kernel
theorem dX11_eyeFits_0 : decode cX11_eyeFits 0 = .ok (.aload_n 0, 1) := by decide +kernel
theorem dX11_eyeFits_1 : decode cX11_eyeFits 1 = .ok (.getfield 10, 3) := by decide +kernel
theorem dX11_eyeFits_4 : decode cX11_eyeFits 4 = .ok (.getfield 248, 3) := by decide +kernel
theorem dX11_eyeFits_7 : decode cX11_eyeFits 7 = .ok (.astore_n 3, 1) := by decide +kernel
theorem dX11_eyeFits_8 : decode cX11_eyeFits 8 = .ok (.iconst 0, 1) := by decide +kernel
theorem dX11_eyeFits_9 : decode cX11_eyeFits 9 = .ok (.istore 4, 2) := by decide +kernel
theorem dX11_eyeFits_11 : decode cX11_eyeFits 11 = .ok (.iload 4, 2) := by decide +kernel
theorem dX11_eyeFits_13 : decode cX11_eyeFits 13 = .ok (.aload_n 3, 1) := by decide +kernel
theorem dX11_eyeFits_14 : decode cX11_eyeFits 14 = .ok (.getfield 348, 3) := by decide +kernel
theorem dX11_eyeFits_17 : decode cX11_eyeFits 17 = .ok (.if_icmp .ge 62, 3) := by decide +kernel
theorem dX11_eyeFits_20 : decode cX11_eyeFits 20 = .ok (.aload_n 3, 1) := by decide +kernel
theorem dX11_eyeFits_21 : decode cX11_eyeFits 21 = .ok (.iload 4, 2) := by decide +kernel
theorem dX11_eyeFits_23 : decode cX11_eyeFits 23 = .ok (.iconst 0, 1) := by decide +kernel
theorem dX11_eyeFits_24 : decode cX11_eyeFits 24 = .ok (.invokevirtual 349, 3) := by decide +kernel
theorem dX11_eyeFits_27 : decode cX11_eyeFits 27 = .ok (.iload_n 1, 1) := by decide +kernel
theorem dX11_eyeFits_28 : decode cX11_eyeFits 28 = .ok (.if_icmp .ne 7, 3) := by decide +kernel
theorem dX11_eyeFits_31 : decode cX11_eyeFits 31 = .ok (.iconst 1, 1) := by decide +kernel
theorem dX11_eyeFits_32 : decode cX11_eyeFits 32 = .ok (.goto 4, 3) := by decide +kernel
theorem dX11_eyeFits_35 : decode cX11_eyeFits 35 = .ok (.iconst 0, 1) := by decide +kernel
theorem dX11_eyeFits_36 : decode cX11_eyeFits 36 = .ok (.istore 5, 2) := by decide +kernel
theorem dX11_eyeFits_38 : decode cX11_eyeFits 38 = .ok (.iload 5, 2) := by decide +kernel
theorem dX11_eyeFits_40 : decode cX11_eyeFits 40 = .ok (.ifCond .eq 33, 3) := by decide +kernel
theorem dX11_eyeFits_43 : decode cX11_eyeFits 43 = .ok (.iload_n 2, 1) := by decide +kernel
theorem dX11_eyeFits_44 : decode cX11_eyeFits 44 = .ok (.aload_n 3, 1) := by decide +kernel
theorem dX11_eyeFits_45 : decode cX11_eyeFits 45 = .ok (.iload 4, 2) := by decide +kernel
theorem dX11_eyeFits_47 : decode cX11_eyeFits 47 = .ok (.iconst 1, 1) := by decide +kernel
theorem dX11_eyeFits_48 : decode cX11_eyeFits 48 = .ok (.invokevirtual 349, 3) := by decide +kernel
theorem dX11_eyeFits_51 : decode cX11_eyeFits 51 = .ok (.aload_n 3, 1) := by decide +kernel
theorem dX11_eyeFits_52 : decode cX11_eyeFits 52 = .ok (.iload 4, 2) := by decide +kernel
theorem dX11_eyeFits_54 : decode cX11_eyeFits 54 = .ok (.iconst 2, 1) := by decide +kernel
theorem dX11_eyeFits_55 : decode cX11_eyeFits 55 = .ok (.invokevirtual 349, 3) := by decide +kernel
theorem dX11_eyeFits_58 : decode cX11_eyeFits 58 = .ok (.invokestatic 352, 3) := by decide +kernel
theorem dX11_eyeFits_61 : decode cX11_eyeFits 61 = .ok (.aload_n 3, 1) := by decide +kernel
theorem dX11_eyeFits_62 : decode cX11_eyeFits 62 = .ok (.iload 4, 2) := by decide +kernel
theorem dX11_eyeFits_64 : decode cX11_eyeFits 64 = .ok (.iconst 3, 1) := by decide +kernel
theorem dX11_eyeFits_65 : decode cX11_eyeFits 65 = .ok (.invokevirtual 349, 3) := by decide +kernel
theorem dX11_eyeFits_68 : decode cX11_eyeFits 68 = .ok (.if_icmp .eq 5, 3) := by decide +kernel
theorem dX11_eyeFits_71 : decode cX11_eyeFits 71 = .ok (.iconst 0, 1) := by decide +kernel
theorem dX11_eyeFits_72 : decode cX11_eyeFits 72 = .ok (.ireturn, 1) := by decide +kernel
theorem dX11_eyeFits_73 : decode cX11_eyeFits 73 = .ok (.iinc 4 1, 3) := by decide +kernel
theorem dX11_eyeFits_76 : decode cX11_eyeFits 76 = .ok (.goto (-65), 3) := by decide +kernel
theorem dX11_eyeFits_79 : decode cX11_eyeFits 79 = .ok (.iconst 1, 1) := by decide +kernel
theorem dX11_eyeFits_80 : decode cX11_eyeFits 80 = .ok (.ireturn, 1) := by decide +kernel
theorem dX11_bestLook_0 : decode cX11_bestLook 0 = .ok (.iconst (-1), 1) := by decide +kernel
theorem dX11_bestLook_1 : decode cX11_bestLook 1 = .ok (.istore_n 2, 1) := by decide +kernel
theorem dX11_bestLook_2 : decode cX11_bestLook 2 = .ok (.ldc 240, 2) := by decide +kernel
theorem dX11_bestLook_4 : decode cX11_bestLook 4 = .ok (.istore_n 3, 1) := by decide +kernel
theorem dX11_bestLook_5 : decode cX11_bestLook 5 = .ok (.iconst 0, 1) := by decide +kernel
theorem dX11_bestLook_6 : decode cX11_bestLook 6 = .ok (.istore 4, 2) := by decide +kernel
theorem dX11_bestLook_8 : decode cX11_bestLook 8 = .ok (.iload 4, 2) := by decide +kernel
theorem dX11_bestLook_10 : decode cX11_bestLook 10 = .ok (.bipush 100, 2) := by decide +kernel
theorem dX11_bestLook_12 : decode cX11_bestLook 12 = .ok (.if_icmp .ge 85, 3) := by decide +kernel
theorem dX11_bestLook_15 : decode cX11_bestLook 15 = .ok (.aload_n 0, 1) := by decide +kernel
theorem dX11_bestLook_16 : decode cX11_bestLook 16 = .ok (.getfield 57, 3) := by decide +kernel
theorem dX11_bestLook_19 : decode cX11_bestLook 19 = .ok (.invokevirtual 358, 3) := by decide +kernel
theorem dX11_bestLook_22 : decode cX11_bestLook 22 = .ok (.iconst 0, 1) := by decide +kernel
theorem dX11_bestLook_23 : decode cX11_bestLook 23 = .ok (.istore 5, 2) := by decide +kernel
theorem dX11_bestLook_25 : decode cX11_bestLook 25 = .ok (.iload 5, 2) := by decide +kernel
theorem dX11_bestLook_27 : decode cX11_bestLook 27 = .ok (.bipush 6, 2) := by decide +kernel
theorem dX11_bestLook_29 : decode cX11_bestLook 29 = .ok (.if_icmp .ge 40, 3) := by decide +kernel
theorem dX11_bestLook_32 : decode cX11_bestLook 32 = .ok (.iload_n 1, 1) := by decide +kernel
theorem dX11_bestLook_33 : decode cX11_bestLook 33 = .ok (.iload 5, 2) := by decide +kernel
theorem dX11_bestLook_35 : decode cX11_bestLook 35 = .ok (.invokestatic 360, 3) := by decide +kernel
theorem dX11_bestLook_38 : decode cX11_bestLook 38 = .ok (.ifCond .eq 25, 3) := by decide +kernel
theorem dX11_bestLook_41 : decode cX11_bestLook 41 = .ok (.aload_n 0, 1) := by decide +kernel
theorem dX11_bestLook_42 : decode cX11_bestLook 42 = .ok (.getfield 57, 3) := by decide +kernel
theorem dX11_bestLook_45 : decode cX11_bestLook 45 = .ok (.iload 5, 2) := by decide +kernel
theorem dX11_bestLook_47 : decode cX11_bestLook 47 = .ok (.iload 4, 2) := by decide +kernel
theorem dX11_bestLook_49 : decode cX11_bestLook 49 = .ok (.bipush 10, 2) := by decide +kernel
theorem dX11_bestLook_51 : decode cX11_bestLook 51 = .ok (.idiv, 1) := by decide +kernel
theorem dX11_bestLook_52 : decode cX11_bestLook 52 = .ok (.iload 4, 2) := by decide +kernel
theorem dX11_bestLook_54 : decode cX11_bestLook 54 = .ok (.bipush 10, 2) := by decide +kernel
theorem dX11_bestLook_56 : decode cX11_bestLook 56 = .ok (.irem, 1) := by decide +kernel
theorem dX11_bestLook_57 : decode cX11_bestLook 57 = .ok (.invokestatic 352, 3) := by decide +kernel
theorem dX11_bestLook_60 : decode cX11_bestLook 60 = .ok (.invokevirtual 363, 3) := by decide +kernel
theorem dX11_bestLook_63 : decode cX11_bestLook 63 = .ok (.iinc 5 1, 3) := by decide +kernel
theorem dX11_bestLook_66 : decode cX11_bestLook 66 = .ok (.goto (-41), 3) := by decide +kernel
theorem dX11_bestLook_69 : decode cX11_bestLook 69 = .ok (.aload_n 0, 1) := by decide +kernel
theorem dX11_bestLook_70 : decode cX11_bestLook 70 = .ok (.getfield 57, 3) := by decide +kernel
theorem dX11_bestLook_73 : decode cX11_bestLook 73 = .ok (.getfield 245, 3) := by decide +kernel
theorem dX11_bestLook_76 : decode cX11_bestLook 76 = .ok (.iload_n 3, 1) := by decide +kernel
theorem dX11_bestLook_77 : decode cX11_bestLook 77 = .ok (.if_icmp .ge 14, 3) := by decide +kernel
theorem dX11_bestLook_80 : decode cX11_bestLook 80 = .ok (.aload_n 0, 1) := by decide +kernel
theorem dX11_bestLook_81 : decode cX11_bestLook 81 = .ok (.getfield 57, 3) := by decide +kernel
theorem dX11_bestLook_84 : decode cX11_bestLook 84 = .ok (.getfield 245, 3) := by decide +kernel
theorem dX11_bestLook_87 : decode cX11_bestLook 87 = .ok (.istore_n 3, 1) := by decide +kernel
theorem dX11_bestLook_88 : decode cX11_bestLook 88 = .ok (.iload 4, 2) := by decide +kernel
theorem dX11_bestLook_90 : decode cX11_bestLook 90 = .ok (.istore_n 2, 1) := by decide +kernel
theorem dX11_bestLook_91 : decode cX11_bestLook 91 = .ok (.iinc 4 1, 3) := by decide +kernel
theorem dX11_bestLook_94 : decode cX11_bestLook 94 = .ok (.goto (-86), 3) := by decide +kernel
theorem dX11_bestLook_97 : decode cX11_bestLook 97 = .ok (.iload_n 2, 1) := by decide +kernel
theorem dX11_bestLook_98 : decode cX11_bestLook 98 = .ok (.ireturn, 1) := by decide +kernel
theorem dX11_lampKinds_0 : decode cX11_lampKinds 0 = .ok (.iconst 0, 1) := by decide +kernel
theorem dX11_lampKinds_1 : decode cX11_lampKinds 1 = .ok (.istore_n 1, 1) := by decide +kernel
theorem dX11_lampKinds_2 : decode cX11_lampKinds 2 = .ok (.iconst 0, 1) := by decide +kernel
theorem dX11_lampKinds_3 : decode cX11_lampKinds 3 = .ok (.istore_n 2, 1) := by decide +kernel
theorem dX11_lampKinds_4 : decode cX11_lampKinds 4 = .ok (.iload_n 2, 1) := by decide +kernel
theorem dX11_lampKinds_5 : decode cX11_lampKinds 5 = .ok (.bipush 6, 2) := by decide +kernel
theorem dX11_lampKinds_7 : decode cX11_lampKinds 7 = .ok (.if_icmp .ge 23, 3) := by decide +kernel
theorem dX11_lampKinds_10 : decode cX11_lampKinds 10 = .ok (.aload_n 0, 1) := by decide +kernel
theorem dX11_lampKinds_11 : decode cX11_lampKinds 11 = .ok (.iload_n 2, 1) := by decide +kernel
theorem dX11_lampKinds_12 : decode cX11_lampKinds 12 = .ok (.invokevirtual 365, 3) := by decide +kernel
theorem dX11_lampKinds_15 : decode cX11_lampKinds 15 = .ok (.ifCond .eq 9, 3) := by decide +kernel
theorem dX11_lampKinds_18 : decode cX11_lampKinds 18 = .ok (.iload_n 1, 1) := by decide +kernel
theorem dX11_lampKinds_19 : decode cX11_lampKinds 19 = .ok (.iconst 1, 1) := by decide +kernel
theorem dX11_lampKinds_20 : decode cX11_lampKinds 20 = .ok (.iload_n 2, 1) := by decide +kernel
theorem dX11_lampKinds_21 : decode cX11_lampKinds 21 = .ok (.ishl, 1) := by decide +kernel
theorem dX11_lampKinds_22 : decode cX11_lampKinds 22 = .ok (.ior, 1) := by decide +kernel
theorem dX11_lampKinds_23 : decode cX11_lampKinds 23 = .ok (.istore_n 1, 1) := by decide +kernel
theorem dX11_lampKinds_24 : decode cX11_lampKinds 24 = .ok (.iinc 2 1, 3) := by decide +kernel
theorem dX11_lampKinds_27 : decode cX11_lampKinds 27 = .ok (.goto (-23), 3) := by decide +kernel
theorem dX11_lampKinds_30 : decode cX11_lampKinds 30 = .ok (.iload_n 1, 1) := by decide +kernel
theorem dX11_lampKinds_31 : decode cX11_lampKinds 31 = .ok (.ireturn, 1) := by decide +kernel
theorem dX11_lampFits_0 : decode cX11_lampFits 0 = .ok (.aload_n 0, 1) := by decide +kernel
theorem dX11_lampFits_1 : decode cX11_lampFits 1 = .ok (.getfield 10, 3) := by decide +kernel
theorem dX11_lampFits_4 : decode cX11_lampFits 4 = .ok (.getfield 251, 3) := by decide +kernel
theorem dX11_lampFits_7 : decode cX11_lampFits 7 = .ok (.astore_n 2, 1) := by decide +kernel
theorem dX11_lampFits_8 : decode cX11_lampFits 8 = .ok (.iconst 0, 1) := by decide +kernel
theorem dX11_lampFits_9 : decode cX11_lampFits 9 = .ok (.istore_n 3, 1) := by decide +kernel
theorem dX11_lampFits_10 : decode cX11_lampFits 10 = .ok (.iload_n 3, 1) := by decide +kernel
theorem dX11_lampFits_11 : decode cX11_lampFits 11 = .ok (.aload_n 2, 1) := by decide +kernel
theorem dX11_lampFits_12 : decode cX11_lampFits 12 = .ok (.getfield 348, 3) := by decide +kernel
theorem dX11_lampFits_15 : decode cX11_lampFits 15 = .ok (.if_icmp .ge 36, 3) := by decide +kernel
theorem dX11_lampFits_18 : decode cX11_lampFits 18 = .ok (.iload_n 1, 1) := by decide +kernel
theorem dX11_lampFits_19 : decode cX11_lampFits 19 = .ok (.aload_n 2, 1) := by decide +kernel
theorem dX11_lampFits_20 : decode cX11_lampFits 20 = .ok (.iload_n 3, 1) := by decide +kernel
theorem dX11_lampFits_21 : decode cX11_lampFits 21 = .ok (.iconst 0, 1) := by decide +kernel
theorem dX11_lampFits_22 : decode cX11_lampFits 22 = .ok (.invokevirtual 349, 3) := by decide +kernel
theorem dX11_lampFits_25 : decode cX11_lampFits 25 = .ok (.aload_n 2, 1) := by decide +kernel
theorem dX11_lampFits_26 : decode cX11_lampFits 26 = .ok (.iload_n 3, 1) := by decide +kernel
theorem dX11_lampFits_27 : decode cX11_lampFits 27 = .ok (.iconst 1, 1) := by decide +kernel
theorem dX11_lampFits_28 : decode cX11_lampFits 28 = .ok (.invokevirtual 349, 3) := by decide +kernel
theorem dX11_lampFits_31 : decode cX11_lampFits 31 = .ok (.invokestatic 368, 3) := by decide +kernel
theorem dX11_lampFits_34 : decode cX11_lampFits 34 = .ok (.aload_n 2, 1) := by decide +kernel
theorem dX11_lampFits_35 : decode cX11_lampFits 35 = .ok (.iload_n 3, 1) := by decide +kernel
theorem dX11_lampFits_36 : decode cX11_lampFits 36 = .ok (.iconst 2, 1) := by decide +kernel
theorem dX11_lampFits_37 : decode cX11_lampFits 37 = .ok (.invokevirtual 349, 3) := by decide +kernel
theorem dX11_lampFits_40 : decode cX11_lampFits 40 = .ok (.if_icmp .eq 5, 3) := by decide +kernel
theorem dX11_lampFits_43 : decode cX11_lampFits 43 = .ok (.iconst 0, 1) := by decide +kernel
theorem dX11_lampFits_44 : decode cX11_lampFits 44 = .ok (.ireturn, 1) := by decide +kernel
theorem dX11_lampFits_45 : decode cX11_lampFits 45 = .ok (.iinc 3 1, 3) := by decide +kernel
theorem dX11_lampFits_48 : decode cX11_lampFits 48 = .ok (.goto (-38), 3) := by decide +kernel
theorem dX11_lampFits_51 : decode cX11_lampFits 51 = .ok (.iconst 1, 1) := by decide +kernel
theorem dX11_lampFits_52 : decode cX11_lampFits 52 = .ok (.ireturn, 1) := by decide +kernel
theorem dX11_bestAsk_0 : decode cX11_bestAsk 0 = .ok (.iconst (-1), 1) := by decide +kernel
theorem dX11_bestAsk_1 : decode cX11_bestAsk 1 = .ok (.istore_n 2, 1) := by decide +kernel
theorem dX11_bestAsk_2 : decode cX11_bestAsk 2 = .ok (.ldc 240, 2) := by decide +kernel
theorem dX11_bestAsk_4 : decode cX11_bestAsk 4 = .ok (.istore_n 3, 1) := by decide +kernel
theorem dX11_bestAsk_5 : decode cX11_bestAsk 5 = .ok (.iconst 0, 1) := by decide +kernel
theorem dX11_bestAsk_6 : decode cX11_bestAsk 6 = .ok (.istore 4, 2) := by decide +kernel
theorem dX11_bestAsk_8 : decode cX11_bestAsk 8 = .ok (.iload 4, 2) := by decide +kernel
theorem dX11_bestAsk_10 : decode cX11_bestAsk 10 = .ok (.bipush 12, 2) := by decide +kernel
theorem dX11_bestAsk_12 : decode cX11_bestAsk 12 = .ok (.if_icmp .ge 62, 3) := by decide +kernel
theorem dX11_bestAsk_15 : decode cX11_bestAsk 15 = .ok (.iconst 0, 1) := by decide +kernel
theorem dX11_bestAsk_16 : decode cX11_bestAsk 16 = .ok (.istore 5, 2) := by decide +kernel
theorem dX11_bestAsk_18 : decode cX11_bestAsk 18 = .ok (.iload 5, 2) := by decide +kernel
theorem dX11_bestAsk_20 : decode cX11_bestAsk 20 = .ok (.bipush 20, 2) := by decide +kernel
theorem dX11_bestAsk_22 : decode cX11_bestAsk 22 = .ok (.if_icmp .ge 46, 3) := by decide +kernel
theorem dX11_bestAsk_25 : decode cX11_bestAsk 25 = .ok (.aload_n 0, 1) := by decide +kernel
theorem dX11_bestAsk_26 : decode cX11_bestAsk 26 = .ok (.iload_n 1, 1) := by decide +kernel
theorem dX11_bestAsk_27 : decode cX11_bestAsk 27 = .ok (.iload 4, 2) := by decide +kernel
theorem dX11_bestAsk_29 : decode cX11_bestAsk 29 = .ok (.iload 5, 2) := by decide +kernel
theorem dX11_bestAsk_31 : decode cX11_bestAsk 31 = .ok (.invokevirtual 373, 3) := by decide +kernel
theorem dX11_bestAsk_34 : decode cX11_bestAsk 34 = .ok (.aload_n 0, 1) := by decide +kernel
theorem dX11_bestAsk_35 : decode cX11_bestAsk 35 = .ok (.getfield 57, 3) := by decide +kernel
theorem dX11_bestAsk_38 : decode cX11_bestAsk 38 = .ok (.getfield 245, 3) := by decide +kernel
theorem dX11_bestAsk_41 : decode cX11_bestAsk 41 = .ok (.iload_n 3, 1) := by decide +kernel
theorem dX11_bestAsk_42 : decode cX11_bestAsk 42 = .ok (.if_icmp .ge 20, 3) := by decide +kernel
theorem dX11_bestAsk_45 : decode cX11_bestAsk 45 = .ok (.aload_n 0, 1) := by decide +kernel
theorem dX11_bestAsk_46 : decode cX11_bestAsk 46 = .ok (.getfield 57, 3) := by decide +kernel
theorem dX11_bestAsk_49 : decode cX11_bestAsk 49 = .ok (.getfield 245, 3) := by decide +kernel
theorem dX11_bestAsk_52 : decode cX11_bestAsk 52 = .ok (.istore_n 3, 1) := by decide +kernel
theorem dX11_bestAsk_53 : decode cX11_bestAsk 53 = .ok (.bipush 100, 2) := by decide +kernel
theorem dX11_bestAsk_55 : decode cX11_bestAsk 55 = .ok (.iload 4, 2) := by decide +kernel
theorem dX11_bestAsk_57 : decode cX11_bestAsk 57 = .ok (.imul, 1) := by decide +kernel
theorem dX11_bestAsk_58 : decode cX11_bestAsk 58 = .ok (.iload 5, 2) := by decide +kernel
theorem dX11_bestAsk_60 : decode cX11_bestAsk 60 = .ok (.iadd, 1) := by decide +kernel
theorem dX11_bestAsk_61 : decode cX11_bestAsk 61 = .ok (.istore_n 2, 1) := by decide +kernel
theorem dX11_bestAsk_62 : decode cX11_bestAsk 62 = .ok (.iinc 5 1, 3) := by decide +kernel
theorem dX11_bestAsk_65 : decode cX11_bestAsk 65 = .ok (.goto (-47), 3) := by decide +kernel
theorem dX11_bestAsk_68 : decode cX11_bestAsk 68 = .ok (.iinc 4 1, 3) := by decide +kernel
theorem dX11_bestAsk_71 : decode cX11_bestAsk 71 = .ok (.goto (-63), 3) := by decide +kernel
theorem dX11_bestAsk_74 : decode cX11_bestAsk 74 = .ok (.iload_n 2, 1) := by decide +kernel
theorem dX11_bestAsk_75 : decode cX11_bestAsk 75 = .ok (.ireturn, 1) := by decide +kernel
theorem dX11_tallyPassing_0 : decode cX11_tallyPassing 0 = .ok (.aload_n 0, 1) := by decide +kernel
theorem dX11_tallyPassing_1 : decode cX11_tallyPassing 1 = .ok (.getfield 57, 3) := by decide +kernel
theorem dX11_tallyPassing_4 : decode cX11_tallyPassing 4 = .ok (.invokevirtual 358, 3) := by decide +kernel
theorem dX11_tallyPassing_7 : decode cX11_tallyPassing 7 = .ok (.iconst 0, 1) := by decide +kernel
theorem dX11_tallyPassing_8 : decode cX11_tallyPassing 8 = .ok (.istore 4, 2) := by decide +kernel
theorem dX11_tallyPassing_10 : decode cX11_tallyPassing 10 = .ok (.iload 4, 2) := by decide +kernel
theorem dX11_tallyPassing_12 : decode cX11_tallyPassing 12 = .ok (.bipush 6, 2) := by decide +kernel
theorem dX11_tallyPassing_14 : decode cX11_tallyPassing 14 = .ok (.if_icmp .ge 32, 3) := by decide +kernel
theorem dX11_tallyPassing_17 : decode cX11_tallyPassing 17 = .ok (.iload_n 1, 1) := by decide +kernel
theorem dX11_tallyPassing_18 : decode cX11_tallyPassing 18 = .ok (.iload 4, 2) := by decide +kernel
theorem dX11_tallyPassing_20 : decode cX11_tallyPassing 20 = .ok (.invokestatic 360, 3) := by decide +kernel
theorem dX11_tallyPassing_23 : decode cX11_tallyPassing 23 = .ok (.ifCond .eq 17, 3) := by decide +kernel
theorem dX11_tallyPassing_26 : decode cX11_tallyPassing 26 = .ok (.aload_n 0, 1) := by decide +kernel
theorem dX11_tallyPassing_27 : decode cX11_tallyPassing 27 = .ok (.getfield 57, 3) := by decide +kernel
theorem dX11_tallyPassing_30 : decode cX11_tallyPassing 30 = .ok (.iload 4, 2) := by decide +kernel
theorem dX11_tallyPassing_32 : decode cX11_tallyPassing 32 = .ok (.iload_n 2, 1) := by decide +kernel
theorem dX11_tallyPassing_33 : decode cX11_tallyPassing 33 = .ok (.iload_n 3, 1) := by decide +kernel
theorem dX11_tallyPassing_34 : decode cX11_tallyPassing 34 = .ok (.invokestatic 368, 3) := by decide +kernel
theorem dX11_tallyPassing_37 : decode cX11_tallyPassing 37 = .ok (.invokevirtual 363, 3) := by decide +kernel
theorem dX11_tallyPassing_40 : decode cX11_tallyPassing 40 = .ok (.iinc 4 1, 3) := by decide +kernel
theorem dX11_tallyPassing_43 : decode cX11_tallyPassing 43 = .ok (.goto (-33), 3) := by decide +kernel
theorem dX11_tallyPassing_46 : decode cX11_tallyPassing 46 = .ok (.return_, 1) := by decide +kernel
theorem dX11_hasBit_0 : decode cX11_hasBit 0 = .ok (.iload_n 0, 1) := by decide +kernel
theorem dX11_hasBit_1 : decode cX11_hasBit 1 = .ok (.iload_n 1, 1) := by decide +kernel
theorem dX11_hasBit_2 : decode cX11_hasBit 2 = .ok (.ishr, 1) := by decide +kernel
theorem dX11_hasBit_3 : decode cX11_hasBit 3 = .ok (.iconst 1, 1) := by decide +kernel
theorem dX11_hasBit_4 : decode cX11_hasBit 4 = .ok (.iand, 1) := by decide +kernel
theorem dX11_hasBit_5 : decode cX11_hasBit 5 = .ok (.iconst 1, 1) := by decide +kernel
theorem dX11_hasBit_6 : decode cX11_hasBit 6 = .ok (.if_icmp .ne 7, 3) := by decide +kernel
theorem dX11_hasBit_9 : decode cX11_hasBit 9 = .ok (.iconst 1, 1) := by decide +kernel
theorem dX11_hasBit_10 : decode cX11_hasBit 10 = .ok (.goto 4, 3) := by decide +kernel
theorem dX11_hasBit_13 : decode cX11_hasBit 13 = .ok (.iconst 0, 1) := by decide +kernel
theorem dX11_hasBit_14 : decode cX11_hasBit 14 = .ok (.ireturn, 1) := by decide +kernel
theorem dX11_fillGains_0 : decode cX11_fillGains 0 = .ok (.iconst 0, 1) := by decide +kernel
theorem dX11_fillGains_1 : decode cX11_fillGains 1 = .ok (.istore_n 3, 1) := by decide +kernel
theorem dX11_fillGains_2 : decode cX11_fillGains 2 = .ok (.iload_n 3, 1) := by decide +kernel
theorem dX11_fillGains_3 : decode cX11_fillGains 3 = .ok (.bipush 6, 2) := by decide +kernel
theorem dX11_fillGains_5 : decode cX11_fillGains 5 = .ok (.if_icmp .gt 53, 3) := by decide +kernel
theorem dX11_fillGains_8 : decode cX11_fillGains 8 = .ok (.aload_n 0, 1) := by decide +kernel
theorem dX11_fillGains_9 : decode cX11_fillGains 9 = .ok (.iload_n 3, 1) := by decide +kernel
theorem dX11_fillGains_10 : decode cX11_fillGains 10 = .ok (.iconst 4, 1) := by decide +kernel
theorem dX11_fillGains_11 : decode cX11_fillGains 11 = .ok (.invokevirtual 194, 3) := by decide +kernel
theorem dX11_fillGains_14 : decode cX11_fillGains 14 = .ok (.aload_n 0, 1) := by decide +kernel
theorem dX11_fillGains_15 : decode cX11_fillGains 15 = .ok (.getfield 68, 3) := by decide +kernel
theorem dX11_fillGains_18 : decode cX11_fillGains 18 = .ok (.iload_n 3, 1) := by decide +kernel
theorem dX11_fillGains_19 : decode cX11_fillGains 19 = .ok (.aload_n 0, 1) := by decide +kernel
theorem dX11_fillGains_20 : decode cX11_fillGains 20 = .ok (.getfield 36, 3) := by decide +kernel
theorem dX11_fillGains_23 : decode cX11_fillGains 23 = .ok (.getfield 191, 3) := by decide +kernel
theorem dX11_fillGains_26 : decode cX11_fillGains 26 = .ok (.iload_n 1, 1) := by decide +kernel
theorem dX11_fillGains_27 : decode cX11_fillGains 27 = .ok (.invokestatic 168, 3) := by decide +kernel
theorem dX11_fillGains_30 : decode cX11_fillGains 30 = .ok (.invokestatic 172, 3) := by decide +kernel
theorem dX11_fillGains_33 : decode cX11_fillGains 33 = .ok (.aload_n 0, 1) := by decide +kernel
theorem dX11_fillGains_34 : decode cX11_fillGains 34 = .ok (.getfield 72, 3) := by decide +kernel
theorem dX11_fillGains_37 : decode cX11_fillGains 37 = .ok (.iload_n 3, 1) := by decide +kernel
theorem dX11_fillGains_38 : decode cX11_fillGains 38 = .ok (.aload_n 0, 1) := by decide +kernel
theorem dX11_fillGains_39 : decode cX11_fillGains 39 = .ok (.getfield 36, 3) := by decide +kernel
theorem dX11_fillGains_42 : decode cX11_fillGains 42 = .ok (.getfield 191, 3) := by decide +kernel
theorem dX11_fillGains_45 : decode cX11_fillGains 45 = .ok (.iload_n 2, 1) := by decide +kernel
theorem dX11_fillGains_46 : decode cX11_fillGains 46 = .ok (.invokestatic 168, 3) := by decide +kernel
theorem dX11_fillGains_49 : decode cX11_fillGains 49 = .ok (.invokestatic 172, 3) := by decide +kernel
theorem dX11_fillGains_52 : decode cX11_fillGains 52 = .ok (.iinc 3 1, 3) := by decide +kernel
theorem dX11_fillGains_55 : decode cX11_fillGains 55 = .ok (.goto (-53), 3) := by decide +kernel
theorem dX11_fillGains_58 : decode cX11_fillGains 58 = .ok (.return_, 1) := by decide +kernel
theorem dX11_gain_0 : decode cX11_gain 0 = .ok (.iload_n 1, 1) := by decide +kernel
theorem dX11_gain_1 : decode cX11_gain 1 = .ok (.iconst 3, 1) := by decide +kernel
theorem dX11_gain_2 : decode cX11_gain 2 = .ok (.if_icmp .ne 7, 3) := by decide +kernel
theorem dX11_gain_5 : decode cX11_gain 5 = .ok (.iconst 1, 1) := by decide +kernel
theorem dX11_gain_6 : decode cX11_gain 6 = .ok (.goto 4, 3) := by decide +kernel
theorem dX11_gain_9 : decode cX11_gain 9 = .ok (.iconst 0, 1) := by decide +kernel
theorem dX11_gain_10 : decode cX11_gain 10 = .ok (.istore_n 3, 1) := by decide +kernel
theorem dX11_gain_11 : decode cX11_gain 11 = .ok (.aload_n 0, 1) := by decide +kernel
theorem dX11_gain_12 : decode cX11_gain 12 = .ok (.iload_n 1, 1) := by decide +kernel
theorem dX11_gain_13 : decode cX11_gain 13 = .ok (.iload_n 2, 1) := by decide +kernel
theorem dX11_gain_14 : decode cX11_gain 14 = .ok (.iadd, 1) := by decide +kernel
theorem dX11_gain_15 : decode cX11_gain 15 = .ok (.invokestatic 168, 3) := by decide +kernel
theorem dX11_gain_18 : decode cX11_gain 18 = .ok (.iload_n 3, 1) := by decide +kernel
theorem dX11_gain_19 : decode cX11_gain 19 = .ok (.isub, 1) := by decide +kernel
theorem dX11_gain_20 : decode cX11_gain 20 = .ok (.ireturn, 1) := by decide +kernel
theorem dX11_rests_0 : decode cX11_rests 0 = .ok (.iconst 0, 1) := by decide +kernel
theorem dX11_rests_1 : decode cX11_rests 1 = .ok (.istore_n 3, 1) := by decide +kernel
theorem dX11_rests_2 : decode cX11_rests 2 = .ok (.iload_n 3, 1) := by decide +kernel
theorem dX11_rests_3 : decode cX11_rests 3 = .ok (.iconst 4, 1) := by decide +kernel
theorem dX11_rests_4 : decode cX11_rests 4 = .ok (.if_icmp .ge 53, 3) := by decide +kernel
theorem dX11_rests_7 : decode cX11_rests 7 = .ok (.aload_n 0, 1) := by decide +kernel
theorem dX11_rests_8 : decode cX11_rests 8 = .ok (.getfield 68, 3) := by decide +kernel
theorem dX11_rests_11 : decode cX11_rests 11 = .ok (.iload_n 3, 1) := by decide +kernel
theorem dX11_rests_12 : decode cX11_rests 12 = .ok (.iload_n 2, 1) := by decide +kernel
theorem dX11_rests_13 : decode cX11_rests 13 = .ok (.invokestatic 376, 3) := by decide +kernel
theorem dX11_rests_16 : decode cX11_rests 16 = .ok (.aload_n 0, 1) := by decide +kernel
theorem dX11_rests_17 : decode cX11_rests 17 = .ok (.getfield 68, 3) := by decide +kernel
theorem dX11_rests_20 : decode cX11_rests 20 = .ok (.iload_n 1, 1) := by decide +kernel
theorem dX11_rests_21 : decode cX11_rests 21 = .ok (.iload_n 2, 1) := by decide +kernel
theorem dX11_rests_22 : decode cX11_rests 22 = .ok (.invokestatic 376, 3) := by decide +kernel
theorem dX11_rests_25 : decode cX11_rests 25 = .ok (.if_icmp .gt 24, 3) := by decide +kernel
theorem dX11_rests_28 : decode cX11_rests 28 = .ok (.aload_n 0, 1) := by decide +kernel
theorem dX11_rests_29 : decode cX11_rests 29 = .ok (.getfield 72, 3) := by decide +kernel
theorem dX11_rests_32 : decode cX11_rests 32 = .ok (.iload_n 3, 1) := by decide +kernel
theorem dX11_rests_33 : decode cX11_rests 33 = .ok (.iload_n 1, 1) := by decide +kernel
theorem dX11_rests_34 : decode cX11_rests 34 = .ok (.invokestatic 376, 3) := by decide +kernel
theorem dX11_rests_37 : decode cX11_rests 37 = .ok (.aload_n 0, 1) := by decide +kernel
theorem dX11_rests_38 : decode cX11_rests 38 = .ok (.getfield 72, 3) := by decide +kernel
theorem dX11_rests_41 : decode cX11_rests 41 = .ok (.iload_n 2, 1) := by decide +kernel
theorem dX11_rests_42 : decode cX11_rests 42 = .ok (.iload_n 1, 1) := by decide +kernel
theorem dX11_rests_43 : decode cX11_rests 43 = .ok (.invokestatic 376, 3) := by decide +kernel
theorem dX11_rests_46 : decode cX11_rests 46 = .ok (.if_icmp .le 5, 3) := by decide +kernel
theorem dX11_rests_49 : decode cX11_rests 49 = .ok (.iconst 0, 1) := by decide +kernel
theorem dX11_rests_50 : decode cX11_rests 50 = .ok (.ireturn, 1) := by decide +kernel
theorem dX11_rests_51 : decode cX11_rests 51 = .ok (.iinc 3 1, 3) := by decide +kernel
theorem dX11_rests_54 : decode cX11_rests 54 = .ok (.goto (-52), 3) := by decide +kernel
theorem dX11_rests_57 : decode cX11_rests 57 = .ok (.iconst 1, 1) := by decide +kernel
theorem dX11_rests_58 : decode cX11_rests 58 = .ok (.ireturn, 1) := by decide +kernel
theorem dX11_keepFraction_0 : decode cX11_keepFraction 0 = .ok (.lload_n 1, 1) := by decide +kernel
theorem dX11_keepFraction_1 : decode cX11_keepFraction 1 = .ok (.lload_n 3, 1) := by decide +kernel
theorem dX11_keepFraction_2 : decode cX11_keepFraction 2 = .ok (.invokestatic 380, 3) := by decide +kernel
theorem dX11_keepFraction_5 : decode cX11_keepFraction 5 = .ok (.lstore 5, 2) := by decide +kernel
theorem dX11_keepFraction_7 : decode cX11_keepFraction 7 = .ok (.lload 5, 2) := by decide +kernel
theorem dX11_keepFraction_9 : decode cX11_keepFraction 9 = .ok (.lconst 0, 1) := by decide +kernel
theorem dX11_keepFraction_10 : decode cX11_keepFraction 10 = .ok (.lcmp, 1) := by decide +kernel
theorem dX11_keepFraction_11 : decode cX11_keepFraction 11 = .ok (.ifCond .le 19, 3) := by decide +kernel
theorem dX11_keepFraction_14 : decode cX11_keepFraction 14 = .ok (.aload_n 0, 1) := by decide +kernel
theorem dX11_keepFraction_15 : decode cX11_keepFraction 15 = .ok (.lload_n 1, 1) := by decide +kernel
theorem dX11_keepFraction_16 : decode cX11_keepFraction 16 = .ok (.lload 5, 2) := by decide +kernel
theorem dX11_keepFraction_18 : decode cX11_keepFraction 18 = .ok (.ldiv, 1) := by decide +kernel
theorem dX11_keepFraction_19 : decode cX11_keepFraction 19 = .ok (.putfield 304, 3) := by decide +kernel
theorem dX11_keepFraction_22 : decode cX11_keepFraction 22 = .ok (.aload_n 0, 1) := by decide +kernel
theorem dX11_keepFraction_23 : decode cX11_keepFraction 23 = .ok (.lload_n 3, 1) := by decide +kernel
theorem dX11_keepFraction_24 : decode cX11_keepFraction 24 = .ok (.lload 5, 2) := by decide +kernel
theorem dX11_keepFraction_26 : decode cX11_keepFraction 26 = .ok (.ldiv, 1) := by decide +kernel
theorem dX11_keepFraction_27 : decode cX11_keepFraction 27 = .ok (.putfield 29, 3) := by decide +kernel
theorem dX11_keepFraction_30 : decode cX11_keepFraction 30 = .ok (.return_, 1) := by decide +kernel
theorem dX11_greatestDivisor_0 : decode cX11_greatestDivisor 0 = .ok (.iconst 0, 1) := by decide +kernel
theorem dX11_greatestDivisor_1 : decode cX11_greatestDivisor 1 = .ok (.istore 4, 2) := by decide +kernel
theorem dX11_greatestDivisor_3 : decode cX11_greatestDivisor 3 = .ok (.iload 4, 2) := by decide +kernel
theorem dX11_greatestDivisor_5 : decode cX11_greatestDivisor 5 = .ok (.bipush 64, 2) := by decide +kernel
theorem dX11_greatestDivisor_7 : decode cX11_greatestDivisor 7 = .ok (.if_icmp .ge 25, 3) := by decide +kernel
theorem dX11_greatestDivisor_10 : decode cX11_greatestDivisor 10 = .ok (.lload_n 2, 1) := by decide +kernel
theorem dX11_greatestDivisor_11 : decode cX11_greatestDivisor 11 = .ok (.lconst 0, 1) := by decide +kernel
theorem dX11_greatestDivisor_12 : decode cX11_greatestDivisor 12 = .ok (.lcmp, 1) := by decide +kernel
theorem dX11_greatestDivisor_13 : decode cX11_greatestDivisor 13 = .ok (.ifCond .le 19, 3) := by decide +kernel
theorem dX11_greatestDivisor_16 : decode cX11_greatestDivisor 16 = .ok (.lload_n 0, 1) := by decide +kernel
theorem dX11_greatestDivisor_17 : decode cX11_greatestDivisor 17 = .ok (.lload_n 2, 1) := by decide +kernel
theorem dX11_greatestDivisor_18 : decode cX11_greatestDivisor 18 = .ok (.lrem, 1) := by decide +kernel
theorem dX11_greatestDivisor_19 : decode cX11_greatestDivisor 19 = .ok (.lstore 5, 2) := by decide +kernel
theorem dX11_greatestDivisor_21 : decode cX11_greatestDivisor 21 = .ok (.lload_n 2, 1) := by decide +kernel
theorem dX11_greatestDivisor_22 : decode cX11_greatestDivisor 22 = .ok (.lstore_n 0, 1) := by decide +kernel
theorem dX11_greatestDivisor_23 : decode cX11_greatestDivisor 23 = .ok (.lload 5, 2) := by decide +kernel
theorem dX11_greatestDivisor_25 : decode cX11_greatestDivisor 25 = .ok (.lstore_n 2, 1) := by decide +kernel
theorem dX11_greatestDivisor_26 : decode cX11_greatestDivisor 26 = .ok (.iinc 4 1, 3) := by decide +kernel
theorem dX11_greatestDivisor_29 : decode cX11_greatestDivisor 29 = .ok (.goto (-26), 3) := by decide +kernel
theorem dX11_greatestDivisor_32 : decode cX11_greatestDivisor 32 = .ok (.lload_n 0, 1) := by decide +kernel
theorem dX11_greatestDivisor_33 : decode cX11_greatestDivisor 33 = .ok (.lreturn, 1) := by decide +kernel
theorem dX11_countOf_0 : decode cX11_countOf 0 = .ok (.iload_n 1, 1) := by decide +kernel
theorem dX11_countOf_1 : decode cX11_countOf 1 = .ok (.tableswitch 187 0 11 #[63, 71, 79, 90, 101, 112, 120, 135, 146, 157, 168, 179], 63) := by decide +kernel
theorem dX11_countOf_64 : decode cX11_countOf 64 = .ok (.aload_n 0, 1) := by decide +kernel
theorem dX11_countOf_65 : decode cX11_countOf 65 = .ok (.getfield 10, 3) := by decide +kernel
theorem dX11_countOf_68 : decode cX11_countOf 68 = .ok (.getfield 210, 3) := by decide +kernel
theorem dX11_countOf_71 : decode cX11_countOf 71 = .ok (.ireturn, 1) := by decide +kernel
theorem dX11_countOf_72 : decode cX11_countOf 72 = .ok (.aload_n 0, 1) := by decide +kernel
theorem dX11_countOf_73 : decode cX11_countOf 73 = .ok (.getfield 10, 3) := by decide +kernel
theorem dX11_countOf_76 : decode cX11_countOf 76 = .ok (.getfield 98, 3) := by decide +kernel
theorem dX11_countOf_79 : decode cX11_countOf 79 = .ok (.ireturn, 1) := by decide +kernel
theorem dX11_countOf_80 : decode cX11_countOf 80 = .ok (.aload_n 0, 1) := by decide +kernel
theorem dX11_countOf_81 : decode cX11_countOf 81 = .ok (.getfield 10, 3) := by decide +kernel
theorem dX11_countOf_84 : decode cX11_countOf 84 = .ok (.getfield 137, 3) := by decide +kernel
theorem dX11_countOf_87 : decode cX11_countOf 87 = .ok (.getfield 153, 3) := by decide +kernel
theorem dX11_countOf_90 : decode cX11_countOf 90 = .ok (.ireturn, 1) := by decide +kernel
theorem dX11_countOf_91 : decode cX11_countOf 91 = .ok (.aload_n 0, 1) := by decide +kernel
theorem dX11_countOf_92 : decode cX11_countOf 92 = .ok (.getfield 10, 3) := by decide +kernel
theorem dX11_countOf_95 : decode cX11_countOf 95 = .ok (.getfield 137, 3) := by decide +kernel
theorem dX11_countOf_98 : decode cX11_countOf 98 = .ok (.getfield 150, 3) := by decide +kernel
theorem dX11_countOf_101 : decode cX11_countOf 101 = .ok (.ireturn, 1) := by decide +kernel
theorem dX11_countOf_102 : decode cX11_countOf 102 = .ok (.aload_n 0, 1) := by decide +kernel
theorem dX11_countOf_103 : decode cX11_countOf 103 = .ok (.getfield 10, 3) := by decide +kernel
theorem dX11_countOf_106 : decode cX11_countOf 106 = .ok (.getfield 137, 3) := by decide +kernel
theorem dX11_countOf_109 : decode cX11_countOf 109 = .ok (.getfield 140, 3) := by decide +kernel
theorem dX11_countOf_112 : decode cX11_countOf 112 = .ok (.ireturn, 1) := by decide +kernel
theorem dX11_countOf_113 : decode cX11_countOf 113 = .ok (.aload_n 0, 1) := by decide +kernel
theorem dX11_countOf_114 : decode cX11_countOf 114 = .ok (.getfield 10, 3) := by decide +kernel
theorem dX11_countOf_117 : decode cX11_countOf 117 = .ok (.getfield 90, 3) := by decide +kernel
theorem dX11_countOf_120 : decode cX11_countOf 120 = .ok (.ireturn, 1) := by decide +kernel
theorem dX11_countOf_121 : decode cX11_countOf 121 = .ok (.aload_n 0, 1) := by decide +kernel
theorem dX11_countOf_122 : decode cX11_countOf 122 = .ok (.getfield 10, 3) := by decide +kernel
theorem dX11_countOf_125 : decode cX11_countOf 125 = .ok (.aload_n 0, 1) := by decide +kernel
theorem dX11_countOf_126 : decode cX11_countOf 126 = .ok (.getfield 10, 3) := by decide +kernel
theorem dX11_countOf_129 : decode cX11_countOf 129 = .ok (.getfield 137, 3) := by decide +kernel
theorem dX11_countOf_132 : decode cX11_countOf 132 = .ok (.invokevirtual 301, 3) := by decide +kernel
theorem dX11_countOf_135 : decode cX11_countOf 135 = .ok (.ireturn, 1) := by decide +kernel
theorem dX11_countOf_136 : decode cX11_countOf 136 = .ok (.aload_n 0, 1) := by decide +kernel
theorem dX11_countOf_137 : decode cX11_countOf 137 = .ok (.getfield 10, 3) := by decide +kernel
theorem dX11_countOf_140 : decode cX11_countOf 140 = .ok (.getfield 223, 3) := by decide +kernel
theorem dX11_countOf_143 : decode cX11_countOf 143 = .ok (.getfield 348, 3) := by decide +kernel
theorem dX11_countOf_146 : decode cX11_countOf 146 = .ok (.ireturn, 1) := by decide +kernel
theorem dX11_countOf_147 : decode cX11_countOf 147 = .ok (.aload_n 0, 1) := by decide +kernel
theorem dX11_countOf_148 : decode cX11_countOf 148 = .ok (.getfield 10, 3) := by decide +kernel
theorem dX11_countOf_151 : decode cX11_countOf 151 = .ok (.getfield 248, 3) := by decide +kernel
theorem dX11_countOf_154 : decode cX11_countOf 154 = .ok (.getfield 348, 3) := by decide +kernel
theorem dX11_countOf_157 : decode cX11_countOf 157 = .ok (.ireturn, 1) := by decide +kernel
theorem dX11_countOf_158 : decode cX11_countOf 158 = .ok (.aload_n 0, 1) := by decide +kernel
theorem dX11_countOf_159 : decode cX11_countOf 159 = .ok (.getfield 10, 3) := by decide +kernel
theorem dX11_countOf_162 : decode cX11_countOf 162 = .ok (.getfield 251, 3) := by decide +kernel
theorem dX11_countOf_165 : decode cX11_countOf 165 = .ok (.getfield 348, 3) := by decide +kernel
theorem dX11_countOf_168 : decode cX11_countOf 168 = .ok (.ireturn, 1) := by decide +kernel
theorem dX11_countOf_169 : decode cX11_countOf 169 = .ok (.aload_n 0, 1) := by decide +kernel
theorem dX11_countOf_170 : decode cX11_countOf 170 = .ok (.getfield 10, 3) := by decide +kernel
theorem dX11_countOf_173 : decode cX11_countOf 173 = .ok (.getfield 101, 3) := by decide +kernel
theorem dX11_countOf_176 : decode cX11_countOf 176 = .ok (.getfield 176, 3) := by decide +kernel
theorem dX11_countOf_179 : decode cX11_countOf 179 = .ok (.ireturn, 1) := by decide +kernel
theorem dX11_countOf_180 : decode cX11_countOf 180 = .ok (.aload_n 0, 1) := by decide +kernel
theorem dX11_countOf_181 : decode cX11_countOf 181 = .ok (.getfield 25, 3) := by decide +kernel
theorem dX11_countOf_184 : decode cX11_countOf 184 = .ok (.getfield 384, 3) := by decide +kernel
theorem dX11_countOf_187 : decode cX11_countOf 187 = .ok (.ireturn, 1) := by decide +kernel
theorem dX11_countOf_188 : decode cX11_countOf 188 = .ok (.iconst 0, 1) := by decide +kernel
theorem dX11_countOf_189 : decode cX11_countOf 189 = .ok (.ireturn, 1) := by decide +kernel
theorem dX12_init_0 : decode cX12_init 0 = .ok (.aload_n 0, 1) := by decide +kernel
theorem dX12_init_1 : decode cX12_init 1 = .ok (.invokespecial 1, 3) := by decide +kernel
theorem dX12_init_4 : decode cX12_init 4 = .ok (.aload_n 0, 1) := by decide +kernel
theorem dX12_init_5 : decode cX12_init 5 = .ok (.sipush 700, 3) := by decide +kernel
theorem dX12_init_8 : decode cX12_init 8 = .ok (.newarray .int, 2) := by decide +kernel
theorem dX12_init_10 : decode cX12_init 10 = .ok (.putfield 7, 3) := by decide +kernel
theorem dX12_init_13 : decode cX12_init 13 = .ok (.aload_n 0, 1) := by decide +kernel
theorem dX12_init_14 : decode cX12_init 14 = .ok (.sipush 198, 3) := by decide +kernel
theorem dX12_init_17 : decode cX12_init 17 = .ok (.newarray .int, 2) := by decide +kernel
theorem dX12_init_19 : decode cX12_init 19 = .ok (.putfield 13, 3) := by decide +kernel
theorem dX12_init_22 : decode cX12_init 22 = .ok (.aload_n 0, 1) := by decide +kernel
theorem dX12_init_23 : decode cX12_init 23 = .ok (.iconst 2, 1) := by decide +kernel
theorem dX12_init_24 : decode cX12_init 24 = .ok (.newarray .int, 2) := by decide +kernel
theorem dX12_init_26 : decode cX12_init 26 = .ok (.putfield 16, 3) := by decide +kernel
theorem dX12_init_29 : decode cX12_init 29 = .ok (.aload_n 0, 1) := by decide +kernel
theorem dX12_init_30 : decode cX12_init 30 = .ok (.sipush 150, 3) := by decide +kernel
theorem dX12_init_33 : decode cX12_init 33 = .ok (.newarray .byte, 2) := by decide +kernel
theorem dX12_init_35 : decode cX12_init 35 = .ok (.putfield 19, 3) := by decide +kernel
theorem dX12_init_38 : decode cX12_init 38 = .ok (.aload_n 0, 1) := by decide +kernel
theorem dX12_init_39 : decode cX12_init 39 = .ok (.lconst 1, 1) := by decide +kernel
theorem dX12_init_40 : decode cX12_init 40 = .ok (.putfield 23, 3) := by decide +kernel
theorem dX12_init_43 : decode cX12_init 43 = .ok (.aload_n 0, 1) := by decide +kernel
theorem dX12_init_44 : decode cX12_init 44 = .ok (.iconst 3, 1) := by decide +kernel
theorem dX12_init_45 : decode cX12_init 45 = .ok (.newarray .int, 2) := by decide +kernel
theorem dX12_init_47 : decode cX12_init 47 = .ok (.putfield 27, 3) := by decide +kernel
theorem dX12_init_50 : decode cX12_init 50 = .ok (.aload_n 0, 1) := by decide +kernel
theorem dX12_init_51 : decode cX12_init 51 = .ok (.bipush 120, 2) := by decide +kernel
theorem dX12_init_53 : decode cX12_init 53 = .ok (.newarray .int, 2) := by decide +kernel
theorem dX12_init_55 : decode cX12_init 55 = .ok (.putfield 30, 3) := by decide +kernel
theorem dX12_init_58 : decode cX12_init 58 = .ok (.aload_n 0, 1) := by decide +kernel
theorem dX12_init_59 : decode cX12_init 59 = .ok (.bipush 10, 2) := by decide +kernel
theorem dX12_init_61 : decode cX12_init 61 = .ok (.newarray .int, 2) := by decide +kernel
theorem dX12_init_63 : decode cX12_init 63 = .ok (.putfield 33, 3) := by decide +kernel
theorem dX12_init_66 : decode cX12_init 66 = .ok (.aload_n 0, 1) := by decide +kernel
theorem dX12_init_67 : decode cX12_init 67 = .ok (.bipush 16, 2) := by decide +kernel
theorem dX12_init_69 : decode cX12_init 69 = .ok (.newarray .int, 2) := by decide +kernel
theorem dX12_init_71 : decode cX12_init 71 = .ok (.putfield 36, 3) := by decide +kernel
theorem dX12_init_74 : decode cX12_init 74 = .ok (.aload_n 0, 1) := by decide +kernel
theorem dX12_init_75 : decode cX12_init 75 = .ok (.bipush 16, 2) := by decide +kernel
theorem dX12_init_77 : decode cX12_init 77 = .ok (.newarray .int, 2) := by decide +kernel
theorem dX12_init_79 : decode cX12_init 79 = .ok (.putfield 39, 3) := by decide +kernel
theorem dX12_init_82 : decode cX12_init 82 = .ok (.aload_n 0, 1) := by decide +kernel
theorem dX12_init_83 : decode cX12_init 83 = .ok (.iconst 2, 1) := by decide +kernel
theorem dX12_init_84 : decode cX12_init 84 = .ok (.iconst 0, 1) := by decide +kernel
theorem dX12_init_85 : decode cX12_init 85 = .ok (.iconst 1, 1) := by decide +kernel
theorem dX12_init_86 : decode cX12_init 86 = .ok (.invokevirtual 42, 3) := by decide +kernel
theorem dX12_init_89 : decode cX12_init 89 = .ok (.return_, 1) := by decide +kernel
theorem dX12_in_0 : decode cX12_in 0 = .ok (.lload_n 0, 1) := by decide +kernel
theorem dX12_in_1 : decode cX12_in 1 = .ok (.lload_n 2, 1) := by decide +kernel
theorem dX12_in_2 : decode cX12_in 2 = .ok (.lcmp, 1) := by decide +kernel
theorem dX12_in_3 : decode cX12_in 3 = .ok (.ifCond .lt 14, 3) := by decide +kernel
theorem dX12_in_6 : decode cX12_in 6 = .ok (.lload_n 0, 1) := by decide +kernel
theorem dX12_in_7 : decode cX12_in 7 = .ok (.lload 4, 2) := by decide +kernel
theorem dX12_in_9 : decode cX12_in 9 = .ok (.lcmp, 1) := by decide +kernel
theorem dX12_in_10 : decode cX12_in 10 = .ok (.ifCond .gt 7, 3) := by decide +kernel
theorem dX12_in_13 : decode cX12_in 13 = .ok (.iconst 1, 1) := by decide +kernel
theorem dX12_in_14 : decode cX12_in 14 = .ok (.goto 4, 3) := by decide +kernel
theorem dX12_in_17 : decode cX12_in 17 = .ok (.iconst 0, 1) := by decide +kernel
theorem dX12_in_18 : decode cX12_in 18 = .ok (.ireturn, 1) := by decide +kernel
theorem dX12_has_0 : decode cX12_has 0 = .ok (.iload_n 0, 1) := by decide +kernel
theorem dX12_has_1 : decode cX12_has 1 = .ok (.iload_n 1, 1) := by decide +kernel
theorem dX12_has_2 : decode cX12_has 2 = .ok (.ishr, 1) := by decide +kernel
theorem dX12_has_3 : decode cX12_has 3 = .ok (.iconst 1, 1) := by decide +kernel
theorem dX12_has_4 : decode cX12_has 4 = .ok (.iand, 1) := by decide +kernel
theorem dX12_has_5 : decode cX12_has 5 = .ok (.iconst 1, 1) := by decide +kernel
theorem dX12_has_6 : decode cX12_has 6 = .ok (.if_icmp .ne 7, 3) := by decide +kernel
theorem dX12_has_9 : decode cX12_has 9 = .ok (.iconst 1, 1) := by decide +kernel
theorem dX12_has_10 : decode cX12_has 10 = .ok (.goto 4, 3) := by decide +kernel
theorem dX12_has_13 : decode cX12_has 13 = .ok (.iconst 0, 1) := by decide +kernel
theorem dX12_has_14 : decode cX12_has 14 = .ok (.ireturn, 1) := by decide +kernel
theorem dX12_apart_0 : decode cX12_apart 0 = .ok (.iload_n 0, 1) := by decide +kernel
theorem dX12_apart_1 : decode cX12_apart 1 = .ok (.iload_n 1, 1) := by decide +kernel
theorem dX12_apart_2 : decode cX12_apart 2 = .ok (.if_icmp .ge 9, 3) := by decide +kernel
theorem dX12_apart_5 : decode cX12_apart 5 = .ok (.iload_n 1, 1) := by decide +kernel
theorem dX12_apart_6 : decode cX12_apart 6 = .ok (.iload_n 0, 1) := by decide +kernel
theorem dX12_apart_7 : decode cX12_apart 7 = .ok (.isub, 1) := by decide +kernel
theorem dX12_apart_8 : decode cX12_apart 8 = .ok (.goto 6, 3) := by decide +kernel
theorem dX12_apart_11 : decode cX12_apart 11 = .ok (.iload_n 0, 1) := by decide +kernel
theorem dX12_apart_12 : decode cX12_apart 12 = .ok (.iload_n 1, 1) := by decide +kernel
theorem dX12_apart_13 : decode cX12_apart 13 = .ok (.isub, 1) := by decide +kernel
theorem dX12_apart_14 : decode cX12_apart 14 = .ok (.ireturn, 1) := by decide +kernel
theorem dX12_bad_0 : decode cX12_bad 0 = .ok (.aload_n 0, 1) := by decide +kernel
theorem dX12_bad_1 : decode cX12_bad 1 = .ok (.getfield 27, 3) := by decide +kernel
theorem dX12_bad_4 : decode cX12_bad 4 = .ok (.iconst 0, 1) := by decide +kernel
theorem dX12_bad_5 : decode cX12_bad 5 = .ok (.dup2, 1) := by decide +kernel
theorem dX12_bad_6 : decode cX12_bad 6 = .ok (.iaload, 1) := by decide +kernel
theorem dX12_bad_7 : decode cX12_bad 7 = .ok (.iconst 1, 1) := by decide +kernel
theorem dX12_bad_8 : decode cX12_bad 8 = .ok (.iadd, 1) := by decide +kernel
theorem dX12_bad_9 : decode cX12_bad 9 = .ok (.iastore, 1) := by decide +kernel
theorem dX12_bad_10 : decode cX12_bad 10 = .ok (.bipush (-2), 2) := by decide +kernel
theorem dX12_bad_12 : decode cX12_bad 12 = .ok (.ireturn, 1) := by decide +kernel
theorem dX12_no_0 : decode cX12_no 0 = .ok (.aload_n 0, 1) := by decide +kernel
theorem dX12_no_1 : decode cX12_no 1 = .ok (.getfield 27, 3) := by decide +kernel
theorem dX12_no_4 : decode cX12_no 4 = .ok (.iconst 1, 1) := by decide +kernel
theorem dX12_no_5 : decode cX12_no 5 = .ok (.dup2, 1) := by decide +kernel
theorem dX12_no_6 : decode cX12_no 6 = .ok (.iaload, 1) := by decide +kernel
theorem dX12_no_7 : decode cX12_no 7 = .ok (.iconst 1, 1) := by decide +kernel
theorem dX12_no_8 : decode cX12_no 8 = .ok (.iadd, 1) := by decide +kernel
theorem dX12_no_9 : decode cX12_no 9 = .ok (.iastore, 1) := by decide +kernel
theorem dX12_no_10 : decode cX12_no 10 = .ok (.bipush (-3), 2) := by decide +kernel
theorem dX12_no_12 : decode cX12_no 12 = .ok (.ireturn, 1) := by decide +kernel
theorem dX12_full_0 : decode cX12_full 0 = .ok (.aload_n 0, 1) := by decide +kernel
theorem dX12_full_1 : decode cX12_full 1 = .ok (.getfield 27, 3) := by decide +kernel
theorem dX12_full_4 : decode cX12_full 4 = .ok (.iconst 2, 1) := by decide +kernel
theorem dX12_full_5 : decode cX12_full 5 = .ok (.dup2, 1) := by decide +kernel
theorem dX12_full_6 : decode cX12_full 6 = .ok (.iaload, 1) := by decide +kernel
theorem dX12_full_7 : decode cX12_full 7 = .ok (.iconst 1, 1) := by decide +kernel
theorem dX12_full_8 : decode cX12_full 8 = .ok (.iadd, 1) := by decide +kernel
theorem dX12_full_9 : decode cX12_full 9 = .ok (.iastore, 1) := by decide +kernel
theorem dX12_full_10 : decode cX12_full 10 = .ok (.bipush (-4), 2) := by decide +kernel
theorem dX12_full_12 : decode cX12_full 12 = .ok (.ireturn, 1) := by decide +kernel
theorem dX12_bad10_0 : decode cX12_bad10 0 = .ok (.aload_n 0, 1) := by decide +kernel
theorem dX12_bad10_1 : decode cX12_bad10 1 = .ok (.getfield 27, 3) := by decide +kernel
theorem dX12_bad10_4 : decode cX12_bad10 4 = .ok (.iconst 0, 1) := by decide +kernel
theorem dX12_bad10_5 : decode cX12_bad10 5 = .ok (.dup2, 1) := by decide +kernel
theorem dX12_bad10_6 : decode cX12_bad10 6 = .ok (.iaload, 1) := by decide +kernel
theorem dX12_bad10_7 : decode cX12_bad10 7 = .ok (.iconst 1, 1) := by decide +kernel
theorem dX12_bad10_8 : decode cX12_bad10 8 = .ok (.iadd, 1) := by decide +kernel
theorem dX12_bad10_9 : decode cX12_bad10 9 = .ok (.iastore, 1) := by decide +kernel
theorem dX12_bad10_10 : decode cX12_bad10 10 = .ok (.bipush (-10), 2) := by decide +kernel
theorem dX12_bad10_12 : decode cX12_bad10 12 = .ok (.ireturn, 1) := by decide +kernel
theorem dX12_begins_0 : decode cX12_begins 0 = .ok (.iconst 0, 1) := by decide +kernel
theorem dX12_begins_1 : decode cX12_begins 1 = .ok (.istore 4, 2) := by decide +kernel
theorem dX12_begins_3 : decode cX12_begins 3 = .ok (.iload 4, 2) := by decide +kernel
theorem dX12_begins_5 : decode cX12_begins 5 = .ok (.bipush 25, 2) := by decide +kernel
theorem dX12_begins_7 : decode cX12_begins 7 = .ok (.if_icmp .ge 17, 3) := by decide +kernel
theorem dX12_begins_10 : decode cX12_begins 10 = .ok (.aload_n 0, 1) := by decide +kernel
theorem dX12_begins_11 : decode cX12_begins 11 = .ok (.getfield 7, 3) := by decide +kernel
theorem dX12_begins_14 : decode cX12_begins 14 = .ok (.iload 4, 2) := by decide +kernel
theorem dX12_begins_16 : decode cX12_begins 16 = .ok (.iconst 0, 1) := by decide +kernel
theorem dX12_begins_17 : decode cX12_begins 17 = .ok (.iastore, 1) := by decide +kernel
theorem dX12_begins_18 : decode cX12_begins 18 = .ok (.iinc 4 1, 3) := by decide +kernel
theorem dX12_begins_21 : decode cX12_begins 21 = .ok (.goto (-18), 3) := by decide +kernel
theorem dX12_begins_24 : decode cX12_begins 24 = .ok (.iconst 0, 1) := by decide +kernel
theorem dX12_begins_25 : decode cX12_begins 25 = .ok (.istore 4, 2) := by decide +kernel
theorem dX12_begins_27 : decode cX12_begins 27 = .ok (.iload 4, 2) := by decide +kernel
theorem dX12_begins_29 : decode cX12_begins 29 = .ok (.bipush 66, 2) := by decide +kernel
theorem dX12_begins_31 : decode cX12_begins 31 = .ok (.if_icmp .ge 17, 3) := by decide +kernel
theorem dX12_begins_34 : decode cX12_begins 34 = .ok (.aload_n 0, 1) := by decide +kernel
theorem dX12_begins_35 : decode cX12_begins 35 = .ok (.getfield 13, 3) := by decide +kernel
theorem dX12_begins_38 : decode cX12_begins 38 = .ok (.iload 4, 2) := by decide +kernel
theorem dX12_begins_40 : decode cX12_begins 40 = .ok (.iconst 0, 1) := by decide +kernel
theorem dX12_begins_41 : decode cX12_begins 41 = .ok (.iastore, 1) := by decide +kernel
theorem dX12_begins_42 : decode cX12_begins 42 = .ok (.iinc 4 1, 3) := by decide +kernel
theorem dX12_begins_45 : decode cX12_begins 45 = .ok (.goto (-18), 3) := by decide +kernel
theorem dX12_begins_48 : decode cX12_begins 48 = .ok (.aload_n 0, 1) := by decide +kernel
theorem dX12_begins_49 : decode cX12_begins 49 = .ok (.getfield 13, 3) := by decide +kernel
theorem dX12_begins_52 : decode cX12_begins 52 = .ok (.iconst 0, 1) := by decide +kernel
theorem dX12_begins_53 : decode cX12_begins 53 = .ok (.iload_n 1, 1) := by decide +kernel
theorem dX12_begins_54 : decode cX12_begins 54 = .ok (.iastore, 1) := by decide +kernel
theorem dX12_begins_55 : decode cX12_begins 55 = .ok (.aload_n 0, 1) := by decide +kernel
theorem dX12_begins_56 : decode cX12_begins 56 = .ok (.getfield 13, 3) := by decide +kernel
theorem dX12_begins_59 : decode cX12_begins 59 = .ok (.iconst 1, 1) := by decide +kernel
theorem dX12_begins_60 : decode cX12_begins 60 = .ok (.iload_n 2, 1) := by decide +kernel
theorem dX12_begins_61 : decode cX12_begins 61 = .ok (.iastore, 1) := by decide +kernel
theorem dX12_begins_62 : decode cX12_begins 62 = .ok (.aload_n 0, 1) := by decide +kernel
theorem dX12_begins_63 : decode cX12_begins 63 = .ok (.getfield 7, 3) := by decide +kernel
theorem dX12_begins_66 : decode cX12_begins 66 = .ok (.iconst 2, 1) := by decide +kernel
theorem dX12_begins_67 : decode cX12_begins 67 = .ok (.iload_n 3, 1) := by decide +kernel
theorem dX12_begins_68 : decode cX12_begins 68 = .ok (.iastore, 1) := by decide +kernel
theorem dX12_begins_69 : decode cX12_begins 69 = .ok (.return_, 1) := by decide +kernel
theorem dX12_passes_0 : decode cX12_passes 0 = .ok (.iload_n 0, 1) := by decide +kernel
theorem dX12_passes_1 : decode cX12_passes 1 = .ok (.iconst 1, 1) := by decide +kernel
theorem dX12_passes_2 : decode cX12_passes 2 = .ok (.if_icmp .eq 8, 3) := by decide +kernel
theorem dX12_passes_5 : decode cX12_passes 5 = .ok (.iload_n 0, 1) := by decide +kernel
theorem dX12_passes_6 : decode cX12_passes 6 = .ok (.iconst 3, 1) := by decide +kernel
theorem dX12_passes_7 : decode cX12_passes 7 = .ok (.if_icmp .ne 9, 3) := by decide +kernel
theorem dX12_passes_10 : decode cX12_passes 10 = .ok (.iconst 2, 1) := by decide +kernel
theorem dX12_passes_11 : decode cX12_passes 11 = .ok (.iload_n 1, 1) := by decide +kernel
theorem dX12_passes_12 : decode cX12_passes 12 = .ok (.imul, 1) := by decide +kernel
theorem dX12_passes_13 : decode cX12_passes 13 = .ok (.goto 4, 3) := by decide +kernel
theorem dX12_passes_16 : decode cX12_passes 16 = .ok (.iload_n 1, 1) := by decide +kernel
theorem dX12_passes_17 : decode cX12_passes 17 = .ok (.istore_n 3, 1) := by decide +kernel
theorem dX12_passes_18 : decode cX12_passes 18 = .ok (.iload_n 3, 1) := by decide +kernel
theorem dX12_passes_19 : decode cX12_passes 19 = .ok (.iload_n 0, 1) := by decide +kernel
theorem dX12_passes_20 : decode cX12_passes 20 = .ok (.iconst 2, 1) := by decide +kernel
theorem dX12_passes_21 : decode cX12_passes 21 = .ok (.if_icmp .eq 8, 3) := by decide +kernel
theorem dX12_passes_24 : decode cX12_passes 24 = .ok (.iload_n 0, 1) := by decide +kernel
theorem dX12_passes_25 : decode cX12_passes 25 = .ok (.iconst 4, 1) := by decide +kernel
theorem dX12_passes_26 : decode cX12_passes 26 = .ok (.if_icmp .ne 14, 3) := by decide +kernel
theorem dX12_passes_29 : decode cX12_passes 29 = .ok (.iload_n 2, 1) := by decide +kernel
theorem dX12_passes_30 : decode cX12_passes 30 = .ok (.iconst 2, 1) := by decide +kernel
theorem dX12_passes_31 : decode cX12_passes 31 = .ok (.irem, 1) := by decide +kernel
theorem dX12_passes_32 : decode cX12_passes 32 = .ok (.iconst 1, 1) := by decide +kernel
theorem dX12_passes_33 : decode cX12_passes 33 = .ok (.if_icmp .ne 7, 3) := by decide +kernel
theorem dX12_passes_36 : decode cX12_passes 36 = .ok (.iconst 1, 1) := by decide +kernel
theorem dX12_passes_37 : decode cX12_passes 37 = .ok (.goto 4, 3) := by decide +kernel
theorem dX12_passes_40 : decode cX12_passes 40 = .ok (.iconst 0, 1) := by decide +kernel
theorem dX12_passes_41 : decode cX12_passes 41 = .ok (.iadd, 1) := by decide +kernel
theorem dX12_passes_42 : decode cX12_passes 42 = .ok (.istore_n 3, 1) := by decide +kernel
theorem dX12_passes_43 : decode cX12_passes 43 = .ok (.iload_n 3, 1) := by decide +kernel
theorem dX12_passes_44 : decode cX12_passes 44 = .ok (.iload_n 0, 1) := by decide +kernel
theorem dX12_passes_45 : decode cX12_passes 45 = .ok (.iconst 3, 1) := by decide +kernel
theorem dX12_passes_46 : decode cX12_passes 46 = .ok (.if_icmp .ne 13, 3) := by decide +kernel
theorem dX12_passes_49 : decode cX12_passes 49 = .ok (.iload_n 2, 1) := by decide +kernel
theorem dX12_passes_50 : decode cX12_passes 50 = .ok (.iconst 4, 1) := by decide +kernel
theorem dX12_passes_51 : decode cX12_passes 51 = .ok (.irem, 1) := by decide +kernel
theorem dX12_passes_52 : decode cX12_passes 52 = .ok (.ifCond .ne 7, 3) := by decide +kernel
theorem dX12_passes_55 : decode cX12_passes 55 = .ok (.iconst 1, 1) := by decide +kernel
theorem dX12_passes_56 : decode cX12_passes 56 = .ok (.goto 4, 3) := by decide +kernel
theorem dX12_passes_59 : decode cX12_passes 59 = .ok (.iconst 0, 1) := by decide +kernel
theorem dX12_passes_60 : decode cX12_passes 60 = .ok (.iadd, 1) := by decide +kernel
theorem dX12_passes_61 : decode cX12_passes 61 = .ok (.istore_n 3, 1) := by decide +kernel
theorem dX12_passes_62 : decode cX12_passes 62 = .ok (.iload_n 0, 1) := by decide +kernel
theorem dX12_passes_63 : decode cX12_passes 63 = .ok (.iconst 4, 1) := by decide +kernel
theorem dX12_passes_64 : decode cX12_passes 64 = .ok (.if_icmp .ne 14, 3) := by decide +kernel
theorem dX12_passes_67 : decode cX12_passes 67 = .ok (.iload_n 2, 1) := by decide +kernel
theorem dX12_passes_68 : decode cX12_passes 68 = .ok (.iconst 5, 1) := by decide +kernel
theorem dX12_passes_69 : decode cX12_passes 69 = .ok (.irem, 1) := by decide +kernel
theorem dX12_passes_70 : decode cX12_passes 70 = .ok (.iconst 4, 1) := by decide +kernel
theorem dX12_passes_71 : decode cX12_passes 71 = .ok (.if_icmp .ne 7, 3) := by decide +kernel
theorem dX12_passes_74 : decode cX12_passes 74 = .ok (.iconst 0, 1) := by decide +kernel
theorem dX12_passes_75 : decode cX12_passes 75 = .ok (.goto 4, 3) := by decide +kernel
theorem dX12_passes_78 : decode cX12_passes 78 = .ok (.iload_n 3, 1) := by decide +kernel
theorem dX12_passes_79 : decode cX12_passes 79 = .ok (.istore_n 3, 1) := by decide +kernel
theorem dX12_passes_80 : decode cX12_passes 80 = .ok (.iload_n 0, 1) := by decide +kernel
theorem dX12_passes_81 : decode cX12_passes 81 = .ok (.iconst 5, 1) := by decide +kernel
theorem dX12_passes_82 : decode cX12_passes 82 = .ok (.if_icmp .ne 12, 3) := by decide +kernel
theorem dX12_passes_85 : decode cX12_passes 85 = .ok (.iload_n 3, 1) := by decide +kernel
theorem dX12_passes_86 : decode cX12_passes 86 = .ok (.iconst 1, 1) := by decide +kernel
theorem dX12_passes_87 : decode cX12_passes 87 = .ok (.if_icmp .ge 7, 3) := by decide +kernel
theorem dX12_passes_90 : decode cX12_passes 90 = .ok (.iconst 1, 1) := by decide +kernel
theorem dX12_passes_91 : decode cX12_passes 91 = .ok (.goto 4, 3) := by decide +kernel
theorem dX12_passes_94 : decode cX12_passes 94 = .ok (.iload_n 3, 1) := by decide +kernel
theorem dX12_passes_95 : decode cX12_passes 95 = .ok (.ireturn, 1) := by decide +kernel
theorem dX12_looks_0 : decode cX12_looks 0 = .ok (.iload_n 1, 1) := by decide +kernel
theorem dX12_looks_1 : decode cX12_looks 1 = .ok (.istore_n 3, 1) := by decide +kernel
theorem dX12_looks_2 : decode cX12_looks 2 = .ok (.iload_n 0, 1) := by decide +kernel
theorem dX12_looks_3 : decode cX12_looks 3 = .ok (.iconst 1, 1) := by decide +kernel
theorem dX12_looks_4 : decode cX12_looks 4 = .ok (.if_icmp .eq 8, 3) := by decide +kernel
theorem dX12_looks_7 : decode cX12_looks 7 = .ok (.iload_n 0, 1) := by decide +kernel
theorem dX12_looks_8 : decode cX12_looks 8 = .ok (.iconst 3, 1) := by decide +kernel
theorem dX12_looks_9 : decode cX12_looks 9 = .ok (.if_icmp .ne 25, 3) := by decide +kernel
theorem dX12_looks_12 : decode cX12_looks 12 = .ok (.iload_n 0, 1) := by decide +kernel
theorem dX12_looks_13 : decode cX12_looks 13 = .ok (.iconst 3, 1) := by decide +kernel
theorem dX12_looks_14 : decode cX12_looks 14 = .ok (.if_icmp .ne 11, 3) := by decide +kernel
theorem dX12_looks_17 : decode cX12_looks 17 = .ok (.iload_n 1, 1) := by decide +kernel
theorem dX12_looks_18 : decode cX12_looks 18 = .ok (.ifCond .ne 7, 3) := by decide +kernel
theorem dX12_looks_21 : decode cX12_looks 21 = .ok (.iload_n 2, 1) := by decide +kernel
theorem dX12_looks_22 : decode cX12_looks 22 = .ok (.goto 8, 3) := by decide +kernel
theorem dX12_looks_25 : decode cX12_looks 25 = .ok (.iload_n 1, 1) := by decide +kernel
theorem dX12_looks_26 : decode cX12_looks 26 = .ok (.iload_n 2, 1) := by decide +kernel
theorem dX12_looks_27 : decode cX12_looks 27 = .ok (.iadd, 1) := by decide +kernel
theorem dX12_looks_28 : decode cX12_looks 28 = .ok (.iconst 2, 1) := by decide +kernel
theorem dX12_looks_29 : decode cX12_looks 29 = .ok (.idiv, 1) := by decide +kernel
theorem dX12_looks_30 : decode cX12_looks 30 = .ok (.istore_n 3, 1) := by decide +kernel
theorem dX12_looks_31 : decode cX12_looks 31 = .ok (.goto 71, 3) := by decide +kernel
theorem dX12_looks_34 : decode cX12_looks 34 = .ok (.iload_n 0, 1) := by decide +kernel
theorem dX12_looks_35 : decode cX12_looks 35 = .ok (.iconst 2, 1) := by decide +kernel
theorem dX12_looks_36 : decode cX12_looks 36 = .ok (.if_icmp .eq 8, 3) := by decide +kernel
theorem dX12_looks_39 : decode cX12_looks 39 = .ok (.iload_n 0, 1) := by decide +kernel
theorem dX12_looks_40 : decode cX12_looks 40 = .ok (.iconst 4, 1) := by decide +kernel
theorem dX12_looks_41 : decode cX12_looks 41 = .ok (.if_icmp .ne 45, 3) := by decide +kernel
theorem dX12_looks_44 : decode cX12_looks 44 = .ok (.iload_n 1, 1) := by decide +kernel
theorem dX12_looks_45 : decode cX12_looks 45 = .ok (.iload_n 2, 1) := by decide +kernel
theorem dX12_looks_46 : decode cX12_looks 46 = .ok (.invokestatic 46, 3) := by decide +kernel
theorem dX12_looks_49 : decode cX12_looks 49 = .ok (.iconst 1, 1) := by decide +kernel
theorem dX12_looks_50 : decode cX12_looks 50 = .ok (.if_icmp .ne 7, 3) := by decide +kernel
theorem dX12_looks_53 : decode cX12_looks 53 = .ok (.iload_n 2, 1) := by decide +kernel
theorem dX12_looks_54 : decode cX12_looks 54 = .ok (.goto 4, 3) := by decide +kernel
theorem dX12_looks_57 : decode cX12_looks 57 = .ok (.iload_n 1, 1) := by decide +kernel
theorem dX12_looks_58 : decode cX12_looks 58 = .ok (.istore_n 3, 1) := by decide +kernel
theorem dX12_looks_59 : decode cX12_looks 59 = .ok (.iload_n 3, 1) := by decide +kernel
theorem dX12_looks_60 : decode cX12_looks 60 = .ok (.iload_n 0, 1) := by decide +kernel
theorem dX12_looks_61 : decode cX12_looks 61 = .ok (.iconst 4, 1) := by decide +kernel
theorem dX12_looks_62 : decode cX12_looks 62 = .ok (.if_icmp .ne 18, 3) := by decide +kernel
theorem dX12_looks_65 : decode cX12_looks 65 = .ok (.iload_n 3, 1) := by decide +kernel
theorem dX12_looks_66 : decode cX12_looks 66 = .ok (.iload_n 2, 1) := by decide +kernel
theorem dX12_looks_67 : decode cX12_looks 67 = .ok (.if_icmp .le 13, 3) := by decide +kernel
theorem dX12_looks_70 : decode cX12_looks 70 = .ok (.iload_n 3, 1) := by decide +kernel
theorem dX12_looks_71 : decode cX12_looks 71 = .ok (.bipush 9, 2) := by decide +kernel
theorem dX12_looks_73 : decode cX12_looks 73 = .ok (.if_icmp .ge 7, 3) := by decide +kernel
theorem dX12_looks_76 : decode cX12_looks 76 = .ok (.iconst 1, 1) := by decide +kernel
theorem dX12_looks_77 : decode cX12_looks 77 = .ok (.goto 4, 3) := by decide +kernel
theorem dX12_looks_80 : decode cX12_looks 80 = .ok (.iconst 0, 1) := by decide +kernel
theorem dX12_looks_81 : decode cX12_looks 81 = .ok (.iadd, 1) := by decide +kernel
theorem dX12_looks_82 : decode cX12_looks 82 = .ok (.istore_n 3, 1) := by decide +kernel
theorem dX12_looks_83 : decode cX12_looks 83 = .ok (.goto 19, 3) := by decide +kernel
theorem dX12_looks_86 : decode cX12_looks 86 = .ok (.iload_n 0, 1) := by decide +kernel
theorem dX12_looks_87 : decode cX12_looks 87 = .ok (.iconst 5, 1) := by decide +kernel
theorem dX12_looks_88 : decode cX12_looks 88 = .ok (.if_icmp .ne 14, 3) := by decide +kernel
theorem dX12_looks_91 : decode cX12_looks 91 = .ok (.iload_n 1, 1) := by decide +kernel
theorem dX12_looks_92 : decode cX12_looks 92 = .ok (.iload_n 2, 1) := by decide +kernel
theorem dX12_looks_93 : decode cX12_looks 93 = .ok (.if_icmp .ne 7, 3) := by decide +kernel
theorem dX12_looks_96 : decode cX12_looks 96 = .ok (.iconst 0, 1) := by decide +kernel
theorem dX12_looks_97 : decode cX12_looks 97 = .ok (.goto 4, 3) := by decide +kernel
theorem dX12_looks_100 : decode cX12_looks 100 = .ok (.iload_n 1, 1) := by decide +kernel
theorem dX12_looks_101 : decode cX12_looks 101 = .ok (.istore_n 3, 1) := by decide +kernel
theorem dX12_looks_102 : decode cX12_looks 102 = .ok (.iload_n 3, 1) := by decide +kernel
theorem dX12_looks_103 : decode cX12_looks 103 = .ok (.ireturn, 1) := by decide +kernel
theorem dX12_drum_0 : decode cX12_drum 0 = .ok (.iload_n 1, 1) := by decide +kernel
theorem dX12_drum_1 : decode cX12_drum 1 = .ok (.i2l, 1) := by decide +kernel
theorem dX12_drum_2 : decode cX12_drum 2 = .ok (.ldc2_w 50, 3) := by decide +kernel
theorem dX12_drum_5 : decode cX12_drum 5 = .ok (.ldc2_w 52, 3) := by decide +kernel
theorem dX12_drum_8 : decode cX12_drum 8 = .ok (.invokestatic 54, 3) := by decide +kernel
theorem dX12_drum_11 : decode cX12_drum 11 = .ok (.ifCond .eq 27, 3) := by decide +kernel
theorem dX12_drum_14 : decode cX12_drum 14 = .ok (.iload_n 2, 1) := by decide +kernel
theorem dX12_drum_15 : decode cX12_drum 15 = .ok (.i2l, 1) := by decide +kernel
theorem dX12_drum_16 : decode cX12_drum 16 = .ok (.lconst 0, 1) := by decide +kernel
theorem dX12_drum_17 : decode cX12_drum 17 = .ok (.ldc2_w 58, 3) := by decide +kernel
theorem dX12_drum_20 : decode cX12_drum 20 = .ok (.invokestatic 54, 3) := by decide +kernel
theorem dX12_drum_23 : decode cX12_drum 23 = .ok (.ifCond .eq 15, 3) := by decide +kernel
theorem dX12_drum_26 : decode cX12_drum 26 = .ok (.iload_n 3, 1) := by decide +kernel
theorem dX12_drum_27 : decode cX12_drum 27 = .ok (.i2l, 1) := by decide +kernel
theorem dX12_drum_28 : decode cX12_drum 28 = .ok (.lconst 0, 1) := by decide +kernel
theorem dX12_drum_29 : decode cX12_drum 29 = .ok (.ldc2_w 60, 3) := by decide +kernel
theorem dX12_drum_32 : decode cX12_drum 32 = .ok (.invokestatic 54, 3) := by decide +kernel
theorem dX12_drum_35 : decode cX12_drum 35 = .ok (.ifCond .ne 8, 3) := by decide +kernel
theorem dX12_drum_38 : decode cX12_drum 38 = .ok (.aload_n 0, 1) := by decide +kernel
theorem dX12_drum_39 : decode cX12_drum 39 = .ok (.invokevirtual 62, 3) := by decide +kernel
theorem dX12_drum_42 : decode cX12_drum 42 = .ok (.ireturn, 1) := by decide +kernel
theorem dX12_drum_43 : decode cX12_drum 43 = .ok (.aload_n 0, 1) := by decide +kernel
theorem dX12_drum_44 : decode cX12_drum 44 = .ok (.getfield 13, 3) := by decide +kernel
theorem dX12_drum_47 : decode cX12_drum 47 = .ok (.iconst 2, 1) := by decide +kernel
theorem dX12_drum_48 : decode cX12_drum 48 = .ok (.iaload, 1) := by decide +kernel
theorem dX12_drum_49 : decode cX12_drum 49 = .ok (.istore 4, 2) := by decide +kernel
theorem dX12_drum_51 : decode cX12_drum 51 = .ok (.aload_n 0, 1) := by decide +kernel
theorem dX12_drum_52 : decode cX12_drum 52 = .ok (.iload_n 1, 1) := by decide +kernel
theorem dX12_drum_53 : decode cX12_drum 53 = .ok (.iload_n 2, 1) := by decide +kernel
theorem dX12_drum_54 : decode cX12_drum 54 = .ok (.iload_n 3, 1) := by decide +kernel
theorem dX12_drum_55 : decode cX12_drum 55 = .ok (.invokevirtual 42, 3) := by decide +kernel
theorem dX12_drum_58 : decode cX12_drum 58 = .ok (.iload 4, 2) := by decide +kernel
theorem dX12_drum_60 : decode cX12_drum 60 = .ok (.ireturn, 1) := by decide +kernel
theorem dX12_lamp_0 : decode cX12_lamp 0 = .ok (.iload_n 1, 1) := by decide +kernel
theorem dX12_lamp_1 : decode cX12_lamp 1 = .ok (.i2l, 1) := by decide +kernel
theorem dX12_lamp_2 : decode cX12_lamp 2 = .ok (.lconst 0, 1) := by decide +kernel
theorem dX12_lamp_3 : decode cX12_lamp 3 = .ok (.ldc2_w 58, 3) := by decide +kernel
theorem dX12_lamp_6 : decode cX12_lamp 6 = .ok (.invokestatic 54, 3) := by decide +kernel
theorem dX12_lamp_9 : decode cX12_lamp 9 = .ok (.ifCond .ne 8, 3) := by decide +kernel
theorem dX12_lamp_12 : decode cX12_lamp 12 = .ok (.aload_n 0, 1) := by decide +kernel
theorem dX12_lamp_13 : decode cX12_lamp 13 = .ok (.invokevirtual 62, 3) := by decide +kernel
theorem dX12_lamp_16 : decode cX12_lamp 16 = .ok (.ireturn, 1) := by decide +kernel
theorem dX12_lamp_17 : decode cX12_lamp 17 = .ok (.aload_n 0, 1) := by decide +kernel
theorem dX12_lamp_18 : decode cX12_lamp 18 = .ok (.getfield 13, 3) := by decide +kernel
theorem dX12_lamp_21 : decode cX12_lamp 21 = .ok (.iconst 1, 1) := by decide +kernel
theorem dX12_lamp_22 : decode cX12_lamp 22 = .ok (.iaload, 1) := by decide +kernel
theorem dX12_lamp_23 : decode cX12_lamp 23 = .ok (.istore_n 2, 1) := by decide +kernel
theorem dX12_lamp_24 : decode cX12_lamp 24 = .ok (.aload_n 0, 1) := by decide +kernel
theorem dX12_lamp_25 : decode cX12_lamp 25 = .ok (.getfield 13, 3) := by decide +kernel
theorem dX12_lamp_28 : decode cX12_lamp 28 = .ok (.iconst 1, 1) := by decide +kernel
theorem dX12_lamp_29 : decode cX12_lamp 29 = .ok (.iload_n 1, 1) := by decide +kernel
theorem dX12_lamp_30 : decode cX12_lamp 30 = .ok (.iastore, 1) := by decide +kernel
theorem dX12_lamp_31 : decode cX12_lamp 31 = .ok (.aload_n 0, 1) := by decide +kernel
theorem dX12_lamp_32 : decode cX12_lamp 32 = .ok (.getfield 13, 3) := by decide +kernel
theorem dX12_lamp_35 : decode cX12_lamp 35 = .ok (.bipush 65, 2) := by decide +kernel
theorem dX12_lamp_37 : decode cX12_lamp 37 = .ok (.iconst 0, 1) := by decide +kernel
theorem dX12_lamp_38 : decode cX12_lamp 38 = .ok (.iastore, 1) := by decide +kernel
theorem dX12_lamp_39 : decode cX12_lamp 39 = .ok (.iload_n 2, 1) := by decide +kernel
theorem dX12_lamp_40 : decode cX12_lamp 40 = .ok (.ireturn, 1) := by decide +kernel
theorem dX12_comes_0 : decode cX12_comes 0 = .ok (.aload_n 0, 1) := by decide +kernel
theorem dX12_comes_1 : decode cX12_comes 1 = .ok (.getfield 13, 3) := by decide +kernel
theorem dX12_comes_4 : decode cX12_comes 4 = .ok (.iconst 2, 1) := by decide +kernel
theorem dX12_comes_5 : decode cX12_comes 5 = .ok (.iaload, 1) := by decide +kernel
theorem dX12_comes_6 : decode cX12_comes 6 = .ok (.istore_n 2, 1) := by decide +kernel
theorem dX12_comes_7 : decode cX12_comes 7 = .ok (.aload_n 0, 1) := by decide +kernel
theorem dX12_comes_8 : decode cX12_comes 8 = .ok (.getfield 13, 3) := by decide +kernel
theorem dX12_comes_11 : decode cX12_comes 11 = .ok (.iconst 3, 1) := by decide +kernel
theorem dX12_comes_12 : decode cX12_comes 12 = .ok (.iload_n 2, 1) := by decide +kernel
theorem dX12_comes_13 : decode cX12_comes 13 = .ok (.iadd, 1) := by decide +kernel
theorem dX12_comes_14 : decode cX12_comes 14 = .ok (.iload_n 1, 1) := by decide +kernel
theorem dX12_comes_15 : decode cX12_comes 15 = .ok (.iastore, 1) := by decide +kernel
theorem dX12_comes_16 : decode cX12_comes 16 = .ok (.aload_n 0, 1) := by decide +kernel
theorem dX12_comes_17 : decode cX12_comes 17 = .ok (.getfield 7, 3) := by decide +kernel
theorem dX12_comes_20 : decode cX12_comes 20 = .ok (.bipush 15, 2) := by decide +kernel
theorem dX12_comes_22 : decode cX12_comes 22 = .ok (.iload_n 2, 1) := by decide +kernel
theorem dX12_comes_23 : decode cX12_comes 23 = .ok (.iadd, 1) := by decide +kernel
theorem dX12_comes_24 : decode cX12_comes 24 = .ok (.iconst 0, 1) := by decide +kernel
theorem dX12_comes_25 : decode cX12_comes 25 = .ok (.iastore, 1) := by decide +kernel
theorem dX12_comes_26 : decode cX12_comes 26 = .ok (.aload_n 0, 1) := by decide +kernel
theorem dX12_comes_27 : decode cX12_comes 27 = .ok (.getfield 7, 3) := by decide +kernel
theorem dX12_comes_30 : decode cX12_comes 30 = .ok (.bipush 20, 2) := by decide +kernel
theorem dX12_comes_32 : decode cX12_comes 32 = .ok (.iload_n 2, 1) := by decide +kernel
theorem dX12_comes_33 : decode cX12_comes 33 = .ok (.iadd, 1) := by decide +kernel
theorem dX12_comes_34 : decode cX12_comes 34 = .ok (.iconst 0, 1) := by decide +kernel
theorem dX12_comes_35 : decode cX12_comes 35 = .ok (.iastore, 1) := by decide +kernel
theorem dX12_comes_36 : decode cX12_comes 36 = .ok (.aload_n 0, 1) := by decide +kernel
theorem dX12_comes_37 : decode cX12_comes 37 = .ok (.getfield 13, 3) := by decide +kernel
theorem dX12_comes_40 : decode cX12_comes 40 = .ok (.iconst 2, 1) := by decide +kernel
theorem dX12_comes_41 : decode cX12_comes 41 = .ok (.dup2, 1) := by decide +kernel
theorem dX12_comes_42 : decode cX12_comes 42 = .ok (.iaload, 1) := by decide +kernel
theorem dX12_comes_43 : decode cX12_comes 43 = .ok (.iconst 1, 1) := by decide +kernel
theorem dX12_comes_44 : decode cX12_comes 44 = .ok (.iadd, 1) := by decide +kernel
theorem dX12_comes_45 : decode cX12_comes 45 = .ok (.iastore, 1) := by decide +kernel
theorem dX12_comes_46 : decode cX12_comes 46 = .ok (.aload_n 0, 1) := by decide +kernel
theorem dX12_comes_47 : decode cX12_comes 47 = .ok (.getfield 13, 3) := by decide +kernel
theorem dX12_comes_50 : decode cX12_comes 50 = .ok (.bipush 65, 2) := by decide +kernel
theorem dX12_comes_52 : decode cX12_comes 52 = .ok (.iconst 0, 1) := by decide +kernel
theorem dX12_comes_53 : decode cX12_comes 53 = .ok (.iastore, 1) := by decide +kernel
theorem dX12_comes_54 : decode cX12_comes 54 = .ok (.iload_n 2, 1) := by decide +kernel
theorem dX12_comes_55 : decode cX12_comes 55 = .ok (.ireturn, 1) := by decide +kernel
theorem dX12_eye_0 : decode cX12_eye 0 = .ok (.iload_n 1, 1) := by decide +kernel
theorem dX12_eye_1 : decode cX12_eye 1 = .ok (.i2l, 1) := by decide +kernel
theorem dX12_eye_2 : decode cX12_eye 2 = .ok (.lconst 0, 1) := by decide +kernel
theorem dX12_eye_3 : decode cX12_eye 3 = .ok (.ldc2_w 58, 3) := by decide +kernel
theorem dX12_eye_6 : decode cX12_eye 6 = .ok (.invokestatic 54, 3) := by decide +kernel
theorem dX12_eye_9 : decode cX12_eye 9 = .ok (.ifCond .ne 8, 3) := by decide +kernel
theorem dX12_eye_12 : decode cX12_eye 12 = .ok (.aload_n 0, 1) := by decide +kernel
theorem dX12_eye_13 : decode cX12_eye 13 = .ok (.invokevirtual 62, 3) := by decide +kernel
theorem dX12_eye_16 : decode cX12_eye 16 = .ok (.ireturn, 1) := by decide +kernel
theorem dX12_eye_17 : decode cX12_eye 17 = .ok (.aload_n 0, 1) := by decide +kernel
theorem dX12_eye_18 : decode cX12_eye 18 = .ok (.getfield 13, 3) := by decide +kernel
theorem dX12_eye_21 : decode cX12_eye 21 = .ok (.iconst 2, 1) := by decide +kernel
theorem dX12_eye_22 : decode cX12_eye 22 = .ok (.iaload, 1) := by decide +kernel
theorem dX12_eye_23 : decode cX12_eye 23 = .ok (.iconst 5, 1) := by decide +kernel
theorem dX12_eye_24 : decode cX12_eye 24 = .ok (.if_icmp .ne 10, 3) := by decide +kernel
theorem dX12_eye_27 : decode cX12_eye 27 = .ok (.aload_n 0, 1) := by decide +kernel
theorem dX12_eye_28 : decode cX12_eye 28 = .ok (.invokevirtual 66, 3) := by decide +kernel
theorem dX12_eye_31 : decode cX12_eye 31 = .ok (.goto 8, 3) := by decide +kernel
theorem dX12_eye_34 : decode cX12_eye 34 = .ok (.aload_n 0, 1) := by decide +kernel
theorem dX12_eye_35 : decode cX12_eye 35 = .ok (.iload_n 1, 1) := by decide +kernel
theorem dX12_eye_36 : decode cX12_eye 36 = .ok (.invokevirtual 69, 3) := by decide +kernel
theorem dX12_eye_39 : decode cX12_eye 39 = .ok (.ireturn, 1) := by decide +kernel
theorem dX12_type_0 : decode cX12_type 0 = .ok (.iload_n 1, 1) := by decide +kernel
theorem dX12_type_1 : decode cX12_type 1 = .ok (.i2l, 1) := by decide +kernel
theorem dX12_type_2 : decode cX12_type 2 = .ok (.lconst 0, 1) := by decide +kernel
theorem dX12_type_3 : decode cX12_type 3 = .ok (.ldc2_w 73, 3) := by decide +kernel
theorem dX12_type_6 : decode cX12_type 6 = .ok (.invokestatic 54, 3) := by decide +kernel
theorem dX12_type_9 : decode cX12_type 9 = .ok (.ifCond .ne 8, 3) := by decide +kernel
theorem dX12_type_12 : decode cX12_type 12 = .ok (.aload_n 0, 1) := by decide +kernel
theorem dX12_type_13 : decode cX12_type 13 = .ok (.invokevirtual 62, 3) := by decide +kernel
theorem dX12_type_16 : decode cX12_type 16 = .ok (.ireturn, 1) := by decide +kernel
theorem dX12_type_17 : decode cX12_type 17 = .ok (.aload_n 0, 1) := by decide +kernel
theorem dX12_type_18 : decode cX12_type 18 = .ok (.getfield 75, 3) := by decide +kernel
theorem dX12_type_21 : decode cX12_type 21 = .ok (.sipush 150, 3) := by decide +kernel
theorem dX12_type_24 : decode cX12_type 24 = .ok (.if_icmp .ne 8, 3) := by decide +kernel
theorem dX12_type_27 : decode cX12_type 27 = .ok (.aload_n 0, 1) := by decide +kernel
theorem dX12_type_28 : decode cX12_type 28 = .ok (.invokevirtual 66, 3) := by decide +kernel
theorem dX12_type_31 : decode cX12_type 31 = .ok (.ireturn, 1) := by decide +kernel
theorem dX12_type_32 : decode cX12_type 32 = .ok (.aload_n 0, 1) := by decide +kernel
theorem dX12_type_33 : decode cX12_type 33 = .ok (.getfield 19, 3) := by decide +kernel
theorem dX12_type_36 : decode cX12_type 36 = .ok (.aload_n 0, 1) := by decide +kernel
theorem dX12_type_37 : decode cX12_type 37 = .ok (.getfield 75, 3) := by decide +kernel
theorem dX12_type_40 : decode cX12_type 40 = .ok (.iload_n 1, 1) := by decide +kernel
theorem dX12_type_41 : decode cX12_type 41 = .ok (.i2b, 1) := by decide +kernel
theorem dX12_type_42 : decode cX12_type 42 = .ok (.bastore, 1) := by decide +kernel
theorem dX12_type_43 : decode cX12_type 43 = .ok (.aload_n 0, 1) := by decide +kernel
theorem dX12_type_44 : decode cX12_type 44 = .ok (.dup, 1) := by decide +kernel
theorem dX12_type_45 : decode cX12_type 45 = .ok (.getfield 75, 3) := by decide +kernel
theorem dX12_type_48 : decode cX12_type 48 = .ok (.iconst 1, 1) := by decide +kernel
theorem dX12_type_49 : decode cX12_type 49 = .ok (.iadd, 1) := by decide +kernel
theorem dX12_type_50 : decode cX12_type 50 = .ok (.putfield 75, 3) := by decide +kernel
theorem dX12_type_53 : decode cX12_type 53 = .ok (.aload_n 0, 1) := by decide +kernel
theorem dX12_type_54 : decode cX12_type 54 = .ok (.getfield 75, 3) := by decide +kernel
theorem dX12_type_57 : decode cX12_type 57 = .ok (.ireturn, 1) := by decide +kernel
theorem dX12_clear_0 : decode cX12_clear 0 = .ok (.aload_n 0, 1) := by decide +kernel
theorem dX12_clear_1 : decode cX12_clear 1 = .ok (.getfield 75, 3) := by decide +kernel
theorem dX12_clear_4 : decode cX12_clear 4 = .ok (.istore_n 1, 1) := by decide +kernel
theorem dX12_clear_5 : decode cX12_clear 5 = .ok (.aload_n 0, 1) := by decide +kernel
theorem dX12_clear_6 : decode cX12_clear 6 = .ok (.iconst 0, 1) := by decide +kernel
theorem dX12_clear_7 : decode cX12_clear 7 = .ok (.putfield 75, 3) := by decide +kernel
theorem dX12_clear_10 : decode cX12_clear 10 = .ok (.iload_n 1, 1) := by decide +kernel
theorem dX12_clear_11 : decode cX12_clear 11 = .ok (.ireturn, 1) := by decide +kernel
theorem dX12_byteAt_0 : decode cX12_byteAt 0 = .ok (.iload_n 1, 1) := by decide +kernel
theorem dX12_byteAt_1 : decode cX12_byteAt 1 = .ok (.aload_n 0, 1) := by decide +kernel
theorem dX12_byteAt_2 : decode cX12_byteAt 2 = .ok (.getfield 75, 3) := by decide +kernel
theorem dX12_byteAt_5 : decode cX12_byteAt 5 = .ok (.if_icmp .ge 12, 3) := by decide +kernel
theorem dX12_byteAt_8 : decode cX12_byteAt 8 = .ok (.aload_n 0, 1) := by decide +kernel
theorem dX12_byteAt_9 : decode cX12_byteAt 9 = .ok (.getfield 19, 3) := by decide +kernel
theorem dX12_byteAt_12 : decode cX12_byteAt 12 = .ok (.iload_n 1, 1) := by decide +kernel
theorem dX12_byteAt_13 : decode cX12_byteAt 13 = .ok (.baload, 1) := by decide +kernel
theorem dX12_byteAt_14 : decode cX12_byteAt 14 = .ok (.goto 4, 3) := by decide +kernel
theorem dX12_byteAt_17 : decode cX12_byteAt 17 = .ok (.iconst (-1), 1) := by decide +kernel
theorem dX12_byteAt_18 : decode cX12_byteAt 18 = .ok (.ireturn, 1) := by decide +kernel
theorem dX12_token_0 : decode cX12_token 0 = .ok (.aload_n 0, 1) := by decide +kernel
theorem dX12_token_1 : decode cX12_token 1 = .ok (.aload_n 0, 1) := by decide +kernel
theorem dX12_token_2 : decode cX12_token 2 = .ok (.getfield 79, 3) := by decide +kernel
theorem dX12_token_5 : decode cX12_token 5 = .ok (.invokevirtual 82, 3) := by decide +kernel
theorem dX12_token_8 : decode cX12_token 8 = .ok (.bipush 32, 2) := by decide +kernel
theorem dX12_token_10 : decode cX12_token 10 = .ok (.if_icmp .ne 16, 3) := by decide +kernel
theorem dX12_token_13 : decode cX12_token 13 = .ok (.aload_n 0, 1) := by decide +kernel
theorem dX12_token_14 : decode cX12_token 14 = .ok (.dup, 1) := by decide +kernel
theorem dX12_token_15 : decode cX12_token 15 = .ok (.getfield 79, 3) := by decide +kernel
theorem dX12_token_18 : decode cX12_token 18 = .ok (.iconst 1, 1) := by decide +kernel
theorem dX12_token_19 : decode cX12_token 19 = .ok (.iadd, 1) := by decide +kernel
theorem dX12_token_20 : decode cX12_token 20 = .ok (.putfield 79, 3) := by decide +kernel
theorem dX12_token_23 : decode cX12_token 23 = .ok (.goto (-23), 3) := by decide +kernel
theorem dX12_token_26 : decode cX12_token 26 = .ok (.aload_n 0, 1) := by decide +kernel
theorem dX12_token_27 : decode cX12_token 27 = .ok (.aload_n 0, 1) := by decide +kernel
theorem dX12_token_28 : decode cX12_token 28 = .ok (.getfield 79, 3) := by decide +kernel
theorem dX12_token_31 : decode cX12_token 31 = .ok (.putfield 85, 3) := by decide +kernel
theorem dX12_token_34 : decode cX12_token 34 = .ok (.aload_n 0, 1) := by decide +kernel
theorem dX12_token_35 : decode cX12_token 35 = .ok (.aload_n 0, 1) := by decide +kernel
theorem dX12_token_36 : decode cX12_token 36 = .ok (.getfield 79, 3) := by decide +kernel
theorem dX12_token_39 : decode cX12_token 39 = .ok (.invokevirtual 82, 3) := by decide +kernel
theorem dX12_token_42 : decode cX12_token 42 = .ok (.istore_n 1, 1) := by decide +kernel
theorem dX12_token_43 : decode cX12_token 43 = .ok (.iload_n 1, 1) := by decide +kernel
theorem dX12_token_44 : decode cX12_token 44 = .ok (.ifCond .ge 5, 3) := by decide +kernel
theorem dX12_token_47 : decode cX12_token 47 = .ok (.iconst 4, 1) := by decide +kernel
theorem dX12_token_48 : decode cX12_token 48 = .ok (.ireturn, 1) := by decide +kernel
theorem dX12_token_49 : decode cX12_token 49 = .ok (.iload_n 1, 1) := by decide +kernel
theorem dX12_token_50 : decode cX12_token 50 = .ok (.i2l, 1) := by decide +kernel
theorem dX12_token_51 : decode cX12_token 51 = .ok (.ldc2_w 88, 3) := by decide +kernel
theorem dX12_token_54 : decode cX12_token 54 = .ok (.ldc2_w 90, 3) := by decide +kernel
theorem dX12_token_57 : decode cX12_token 57 = .ok (.invokestatic 54, 3) := by decide +kernel
theorem dX12_token_60 : decode cX12_token 60 = .ok (.ifCond .eq 39, 3) := by decide +kernel
theorem dX12_token_63 : decode cX12_token 63 = .ok (.aload_n 0, 1) := by decide +kernel
theorem dX12_token_64 : decode cX12_token 64 = .ok (.aload_n 0, 1) := by decide +kernel
theorem dX12_token_65 : decode cX12_token 65 = .ok (.getfield 79, 3) := by decide +kernel
theorem dX12_token_68 : decode cX12_token 68 = .ok (.invokevirtual 82, 3) := by decide +kernel
theorem dX12_token_71 : decode cX12_token 71 = .ok (.i2l, 1) := by decide +kernel
theorem dX12_token_72 : decode cX12_token 72 = .ok (.ldc2_w 88, 3) := by decide +kernel
theorem dX12_token_75 : decode cX12_token 75 = .ok (.ldc2_w 90, 3) := by decide +kernel
theorem dX12_token_78 : decode cX12_token 78 = .ok (.invokestatic 54, 3) := by decide +kernel
theorem dX12_token_81 : decode cX12_token 81 = .ok (.ifCond .eq 16, 3) := by decide +kernel
theorem dX12_token_84 : decode cX12_token 84 = .ok (.aload_n 0, 1) := by decide +kernel
theorem dX12_token_85 : decode cX12_token 85 = .ok (.dup, 1) := by decide +kernel
theorem dX12_token_86 : decode cX12_token 86 = .ok (.getfield 79, 3) := by decide +kernel
theorem dX12_token_89 : decode cX12_token 89 = .ok (.iconst 1, 1) := by decide +kernel
theorem dX12_token_90 : decode cX12_token 90 = .ok (.iadd, 1) := by decide +kernel
theorem dX12_token_91 : decode cX12_token 91 = .ok (.putfield 79, 3) := by decide +kernel
theorem dX12_token_94 : decode cX12_token 94 = .ok (.goto (-31), 3) := by decide +kernel
theorem dX12_token_97 : decode cX12_token 97 = .ok (.iconst 0, 1) := by decide +kernel
theorem dX12_token_98 : decode cX12_token 98 = .ok (.ireturn, 1) := by decide +kernel
theorem dX12_token_99 : decode cX12_token 99 = .ok (.iload_n 1, 1) := by decide +kernel
theorem dX12_token_100 : decode cX12_token 100 = .ok (.i2l, 1) := by decide +kernel
theorem dX12_token_101 : decode cX12_token 101 = .ok (.ldc2_w 92, 3) := by decide +kernel
theorem dX12_token_104 : decode cX12_token 104 = .ok (.ldc2_w 94, 3) := by decide +kernel
theorem dX12_token_107 : decode cX12_token 107 = .ok (.invokestatic 54, 3) := by decide +kernel
theorem dX12_token_110 : decode cX12_token 110 = .ok (.ifCond .eq 83, 3) := by decide +kernel
theorem dX12_token_113 : decode cX12_token 113 = .ok (.aload_n 0, 1) := by decide +kernel
theorem dX12_token_114 : decode cX12_token 114 = .ok (.iconst 0, 1) := by decide +kernel
theorem dX12_token_115 : decode cX12_token 115 = .ok (.putfield 96, 3) := by decide +kernel
theorem dX12_token_118 : decode cX12_token 118 = .ok (.iconst 0, 1) := by decide +kernel
theorem dX12_token_119 : decode cX12_token 119 = .ok (.istore_n 2, 1) := by decide +kernel
theorem dX12_token_120 : decode cX12_token 120 = .ok (.aload_n 0, 1) := by decide +kernel
theorem dX12_token_121 : decode cX12_token 121 = .ok (.aload_n 0, 1) := by decide +kernel
theorem dX12_token_122 : decode cX12_token 122 = .ok (.getfield 79, 3) := by decide +kernel
theorem dX12_token_125 : decode cX12_token 125 = .ok (.invokevirtual 82, 3) := by decide +kernel
theorem dX12_token_128 : decode cX12_token 128 = .ok (.i2l, 1) := by decide +kernel
theorem dX12_token_129 : decode cX12_token 129 = .ok (.ldc2_w 92, 3) := by decide +kernel
theorem dX12_token_132 : decode cX12_token 132 = .ok (.ldc2_w 94, 3) := by decide +kernel
theorem dX12_token_135 : decode cX12_token 135 = .ok (.invokestatic 54, 3) := by decide +kernel
theorem dX12_token_138 : decode cX12_token 138 = .ok (.ifCond .eq 53, 3) := by decide +kernel
theorem dX12_token_141 : decode cX12_token 141 = .ok (.aload_n 0, 1) := by decide +kernel
theorem dX12_token_142 : decode cX12_token 142 = .ok (.iload_n 2, 1) := by decide +kernel
theorem dX12_token_143 : decode cX12_token 143 = .ok (.iconst 2, 1) := by decide +kernel
theorem dX12_token_144 : decode cX12_token 144 = .ok (.if_icmp .ge 25, 3) := by decide +kernel
theorem dX12_token_147 : decode cX12_token 147 = .ok (.bipush 10, 2) := by decide +kernel
theorem dX12_token_149 : decode cX12_token 149 = .ok (.aload_n 0, 1) := by decide +kernel
theorem dX12_token_150 : decode cX12_token 150 = .ok (.getfield 96, 3) := by decide +kernel
theorem dX12_token_153 : decode cX12_token 153 = .ok (.imul, 1) := by decide +kernel
theorem dX12_token_154 : decode cX12_token 154 = .ok (.aload_n 0, 1) := by decide +kernel
theorem dX12_token_155 : decode cX12_token 155 = .ok (.aload_n 0, 1) := by decide +kernel
theorem dX12_token_156 : decode cX12_token 156 = .ok (.getfield 79, 3) := by decide +kernel
theorem dX12_token_159 : decode cX12_token 159 = .ok (.invokevirtual 82, 3) := by decide +kernel
theorem dX12_token_162 : decode cX12_token 162 = .ok (.iadd, 1) := by decide +kernel
theorem dX12_token_163 : decode cX12_token 163 = .ok (.bipush 48, 2) := by decide +kernel
theorem dX12_token_165 : decode cX12_token 165 = .ok (.isub, 1) := by decide +kernel
theorem dX12_token_166 : decode cX12_token 166 = .ok (.goto 6, 3) := by decide +kernel
theorem dX12_token_169 : decode cX12_token 169 = .ok (.sipush 1000, 3) := by decide +kernel
theorem dX12_token_172 : decode cX12_token 172 = .ok (.putfield 96, 3) := by decide +kernel
theorem dX12_token_175 : decode cX12_token 175 = .ok (.iinc 2 1, 3) := by decide +kernel
theorem dX12_token_178 : decode cX12_token 178 = .ok (.aload_n 0, 1) := by decide +kernel
theorem dX12_token_179 : decode cX12_token 179 = .ok (.dup, 1) := by decide +kernel
theorem dX12_token_180 : decode cX12_token 180 = .ok (.getfield 79, 3) := by decide +kernel
theorem dX12_token_183 : decode cX12_token 183 = .ok (.iconst 1, 1) := by decide +kernel
theorem dX12_token_184 : decode cX12_token 184 = .ok (.iadd, 1) := by decide +kernel
theorem dX12_token_185 : decode cX12_token 185 = .ok (.putfield 79, 3) := by decide +kernel
theorem dX12_token_188 : decode cX12_token 188 = .ok (.goto (-68), 3) := by decide +kernel
theorem dX12_token_191 : decode cX12_token 191 = .ok (.iconst 1, 1) := by decide +kernel
theorem dX12_token_192 : decode cX12_token 192 = .ok (.ireturn, 1) := by decide +kernel
theorem dX12_token_193 : decode cX12_token 193 = .ok (.aload_n 0, 1) := by decide +kernel
theorem dX12_token_194 : decode cX12_token 194 = .ok (.dup, 1) := by decide +kernel
theorem dX12_token_195 : decode cX12_token 195 = .ok (.getfield 79, 3) := by decide +kernel
theorem dX12_token_198 : decode cX12_token 198 = .ok (.iconst 1, 1) := by decide +kernel
theorem dX12_token_199 : decode cX12_token 199 = .ok (.iadd, 1) := by decide +kernel
theorem dX12_token_200 : decode cX12_token 200 = .ok (.putfield 79, 3) := by decide +kernel
theorem dX12_token_203 : decode cX12_token 203 = .ok (.iload_n 1, 1) := by decide +kernel
theorem dX12_token_204 : decode cX12_token 204 = .ok (.bipush 59, 2) := by decide +kernel
theorem dX12_token_206 : decode cX12_token 206 = .ok (.if_icmp .ne 7, 3) := by decide +kernel
theorem dX12_token_209 : decode cX12_token 209 = .ok (.iconst 2, 1) := by decide +kernel
theorem dX12_token_210 : decode cX12_token 210 = .ok (.goto 4, 3) := by decide +kernel
theorem dX12_token_213 : decode cX12_token 213 = .ok (.iconst 3, 1) := by decide +kernel
theorem dX12_token_214 : decode cX12_token 214 = .ok (.ireturn, 1) := by decide +kernel
theorem dX12_word_0 : decode cX12_word 0 = .ok (.lconst 0, 1) := by decide +kernel
theorem dX12_word_1 : decode cX12_word 1 = .ok (.lstore_n 1, 1) := by decide +kernel
theorem dX12_word_2 : decode cX12_word 2 = .ok (.aload_n 0, 1) := by decide +kernel
theorem dX12_word_3 : decode cX12_word 3 = .ok (.getfield 85, 3) := by decide +kernel
theorem dX12_word_6 : decode cX12_word 6 = .ok (.istore_n 3, 1) := by decide +kernel
theorem dX12_word_7 : decode cX12_word 7 = .ok (.iload_n 3, 1) := by decide +kernel
theorem dX12_word_8 : decode cX12_word 8 = .ok (.aload_n 0, 1) := by decide +kernel
theorem dX12_word_9 : decode cX12_word 9 = .ok (.getfield 79, 3) := by decide +kernel
theorem dX12_word_12 : decode cX12_word 12 = .ok (.if_icmp .ge 38, 3) := by decide +kernel
theorem dX12_word_15 : decode cX12_word 15 = .ok (.lload_n 1, 1) := by decide +kernel
theorem dX12_word_16 : decode cX12_word 16 = .ok (.ldc2_w 99, 3) := by decide +kernel
theorem dX12_word_19 : decode cX12_word 19 = .ok (.lcmp, 1) := by decide +kernel
theorem dX12_word_20 : decode cX12_word 20 = .ok (.ifCond .le 7, 3) := by decide +kernel
theorem dX12_word_23 : decode cX12_word 23 = .ok (.lload_n 1, 1) := by decide +kernel
theorem dX12_word_24 : decode cX12_word 24 = .ok (.goto 19, 3) := by decide +kernel
theorem dX12_word_27 : decode cX12_word 27 = .ok (.ldc2_w 101, 3) := by decide +kernel
theorem dX12_word_30 : decode cX12_word 30 = .ok (.lload_n 1, 1) := by decide +kernel
theorem dX12_word_31 : decode cX12_word 31 = .ok (.lmul, 1) := by decide +kernel
theorem dX12_word_32 : decode cX12_word 32 = .ok (.aload_n 0, 1) := by decide +kernel
theorem dX12_word_33 : decode cX12_word 33 = .ok (.iload_n 3, 1) := by decide +kernel
theorem dX12_word_34 : decode cX12_word 34 = .ok (.invokevirtual 82, 3) := by decide +kernel
theorem dX12_word_37 : decode cX12_word 37 = .ok (.i2l, 1) := by decide +kernel
theorem dX12_word_38 : decode cX12_word 38 = .ok (.ladd, 1) := by decide +kernel
theorem dX12_word_39 : decode cX12_word 39 = .ok (.ldc2_w 103, 3) := by decide +kernel
theorem dX12_word_42 : decode cX12_word 42 = .ok (.lsub, 1) := by decide +kernel
theorem dX12_word_43 : decode cX12_word 43 = .ok (.lstore_n 1, 1) := by decide +kernel
theorem dX12_word_44 : decode cX12_word 44 = .ok (.iinc 3 1, 3) := by decide +kernel
theorem dX12_word_47 : decode cX12_word 47 = .ok (.goto (-40), 3) := by decide +kernel
theorem dX12_word_50 : decode cX12_word 50 = .ok (.lload_n 1, 1) := by decide +kernel
theorem dX12_word_51 : decode cX12_word 51 = .ok (.lreturn, 1) := by decide +kernel
theorem dX12_wants_0 : decode cX12_wants 0 = .ok (.aload_n 0, 1) := by decide +kernel
theorem dX12_wants_1 : decode cX12_wants 1 = .ok (.getfield 105, 3) := by decide +kernel
theorem dX12_wants_4 : decode cX12_wants 4 = .ok (.ifCond .ne 30, 3) := by decide +kernel
theorem dX12_wants_7 : decode cX12_wants 7 = .ok (.aload_n 0, 1) := by decide +kernel
theorem dX12_wants_8 : decode cX12_wants 8 = .ok (.invokevirtual 109, 3) := by decide +kernel
theorem dX12_wants_11 : decode cX12_wants 11 = .ok (.iconst 1, 1) := by decide +kernel
theorem dX12_wants_12 : decode cX12_wants 12 = .ok (.if_icmp .ne 22, 3) := by decide +kernel
theorem dX12_wants_15 : decode cX12_wants 15 = .ok (.aload_n 0, 1) := by decide +kernel
theorem dX12_wants_16 : decode cX12_wants 16 = .ok (.getfield 96, 3) := by decide +kernel
theorem dX12_wants_19 : decode cX12_wants 19 = .ok (.i2l, 1) := by decide +kernel
theorem dX12_wants_20 : decode cX12_wants 20 = .ok (.iload_n 1, 1) := by decide +kernel
theorem dX12_wants_21 : decode cX12_wants 21 = .ok (.i2l, 1) := by decide +kernel
theorem dX12_wants_22 : decode cX12_wants 22 = .ok (.iload_n 2, 1) := by decide +kernel
theorem dX12_wants_23 : decode cX12_wants 23 = .ok (.i2l, 1) := by decide +kernel
theorem dX12_wants_24 : decode cX12_wants 24 = .ok (.invokestatic 54, 3) := by decide +kernel
theorem dX12_wants_27 : decode cX12_wants 27 = .ok (.ifCond .eq 7, 3) := by decide +kernel
theorem dX12_wants_30 : decode cX12_wants 30 = .ok (.iconst 1, 1) := by decide +kernel
theorem dX12_wants_31 : decode cX12_wants 31 = .ok (.goto 4, 3) := by decide +kernel
theorem dX12_wants_34 : decode cX12_wants 34 = .ok (.iconst 0, 1) := by decide +kernel
theorem dX12_wants_35 : decode cX12_wants 35 = .ok (.istore_n 3, 1) := by decide +kernel
theorem dX12_wants_36 : decode cX12_wants 36 = .ok (.aload_n 0, 1) := by decide +kernel
theorem dX12_wants_37 : decode cX12_wants 37 = .ok (.aload_n 0, 1) := by decide +kernel
theorem dX12_wants_38 : decode cX12_wants 38 = .ok (.getfield 105, 3) := by decide +kernel
theorem dX12_wants_41 : decode cX12_wants 41 = .ok (.ifCond .ne 7, 3) := by decide +kernel
theorem dX12_wants_44 : decode cX12_wants 44 = .ok (.iload_n 3, 1) := by decide +kernel
theorem dX12_wants_45 : decode cX12_wants 45 = .ok (.ifCond .ne 7, 3) := by decide +kernel
theorem dX12_wants_48 : decode cX12_wants 48 = .ok (.iconst 1, 1) := by decide +kernel
theorem dX12_wants_49 : decode cX12_wants 49 = .ok (.goto 4, 3) := by decide +kernel
theorem dX12_wants_52 : decode cX12_wants 52 = .ok (.iconst 0, 1) := by decide +kernel
theorem dX12_wants_53 : decode cX12_wants 53 = .ok (.putfield 105, 3) := by decide +kernel
theorem dX12_wants_56 : decode cX12_wants 56 = .ok (.iload_n 3, 1) := by decide +kernel
theorem dX12_wants_57 : decode cX12_wants 57 = .ok (.ifCond .eq 10, 3) := by decide +kernel
theorem dX12_wants_60 : decode cX12_wants 60 = .ok (.aload_n 0, 1) := by decide +kernel
theorem dX12_wants_61 : decode cX12_wants 61 = .ok (.getfield 96, 3) := by decide +kernel
theorem dX12_wants_64 : decode cX12_wants 64 = .ok (.goto 4, 3) := by decide +kernel
theorem dX12_wants_67 : decode cX12_wants 67 = .ok (.iconst 0, 1) := by decide +kernel
theorem dX12_wants_68 : decode cX12_wants 68 = .ok (.ireturn, 1) := by decide +kernel
theorem dX12_drumItem_0 : decode cX12_drumItem 0 = .ok (.aload_n 0, 1) := by decide +kernel
theorem dX12_drumItem_1 : decode cX12_drumItem 1 = .ok (.iconst 2, 1) := by decide +kernel
theorem dX12_drumItem_2 : decode cX12_drumItem 2 = .ok (.bipush 12, 2) := by decide +kernel
theorem dX12_drumItem_4 : decode cX12_drumItem 4 = .ok (.invokevirtual 112, 3) := by decide +kernel
theorem dX12_drumItem_7 : decode cX12_drumItem 7 = .ok (.istore_n 1, 1) := by decide +kernel
theorem dX12_drumItem_8 : decode cX12_drumItem 8 = .ok (.aload_n 0, 1) := by decide +kernel
theorem dX12_drumItem_9 : decode cX12_drumItem 9 = .ok (.iconst 0, 1) := by decide +kernel
theorem dX12_drumItem_10 : decode cX12_drumItem 10 = .ok (.iconst 5, 1) := by decide +kernel
theorem dX12_drumItem_11 : decode cX12_drumItem 11 = .ok (.invokevirtual 112, 3) := by decide +kernel
theorem dX12_drumItem_14 : decode cX12_drumItem 14 = .ok (.istore_n 2, 1) := by decide +kernel
theorem dX12_drumItem_15 : decode cX12_drumItem 15 = .ok (.aload_n 0, 1) := by decide +kernel
theorem dX12_drumItem_16 : decode cX12_drumItem 16 = .ok (.iconst 0, 1) := by decide +kernel
theorem dX12_drumItem_17 : decode cX12_drumItem 17 = .ok (.bipush 11, 2) := by decide +kernel
theorem dX12_drumItem_19 : decode cX12_drumItem 19 = .ok (.invokevirtual 112, 3) := by decide +kernel
theorem dX12_drumItem_22 : decode cX12_drumItem 22 = .ok (.istore_n 3, 1) := by decide +kernel
theorem dX12_drumItem_23 : decode cX12_drumItem 23 = .ok (.aload_n 0, 1) := by decide +kernel
theorem dX12_drumItem_24 : decode cX12_drumItem 24 = .ok (.iload_n 1, 1) := by decide +kernel
theorem dX12_drumItem_25 : decode cX12_drumItem 25 = .ok (.putfield 115, 3) := by decide +kernel
theorem dX12_drumItem_28 : decode cX12_drumItem 28 = .ok (.aload_n 0, 1) := by decide +kernel
theorem dX12_drumItem_29 : decode cX12_drumItem 29 = .ok (.getfield 118, 3) := by decide +kernel
theorem dX12_drumItem_32 : decode cX12_drumItem 32 = .ok (.ifCond .eq 17, 3) := by decide +kernel
theorem dX12_drumItem_35 : decode cX12_drumItem 35 = .ok (.aload_n 0, 1) := by decide +kernel
theorem dX12_drumItem_36 : decode cX12_drumItem 36 = .ok (.getfield 105, 3) := by decide +kernel
theorem dX12_drumItem_39 : decode cX12_drumItem 39 = .ok (.ifCond .ne 10, 3) := by decide +kernel
theorem dX12_drumItem_42 : decode cX12_drumItem 42 = .ok (.aload_n 0, 1) := by decide +kernel
theorem dX12_drumItem_43 : decode cX12_drumItem 43 = .ok (.iload_n 1, 1) := by decide +kernel
theorem dX12_drumItem_44 : decode cX12_drumItem 44 = .ok (.iload_n 2, 1) := by decide +kernel
theorem dX12_drumItem_45 : decode cX12_drumItem 45 = .ok (.iload_n 3, 1) := by decide +kernel
theorem dX12_drumItem_46 : decode cX12_drumItem 46 = .ok (.invokevirtual 42, 3) := by decide +kernel
theorem dX12_drumItem_49 : decode cX12_drumItem 49 = .ok (.return_, 1) := by decide +kernel
theorem dX12_drawItem_0 : decode cX12_drawItem 0 = .ok (.iconst 0, 1) := by decide +kernel
theorem dX12_drawItem_1 : decode cX12_drawItem 1 = .ok (.istore_n 1, 1) := by decide +kernel
theorem dX12_drawItem_2 : decode cX12_drawItem 2 = .ok (.aload_n 0, 1) := by decide +kernel
theorem dX12_drawItem_3 : decode cX12_drawItem 3 = .ok (.invokevirtual 109, 3) := by decide +kernel
theorem dX12_drawItem_6 : decode cX12_drawItem 6 = .ok (.istore_n 2, 1) := by decide +kernel
theorem dX12_drawItem_7 : decode cX12_drawItem 7 = .ok (.aload_n 0, 1) := by decide +kernel
theorem dX12_drawItem_8 : decode cX12_drawItem 8 = .ok (.getfield 105, 3) := by decide +kernel
theorem dX12_drawItem_11 : decode cX12_drawItem 11 = .ok (.ifCond .ne 88, 3) := by decide +kernel
theorem dX12_drawItem_14 : decode cX12_drawItem 14 = .ok (.iload_n 2, 1) := by decide +kernel
theorem dX12_drawItem_15 : decode cX12_drawItem 15 = .ok (.iconst 1, 1) := by decide +kernel
theorem dX12_drawItem_16 : decode cX12_drawItem 16 = .ok (.if_icmp .ne 83, 3) := by decide +kernel
theorem dX12_drawItem_19 : decode cX12_drawItem 19 = .ok (.aload_n 0, 1) := by decide +kernel
theorem dX12_drawItem_20 : decode cX12_drawItem 20 = .ok (.iload_n 1, 1) := by decide +kernel
theorem dX12_drawItem_21 : decode cX12_drawItem 21 = .ok (.aload_n 0, 1) := by decide +kernel
theorem dX12_drawItem_22 : decode cX12_drawItem 22 = .ok (.getfield 115, 3) := by decide +kernel
theorem dX12_drawItem_25 : decode cX12_drawItem 25 = .ok (.if_icmp .eq 18, 3) := by decide +kernel
theorem dX12_drawItem_28 : decode cX12_drawItem 28 = .ok (.aload_n 0, 1) := by decide +kernel
theorem dX12_drawItem_29 : decode cX12_drawItem 29 = .ok (.getfield 96, 3) := by decide +kernel
theorem dX12_drawItem_32 : decode cX12_drawItem 32 = .ok (.i2l, 1) := by decide +kernel
theorem dX12_drawItem_33 : decode cX12_drawItem 33 = .ok (.lconst 0, 1) := by decide +kernel
theorem dX12_drawItem_34 : decode cX12_drawItem 34 = .ok (.ldc2_w 121, 3) := by decide +kernel
theorem dX12_drawItem_37 : decode cX12_drawItem 37 = .ok (.invokestatic 54, 3) := by decide +kernel
theorem dX12_drawItem_40 : decode cX12_drawItem 40 = .ok (.ifCond .ne 7, 3) := by decide +kernel
theorem dX12_drawItem_43 : decode cX12_drawItem 43 = .ok (.iconst 1, 1) := by decide +kernel
theorem dX12_drawItem_44 : decode cX12_drawItem 44 = .ok (.goto 4, 3) := by decide +kernel
theorem dX12_drawItem_47 : decode cX12_drawItem 47 = .ok (.iconst 0, 1) := by decide +kernel
theorem dX12_drawItem_48 : decode cX12_drawItem 48 = .ok (.putfield 105, 3) := by decide +kernel
theorem dX12_drawItem_51 : decode cX12_drawItem 51 = .ok (.aload_n 0, 1) := by decide +kernel
theorem dX12_drawItem_52 : decode cX12_drawItem 52 = .ok (.getfield 118, 3) := by decide +kernel
theorem dX12_drawItem_55 : decode cX12_drawItem 55 = .ok (.ifCond .eq 22, 3) := by decide +kernel
theorem dX12_drawItem_58 : decode cX12_drawItem 58 = .ok (.aload_n 0, 1) := by decide +kernel
theorem dX12_drawItem_59 : decode cX12_drawItem 59 = .ok (.getfield 105, 3) := by decide +kernel
theorem dX12_drawItem_62 : decode cX12_drawItem 62 = .ok (.ifCond .ne 15, 3) := by decide +kernel
theorem dX12_drawItem_65 : decode cX12_drawItem 65 = .ok (.aload_n 0, 1) := by decide +kernel
theorem dX12_drawItem_66 : decode cX12_drawItem 66 = .ok (.getfield 7, 3) := by decide +kernel
theorem dX12_drawItem_69 : decode cX12_drawItem 69 = .ok (.iconst 3, 1) := by decide +kernel
theorem dX12_drawItem_70 : decode cX12_drawItem 70 = .ok (.iload_n 1, 1) := by decide +kernel
theorem dX12_drawItem_71 : decode cX12_drawItem 71 = .ok (.iadd, 1) := by decide +kernel
theorem dX12_drawItem_72 : decode cX12_drawItem 72 = .ok (.aload_n 0, 1) := by decide +kernel
theorem dX12_drawItem_73 : decode cX12_drawItem 73 = .ok (.getfield 96, 3) := by decide +kernel
theorem dX12_drawItem_76 : decode cX12_drawItem 76 = .ok (.iastore, 1) := by decide +kernel
theorem dX12_drawItem_77 : decode cX12_drawItem 77 = .ok (.iinc 1 1, 3) := by decide +kernel
theorem dX12_drawItem_80 : decode cX12_drawItem 80 = .ok (.aload_n 0, 1) := by decide +kernel
theorem dX12_drawItem_81 : decode cX12_drawItem 81 = .ok (.getfield 105, 3) := by decide +kernel
theorem dX12_drawItem_84 : decode cX12_drawItem 84 = .ok (.ifCond .eq 7, 3) := by decide +kernel
theorem dX12_drawItem_87 : decode cX12_drawItem 87 = .ok (.iload_n 2, 1) := by decide +kernel
theorem dX12_drawItem_88 : decode cX12_drawItem 88 = .ok (.goto 7, 3) := by decide +kernel
theorem dX12_drawItem_91 : decode cX12_drawItem 91 = .ok (.aload_n 0, 1) := by decide +kernel
theorem dX12_drawItem_92 : decode cX12_drawItem 92 = .ok (.invokevirtual 109, 3) := by decide +kernel
theorem dX12_drawItem_95 : decode cX12_drawItem 95 = .ok (.istore_n 2, 1) := by decide +kernel
theorem dX12_drawItem_96 : decode cX12_drawItem 96 = .ok (.goto (-89), 3) := by decide +kernel
theorem dX12_drawItem_99 : decode cX12_drawItem 99 = .ok (.aload_n 0, 1) := by decide +kernel
theorem dX12_drawItem_100 : decode cX12_drawItem 100 = .ok (.aload_n 0, 1) := by decide +kernel
theorem dX12_drawItem_101 : decode cX12_drawItem 101 = .ok (.getfield 105, 3) := by decide +kernel
theorem dX12_drawItem_104 : decode cX12_drawItem 104 = .ok (.ifCond .ne 12, 3) := by decide +kernel
theorem dX12_drawItem_107 : decode cX12_drawItem 107 = .ok (.iload_n 1, 1) := by decide +kernel
theorem dX12_drawItem_108 : decode cX12_drawItem 108 = .ok (.ifCond .eq 8, 3) := by decide +kernel
theorem dX12_drawItem_111 : decode cX12_drawItem 111 = .ok (.iload_n 2, 1) := by decide +kernel
theorem dX12_drawItem_112 : decode cX12_drawItem 112 = .ok (.iconst 2, 1) := by decide +kernel
theorem dX12_drawItem_113 : decode cX12_drawItem 113 = .ok (.if_icmp .eq 7, 3) := by decide +kernel
theorem dX12_drawItem_116 : decode cX12_drawItem 116 = .ok (.iconst 1, 1) := by decide +kernel
theorem dX12_drawItem_117 : decode cX12_drawItem 117 = .ok (.goto 4, 3) := by decide +kernel
theorem dX12_drawItem_120 : decode cX12_drawItem 120 = .ok (.iconst 0, 1) := by decide +kernel
theorem dX12_drawItem_121 : decode cX12_drawItem 121 = .ok (.putfield 105, 3) := by decide +kernel
theorem dX12_drawItem_124 : decode cX12_drawItem 124 = .ok (.return_, 1) := by decide +kernel
theorem dX12_act_0 : decode cX12_act 0 = .ok (.lload_n 1, 1) := by decide +kernel
theorem dX12_act_1 : decode cX12_act 1 = .ok (.ldc2_w 123, 3) := by decide +kernel
theorem dX12_act_4 : decode cX12_act 4 = .ok (.lcmp, 1) := by decide +kernel
theorem dX12_act_5 : decode cX12_act 5 = .ok (.ifCond .ne 43, 3) := by decide +kernel
theorem dX12_act_8 : decode cX12_act 8 = .ok (.aload_n 0, 1) := by decide +kernel
theorem dX12_act_9 : decode cX12_act 9 = .ok (.dup, 1) := by decide +kernel
theorem dX12_act_10 : decode cX12_act 10 = .ok (.getfield 125, 3) := by decide +kernel
theorem dX12_act_13 : decode cX12_act 13 = .ok (.iconst 1, 1) := by decide +kernel
theorem dX12_act_14 : decode cX12_act 14 = .ok (.iadd, 1) := by decide +kernel
theorem dX12_act_15 : decode cX12_act 15 = .ok (.putfield 125, 3) := by decide +kernel
theorem dX12_act_18 : decode cX12_act 18 = .ok (.aload_n 0, 1) := by decide +kernel
theorem dX12_act_19 : decode cX12_act 19 = .ok (.iconst 0, 1) := by decide +kernel
theorem dX12_act_20 : decode cX12_act 20 = .ok (.iconst 5, 1) := by decide +kernel
theorem dX12_act_21 : decode cX12_act 21 = .ok (.invokevirtual 112, 3) := by decide +kernel
theorem dX12_act_24 : decode cX12_act 24 = .ok (.istore_n 3, 1) := by decide +kernel
theorem dX12_act_25 : decode cX12_act 25 = .ok (.aload_n 0, 1) := by decide +kernel
theorem dX12_act_26 : decode cX12_act 26 = .ok (.getfield 118, 3) := by decide +kernel
theorem dX12_act_29 : decode cX12_act 29 = .ok (.ifCond .eq 16, 3) := by decide +kernel
theorem dX12_act_32 : decode cX12_act 32 = .ok (.aload_n 0, 1) := by decide +kernel
theorem dX12_act_33 : decode cX12_act 33 = .ok (.getfield 105, 3) := by decide +kernel
theorem dX12_act_36 : decode cX12_act 36 = .ok (.ifCond .ne 9, 3) := by decide +kernel
theorem dX12_act_39 : decode cX12_act 39 = .ok (.aload_n 0, 1) := by decide +kernel
theorem dX12_act_40 : decode cX12_act 40 = .ok (.iload_n 3, 1) := by decide +kernel
theorem dX12_act_41 : decode cX12_act 41 = .ok (.invokevirtual 69, 3) := by decide +kernel
theorem dX12_act_44 : decode cX12_act 44 = .ok (.pop, 1) := by decide +kernel
theorem dX12_act_45 : decode cX12_act 45 = .ok (.goto 117, 3) := by decide +kernel
theorem dX12_act_48 : decode cX12_act 48 = .ok (.lload_n 1, 1) := by decide +kernel
theorem dX12_act_49 : decode cX12_act 49 = .ok (.ldc2_w 128, 3) := by decide +kernel
theorem dX12_act_52 : decode cX12_act 52 = .ok (.lcmp, 1) := by decide +kernel
theorem dX12_act_53 : decode cX12_act 53 = .ok (.ifCond .ne 44, 3) := by decide +kernel
theorem dX12_act_56 : decode cX12_act 56 = .ok (.aload_n 0, 1) := by decide +kernel
theorem dX12_act_57 : decode cX12_act 57 = .ok (.iconst 0, 1) := by decide +kernel
theorem dX12_act_58 : decode cX12_act 58 = .ok (.bipush 11, 2) := by decide +kernel
theorem dX12_act_60 : decode cX12_act 60 = .ok (.invokevirtual 112, 3) := by decide +kernel
theorem dX12_act_63 : decode cX12_act 63 = .ok (.istore_n 3, 1) := by decide +kernel
theorem dX12_act_64 : decode cX12_act 64 = .ok (.aload_n 0, 1) := by decide +kernel
theorem dX12_act_65 : decode cX12_act 65 = .ok (.getfield 7, 3) := by decide +kernel
theorem dX12_act_68 : decode cX12_act 68 = .ok (.iconst 2, 1) := by decide +kernel
theorem dX12_act_69 : decode cX12_act 69 = .ok (.aload_n 0, 1) := by decide +kernel
theorem dX12_act_70 : decode cX12_act 70 = .ok (.getfield 118, 3) := by decide +kernel
theorem dX12_act_73 : decode cX12_act 73 = .ok (.ifCond .eq 14, 3) := by decide +kernel
theorem dX12_act_76 : decode cX12_act 76 = .ok (.aload_n 0, 1) := by decide +kernel
theorem dX12_act_77 : decode cX12_act 77 = .ok (.getfield 105, 3) := by decide +kernel
theorem dX12_act_80 : decode cX12_act 80 = .ok (.ifCond .ne 7, 3) := by decide +kernel
theorem dX12_act_83 : decode cX12_act 83 = .ok (.iload_n 3, 1) := by decide +kernel
theorem dX12_act_84 : decode cX12_act 84 = .ok (.goto 9, 3) := by decide +kernel
theorem dX12_act_87 : decode cX12_act 87 = .ok (.aload_n 0, 1) := by decide +kernel
theorem dX12_act_88 : decode cX12_act 88 = .ok (.getfield 7, 3) := by decide +kernel
theorem dX12_act_91 : decode cX12_act 91 = .ok (.iconst 2, 1) := by decide +kernel
theorem dX12_act_92 : decode cX12_act 92 = .ok (.iaload, 1) := by decide +kernel
theorem dX12_act_93 : decode cX12_act 93 = .ok (.iastore, 1) := by decide +kernel
theorem dX12_act_94 : decode cX12_act 94 = .ok (.goto 68, 3) := by decide +kernel
theorem dX12_act_97 : decode cX12_act 97 = .ok (.lload_n 1, 1) := by decide +kernel
theorem dX12_act_98 : decode cX12_act 98 = .ok (.ldc2_w 130, 3) := by decide +kernel
theorem dX12_act_101 : decode cX12_act 101 = .ok (.lcmp, 1) := by decide +kernel
theorem dX12_act_102 : decode cX12_act 102 = .ok (.ifCond .ne 55, 3) := by decide +kernel
theorem dX12_act_105 : decode cX12_act 105 = .ok (.aload_n 0, 1) := by decide +kernel
theorem dX12_act_106 : decode cX12_act 106 = .ok (.iconst 1, 1) := by decide +kernel
theorem dX12_act_107 : decode cX12_act 107 = .ok (.bipush 99, 2) := by decide +kernel
theorem dX12_act_109 : decode cX12_act 109 = .ok (.invokevirtual 112, 3) := by decide +kernel
theorem dX12_act_112 : decode cX12_act 112 = .ok (.istore_n 3, 1) := by decide +kernel
theorem dX12_act_113 : decode cX12_act 113 = .ok (.iconst 0, 1) := by decide +kernel
theorem dX12_act_114 : decode cX12_act 114 = .ok (.istore 4, 2) := by decide +kernel
theorem dX12_act_116 : decode cX12_act 116 = .ok (.iload 4, 2) := by decide +kernel
theorem dX12_act_118 : decode cX12_act 118 = .ok (.iload_n 3, 1) := by decide +kernel
theorem dX12_act_119 : decode cX12_act 119 = .ok (.if_icmp .ge 35, 3) := by decide +kernel
theorem dX12_act_122 : decode cX12_act 122 = .ok (.aload_n 0, 1) := by decide +kernel
theorem dX12_act_123 : decode cX12_act 123 = .ok (.getfield 118, 3) := by decide +kernel
theorem dX12_act_126 : decode cX12_act 126 = .ok (.ifCond .eq 28, 3) := by decide +kernel
theorem dX12_act_129 : decode cX12_act 129 = .ok (.aload_n 0, 1) := by decide +kernel
theorem dX12_act_130 : decode cX12_act 130 = .ok (.getfield 105, 3) := by decide +kernel
theorem dX12_act_133 : decode cX12_act 133 = .ok (.ifCond .ne 21, 3) := by decide +kernel
theorem dX12_act_136 : decode cX12_act 136 = .ok (.aload_n 0, 1) := by decide +kernel
theorem dX12_act_137 : decode cX12_act 137 = .ok (.iconst 0, 1) := by decide +kernel
theorem dX12_act_138 : decode cX12_act 138 = .ok (.aload_n 0, 1) := by decide +kernel
theorem dX12_act_139 : decode cX12_act 139 = .ok (.getfield 7, 3) := by decide +kernel
theorem dX12_act_142 : decode cX12_act 142 = .ok (.iconst 2, 1) := by decide +kernel
theorem dX12_act_143 : decode cX12_act 143 = .ok (.iaload, 1) := by decide +kernel
theorem dX12_act_144 : decode cX12_act 144 = .ok (.iconst 1, 1) := by decide +kernel
theorem dX12_act_145 : decode cX12_act 145 = .ok (.invokevirtual 132, 3) := by decide +kernel
theorem dX12_act_148 : decode cX12_act 148 = .ok (.iinc 4 1, 3) := by decide +kernel
theorem dX12_act_151 : decode cX12_act 151 = .ok (.goto (-35), 3) := by decide +kernel
theorem dX12_act_154 : decode cX12_act 154 = .ok (.goto 8, 3) := by decide +kernel
theorem dX12_act_157 : decode cX12_act 157 = .ok (.aload_n 0, 1) := by decide +kernel
theorem dX12_act_158 : decode cX12_act 158 = .ok (.iconst 1, 1) := by decide +kernel
theorem dX12_act_159 : decode cX12_act 159 = .ok (.putfield 105, 3) := by decide +kernel
theorem dX12_act_162 : decode cX12_act 162 = .ok (.return_, 1) := by decide +kernel
theorem dX12_item_0 : decode cX12_item 0 = .ok (.aload_n 0, 1) := by decide +kernel
theorem dX12_item_1 : decode cX12_item 1 = .ok (.invokevirtual 136, 3) := by decide +kernel
theorem dX12_item_4 : decode cX12_item 4 = .ok (.lstore_n 2, 1) := by decide +kernel
theorem dX12_item_5 : decode cX12_item 5 = .ok (.iload_n 1, 1) := by decide +kernel
theorem dX12_item_6 : decode cX12_item 6 = .ok (.ifCond .ne 7, 3) := by decide +kernel
theorem dX12_item_9 : decode cX12_item 9 = .ok (.iconst 1, 1) := by decide +kernel
theorem dX12_item_10 : decode cX12_item 10 = .ok (.goto 4, 3) := by decide +kernel
theorem dX12_item_13 : decode cX12_item 13 = .ok (.iconst 0, 1) := by decide +kernel
theorem dX12_item_14 : decode cX12_item 14 = .ok (.lload_n 2, 1) := by decide +kernel
theorem dX12_item_15 : decode cX12_item 15 = .ok (.ldc2_w 140, 3) := by decide +kernel
theorem dX12_item_18 : decode cX12_item 18 = .ok (.lcmp, 1) := by decide +kernel
theorem dX12_item_19 : decode cX12_item 19 = .ok (.ifCond .ne 7, 3) := by decide +kernel
theorem dX12_item_22 : decode cX12_item 22 = .ok (.iconst 1, 1) := by decide +kernel
theorem dX12_item_23 : decode cX12_item 23 = .ok (.goto 4, 3) := by decide +kernel
theorem dX12_item_26 : decode cX12_item 26 = .ok (.iconst 0, 1) := by decide +kernel
theorem dX12_item_27 : decode cX12_item 27 = .ok (.if_icmp .ne 19, 3) := by decide +kernel
theorem dX12_item_30 : decode cX12_item 30 = .ok (.lload_n 2, 1) := by decide +kernel
theorem dX12_item_31 : decode cX12_item 31 = .ok (.ldc2_w 123, 3) := by decide +kernel
theorem dX12_item_34 : decode cX12_item 34 = .ok (.lcmp, 1) := by decide +kernel
theorem dX12_item_35 : decode cX12_item 35 = .ok (.ifCond .ne 19, 3) := by decide +kernel
theorem dX12_item_38 : decode cX12_item 38 = .ok (.aload_n 0, 1) := by decide +kernel
theorem dX12_item_39 : decode cX12_item 39 = .ok (.getfield 125, 3) := by decide +kernel
theorem dX12_item_42 : decode cX12_item 42 = .ok (.iconst 5, 1) := by decide +kernel
theorem dX12_item_43 : decode cX12_item 43 = .ok (.if_icmp .ne 11, 3) := by decide +kernel
theorem dX12_item_46 : decode cX12_item 46 = .ok (.aload_n 0, 1) := by decide +kernel
theorem dX12_item_47 : decode cX12_item 47 = .ok (.iconst 1, 1) := by decide +kernel
theorem dX12_item_48 : decode cX12_item 48 = .ok (.putfield 105, 3) := by decide +kernel
theorem dX12_item_51 : decode cX12_item 51 = .ok (.goto 58, 3) := by decide +kernel
theorem dX12_item_54 : decode cX12_item 54 = .ok (.lload_n 2, 1) := by decide +kernel
theorem dX12_item_55 : decode cX12_item 55 = .ok (.ldc2_w 142, 3) := by decide +kernel
theorem dX12_item_58 : decode cX12_item 58 = .ok (.lcmp, 1) := by decide +kernel
theorem dX12_item_59 : decode cX12_item 59 = .ok (.ifCond .ne 10, 3) := by decide +kernel
theorem dX12_item_62 : decode cX12_item 62 = .ok (.aload_n 0, 1) := by decide +kernel
theorem dX12_item_63 : decode cX12_item 63 = .ok (.invokevirtual 144, 3) := by decide +kernel
theorem dX12_item_66 : decode cX12_item 66 = .ok (.goto 43, 3) := by decide +kernel
theorem dX12_item_69 : decode cX12_item 69 = .ok (.iload_n 1, 1) := by decide +kernel
theorem dX12_item_70 : decode cX12_item 70 = .ok (.ifCond .ne 10, 3) := by decide +kernel
theorem dX12_item_73 : decode cX12_item 73 = .ok (.aload_n 0, 1) := by decide +kernel
theorem dX12_item_74 : decode cX12_item 74 = .ok (.invokevirtual 147, 3) := by decide +kernel
theorem dX12_item_77 : decode cX12_item 77 = .ok (.goto 8, 3) := by decide +kernel
theorem dX12_item_80 : decode cX12_item 80 = .ok (.aload_n 0, 1) := by decide +kernel
theorem dX12_item_81 : decode cX12_item 81 = .ok (.lload_n 2, 1) := by decide +kernel
theorem dX12_item_82 : decode cX12_item 82 = .ok (.invokevirtual 150, 3) := by decide +kernel
theorem dX12_item_85 : decode cX12_item 85 = .ok (.aload_n 0, 1) := by decide +kernel
theorem dX12_item_86 : decode cX12_item 86 = .ok (.aload_n 0, 1) := by decide +kernel
theorem dX12_item_87 : decode cX12_item 87 = .ok (.getfield 105, 3) := by decide +kernel
theorem dX12_item_90 : decode cX12_item 90 = .ok (.ifCond .ne 11, 3) := by decide +kernel
theorem dX12_item_93 : decode cX12_item 93 = .ok (.aload_n 0, 1) := by decide +kernel
theorem dX12_item_94 : decode cX12_item 94 = .ok (.invokevirtual 109, 3) := by decide +kernel
theorem dX12_item_97 : decode cX12_item 97 = .ok (.iconst 2, 1) := by decide +kernel
theorem dX12_item_98 : decode cX12_item 98 = .ok (.if_icmp .eq 7, 3) := by decide +kernel
theorem dX12_item_101 : decode cX12_item 101 = .ok (.iconst 1, 1) := by decide +kernel
theorem dX12_item_102 : decode cX12_item 102 = .ok (.goto 4, 3) := by decide +kernel
theorem dX12_item_105 : decode cX12_item 105 = .ok (.iconst 0, 1) := by decide +kernel
theorem dX12_item_106 : decode cX12_item 106 = .ok (.putfield 105, 3) := by decide +kernel
theorem dX12_item_109 : decode cX12_item 109 = .ok (.return_, 1) := by decide +kernel
theorem dX12_goesThrough_0 : decode cX12_goesThrough 0 = .ok (.aload_n 0, 1) := by decide +kernel
theorem dX12_goesThrough_1 : decode cX12_goesThrough 1 = .ok (.iconst 0, 1) := by decide +kernel
theorem dX12_goesThrough_2 : decode cX12_goesThrough 2 = .ok (.putfield 79, 3) := by decide +kernel
theorem dX12_goesThrough_5 : decode cX12_goesThrough 5 = .ok (.aload_n 0, 1) := by decide +kernel
theorem dX12_goesThrough_6 : decode cX12_goesThrough 6 = .ok (.iconst 0, 1) := by decide +kernel
theorem dX12_goesThrough_7 : decode cX12_goesThrough 7 = .ok (.putfield 105, 3) := by decide +kernel
theorem dX12_goesThrough_10 : decode cX12_goesThrough 10 = .ok (.aload_n 0, 1) := by decide +kernel
theorem dX12_goesThrough_11 : decode cX12_goesThrough 11 = .ok (.iload_n 1, 1) := by decide +kernel
theorem dX12_goesThrough_12 : decode cX12_goesThrough 12 = .ok (.putfield 118, 3) := by decide +kernel
theorem dX12_goesThrough_15 : decode cX12_goesThrough 15 = .ok (.aload_n 0, 1) := by decide +kernel
theorem dX12_goesThrough_16 : decode cX12_goesThrough 16 = .ok (.iconst 0, 1) := by decide +kernel
theorem dX12_goesThrough_17 : decode cX12_goesThrough 17 = .ok (.putfield 125, 3) := by decide +kernel
theorem dX12_goesThrough_20 : decode cX12_goesThrough 20 = .ok (.aload_n 0, 1) := by decide +kernel
theorem dX12_goesThrough_21 : decode cX12_goesThrough 21 = .ok (.iconst 0, 1) := by decide +kernel
theorem dX12_goesThrough_22 : decode cX12_goesThrough 22 = .ok (.putfield 115, 3) := by decide +kernel
theorem dX12_goesThrough_25 : decode cX12_goesThrough 25 = .ok (.iconst 0, 1) := by decide +kernel
theorem dX12_goesThrough_26 : decode cX12_goesThrough 26 = .ok (.istore_n 2, 1) := by decide +kernel
theorem dX12_goesThrough_27 : decode cX12_goesThrough 27 = .ok (.aload_n 0, 1) := by decide +kernel
theorem dX12_goesThrough_28 : decode cX12_goesThrough 28 = .ok (.invokevirtual 109, 3) := by decide +kernel
theorem dX12_goesThrough_31 : decode cX12_goesThrough 31 = .ok (.istore_n 3, 1) := by decide +kernel
theorem dX12_goesThrough_32 : decode cX12_goesThrough 32 = .ok (.iload_n 3, 1) := by decide +kernel
theorem dX12_goesThrough_33 : decode cX12_goesThrough 33 = .ok (.iconst 4, 1) := by decide +kernel
theorem dX12_goesThrough_34 : decode cX12_goesThrough 34 = .ok (.if_icmp .eq 57, 3) := by decide +kernel
theorem dX12_goesThrough_37 : decode cX12_goesThrough 37 = .ok (.aload_n 0, 1) := by decide +kernel
theorem dX12_goesThrough_38 : decode cX12_goesThrough 38 = .ok (.getfield 105, 3) := by decide +kernel
theorem dX12_goesThrough_41 : decode cX12_goesThrough 41 = .ok (.ifCond .ne 50, 3) := by decide +kernel
theorem dX12_goesThrough_44 : decode cX12_goesThrough 44 = .ok (.aload_n 0, 1) := by decide +kernel
theorem dX12_goesThrough_45 : decode cX12_goesThrough 45 = .ok (.iload_n 3, 1) := by decide +kernel
theorem dX12_goesThrough_46 : decode cX12_goesThrough 46 = .ok (.ifCond .eq 7, 3) := by decide +kernel
theorem dX12_goesThrough_49 : decode cX12_goesThrough 49 = .ok (.iconst 1, 1) := by decide +kernel
theorem dX12_goesThrough_50 : decode cX12_goesThrough 50 = .ok (.goto 4, 3) := by decide +kernel
