theorem dX2_isCode_22 : decode cX2_isCode 22 = .ok (.ishr, 1) := by decide +kernel
theorem dX2_isCode_23 : decode cX2_isCode 23 = .ok (.bipush 7, 2) := by decide +kernel
theorem dX2_isCode_25 : decode cX2_isCode 25 = .ok (.iand, 1) := by decide +kernel
theorem dX2_isCode_26 : decode cX2_isCode 26 = .ok (.istore_n 1, 1) := by decide +kernel
theorem dX2_isCode_27 : decode cX2_isCode 27 = .ok (.iload_n 0, 1) := by decide +kernel
theorem dX2_isCode_28 : decode cX2_isCode 28 = .ok (.bipush 64, 2) := by decide +kernel
theorem dX2_isCode_30 : decode cX2_isCode 30 = .ok (.iand, 1) := by decide +kernel
theorem dX2_isCode_31 : decode cX2_isCode 31 = .ok (.ifCond .eq 7, 3) := by decide +kernel
theorem dX2_isCode_34 : decode cX2_isCode 34 = .ok (.iconst 1, 1) := by decide +kernel
theorem dX2_isCode_35 : decode cX2_isCode 35 = .ok (.goto 4, 3) := by decide +kernel
theorem dX2_isCode_38 : decode cX2_isCode 38 = .ok (.iconst 0, 1) := by decide +kernel
theorem dX2_isCode_39 : decode cX2_isCode 39 = .ok (.istore_n 2, 1) := by decide +kernel
theorem dX2_isCode_40 : decode cX2_isCode 40 = .ok (.iload_n 1, 1) := by decide +kernel
theorem dX2_isCode_41 : decode cX2_isCode 41 = .ok (.bipush 7, 2) := by decide +kernel
theorem dX2_isCode_43 : decode cX2_isCode 43 = .ok (.if_icmp .eq 25, 3) := by decide +kernel
theorem dX2_isCode_46 : decode cX2_isCode 46 = .ok (.iload_n 2, 1) := by decide +kernel
theorem dX2_isCode_47 : decode cX2_isCode 47 = .ok (.ifCond .eq 17, 3) := by decide +kernel
theorem dX2_isCode_50 : decode cX2_isCode 50 = .ok (.iload_n 1, 1) := by decide +kernel
theorem dX2_isCode_51 : decode cX2_isCode 51 = .ok (.ifCond .eq 13, 3) := by decide +kernel
theorem dX2_isCode_54 : decode cX2_isCode 54 = .ok (.iload_n 1, 1) := by decide +kernel
theorem dX2_isCode_55 : decode cX2_isCode 55 = .ok (.iconst 2, 1) := by decide +kernel
theorem dX2_isCode_56 : decode cX2_isCode 56 = .ok (.if_icmp .eq 8, 3) := by decide +kernel
theorem dX2_isCode_59 : decode cX2_isCode 59 = .ok (.iload_n 1, 1) := by decide +kernel
theorem dX2_isCode_60 : decode cX2_isCode 60 = .ok (.iconst 4, 1) := by decide +kernel
theorem dX2_isCode_61 : decode cX2_isCode 61 = .ok (.if_icmp .ne 7, 3) := by decide +kernel
theorem dX2_isCode_64 : decode cX2_isCode 64 = .ok (.iconst 1, 1) := by decide +kernel
theorem dX2_isCode_65 : decode cX2_isCode 65 = .ok (.goto 4, 3) := by decide +kernel
theorem dX2_isCode_68 : decode cX2_isCode 68 = .ok (.iconst 0, 1) := by decide +kernel
theorem dX2_isCode_69 : decode cX2_isCode 69 = .ok (.ireturn, 1) := by decide +kernel
theorem dX2_isConstant_0 : decode cX2_isConstant 0 = .ok (.iload_n 1, 1) := by decide +kernel
theorem dX2_isConstant_1 : decode cX2_isConstant 1 = .ok (.iconst 3, 1) := by decide +kernel
theorem dX2_isConstant_2 : decode cX2_isConstant 2 = .ok (.if_icmp .ne 7, 3) := by decide +kernel
theorem dX2_isConstant_5 : decode cX2_isConstant 5 = .ok (.iload_n 0, 1) := by decide +kernel
theorem dX2_isConstant_6 : decode cX2_isConstant 6 = .ok (.ifCond .gt 13, 3) := by decide +kernel
theorem dX2_isConstant_9 : decode cX2_isConstant 9 = .ok (.iload_n 1, 1) := by decide +kernel
theorem dX2_isConstant_10 : decode cX2_isConstant 10 = .ok (.iconst 2, 1) := by decide +kernel
theorem dX2_isConstant_11 : decode cX2_isConstant 11 = .ok (.if_icmp .ne 12, 3) := by decide +kernel
theorem dX2_isConstant_14 : decode cX2_isConstant 14 = .ok (.iload_n 0, 1) := by decide +kernel
theorem dX2_isConstant_15 : decode cX2_isConstant 15 = .ok (.iconst 1, 1) := by decide +kernel
theorem dX2_isConstant_16 : decode cX2_isConstant 16 = .ok (.if_icmp .le 7, 3) := by decide +kernel
theorem dX2_isConstant_19 : decode cX2_isConstant 19 = .ok (.iconst 1, 1) := by decide +kernel
theorem dX2_isConstant_20 : decode cX2_isConstant 20 = .ok (.goto 4, 3) := by decide +kernel
theorem dX2_isConstant_23 : decode cX2_isConstant 23 = .ok (.iconst 0, 1) := by decide +kernel
theorem dX2_isConstant_24 : decode cX2_isConstant 24 = .ok (.ireturn, 1) := by decide +kernel
theorem dX2_constant_0 : decode cX2_constant 0 = .ok (.iload_n 1, 1) := by decide +kernel
theorem dX2_constant_1 : decode cX2_constant 1 = .ok (.iconst 2, 1) := by decide +kernel
theorem dX2_constant_2 : decode cX2_constant 2 = .ok (.if_icmp .ne 15, 3) := by decide +kernel
theorem dX2_constant_5 : decode cX2_constant 5 = .ok (.iload_n 0, 1) := by decide +kernel
theorem dX2_constant_6 : decode cX2_constant 6 = .ok (.iconst 2, 1) := by decide +kernel
theorem dX2_constant_7 : decode cX2_constant 7 = .ok (.if_icmp .ne 7, 3) := by decide +kernel
theorem dX2_constant_10 : decode cX2_constant 10 = .ok (.iconst 4, 1) := by decide +kernel
theorem dX2_constant_11 : decode cX2_constant 11 = .ok (.goto 5, 3) := by decide +kernel
theorem dX2_constant_14 : decode cX2_constant 14 = .ok (.bipush 8, 2) := by decide +kernel
theorem dX2_constant_16 : decode cX2_constant 16 = .ok (.ireturn, 1) := by decide +kernel
theorem dX2_constant_17 : decode cX2_constant 17 = .ok (.iload_n 0, 1) := by decide +kernel
theorem dX2_constant_18 : decode cX2_constant 18 = .ok (.iconst 3, 1) := by decide +kernel
theorem dX2_constant_19 : decode cX2_constant 19 = .ok (.if_icmp .ne 8, 3) := by decide +kernel
theorem dX2_constant_22 : decode cX2_constant 22 = .ok (.ldc 26, 2) := by decide +kernel
theorem dX2_constant_24 : decode cX2_constant 24 = .ok (.goto 4, 3) := by decide +kernel
theorem dX2_constant_27 : decode cX2_constant 27 = .ok (.iload_n 0, 1) := by decide +kernel
theorem dX2_constant_28 : decode cX2_constant 28 = .ok (.ireturn, 1) := by decide +kernel
theorem dX2_restart_0 : decode cX2_restart 0 = .ok (.iconst 0, 1) := by decide +kernel
theorem dX2_restart_1 : decode cX2_restart 1 = .ok (.istore_n 1, 1) := by decide +kernel
theorem dX2_restart_2 : decode cX2_restart 2 = .ok (.iload_n 1, 1) := by decide +kernel
theorem dX2_restart_3 : decode cX2_restart 3 = .ok (.bipush 16, 2) := by decide +kernel
theorem dX2_restart_5 : decode cX2_restart 5 = .ok (.if_icmp .ge 16, 3) := by decide +kernel
theorem dX2_restart_8 : decode cX2_restart 8 = .ok (.aload_n 0, 1) := by decide +kernel
theorem dX2_restart_9 : decode cX2_restart 9 = .ok (.getfield 9, 3) := by decide +kernel
theorem dX2_restart_12 : decode cX2_restart 12 = .ok (.iload_n 1, 1) := by decide +kernel
theorem dX2_restart_13 : decode cX2_restart 13 = .ok (.iconst 0, 1) := by decide +kernel
theorem dX2_restart_14 : decode cX2_restart 14 = .ok (.iastore, 1) := by decide +kernel
theorem dX2_restart_15 : decode cX2_restart 15 = .ok (.iinc 1 1, 3) := by decide +kernel
theorem dX2_restart_18 : decode cX2_restart 18 = .ok (.goto (-16), 3) := by decide +kernel
theorem dX2_restart_21 : decode cX2_restart 21 = .ok (.aload_n 0, 1) := by decide +kernel
theorem dX2_restart_22 : decode cX2_restart 22 = .ok (.getfield 18, 3) := by decide +kernel
theorem dX2_restart_25 : decode cX2_restart 25 = .ok (.invokevirtual 27, 3) := by decide +kernel
theorem dX2_restart_28 : decode cX2_restart 28 = .ok (.aload_n 0, 1) := by decide +kernel
theorem dX2_restart_29 : decode cX2_restart 29 = .ok (.iconst 0, 1) := by decide +kernel
theorem dX2_restart_30 : decode cX2_restart 30 = .ok (.putfield 30, 3) := by decide +kernel
theorem dX2_restart_33 : decode cX2_restart 33 = .ok (.aload_n 0, 1) := by decide +kernel
theorem dX2_restart_34 : decode cX2_restart 34 = .ok (.iconst 0, 1) := by decide +kernel
theorem dX2_restart_35 : decode cX2_restart 35 = .ok (.putfield 34, 3) := by decide +kernel
theorem dX2_restart_38 : decode cX2_restart 38 = .ok (.aload_n 0, 1) := by decide +kernel
theorem dX2_restart_39 : decode cX2_restart 39 = .ok (.iconst 0, 1) := by decide +kernel
theorem dX2_restart_40 : decode cX2_restart 40 = .ok (.putfield 37, 3) := by decide +kernel
theorem dX2_restart_43 : decode cX2_restart 43 = .ok (.aload_n 0, 1) := by decide +kernel
theorem dX2_restart_44 : decode cX2_restart 44 = .ok (.iconst 0, 1) := by decide +kernel
theorem dX2_restart_45 : decode cX2_restart 45 = .ok (.aload_n 0, 1) := by decide +kernel
theorem dX2_restart_46 : decode cX2_restart 46 = .ok (.getfield 22, 3) := by decide +kernel
theorem dX2_restart_49 : decode cX2_restart 49 = .ok (.ldc 40, 2) := by decide +kernel
theorem dX2_restart_51 : decode cX2_restart 51 = .ok (.invokevirtual 41, 3) := by decide +kernel
theorem dX2_restart_54 : decode cX2_restart 54 = .ok (.invokevirtual 47, 3) := by decide +kernel
theorem dX2_restart_57 : decode cX2_restart 57 = .ok (.return_, 1) := by decide +kernel
theorem dX2_time_0 : decode cX2_time 0 = .ok (.aload_n 0, 1) := by decide +kernel
theorem dX2_time_1 : decode cX2_time 1 = .ok (.getfield 30, 3) := by decide +kernel
theorem dX2_time_4 : decode cX2_time 4 = .ok (.ireturn, 1) := by decide +kernel
theorem dX2_interrupts_0 : decode cX2_interrupts 0 = .ok (.aload_n 0, 1) := by decide +kernel
theorem dX2_interrupts_1 : decode cX2_interrupts 1 = .ok (.getfield 34, 3) := by decide +kernel
theorem dX2_interrupts_4 : decode cX2_interrupts 4 = .ok (.ireturn, 1) := by decide +kernel
theorem dX2_naps_0 : decode cX2_naps 0 = .ok (.aload_n 0, 1) := by decide +kernel
theorem dX2_naps_1 : decode cX2_naps 1 = .ok (.getfield 37, 3) := by decide +kernel
theorem dX2_naps_4 : decode cX2_naps 4 = .ok (.ireturn, 1) := by decide +kernel
theorem dX2_waitingEvents_0 : decode cX2_waitingEvents 0 = .ok (.aload_n 0, 1) := by decide +kernel
theorem dX2_waitingEvents_1 : decode cX2_waitingEvents 1 = .ok (.getfield 18, 3) := by decide +kernel
theorem dX2_waitingEvents_4 : decode cX2_waitingEvents 4 = .ok (.invokevirtual 51, 3) := by decide +kernel
theorem dX2_waitingEvents_7 : decode cX2_waitingEvents 7 = .ok (.ireturn, 1) := by decide +kernel
theorem dX2_expect_0 : decode cX2_expect 0 = .ok (.iload_n 1, 1) := by decide +kernel
theorem dX2_expect_1 : decode cX2_expect 1 = .ok (.aload_n 0, 1) := by decide +kernel
theorem dX2_expect_2 : decode cX2_expect 2 = .ok (.getfield 30, 3) := by decide +kernel
theorem dX2_expect_5 : decode cX2_expect 5 = .ok (.if_icmp .lt 25, 3) := by decide +kernel
theorem dX2_expect_8 : decode cX2_expect 8 = .ok (.iload_n 2, 1) := by decide +kernel
theorem dX2_expect_9 : decode cX2_expect 9 = .ok (.ifCond .lt 21, 3) := by decide +kernel
theorem dX2_expect_12 : decode cX2_expect 12 = .ok (.iload_n 2, 1) := by decide +kernel
theorem dX2_expect_13 : decode cX2_expect 13 = .ok (.sipush 255, 3) := by decide +kernel
theorem dX2_expect_16 : decode cX2_expect 16 = .ok (.if_icmp .gt 14, 3) := by decide +kernel
theorem dX2_expect_19 : decode cX2_expect 19 = .ok (.aload_n 0, 1) := by decide +kernel
theorem dX2_expect_20 : decode cX2_expect 20 = .ok (.getfield 18, 3) := by decide +kernel
theorem dX2_expect_23 : decode cX2_expect 23 = .ok (.iload_n 1, 1) := by decide +kernel
theorem dX2_expect_24 : decode cX2_expect 24 = .ok (.invokevirtual 55, 3) := by decide +kernel
theorem dX2_expect_27 : decode cX2_expect 27 = .ok (.ifCond .ne 5, 3) := by decide +kernel
theorem dX2_expect_30 : decode cX2_expect 30 = .ok (.iconst (-1), 1) := by decide +kernel
theorem dX2_expect_31 : decode cX2_expect 31 = .ok (.ireturn, 1) := by decide +kernel
theorem dX2_expect_32 : decode cX2_expect 32 = .ok (.aload_n 0, 1) := by decide +kernel
theorem dX2_expect_33 : decode cX2_expect 33 = .ok (.getfield 18, 3) := by decide +kernel
theorem dX2_expect_36 : decode cX2_expect 36 = .ok (.iload_n 1, 1) := by decide +kernel
theorem dX2_expect_37 : decode cX2_expect 37 = .ok (.iload_n 2, 1) := by decide +kernel
theorem dX2_expect_38 : decode cX2_expect 38 = .ok (.invokevirtual 59, 3) := by decide +kernel
theorem dX2_expect_41 : decode cX2_expect 41 = .ok (.aload_n 0, 1) := by decide +kernel
theorem dX2_expect_42 : decode cX2_expect 42 = .ok (.getfield 18, 3) := by decide +kernel
theorem dX2_expect_45 : decode cX2_expect 45 = .ok (.invokevirtual 51, 3) := by decide +kernel
theorem dX2_expect_48 : decode cX2_expect 48 = .ok (.ireturn, 1) := by decide +kernel
theorem dX2_registerValue_0 : decode cX2_registerValue 0 = .ok (.aload_n 0, 1) := by decide +kernel
theorem dX2_registerValue_1 : decode cX2_registerValue 1 = .ok (.getfield 9, 3) := by decide +kernel
theorem dX2_registerValue_4 : decode cX2_registerValue 4 = .ok (.iload_n 1, 1) := by decide +kernel
theorem dX2_registerValue_5 : decode cX2_registerValue 5 = .ok (.bipush 15, 2) := by decide +kernel
theorem dX2_registerValue_7 : decode cX2_registerValue 7 = .ok (.iand, 1) := by decide +kernel
theorem dX2_registerValue_8 : decode cX2_registerValue 8 = .ok (.iaload, 1) := by decide +kernel
theorem dX2_registerValue_9 : decode cX2_registerValue 9 = .ok (.ireturn, 1) := by decide +kernel
theorem dX2_writeRegister_0 : decode cX2_writeRegister 0 = .ok (.iload_n 1, 1) := by decide +kernel
theorem dX2_writeRegister_1 : decode cX2_writeRegister 1 = .ok (.ifCond .eq 8, 3) := by decide +kernel
theorem dX2_writeRegister_4 : decode cX2_writeRegister 4 = .ok (.iload_n 1, 1) := by decide +kernel
theorem dX2_writeRegister_5 : decode cX2_writeRegister 5 = .ok (.iconst 1, 1) := by decide +kernel
theorem dX2_writeRegister_6 : decode cX2_writeRegister 6 = .ok (.if_icmp .ne 16, 3) := by decide +kernel
theorem dX2_writeRegister_9 : decode cX2_writeRegister 9 = .ok (.aload_n 0, 1) := by decide +kernel
theorem dX2_writeRegister_10 : decode cX2_writeRegister 10 = .ok (.getfield 9, 3) := by decide +kernel
theorem dX2_writeRegister_13 : decode cX2_writeRegister 13 = .ok (.iload_n 1, 1) := by decide +kernel
theorem dX2_writeRegister_14 : decode cX2_writeRegister 14 = .ok (.iload_n 2, 1) := by decide +kernel
theorem dX2_writeRegister_15 : decode cX2_writeRegister 15 = .ok (.ldc 40, 2) := by decide +kernel
theorem dX2_writeRegister_17 : decode cX2_writeRegister 17 = .ok (.iand, 1) := by decide +kernel
theorem dX2_writeRegister_18 : decode cX2_writeRegister 18 = .ok (.iastore, 1) := by decide +kernel
theorem dX2_writeRegister_19 : decode cX2_writeRegister 19 = .ok (.goto 40, 3) := by decide +kernel
theorem dX2_writeRegister_22 : decode cX2_writeRegister 22 = .ok (.iload_n 1, 1) := by decide +kernel
theorem dX2_writeRegister_23 : decode cX2_writeRegister 23 = .ok (.iconst 2, 1) := by decide +kernel
theorem dX2_writeRegister_24 : decode cX2_writeRegister 24 = .ok (.if_icmp .ne 17, 3) := by decide +kernel
theorem dX2_writeRegister_27 : decode cX2_writeRegister 27 = .ok (.aload_n 0, 1) := by decide +kernel
theorem dX2_writeRegister_28 : decode cX2_writeRegister 28 = .ok (.getfield 9, 3) := by decide +kernel
theorem dX2_writeRegister_31 : decode cX2_writeRegister 31 = .ok (.iconst 2, 1) := by decide +kernel
theorem dX2_writeRegister_32 : decode cX2_writeRegister 32 = .ok (.iload_n 2, 1) := by decide +kernel
theorem dX2_writeRegister_33 : decode cX2_writeRegister 33 = .ok (.sipush 511, 3) := by decide +kernel
theorem dX2_writeRegister_36 : decode cX2_writeRegister 36 = .ok (.iand, 1) := by decide +kernel
theorem dX2_writeRegister_37 : decode cX2_writeRegister 37 = .ok (.iastore, 1) := by decide +kernel
theorem dX2_writeRegister_38 : decode cX2_writeRegister 38 = .ok (.goto 21, 3) := by decide +kernel
theorem dX2_writeRegister_41 : decode cX2_writeRegister 41 = .ok (.iload_n 1, 1) := by decide +kernel
theorem dX2_writeRegister_42 : decode cX2_writeRegister 42 = .ok (.iconst 3, 1) := by decide +kernel
theorem dX2_writeRegister_43 : decode cX2_writeRegister 43 = .ok (.if_icmp .eq 16, 3) := by decide +kernel
theorem dX2_writeRegister_46 : decode cX2_writeRegister 46 = .ok (.aload_n 0, 1) := by decide +kernel
theorem dX2_writeRegister_47 : decode cX2_writeRegister 47 = .ok (.getfield 9, 3) := by decide +kernel
theorem dX2_writeRegister_50 : decode cX2_writeRegister 50 = .ok (.iload_n 1, 1) := by decide +kernel
theorem dX2_writeRegister_51 : decode cX2_writeRegister 51 = .ok (.bipush 15, 2) := by decide +kernel
theorem dX2_writeRegister_53 : decode cX2_writeRegister 53 = .ok (.iand, 1) := by decide +kernel
theorem dX2_writeRegister_54 : decode cX2_writeRegister 54 = .ok (.iload_n 2, 1) := by decide +kernel
theorem dX2_writeRegister_55 : decode cX2_writeRegister 55 = .ok (.ldc 26, 2) := by decide +kernel
theorem dX2_writeRegister_57 : decode cX2_writeRegister 57 = .ok (.iand, 1) := by decide +kernel
theorem dX2_writeRegister_58 : decode cX2_writeRegister 58 = .ok (.iastore, 1) := by decide +kernel
theorem dX2_writeRegister_59 : decode cX2_writeRegister 59 = .ok (.return_, 1) := by decide +kernel
theorem dX2_step_0 : decode cX2_step 0 = .ok (.aload_n 0, 1) := by decide +kernel
theorem dX2_step_1 : decode cX2_step 1 = .ok (.getfield 18, 3) := by decide +kernel
theorem dX2_step_4 : decode cX2_step 4 = .ok (.aload_n 0, 1) := by decide +kernel
theorem dX2_step_5 : decode cX2_step 5 = .ok (.getfield 30, 3) := by decide +kernel
theorem dX2_step_8 : decode cX2_step 8 = .ok (.aload_n 0, 1) := by decide +kernel
theorem dX2_step_9 : decode cX2_step 9 = .ok (.getfield 22, 3) := by decide +kernel
theorem dX2_step_12 : decode cX2_step 12 = .ok (.invokevirtual 62, 3) := by decide +kernel
theorem dX2_step_15 : decode cX2_step 15 = .ok (.invokevirtual 66, 3) := by decide +kernel
theorem dX2_step_18 : decode cX2_step 18 = .ok (.aload_n 0, 1) := by decide +kernel
theorem dX2_step_19 : decode cX2_step 19 = .ok (.getfield 9, 3) := by decide +kernel
theorem dX2_step_22 : decode cX2_step 22 = .ok (.iconst 2, 1) := by decide +kernel
theorem dX2_step_23 : decode cX2_step 23 = .ok (.iaload, 1) := by decide +kernel
theorem dX2_step_24 : decode cX2_step 24 = .ok (.bipush 8, 2) := by decide +kernel
theorem dX2_step_26 : decode cX2_step 26 = .ok (.iand, 1) := by decide +kernel
theorem dX2_step_27 : decode cX2_step 27 = .ok (.ifCond .eq 10, 3) := by decide +kernel
theorem dX2_step_30 : decode cX2_step 30 = .ok (.aload_n 0, 1) := by decide +kernel
theorem dX2_step_31 : decode cX2_step 31 = .ok (.invokevirtual 70, 3) := by decide +kernel
theorem dX2_step_34 : decode cX2_step 34 = .ok (.goto 4, 3) := by decide +kernel
theorem dX2_step_37 : decode cX2_step 37 = .ok (.iconst 0, 1) := by decide +kernel
theorem dX2_step_38 : decode cX2_step 38 = .ok (.istore_n 1, 1) := by decide +kernel
theorem dX2_step_39 : decode cX2_step 39 = .ok (.iload_n 1, 1) := by decide +kernel
theorem dX2_step_40 : decode cX2_step 40 = .ok (.ifCond .eq 12, 3) := by decide +kernel
theorem dX2_step_43 : decode cX2_step 43 = .ok (.aload_n 0, 1) := by decide +kernel
theorem dX2_step_44 : decode cX2_step 44 = .ok (.iload_n 1, 1) := by decide +kernel
theorem dX2_step_45 : decode cX2_step 45 = .ok (.invokevirtual 73, 3) := by decide +kernel
theorem dX2_step_48 : decode cX2_step 48 = .ok (.istore_n 2, 1) := by decide +kernel
theorem dX2_step_49 : decode cX2_step 49 = .ok (.goto 102, 3) := by decide +kernel
theorem dX2_step_52 : decode cX2_step 52 = .ok (.aload_n 0, 1) := by decide +kernel
theorem dX2_step_53 : decode cX2_step 53 = .ok (.getfield 9, 3) := by decide +kernel
theorem dX2_step_56 : decode cX2_step 56 = .ok (.iconst 2, 1) := by decide +kernel
theorem dX2_step_57 : decode cX2_step 57 = .ok (.iaload, 1) := by decide +kernel
theorem dX2_step_58 : decode cX2_step 58 = .ok (.bipush 16, 2) := by decide +kernel
theorem dX2_step_60 : decode cX2_step 60 = .ok (.iand, 1) := by decide +kernel
theorem dX2_step_61 : decode cX2_step 61 = .ok (.ifCond .eq 18, 3) := by decide +kernel
theorem dX2_step_64 : decode cX2_step 64 = .ok (.aload_n 0, 1) := by decide +kernel
theorem dX2_step_65 : decode cX2_step 65 = .ok (.dup, 1) := by decide +kernel
theorem dX2_step_66 : decode cX2_step 66 = .ok (.getfield 37, 3) := by decide +kernel
theorem dX2_step_69 : decode cX2_step 69 = .ok (.iconst 1, 1) := by decide +kernel
theorem dX2_step_70 : decode cX2_step 70 = .ok (.iadd, 1) := by decide +kernel
theorem dX2_step_71 : decode cX2_step 71 = .ok (.putfield 37, 3) := by decide +kernel
theorem dX2_step_74 : decode cX2_step 74 = .ok (.iconst 1, 1) := by decide +kernel
theorem dX2_step_75 : decode cX2_step 75 = .ok (.istore_n 2, 1) := by decide +kernel
theorem dX2_step_76 : decode cX2_step 76 = .ok (.goto 75, 3) := by decide +kernel
theorem dX2_step_79 : decode cX2_step 79 = .ok (.aload_n 0, 1) := by decide +kernel
theorem dX2_step_80 : decode cX2_step 80 = .ok (.getfield 22, 3) := by decide +kernel
theorem dX2_step_83 : decode cX2_step 83 = .ok (.aload_n 0, 1) := by decide +kernel
theorem dX2_step_84 : decode cX2_step 84 = .ok (.getfield 9, 3) := by decide +kernel
theorem dX2_step_87 : decode cX2_step 87 = .ok (.iconst 0, 1) := by decide +kernel
theorem dX2_step_88 : decode cX2_step 88 = .ok (.iaload, 1) := by decide +kernel
theorem dX2_step_89 : decode cX2_step 89 = .ok (.invokevirtual 41, 3) := by decide +kernel
theorem dX2_step_92 : decode cX2_step 92 = .ok (.istore_n 3, 1) := by decide +kernel
theorem dX2_step_93 : decode cX2_step 93 = .ok (.iload_n 3, 1) := by decide +kernel
theorem dX2_step_94 : decode cX2_step 94 = .ok (.invokestatic 76, 3) := by decide +kernel
theorem dX2_step_97 : decode cX2_step 97 = .ok (.ifCond .ne 5, 3) := by decide +kernel
theorem dX2_step_100 : decode cX2_step 100 = .ok (.iconst 0, 1) := by decide +kernel
theorem dX2_step_101 : decode cX2_step 101 = .ok (.ireturn, 1) := by decide +kernel
theorem dX2_step_102 : decode cX2_step 102 = .ok (.aload_n 0, 1) := by decide +kernel
theorem dX2_step_103 : decode cX2_step 103 = .ok (.iconst 0, 1) := by decide +kernel
theorem dX2_step_104 : decode cX2_step 104 = .ok (.aload_n 0, 1) := by decide +kernel
theorem dX2_step_105 : decode cX2_step 105 = .ok (.getfield 9, 3) := by decide +kernel
theorem dX2_step_108 : decode cX2_step 108 = .ok (.iconst 0, 1) := by decide +kernel
theorem dX2_step_109 : decode cX2_step 109 = .ok (.iaload, 1) := by decide +kernel
theorem dX2_step_110 : decode cX2_step 110 = .ok (.iconst 2, 1) := by decide +kernel
theorem dX2_step_111 : decode cX2_step 111 = .ok (.iadd, 1) := by decide +kernel
theorem dX2_step_112 : decode cX2_step 112 = .ok (.invokevirtual 47, 3) := by decide +kernel
theorem dX2_step_115 : decode cX2_step 115 = .ok (.iload_n 3, 1) := by decide +kernel
theorem dX2_step_116 : decode cX2_step 116 = .ok (.sipush 16384, 3) := by decide +kernel
theorem dX2_step_119 : decode cX2_step 119 = .ok (.if_icmp .lt 11, 3) := by decide +kernel
theorem dX2_step_122 : decode cX2_step 122 = .ok (.aload_n 0, 1) := by decide +kernel
theorem dX2_step_123 : decode cX2_step 123 = .ok (.iload_n 3, 1) := by decide +kernel
theorem dX2_step_124 : decode cX2_step 124 = .ok (.invokevirtual 79, 3) := by decide +kernel
theorem dX2_step_127 : decode cX2_step 127 = .ok (.goto 23, 3) := by decide +kernel
theorem dX2_step_130 : decode cX2_step 130 = .ok (.iload_n 3, 1) := by decide +kernel
theorem dX2_step_131 : decode cX2_step 131 = .ok (.sipush 8192, 3) := by decide +kernel
theorem dX2_step_134 : decode cX2_step 134 = .ok (.if_icmp .lt 11, 3) := by decide +kernel
theorem dX2_step_137 : decode cX2_step 137 = .ok (.aload_n 0, 1) := by decide +kernel
theorem dX2_step_138 : decode cX2_step 138 = .ok (.iload_n 3, 1) := by decide +kernel
theorem dX2_step_139 : decode cX2_step 139 = .ok (.invokevirtual 82, 3) := by decide +kernel
theorem dX2_step_142 : decode cX2_step 142 = .ok (.goto 8, 3) := by decide +kernel
theorem dX2_step_145 : decode cX2_step 145 = .ok (.aload_n 0, 1) := by decide +kernel
theorem dX2_step_146 : decode cX2_step 146 = .ok (.iload_n 3, 1) := by decide +kernel
theorem dX2_step_147 : decode cX2_step 147 = .ok (.invokevirtual 85, 3) := by decide +kernel
theorem dX2_step_150 : decode cX2_step 150 = .ok (.istore_n 2, 1) := by decide +kernel
theorem dX2_step_151 : decode cX2_step 151 = .ok (.aload_n 0, 1) := by decide +kernel
theorem dX2_step_152 : decode cX2_step 152 = .ok (.iload_n 2, 1) := by decide +kernel
theorem dX2_step_153 : decode cX2_step 153 = .ok (.invokevirtual 88, 3) := by decide +kernel
theorem dX2_step_156 : decode cX2_step 156 = .ok (.iconst 1, 1) := by decide +kernel
theorem dX2_step_157 : decode cX2_step 157 = .ok (.ireturn, 1) := by decide +kernel
theorem dX2_request_0 : decode cX2_request 0 = .ok (.aload_n 0, 1) := by decide +kernel
theorem dX2_request_1 : decode cX2_request 1 = .ok (.getfield 22, 3) := by decide +kernel
theorem dX2_request_4 : decode cX2_request 4 = .ok (.invokevirtual 92, 3) := by decide +kernel
theorem dX2_request_7 : decode cX2_request 7 = .ok (.invokevirtual 96, 3) := by decide +kernel
theorem dX2_request_10 : decode cX2_request 10 = .ok (.ifCond .eq 6, 3) := by decide +kernel
theorem dX2_request_13 : decode cX2_request 13 = .ok (.ldc 102, 2) := by decide +kernel
theorem dX2_request_15 : decode cX2_request 15 = .ok (.ireturn, 1) := by decide +kernel
theorem dX2_request_16 : decode cX2_request 16 = .ok (.aload_n 0, 1) := by decide +kernel
theorem dX2_request_17 : decode cX2_request 17 = .ok (.getfield 22, 3) := by decide +kernel
theorem dX2_request_20 : decode cX2_request 20 = .ok (.invokevirtual 92, 3) := by decide +kernel
theorem dX2_request_23 : decode cX2_request 23 = .ok (.invokevirtual 103, 3) := by decide +kernel
theorem dX2_request_26 : decode cX2_request 26 = .ok (.ifCond .eq 6, 3) := by decide +kernel
theorem dX2_request_29 : decode cX2_request 29 = .ok (.ldc 106, 2) := by decide +kernel
theorem dX2_request_31 : decode cX2_request 31 = .ok (.ireturn, 1) := by decide +kernel
theorem dX2_request_32 : decode cX2_request 32 = .ok (.aload_n 0, 1) := by decide +kernel
theorem dX2_request_33 : decode cX2_request 33 = .ok (.getfield 22, 3) := by decide +kernel
theorem dX2_request_36 : decode cX2_request 36 = .ok (.invokevirtual 62, 3) := by decide +kernel
theorem dX2_request_39 : decode cX2_request 39 = .ok (.invokevirtual 107, 3) := by decide +kernel
theorem dX2_request_42 : decode cX2_request 42 = .ok (.ifCond .eq 8, 3) := by decide +kernel
theorem dX2_request_45 : decode cX2_request 45 = .ok (.ldc 112, 2) := by decide +kernel
theorem dX2_request_47 : decode cX2_request 47 = .ok (.goto 4, 3) := by decide +kernel
theorem dX2_request_50 : decode cX2_request 50 = .ok (.iconst 0, 1) := by decide +kernel
theorem dX2_request_51 : decode cX2_request 51 = .ok (.ireturn, 1) := by decide +kernel
theorem dX2_interrupt_0 : decode cX2_interrupt 0 = .ok (.iload_n 1, 1) := by decide +kernel
theorem dX2_interrupt_1 : decode cX2_interrupt 1 = .ok (.ldc 102, 2) := by decide +kernel
theorem dX2_interrupt_3 : decode cX2_interrupt 3 = .ok (.if_icmp .ne 13, 3) := by decide +kernel
theorem dX2_interrupt_6 : decode cX2_interrupt 6 = .ok (.aload_n 0, 1) := by decide +kernel
theorem dX2_interrupt_7 : decode cX2_interrupt 7 = .ok (.getfield 22, 3) := by decide +kernel
theorem dX2_interrupt_10 : decode cX2_interrupt 10 = .ok (.invokevirtual 92, 3) := by decide +kernel
theorem dX2_interrupt_13 : decode cX2_interrupt 13 = .ok (.invokevirtual 113, 3) := by decide +kernel
theorem dX2_interrupt_16 : decode cX2_interrupt 16 = .ok (.aload_n 0, 1) := by decide +kernel
theorem dX2_interrupt_17 : decode cX2_interrupt 17 = .ok (.aload_n 0, 1) := by decide +kernel
theorem dX2_interrupt_18 : decode cX2_interrupt 18 = .ok (.getfield 9, 3) := by decide +kernel
theorem dX2_interrupt_21 : decode cX2_interrupt 21 = .ok (.iconst 0, 1) := by decide +kernel
theorem dX2_interrupt_22 : decode cX2_interrupt 22 = .ok (.iaload, 1) := by decide +kernel
theorem dX2_interrupt_23 : decode cX2_interrupt 23 = .ok (.invokevirtual 116, 3) := by decide +kernel
theorem dX2_interrupt_26 : decode cX2_interrupt 26 = .ok (.aload_n 0, 1) := by decide +kernel
theorem dX2_interrupt_27 : decode cX2_interrupt 27 = .ok (.aload_n 0, 1) := by decide +kernel
theorem dX2_interrupt_28 : decode cX2_interrupt 28 = .ok (.getfield 9, 3) := by decide +kernel
theorem dX2_interrupt_31 : decode cX2_interrupt 31 = .ok (.iconst 2, 1) := by decide +kernel
theorem dX2_interrupt_32 : decode cX2_interrupt 32 = .ok (.iaload, 1) := by decide +kernel
theorem dX2_interrupt_33 : decode cX2_interrupt 33 = .ok (.invokevirtual 116, 3) := by decide +kernel
theorem dX2_interrupt_36 : decode cX2_interrupt 36 = .ok (.aload_n 0, 1) := by decide +kernel
theorem dX2_interrupt_37 : decode cX2_interrupt 37 = .ok (.getfield 9, 3) := by decide +kernel
theorem dX2_interrupt_40 : decode cX2_interrupt 40 = .ok (.iconst 2, 1) := by decide +kernel
theorem dX2_interrupt_41 : decode cX2_interrupt 41 = .ok (.iconst 0, 1) := by decide +kernel
theorem dX2_interrupt_42 : decode cX2_interrupt 42 = .ok (.iastore, 1) := by decide +kernel
theorem dX2_interrupt_43 : decode cX2_interrupt 43 = .ok (.aload_n 0, 1) := by decide +kernel
theorem dX2_interrupt_44 : decode cX2_interrupt 44 = .ok (.iconst 0, 1) := by decide +kernel
theorem dX2_interrupt_45 : decode cX2_interrupt 45 = .ok (.aload_n 0, 1) := by decide +kernel
theorem dX2_interrupt_46 : decode cX2_interrupt 46 = .ok (.getfield 22, 3) := by decide +kernel
theorem dX2_interrupt_49 : decode cX2_interrupt 49 = .ok (.iload_n 1, 1) := by decide +kernel
theorem dX2_interrupt_50 : decode cX2_interrupt 50 = .ok (.invokevirtual 119, 3) := by decide +kernel
theorem dX2_interrupt_53 : decode cX2_interrupt 53 = .ok (.invokevirtual 47, 3) := by decide +kernel
theorem dX2_interrupt_56 : decode cX2_interrupt 56 = .ok (.aload_n 0, 1) := by decide +kernel
theorem dX2_interrupt_57 : decode cX2_interrupt 57 = .ok (.dup, 1) := by decide +kernel
theorem dX2_interrupt_58 : decode cX2_interrupt 58 = .ok (.getfield 34, 3) := by decide +kernel
theorem dX2_interrupt_61 : decode cX2_interrupt 61 = .ok (.iconst 1, 1) := by decide +kernel
theorem dX2_interrupt_62 : decode cX2_interrupt 62 = .ok (.iadd, 1) := by decide +kernel
theorem dX2_interrupt_63 : decode cX2_interrupt 63 = .ok (.putfield 34, 3) := by decide +kernel
theorem dX2_interrupt_66 : decode cX2_interrupt 66 = .ok (.bipush 6, 2) := by decide +kernel
theorem dX2_interrupt_68 : decode cX2_interrupt 68 = .ok (.ireturn, 1) := by decide +kernel
theorem dX2_passTime_0 : decode cX2_passTime 0 = .ok (.aload_n 0, 1) := by decide +kernel
theorem dX2_passTime_1 : decode cX2_passTime 1 = .ok (.getfield 9, 3) := by decide +kernel
theorem dX2_passTime_4 : decode cX2_passTime 4 = .ok (.iconst 2, 1) := by decide +kernel
theorem dX2_passTime_5 : decode cX2_passTime 5 = .ok (.iaload, 1) := by decide +kernel
theorem dX2_passTime_6 : decode cX2_passTime 6 = .ok (.bipush 32, 2) := by decide +kernel
theorem dX2_passTime_8 : decode cX2_passTime 8 = .ok (.iand, 1) := by decide +kernel
theorem dX2_passTime_9 : decode cX2_passTime 9 = .ok (.ifCond .ne 7, 3) := by decide +kernel
theorem dX2_passTime_12 : decode cX2_passTime 12 = .ok (.iconst 1, 1) := by decide +kernel
theorem dX2_passTime_13 : decode cX2_passTime 13 = .ok (.goto 4, 3) := by decide +kernel
theorem dX2_passTime_16 : decode cX2_passTime 16 = .ok (.iconst 0, 1) := by decide +kernel
theorem dX2_passTime_17 : decode cX2_passTime 17 = .ok (.istore_n 2, 1) := by decide +kernel
theorem dX2_passTime_18 : decode cX2_passTime 18 = .ok (.aload_n 0, 1) := by decide +kernel
theorem dX2_passTime_19 : decode cX2_passTime 19 = .ok (.getfield 9, 3) := by decide +kernel
theorem dX2_passTime_22 : decode cX2_passTime 22 = .ok (.iconst 2, 1) := by decide +kernel
theorem dX2_passTime_23 : decode cX2_passTime 23 = .ok (.iaload, 1) := by decide +kernel
theorem dX2_passTime_24 : decode cX2_passTime 24 = .ok (.sipush 128, 3) := by decide +kernel
theorem dX2_passTime_27 : decode cX2_passTime 27 = .ok (.iand, 1) := by decide +kernel
theorem dX2_passTime_28 : decode cX2_passTime 28 = .ok (.ifCond .ne 7, 3) := by decide +kernel
theorem dX2_passTime_31 : decode cX2_passTime 31 = .ok (.iconst 1, 1) := by decide +kernel
theorem dX2_passTime_32 : decode cX2_passTime 32 = .ok (.goto 4, 3) := by decide +kernel
theorem dX2_passTime_35 : decode cX2_passTime 35 = .ok (.iconst 0, 1) := by decide +kernel
theorem dX2_passTime_36 : decode cX2_passTime 36 = .ok (.istore_n 3, 1) := by decide +kernel
theorem dX2_passTime_37 : decode cX2_passTime 37 = .ok (.iconst 0, 1) := by decide +kernel
theorem dX2_passTime_38 : decode cX2_passTime 38 = .ok (.istore 4, 2) := by decide +kernel
theorem dX2_passTime_40 : decode cX2_passTime 40 = .ok (.iload 4, 2) := by decide +kernel
theorem dX2_passTime_42 : decode cX2_passTime 42 = .ok (.iload_n 1, 1) := by decide +kernel
theorem dX2_passTime_43 : decode cX2_passTime 43 = .ok (.if_icmp .ge 57, 3) := by decide +kernel
theorem dX2_passTime_46 : decode cX2_passTime 46 = .ok (.aload_n 0, 1) := by decide +kernel
theorem dX2_passTime_47 : decode cX2_passTime 47 = .ok (.dup, 1) := by decide +kernel
theorem dX2_passTime_48 : decode cX2_passTime 48 = .ok (.getfield 30, 3) := by decide +kernel
theorem dX2_passTime_51 : decode cX2_passTime 51 = .ok (.iconst 1, 1) := by decide +kernel
theorem dX2_passTime_52 : decode cX2_passTime 52 = .ok (.iadd, 1) := by decide +kernel
theorem dX2_passTime_53 : decode cX2_passTime 53 = .ok (.putfield 30, 3) := by decide +kernel
theorem dX2_passTime_56 : decode cX2_passTime 56 = .ok (.iload_n 3, 1) := by decide +kernel
theorem dX2_passTime_57 : decode cX2_passTime 57 = .ok (.ifCond .eq 13, 3) := by decide +kernel
theorem dX2_passTime_60 : decode cX2_passTime 60 = .ok (.aload_n 0, 1) := by decide +kernel
theorem dX2_passTime_61 : decode cX2_passTime 61 = .ok (.getfield 22, 3) := by decide +kernel
theorem dX2_passTime_64 : decode cX2_passTime 64 = .ok (.invokevirtual 92, 3) := by decide +kernel
theorem dX2_passTime_67 : decode cX2_passTime 67 = .ok (.invokevirtual 122, 3) := by decide +kernel
theorem dX2_passTime_70 : decode cX2_passTime 70 = .ok (.iload_n 2, 1) := by decide +kernel
theorem dX2_passTime_71 : decode cX2_passTime 71 = .ok (.ifCond .eq 23, 3) := by decide +kernel
theorem dX2_passTime_74 : decode cX2_passTime 74 = .ok (.aload_n 0, 1) := by decide +kernel
theorem dX2_passTime_75 : decode cX2_passTime 75 = .ok (.getfield 30, 3) := by decide +kernel
theorem dX2_passTime_78 : decode cX2_passTime 78 = .ok (.bipush 15, 2) := by decide +kernel
theorem dX2_passTime_80 : decode cX2_passTime 80 = .ok (.iand, 1) := by decide +kernel
theorem dX2_passTime_81 : decode cX2_passTime 81 = .ok (.ifCond .ne 13, 3) := by decide +kernel
theorem dX2_passTime_84 : decode cX2_passTime 84 = .ok (.aload_n 0, 1) := by decide +kernel
theorem dX2_passTime_85 : decode cX2_passTime 85 = .ok (.getfield 22, 3) := by decide +kernel
theorem dX2_passTime_88 : decode cX2_passTime 88 = .ok (.invokevirtual 92, 3) := by decide +kernel
theorem dX2_passTime_91 : decode cX2_passTime 91 = .ok (.invokevirtual 125, 3) := by decide +kernel
theorem dX2_passTime_94 : decode cX2_passTime 94 = .ok (.iinc 4 1, 3) := by decide +kernel
theorem dX2_passTime_97 : decode cX2_passTime 97 = .ok (.goto (-57), 3) := by decide +kernel
theorem dX2_passTime_100 : decode cX2_passTime 100 = .ok (.return_, 1) := by decide +kernel
theorem dX2_pushWord_0 : decode cX2_pushWord 0 = .ok (.aload_n 0, 1) := by decide +kernel
theorem dX2_pushWord_1 : decode cX2_pushWord 1 = .ok (.iconst 1, 1) := by decide +kernel
theorem dX2_pushWord_2 : decode cX2_pushWord 2 = .ok (.aload_n 0, 1) := by decide +kernel
theorem dX2_pushWord_3 : decode cX2_pushWord 3 = .ok (.getfield 9, 3) := by decide +kernel
theorem dX2_pushWord_6 : decode cX2_pushWord 6 = .ok (.iconst 1, 1) := by decide +kernel
theorem dX2_pushWord_7 : decode cX2_pushWord 7 = .ok (.iaload, 1) := by decide +kernel
theorem dX2_pushWord_8 : decode cX2_pushWord 8 = .ok (.iconst 2, 1) := by decide +kernel
theorem dX2_pushWord_9 : decode cX2_pushWord 9 = .ok (.isub, 1) := by decide +kernel
theorem dX2_pushWord_10 : decode cX2_pushWord 10 = .ok (.invokevirtual 47, 3) := by decide +kernel
theorem dX2_pushWord_13 : decode cX2_pushWord 13 = .ok (.aload_n 0, 1) := by decide +kernel
theorem dX2_pushWord_14 : decode cX2_pushWord 14 = .ok (.getfield 22, 3) := by decide +kernel
theorem dX2_pushWord_17 : decode cX2_pushWord 17 = .ok (.aload_n 0, 1) := by decide +kernel
theorem dX2_pushWord_18 : decode cX2_pushWord 18 = .ok (.getfield 9, 3) := by decide +kernel
theorem dX2_pushWord_21 : decode cX2_pushWord 21 = .ok (.iconst 1, 1) := by decide +kernel
theorem dX2_pushWord_22 : decode cX2_pushWord 22 = .ok (.iaload, 1) := by decide +kernel
theorem dX2_pushWord_23 : decode cX2_pushWord 23 = .ok (.iload_n 1, 1) := by decide +kernel
theorem dX2_pushWord_24 : decode cX2_pushWord 24 = .ok (.invokevirtual 128, 3) := by decide +kernel
theorem dX2_pushWord_27 : decode cX2_pushWord 27 = .ok (.return_, 1) := by decide +kernel
theorem dX2_popWord_0 : decode cX2_popWord 0 = .ok (.aload_n 0, 1) := by decide +kernel
theorem dX2_popWord_1 : decode cX2_popWord 1 = .ok (.getfield 22, 3) := by decide +kernel
theorem dX2_popWord_4 : decode cX2_popWord 4 = .ok (.aload_n 0, 1) := by decide +kernel
theorem dX2_popWord_5 : decode cX2_popWord 5 = .ok (.getfield 9, 3) := by decide +kernel
theorem dX2_popWord_8 : decode cX2_popWord 8 = .ok (.iconst 1, 1) := by decide +kernel
theorem dX2_popWord_9 : decode cX2_popWord 9 = .ok (.iaload, 1) := by decide +kernel
theorem dX2_popWord_10 : decode cX2_popWord 10 = .ok (.invokevirtual 119, 3) := by decide +kernel
theorem dX2_popWord_13 : decode cX2_popWord 13 = .ok (.istore_n 1, 1) := by decide +kernel
theorem dX2_popWord_14 : decode cX2_popWord 14 = .ok (.aload_n 0, 1) := by decide +kernel
theorem dX2_popWord_15 : decode cX2_popWord 15 = .ok (.iconst 1, 1) := by decide +kernel
theorem dX2_popWord_16 : decode cX2_popWord 16 = .ok (.aload_n 0, 1) := by decide +kernel
theorem dX2_popWord_17 : decode cX2_popWord 17 = .ok (.getfield 9, 3) := by decide +kernel
theorem dX2_popWord_20 : decode cX2_popWord 20 = .ok (.iconst 1, 1) := by decide +kernel
theorem dX2_popWord_21 : decode cX2_popWord 21 = .ok (.iaload, 1) := by decide +kernel
theorem dX2_popWord_22 : decode cX2_popWord 22 = .ok (.iconst 2, 1) := by decide +kernel
theorem dX2_popWord_23 : decode cX2_popWord 23 = .ok (.iadd, 1) := by decide +kernel
theorem dX2_popWord_24 : decode cX2_popWord 24 = .ok (.invokevirtual 47, 3) := by decide +kernel
theorem dX2_popWord_27 : decode cX2_popWord 27 = .ok (.iload_n 1, 1) := by decide +kernel
theorem dX2_popWord_28 : decode cX2_popWord 28 = .ok (.ireturn, 1) := by decide +kernel
theorem dX2_jump_0 : decode cX2_jump 0 = .ok (.aload_n 0, 1) := by decide +kernel
theorem dX2_jump_1 : decode cX2_jump 1 = .ok (.getfield 9, 3) := by decide +kernel
theorem dX2_jump_4 : decode cX2_jump 4 = .ok (.iconst 2, 1) := by decide +kernel
theorem dX2_jump_5 : decode cX2_jump 5 = .ok (.iaload, 1) := by decide +kernel
theorem dX2_jump_6 : decode cX2_jump 6 = .ok (.istore_n 2, 1) := by decide +kernel
theorem dX2_jump_7 : decode cX2_jump 7 = .ok (.iload_n 2, 1) := by decide +kernel
theorem dX2_jump_8 : decode cX2_jump 8 = .ok (.iconst 4, 1) := by decide +kernel
theorem dX2_jump_9 : decode cX2_jump 9 = .ok (.iand, 1) := by decide +kernel
theorem dX2_jump_10 : decode cX2_jump 10 = .ok (.ifCond .eq 7, 3) := by decide +kernel
theorem dX2_jump_13 : decode cX2_jump 13 = .ok (.iconst 1, 1) := by decide +kernel
theorem dX2_jump_14 : decode cX2_jump 14 = .ok (.goto 4, 3) := by decide +kernel
theorem dX2_jump_17 : decode cX2_jump 17 = .ok (.iconst 0, 1) := by decide +kernel
theorem dX2_jump_18 : decode cX2_jump 18 = .ok (.iload_n 2, 1) := by decide +kernel
theorem dX2_jump_19 : decode cX2_jump 19 = .ok (.sipush 256, 3) := by decide +kernel
theorem dX2_jump_22 : decode cX2_jump 22 = .ok (.iand, 1) := by decide +kernel
theorem dX2_jump_23 : decode cX2_jump 23 = .ok (.ifCond .eq 7, 3) := by decide +kernel
theorem dX2_jump_26 : decode cX2_jump 26 = .ok (.iconst 1, 1) := by decide +kernel
theorem dX2_jump_27 : decode cX2_jump 27 = .ok (.goto 4, 3) := by decide +kernel
theorem dX2_jump_30 : decode cX2_jump 30 = .ok (.iconst 0, 1) := by decide +kernel
theorem dX2_jump_31 : decode cX2_jump 31 = .ok (.if_icmp .eq 7, 3) := by decide +kernel
theorem dX2_jump_34 : decode cX2_jump 34 = .ok (.iconst 1, 1) := by decide +kernel
theorem dX2_jump_35 : decode cX2_jump 35 = .ok (.goto 4, 3) := by decide +kernel
theorem dX2_jump_38 : decode cX2_jump 38 = .ok (.iconst 0, 1) := by decide +kernel
theorem dX2_jump_39 : decode cX2_jump 39 = .ok (.istore_n 3, 1) := by decide +kernel
theorem dX2_jump_40 : decode cX2_jump 40 = .ok (.iload_n 1, 1) := by decide +kernel
theorem dX2_jump_41 : decode cX2_jump 41 = .ok (.bipush 10, 2) := by decide +kernel
theorem dX2_jump_43 : decode cX2_jump 43 = .ok (.ishr, 1) := by decide +kernel
theorem dX2_jump_44 : decode cX2_jump 44 = .ok (.bipush 7, 2) := by decide +kernel
theorem dX2_jump_46 : decode cX2_jump 46 = .ok (.iand, 1) := by decide +kernel
theorem dX2_jump_47 : decode cX2_jump 47 = .ok (.tableswitch 141 0 6 #[41, 57, 73, 89, 105, 121, 135], 41) := by decide +kernel
theorem dX2_jump_88 : decode cX2_jump 88 = .ok (.iload_n 2, 1) := by decide +kernel
theorem dX2_jump_89 : decode cX2_jump 89 = .ok (.iconst 2, 1) := by decide +kernel
theorem dX2_jump_90 : decode cX2_jump 90 = .ok (.iand, 1) := by decide +kernel
theorem dX2_jump_91 : decode cX2_jump 91 = .ok (.ifCond .ne 7, 3) := by decide +kernel
theorem dX2_jump_94 : decode cX2_jump 94 = .ok (.iconst 1, 1) := by decide +kernel
theorem dX2_jump_95 : decode cX2_jump 95 = .ok (.goto 4, 3) := by decide +kernel
theorem dX2_jump_98 : decode cX2_jump 98 = .ok (.iconst 0, 1) := by decide +kernel
theorem dX2_jump_99 : decode cX2_jump 99 = .ok (.istore 4, 2) := by decide +kernel
theorem dX2_jump_101 : decode cX2_jump 101 = .ok (.goto 90, 3) := by decide +kernel
theorem dX2_jump_104 : decode cX2_jump 104 = .ok (.iload_n 2, 1) := by decide +kernel
theorem dX2_jump_105 : decode cX2_jump 105 = .ok (.iconst 2, 1) := by decide +kernel
theorem dX2_jump_106 : decode cX2_jump 106 = .ok (.iand, 1) := by decide +kernel
theorem dX2_jump_107 : decode cX2_jump 107 = .ok (.ifCond .eq 7, 3) := by decide +kernel
theorem dX2_jump_110 : decode cX2_jump 110 = .ok (.iconst 1, 1) := by decide +kernel
theorem dX2_jump_111 : decode cX2_jump 111 = .ok (.goto 4, 3) := by decide +kernel
theorem dX2_jump_114 : decode cX2_jump 114 = .ok (.iconst 0, 1) := by decide +kernel
theorem dX2_jump_115 : decode cX2_jump 115 = .ok (.istore 4, 2) := by decide +kernel
theorem dX2_jump_117 : decode cX2_jump 117 = .ok (.goto 74, 3) := by decide +kernel
theorem dX2_jump_120 : decode cX2_jump 120 = .ok (.iload_n 2, 1) := by decide +kernel
theorem dX2_jump_121 : decode cX2_jump 121 = .ok (.iconst 1, 1) := by decide +kernel
theorem dX2_jump_122 : decode cX2_jump 122 = .ok (.iand, 1) := by decide +kernel
theorem dX2_jump_123 : decode cX2_jump 123 = .ok (.ifCond .ne 7, 3) := by decide +kernel
theorem dX2_jump_126 : decode cX2_jump 126 = .ok (.iconst 1, 1) := by decide +kernel
theorem dX2_jump_127 : decode cX2_jump 127 = .ok (.goto 4, 3) := by decide +kernel
theorem dX2_jump_130 : decode cX2_jump 130 = .ok (.iconst 0, 1) := by decide +kernel
theorem dX2_jump_131 : decode cX2_jump 131 = .ok (.istore 4, 2) := by decide +kernel
theorem dX2_jump_133 : decode cX2_jump 133 = .ok (.goto 58, 3) := by decide +kernel
theorem dX2_jump_136 : decode cX2_jump 136 = .ok (.iload_n 2, 1) := by decide +kernel
theorem dX2_jump_137 : decode cX2_jump 137 = .ok (.iconst 1, 1) := by decide +kernel
theorem dX2_jump_138 : decode cX2_jump 138 = .ok (.iand, 1) := by decide +kernel
theorem dX2_jump_139 : decode cX2_jump 139 = .ok (.ifCond .eq 7, 3) := by decide +kernel
theorem dX2_jump_142 : decode cX2_jump 142 = .ok (.iconst 1, 1) := by decide +kernel
theorem dX2_jump_143 : decode cX2_jump 143 = .ok (.goto 4, 3) := by decide +kernel
theorem dX2_jump_146 : decode cX2_jump 146 = .ok (.iconst 0, 1) := by decide +kernel
theorem dX2_jump_147 : decode cX2_jump 147 = .ok (.istore 4, 2) := by decide +kernel
theorem dX2_jump_149 : decode cX2_jump 149 = .ok (.goto 42, 3) := by decide +kernel
theorem dX2_jump_152 : decode cX2_jump 152 = .ok (.iload_n 2, 1) := by decide +kernel
theorem dX2_jump_153 : decode cX2_jump 153 = .ok (.iconst 4, 1) := by decide +kernel
theorem dX2_jump_154 : decode cX2_jump 154 = .ok (.iand, 1) := by decide +kernel
theorem dX2_jump_155 : decode cX2_jump 155 = .ok (.ifCond .eq 7, 3) := by decide +kernel
theorem dX2_jump_158 : decode cX2_jump 158 = .ok (.iconst 1, 1) := by decide +kernel
theorem dX2_jump_159 : decode cX2_jump 159 = .ok (.goto 4, 3) := by decide +kernel
theorem dX2_jump_162 : decode cX2_jump 162 = .ok (.iconst 0, 1) := by decide +kernel
theorem dX2_jump_163 : decode cX2_jump 163 = .ok (.istore 4, 2) := by decide +kernel
theorem dX2_jump_165 : decode cX2_jump 165 = .ok (.goto 26, 3) := by decide +kernel
theorem dX2_jump_168 : decode cX2_jump 168 = .ok (.iload_n 3, 1) := by decide +kernel
theorem dX2_jump_169 : decode cX2_jump 169 = .ok (.ifCond .ne 7, 3) := by decide +kernel
theorem dX2_jump_172 : decode cX2_jump 172 = .ok (.iconst 1, 1) := by decide +kernel
theorem dX2_jump_173 : decode cX2_jump 173 = .ok (.goto 4, 3) := by decide +kernel
theorem dX2_jump_176 : decode cX2_jump 176 = .ok (.iconst 0, 1) := by decide +kernel
theorem dX2_jump_177 : decode cX2_jump 177 = .ok (.istore 4, 2) := by decide +kernel
theorem dX2_jump_179 : decode cX2_jump 179 = .ok (.goto 12, 3) := by decide +kernel
theorem dX2_jump_182 : decode cX2_jump 182 = .ok (.iload_n 3, 1) := by decide +kernel
theorem dX2_jump_183 : decode cX2_jump 183 = .ok (.istore 4, 2) := by decide +kernel
theorem dX2_jump_185 : decode cX2_jump 185 = .ok (.goto 6, 3) := by decide +kernel
theorem dX2_jump_188 : decode cX2_jump 188 = .ok (.iconst 1, 1) := by decide +kernel
theorem dX2_jump_189 : decode cX2_jump 189 = .ok (.istore 4, 2) := by decide +kernel
theorem dX2_jump_191 : decode cX2_jump 191 = .ok (.iload 4, 2) := by decide +kernel
theorem dX2_jump_193 : decode cX2_jump 193 = .ok (.ifCond .eq 46, 3) := by decide +kernel
theorem dX2_jump_196 : decode cX2_jump 196 = .ok (.iload_n 1, 1) := by decide +kernel
theorem dX2_jump_197 : decode cX2_jump 197 = .ok (.sipush 512, 3) := by decide +kernel
theorem dX2_jump_200 : decode cX2_jump 200 = .ok (.iand, 1) := by decide +kernel
theorem dX2_jump_201 : decode cX2_jump 201 = .ok (.ifCond .eq 15, 3) := by decide +kernel
theorem dX2_jump_204 : decode cX2_jump 204 = .ok (.iload_n 1, 1) := by decide +kernel
theorem dX2_jump_205 : decode cX2_jump 205 = .ok (.sipush 1023, 3) := by decide +kernel
theorem dX2_jump_208 : decode cX2_jump 208 = .ok (.iand, 1) := by decide +kernel
theorem dX2_jump_209 : decode cX2_jump 209 = .ok (.sipush 1024, 3) := by decide +kernel
theorem dX2_jump_212 : decode cX2_jump 212 = .ok (.isub, 1) := by decide +kernel
theorem dX2_jump_213 : decode cX2_jump 213 = .ok (.goto 8, 3) := by decide +kernel
theorem dX2_jump_216 : decode cX2_jump 216 = .ok (.iload_n 1, 1) := by decide +kernel
theorem dX2_jump_217 : decode cX2_jump 217 = .ok (.sipush 1023, 3) := by decide +kernel
theorem dX2_jump_220 : decode cX2_jump 220 = .ok (.iand, 1) := by decide +kernel
theorem dX2_jump_221 : decode cX2_jump 221 = .ok (.istore 5, 2) := by decide +kernel
theorem dX2_jump_223 : decode cX2_jump 223 = .ok (.aload_n 0, 1) := by decide +kernel
theorem dX2_jump_224 : decode cX2_jump 224 = .ok (.iconst 0, 1) := by decide +kernel
theorem dX2_jump_225 : decode cX2_jump 225 = .ok (.aload_n 0, 1) := by decide +kernel
theorem dX2_jump_226 : decode cX2_jump 226 = .ok (.getfield 9, 3) := by decide +kernel
theorem dX2_jump_229 : decode cX2_jump 229 = .ok (.iconst 0, 1) := by decide +kernel
theorem dX2_jump_230 : decode cX2_jump 230 = .ok (.iaload, 1) := by decide +kernel
theorem dX2_jump_231 : decode cX2_jump 231 = .ok (.iconst 2, 1) := by decide +kernel
theorem dX2_jump_232 : decode cX2_jump 232 = .ok (.iload 5, 2) := by decide +kernel
theorem dX2_jump_234 : decode cX2_jump 234 = .ok (.imul, 1) := by decide +kernel
theorem dX2_jump_235 : decode cX2_jump 235 = .ok (.iadd, 1) := by decide +kernel
theorem dX2_jump_236 : decode cX2_jump 236 = .ok (.invokevirtual 47, 3) := by decide +kernel
theorem dX2_jump_239 : decode cX2_jump 239 = .ok (.iconst 2, 1) := by decide +kernel
theorem dX2_jump_240 : decode cX2_jump 240 = .ok (.ireturn, 1) := by decide +kernel
theorem dX2_two_0 : decode cX2_two 0 = .ok (.iload_n 1, 1) := by decide +kernel
theorem dX2_two_1 : decode cX2_two 1 = .ok (.bipush 12, 2) := by decide +kernel
theorem dX2_two_3 : decode cX2_two 3 = .ok (.ishr, 1) := by decide +kernel
theorem dX2_two_4 : decode cX2_two 4 = .ok (.istore_n 2, 1) := by decide +kernel
theorem dX2_two_5 : decode cX2_two 5 = .ok (.iload_n 1, 1) := by decide +kernel
theorem dX2_two_6 : decode cX2_two 6 = .ok (.bipush 8, 2) := by decide +kernel
theorem dX2_two_8 : decode cX2_two 8 = .ok (.ishr, 1) := by decide +kernel
theorem dX2_two_9 : decode cX2_two 9 = .ok (.bipush 15, 2) := by decide +kernel
theorem dX2_two_11 : decode cX2_two 11 = .ok (.iand, 1) := by decide +kernel
theorem dX2_two_12 : decode cX2_two 12 = .ok (.istore_n 3, 1) := by decide +kernel
theorem dX2_two_13 : decode cX2_two 13 = .ok (.iload_n 1, 1) := by decide +kernel
theorem dX2_two_14 : decode cX2_two 14 = .ok (.iconst 4, 1) := by decide +kernel
theorem dX2_two_15 : decode cX2_two 15 = .ok (.ishr, 1) := by decide +kernel
theorem dX2_two_16 : decode cX2_two 16 = .ok (.iconst 3, 1) := by decide +kernel
theorem dX2_two_17 : decode cX2_two 17 = .ok (.iand, 1) := by decide +kernel
theorem dX2_two_18 : decode cX2_two 18 = .ok (.istore 4, 2) := by decide +kernel
theorem dX2_two_20 : decode cX2_two 20 = .ok (.iload_n 1, 1) := by decide +kernel
theorem dX2_two_21 : decode cX2_two 21 = .ok (.bipush 15, 2) := by decide +kernel
theorem dX2_two_23 : decode cX2_two 23 = .ok (.iand, 1) := by decide +kernel
theorem dX2_two_24 : decode cX2_two 24 = .ok (.istore 5, 2) := by decide +kernel
theorem dX2_two_26 : decode cX2_two 26 = .ok (.iload_n 1, 1) := by decide +kernel
theorem dX2_two_27 : decode cX2_two 27 = .ok (.sipush 128, 3) := by decide +kernel
theorem dX2_two_30 : decode cX2_two 30 = .ok (.iand, 1) := by decide +kernel
theorem dX2_two_31 : decode cX2_two 31 = .ok (.ifCond .eq 7, 3) := by decide +kernel
theorem dX2_two_34 : decode cX2_two 34 = .ok (.iconst 1, 1) := by decide +kernel
theorem dX2_two_35 : decode cX2_two 35 = .ok (.goto 4, 3) := by decide +kernel
theorem dX2_two_38 : decode cX2_two 38 = .ok (.iconst 0, 1) := by decide +kernel
theorem dX2_two_39 : decode cX2_two 39 = .ok (.istore 6, 2) := by decide +kernel
theorem dX2_two_41 : decode cX2_two 41 = .ok (.aload_n 0, 1) := by decide +kernel
theorem dX2_two_42 : decode cX2_two 42 = .ok (.iload_n 1, 1) := by decide +kernel
theorem dX2_two_43 : decode cX2_two 43 = .ok (.bipush 64, 2) := by decide +kernel
theorem dX2_two_45 : decode cX2_two 45 = .ok (.iand, 1) := by decide +kernel
theorem dX2_two_46 : decode cX2_two 46 = .ok (.ifCond .eq 7, 3) := by decide +kernel
theorem dX2_two_49 : decode cX2_two 49 = .ok (.iconst 1, 1) := by decide +kernel
theorem dX2_two_50 : decode cX2_two 50 = .ok (.goto 4, 3) := by decide +kernel
theorem dX2_two_53 : decode cX2_two 53 = .ok (.iconst 0, 1) := by decide +kernel
theorem dX2_two_54 : decode cX2_two 54 = .ok (.putfield 131, 3) := by decide +kernel
theorem dX2_two_57 : decode cX2_two 57 = .ok (.aload_n 0, 1) := by decide +kernel
theorem dX2_two_58 : decode cX2_two 58 = .ok (.iload 4, 2) := by decide +kernel
theorem dX2_two_60 : decode cX2_two 60 = .ok (.iload_n 3, 1) := by decide +kernel
theorem dX2_two_61 : decode cX2_two 61 = .ok (.invokevirtual 135, 3) := by decide +kernel
theorem dX2_two_64 : decode cX2_two 64 = .ok (.istore 7, 2) := by decide +kernel
theorem dX2_two_66 : decode cX2_two 66 = .ok (.aload_n 0, 1) := by decide +kernel
theorem dX2_two_67 : decode cX2_two 67 = .ok (.iload 6, 2) := by decide +kernel
theorem dX2_two_69 : decode cX2_two 69 = .ok (.ifCond .eq 12, 3) := by decide +kernel
theorem dX2_two_72 : decode cX2_two 72 = .ok (.aload_n 0, 1) := by decide +kernel
theorem dX2_two_73 : decode cX2_two 73 = .ok (.iload 5, 2) := by decide +kernel
theorem dX2_two_75 : decode cX2_two 75 = .ok (.invokevirtual 139, 3) := by decide +kernel
theorem dX2_two_78 : decode cX2_two 78 = .ok (.goto 8, 3) := by decide +kernel
theorem dX2_two_81 : decode cX2_two 81 = .ok (.ldc 142, 2) := by decide +kernel
theorem dX2_two_83 : decode cX2_two 83 = .ok (.iload 5, 2) := by decide +kernel
theorem dX2_two_85 : decode cX2_two 85 = .ok (.iadd, 1) := by decide +kernel
theorem dX2_two_86 : decode cX2_two 86 = .ok (.putfield 143, 3) := by decide +kernel
theorem dX2_two_89 : decode cX2_two 89 = .ok (.iload_n 2, 1) := by decide +kernel
theorem dX2_two_90 : decode cX2_two 90 = .ok (.iconst 4, 1) := by decide +kernel
theorem dX2_two_91 : decode cX2_two 91 = .ok (.if_icmp .ne 7, 3) := by decide +kernel
theorem dX2_two_94 : decode cX2_two 94 = .ok (.iconst 0, 1) := by decide +kernel
theorem dX2_two_95 : decode cX2_two 95 = .ok (.goto 7, 3) := by decide +kernel
theorem dX2_two_98 : decode cX2_two 98 = .ok (.aload_n 0, 1) := by decide +kernel
theorem dX2_two_99 : decode cX2_two 99 = .ok (.invokevirtual 146, 3) := by decide +kernel
theorem dX2_two_102 : decode cX2_two 102 = .ok (.istore 8, 2) := by decide +kernel
theorem dX2_two_104 : decode cX2_two 104 = .ok (.aload_n 0, 1) := by decide +kernel
theorem dX2_two_105 : decode cX2_two 105 = .ok (.iload_n 2, 1) := by decide +kernel
theorem dX2_two_106 : decode cX2_two 106 = .ok (.iload 7, 2) := by decide +kernel
theorem dX2_two_108 : decode cX2_two 108 = .ok (.iload 8, 2) := by decide +kernel
theorem dX2_two_110 : decode cX2_two 110 = .ok (.invokevirtual 149, 3) := by decide +kernel
theorem dX2_two_113 : decode cX2_two 113 = .ok (.istore 9, 2) := by decide +kernel
theorem dX2_two_115 : decode cX2_two 115 = .ok (.iload_n 2, 1) := by decide +kernel
theorem dX2_two_116 : decode cX2_two 116 = .ok (.bipush 9, 2) := by decide +kernel
theorem dX2_two_118 : decode cX2_two 118 = .ok (.if_icmp .eq 15, 3) := by decide +kernel
theorem dX2_two_121 : decode cX2_two 121 = .ok (.iload_n 2, 1) := by decide +kernel
theorem dX2_two_122 : decode cX2_two 122 = .ok (.bipush 11, 2) := by decide +kernel
theorem dX2_two_124 : decode cX2_two 124 = .ok (.if_icmp .eq 9, 3) := by decide +kernel
theorem dX2_two_127 : decode cX2_two 127 = .ok (.aload_n 0, 1) := by decide +kernel
theorem dX2_two_128 : decode cX2_two 128 = .ok (.iload 9, 2) := by decide +kernel
theorem dX2_two_130 : decode cX2_two 130 = .ok (.invokevirtual 153, 3) := by decide +kernel
theorem dX2_two_133 : decode cX2_two 133 = .ok (.iload 4, 2) := by decide +kernel
theorem dX2_two_135 : decode cX2_two 135 = .ok (.ifCond .eq 12, 3) := by decide +kernel
theorem dX2_two_138 : decode cX2_two 138 = .ok (.iload 4, 2) := by decide +kernel
theorem dX2_two_140 : decode cX2_two 140 = .ok (.iload_n 3, 1) := by decide +kernel
theorem dX2_two_141 : decode cX2_two 141 = .ok (.invokestatic 156, 3) := by decide +kernel
theorem dX2_two_144 : decode cX2_two 144 = .ok (.ifCond .eq 7, 3) := by decide +kernel
theorem dX2_two_147 : decode cX2_two 147 = .ok (.iconst 1, 1) := by decide +kernel
theorem dX2_two_148 : decode cX2_two 148 = .ok (.goto 14, 3) := by decide +kernel
theorem dX2_two_151 : decode cX2_two 151 = .ok (.iload 4, 2) := by decide +kernel
theorem dX2_two_153 : decode cX2_two 153 = .ok (.iconst 1, 1) := by decide +kernel
theorem dX2_two_154 : decode cX2_two 154 = .ok (.if_icmp .ne 7, 3) := by decide +kernel
theorem dX2_two_157 : decode cX2_two 157 = .ok (.iconst 3, 1) := by decide +kernel
theorem dX2_two_158 : decode cX2_two 158 = .ok (.goto 4, 3) := by decide +kernel
theorem dX2_two_161 : decode cX2_two 161 = .ok (.iconst 2, 1) := by decide +kernel
theorem dX2_two_162 : decode cX2_two 162 = .ok (.istore 10, 2) := by decide +kernel
theorem dX2_two_164 : decode cX2_two 164 = .ok (.iload 6, 2) := by decide +kernel
theorem dX2_two_166 : decode cX2_two 166 = .ok (.ifCond .eq 8, 3) := by decide +kernel
theorem dX2_two_169 : decode cX2_two 169 = .ok (.iload 10, 2) := by decide +kernel
theorem dX2_two_171 : decode cX2_two 171 = .ok (.iconst 3, 1) := by decide +kernel
theorem dX2_two_172 : decode cX2_two 172 = .ok (.iadd, 1) := by decide +kernel
theorem dX2_two_173 : decode cX2_two 173 = .ok (.ireturn, 1) := by decide +kernel
theorem dX2_two_174 : decode cX2_two 174 = .ok (.iload 5, 2) := by decide +kernel
theorem dX2_two_176 : decode cX2_two 176 = .ok (.ifCond .ne 22, 3) := by decide +kernel
theorem dX2_two_179 : decode cX2_two 179 = .ok (.iload 10, 2) := by decide +kernel
theorem dX2_two_181 : decode cX2_two 181 = .ok (.iconst 1, 1) := by decide +kernel
theorem dX2_two_182 : decode cX2_two 182 = .ok (.if_icmp .eq 9, 3) := by decide +kernel
theorem dX2_two_185 : decode cX2_two 185 = .ok (.iload 4, 2) := by decide +kernel
theorem dX2_two_187 : decode cX2_two 187 = .ok (.iconst 3, 1) := by decide +kernel
theorem dX2_two_188 : decode cX2_two 188 = .ok (.if_icmp .ne 10, 3) := by decide +kernel
theorem dX2_two_191 : decode cX2_two 191 = .ok (.iload 10, 2) := by decide +kernel
theorem dX2_two_193 : decode cX2_two 193 = .ok (.iconst 1, 1) := by decide +kernel
theorem dX2_two_194 : decode cX2_two 194 = .ok (.iadd, 1) := by decide +kernel
theorem dX2_two_195 : decode cX2_two 195 = .ok (.goto 5, 3) := by decide +kernel
theorem dX2_two_198 : decode cX2_two 198 = .ok (.iload 10, 2) := by decide +kernel
theorem dX2_two_200 : decode cX2_two 200 = .ok (.ireturn, 1) := by decide +kernel
theorem dX2_one_0 : decode cX2_one 0 = .ok (.iload_n 1, 1) := by decide +kernel
theorem dX2_one_1 : decode cX2_one 1 = .ok (.bipush 7, 2) := by decide +kernel
theorem dX2_one_3 : decode cX2_one 3 = .ok (.ishr, 1) := by decide +kernel
theorem dX2_one_4 : decode cX2_one 4 = .ok (.bipush 7, 2) := by decide +kernel
theorem dX2_one_6 : decode cX2_one 6 = .ok (.iand, 1) := by decide +kernel
theorem dX2_one_7 : decode cX2_one 7 = .ok (.istore_n 2, 1) := by decide +kernel
theorem dX2_one_8 : decode cX2_one 8 = .ok (.iload_n 1, 1) := by decide +kernel
theorem dX2_one_9 : decode cX2_one 9 = .ok (.bipush 15, 2) := by decide +kernel
theorem dX2_one_11 : decode cX2_one 11 = .ok (.iand, 1) := by decide +kernel
theorem dX2_one_12 : decode cX2_one 12 = .ok (.istore_n 3, 1) := by decide +kernel
theorem dX2_one_13 : decode cX2_one 13 = .ok (.iload_n 1, 1) := by decide +kernel
theorem dX2_one_14 : decode cX2_one 14 = .ok (.iconst 4, 1) := by decide +kernel
theorem dX2_one_15 : decode cX2_one 15 = .ok (.ishr, 1) := by decide +kernel
theorem dX2_one_16 : decode cX2_one 16 = .ok (.iconst 3, 1) := by decide +kernel
theorem dX2_one_17 : decode cX2_one 17 = .ok (.iand, 1) := by decide +kernel
theorem dX2_one_18 : decode cX2_one 18 = .ok (.istore 4, 2) := by decide +kernel
theorem dX2_one_20 : decode cX2_one 20 = .ok (.iload_n 2, 1) := by decide +kernel
theorem dX2_one_21 : decode cX2_one 21 = .ok (.bipush 6, 2) := by decide +kernel
theorem dX2_one_23 : decode cX2_one 23 = .ok (.if_icmp .ne 23, 3) := by decide +kernel
theorem dX2_one_26 : decode cX2_one 26 = .ok (.aload_n 0, 1) := by decide +kernel
theorem dX2_one_27 : decode cX2_one 27 = .ok (.iconst 2, 1) := by decide +kernel
theorem dX2_one_28 : decode cX2_one 28 = .ok (.aload_n 0, 1) := by decide +kernel
theorem dX2_one_29 : decode cX2_one 29 = .ok (.invokevirtual 160, 3) := by decide +kernel
theorem dX2_one_32 : decode cX2_one 32 = .ok (.invokevirtual 47, 3) := by decide +kernel
theorem dX2_one_35 : decode cX2_one 35 = .ok (.aload_n 0, 1) := by decide +kernel
theorem dX2_one_36 : decode cX2_one 36 = .ok (.iconst 0, 1) := by decide +kernel
theorem dX2_one_37 : decode cX2_one 37 = .ok (.aload_n 0, 1) := by decide +kernel
theorem dX2_one_38 : decode cX2_one 38 = .ok (.invokevirtual 160, 3) := by decide +kernel
theorem dX2_one_41 : decode cX2_one 41 = .ok (.invokevirtual 47, 3) := by decide +kernel
theorem dX2_one_44 : decode cX2_one 44 = .ok (.iconst 5, 1) := by decide +kernel
theorem dX2_one_45 : decode cX2_one 45 = .ok (.ireturn, 1) := by decide +kernel
theorem dX2_one_46 : decode cX2_one 46 = .ok (.aload_n 0, 1) := by decide +kernel
theorem dX2_one_47 : decode cX2_one 47 = .ok (.iload_n 1, 1) := by decide +kernel
theorem dX2_one_48 : decode cX2_one 48 = .ok (.bipush 64, 2) := by decide +kernel
theorem dX2_one_50 : decode cX2_one 50 = .ok (.iand, 1) := by decide +kernel
theorem dX2_one_51 : decode cX2_one 51 = .ok (.ifCond .eq 7, 3) := by decide +kernel
theorem dX2_one_54 : decode cX2_one 54 = .ok (.iconst 1, 1) := by decide +kernel
theorem dX2_one_55 : decode cX2_one 55 = .ok (.goto 4, 3) := by decide +kernel
theorem dX2_one_58 : decode cX2_one 58 = .ok (.iconst 0, 1) := by decide +kernel
theorem dX2_one_59 : decode cX2_one 59 = .ok (.putfield 131, 3) := by decide +kernel
theorem dX2_one_62 : decode cX2_one 62 = .ok (.aload_n 0, 1) := by decide +kernel
theorem dX2_one_63 : decode cX2_one 63 = .ok (.iload 4, 2) := by decide +kernel
theorem dX2_one_65 : decode cX2_one 65 = .ok (.iload_n 3, 1) := by decide +kernel
theorem dX2_one_66 : decode cX2_one 66 = .ok (.invokevirtual 135, 3) := by decide +kernel
theorem dX2_one_69 : decode cX2_one 69 = .ok (.istore 5, 2) := by decide +kernel
theorem dX2_one_71 : decode cX2_one 71 = .ok (.iload 4, 2) := by decide +kernel
theorem dX2_one_73 : decode cX2_one 73 = .ok (.ifCond .eq 12, 3) := by decide +kernel
theorem dX2_one_76 : decode cX2_one 76 = .ok (.iload 4, 2) := by decide +kernel
theorem dX2_one_78 : decode cX2_one 78 = .ok (.iload_n 3, 1) := by decide +kernel
theorem dX2_one_79 : decode cX2_one 79 = .ok (.invokestatic 156, 3) := by decide +kernel
theorem dX2_one_82 : decode cX2_one 82 = .ok (.ifCond .eq 7, 3) := by decide +kernel
theorem dX2_one_85 : decode cX2_one 85 = .ok (.iconst 0, 1) := by decide +kernel
theorem dX2_one_86 : decode cX2_one 86 = .ok (.goto 14, 3) := by decide +kernel
theorem dX2_one_89 : decode cX2_one 89 = .ok (.iload 4, 2) := by decide +kernel
theorem dX2_one_91 : decode cX2_one 91 = .ok (.iconst 1, 1) := by decide +kernel
theorem dX2_one_92 : decode cX2_one 92 = .ok (.if_icmp .ne 7, 3) := by decide +kernel
theorem dX2_one_95 : decode cX2_one 95 = .ok (.iconst 2, 1) := by decide +kernel
theorem dX2_one_96 : decode cX2_one 96 = .ok (.goto 4, 3) := by decide +kernel
theorem dX2_one_99 : decode cX2_one 99 = .ok (.iconst 1, 1) := by decide +kernel
theorem dX2_one_100 : decode cX2_one 100 = .ok (.istore 6, 2) := by decide +kernel
theorem dX2_one_102 : decode cX2_one 102 = .ok (.iload_n 2, 1) := by decide +kernel
theorem dX2_one_103 : decode cX2_one 103 = .ok (.iconst 4, 1) := by decide +kernel
theorem dX2_one_104 : decode cX2_one 104 = .ok (.if_icmp .ne 37, 3) := by decide +kernel
theorem dX2_one_107 : decode cX2_one 107 = .ok (.aload_n 0, 1) := by decide +kernel
theorem dX2_one_108 : decode cX2_one 108 = .ok (.iconst 1, 1) := by decide +kernel
theorem dX2_one_109 : decode cX2_one 109 = .ok (.aload_n 0, 1) := by decide +kernel
theorem dX2_one_110 : decode cX2_one 110 = .ok (.getfield 9, 3) := by decide +kernel
theorem dX2_one_113 : decode cX2_one 113 = .ok (.iconst 1, 1) := by decide +kernel
theorem dX2_one_114 : decode cX2_one 114 = .ok (.iaload, 1) := by decide +kernel
theorem dX2_one_115 : decode cX2_one 115 = .ok (.iconst 2, 1) := by decide +kernel
theorem dX2_one_116 : decode cX2_one 116 = .ok (.isub, 1) := by decide +kernel
theorem dX2_one_117 : decode cX2_one 117 = .ok (.invokevirtual 47, 3) := by decide +kernel
theorem dX2_one_120 : decode cX2_one 120 = .ok (.aload_n 0, 1) := by decide +kernel
theorem dX2_one_121 : decode cX2_one 121 = .ok (.aload_n 0, 1) := by decide +kernel
theorem dX2_one_122 : decode cX2_one 122 = .ok (.getfield 9, 3) := by decide +kernel
theorem dX2_one_125 : decode cX2_one 125 = .ok (.iconst 1, 1) := by decide +kernel
theorem dX2_one_126 : decode cX2_one 126 = .ok (.iaload, 1) := by decide +kernel
theorem dX2_one_127 : decode cX2_one 127 = .ok (.putfield 143, 3) := by decide +kernel
theorem dX2_one_130 : decode cX2_one 130 = .ok (.aload_n 0, 1) := by decide +kernel
theorem dX2_one_131 : decode cX2_one 131 = .ok (.iload 5, 2) := by decide +kernel
theorem dX2_one_133 : decode cX2_one 133 = .ok (.invokevirtual 153, 3) := by decide +kernel
theorem dX2_one_136 : decode cX2_one 136 = .ok (.iconst 3, 1) := by decide +kernel
theorem dX2_one_137 : decode cX2_one 137 = .ok (.iload 6, 2) := by decide +kernel
theorem dX2_one_139 : decode cX2_one 139 = .ok (.iadd, 1) := by decide +kernel
theorem dX2_one_140 : decode cX2_one 140 = .ok (.ireturn, 1) := by decide +kernel
theorem dX2_one_141 : decode cX2_one 141 = .ok (.iload_n 2, 1) := by decide +kernel
theorem dX2_one_142 : decode cX2_one 142 = .ok (.iconst 5, 1) := by decide +kernel
theorem dX2_one_143 : decode cX2_one 143 = .ok (.if_icmp .ne 44, 3) := by decide +kernel
theorem dX2_one_146 : decode cX2_one 146 = .ok (.aload_n 0, 1) := by decide +kernel
theorem dX2_one_147 : decode cX2_one 147 = .ok (.aload_n 0, 1) := by decide +kernel
theorem dX2_one_148 : decode cX2_one 148 = .ok (.getfield 9, 3) := by decide +kernel
theorem dX2_one_151 : decode cX2_one 151 = .ok (.iconst 0, 1) := by decide +kernel
theorem dX2_one_152 : decode cX2_one 152 = .ok (.iaload, 1) := by decide +kernel
theorem dX2_one_153 : decode cX2_one 153 = .ok (.invokevirtual 116, 3) := by decide +kernel
theorem dX2_one_156 : decode cX2_one 156 = .ok (.aload_n 0, 1) := by decide +kernel
theorem dX2_one_157 : decode cX2_one 157 = .ok (.iconst 0, 1) := by decide +kernel
theorem dX2_one_158 : decode cX2_one 158 = .ok (.iload 5, 2) := by decide +kernel
theorem dX2_one_160 : decode cX2_one 160 = .ok (.invokevirtual 47, 3) := by decide +kernel
theorem dX2_one_163 : decode cX2_one 163 = .ok (.iload 6, 2) := by decide +kernel
theorem dX2_one_165 : decode cX2_one 165 = .ok (.iconst 2, 1) := by decide +kernel
theorem dX2_one_166 : decode cX2_one 166 = .ok (.if_icmp .eq 15, 3) := by decide +kernel
theorem dX2_one_169 : decode cX2_one 169 = .ok (.iload 6, 2) := by decide +kernel
theorem dX2_one_171 : decode cX2_one 171 = .ok (.iconst 1, 1) := by decide +kernel
theorem dX2_one_172 : decode cX2_one 172 = .ok (.if_icmp .ne 13, 3) := by decide +kernel
theorem dX2_one_175 : decode cX2_one 175 = .ok (.iload 4, 2) := by decide +kernel
theorem dX2_one_177 : decode cX2_one 177 = .ok (.iconst 3, 1) := by decide +kernel
theorem dX2_one_178 : decode cX2_one 178 = .ok (.if_icmp .ne 7, 3) := by decide +kernel
theorem dX2_one_181 : decode cX2_one 181 = .ok (.iconst 5, 1) := by decide +kernel
theorem dX2_one_182 : decode cX2_one 182 = .ok (.goto 4, 3) := by decide +kernel
theorem dX2_one_185 : decode cX2_one 185 = .ok (.iconst 4, 1) := by decide +kernel
theorem dX2_one_186 : decode cX2_one 186 = .ok (.ireturn, 1) := by decide +kernel
theorem dX2_one_187 : decode cX2_one 187 = .ok (.aload_n 0, 1) := by decide +kernel
theorem dX2_one_188 : decode cX2_one 188 = .ok (.aload_n 0, 1) := by decide +kernel
theorem dX2_one_189 : decode cX2_one 189 = .ok (.iload_n 2, 1) := by decide +kernel
theorem dX2_one_190 : decode cX2_one 190 = .ok (.iload 5, 2) := by decide +kernel
theorem dX2_one_192 : decode cX2_one 192 = .ok (.invokevirtual 163, 3) := by decide +kernel
theorem dX2_one_195 : decode cX2_one 195 = .ok (.invokevirtual 153, 3) := by decide +kernel
theorem dX2_one_198 : decode cX2_one 198 = .ok (.iload 6, 2) := by decide +kernel
theorem dX2_one_200 : decode cX2_one 200 = .ok (.ifCond .ne 7, 3) := by decide +kernel
theorem dX2_one_203 : decode cX2_one 203 = .ok (.iconst 1, 1) := by decide +kernel
theorem dX2_one_204 : decode cX2_one 204 = .ok (.goto 7, 3) := by decide +kernel
theorem dX2_one_207 : decode cX2_one 207 = .ok (.iconst 2, 1) := by decide +kernel
theorem dX2_one_208 : decode cX2_one 208 = .ok (.iload 6, 2) := by decide +kernel
theorem dX2_one_210 : decode cX2_one 210 = .ok (.iadd, 1) := by decide +kernel
theorem dX2_one_211 : decode cX2_one 211 = .ok (.ireturn, 1) := by decide +kernel
theorem dX2_turn_0 : decode cX2_turn 0 = .ok (.iload_n 1, 1) := by decide +kernel
theorem dX2_turn_1 : decode cX2_turn 1 = .ok (.iconst 1, 1) := by decide +kernel
theorem dX2_turn_2 : decode cX2_turn 2 = .ok (.if_icmp .ne 17, 3) := by decide +kernel
theorem dX2_turn_5 : decode cX2_turn 5 = .ok (.iload_n 2, 1) := by decide +kernel
theorem dX2_turn_6 : decode cX2_turn 6 = .ok (.sipush 255, 3) := by decide +kernel
theorem dX2_turn_9 : decode cX2_turn 9 = .ok (.iand, 1) := by decide +kernel
theorem dX2_turn_10 : decode cX2_turn 10 = .ok (.bipush 8, 2) := by decide +kernel
theorem dX2_turn_12 : decode cX2_turn 12 = .ok (.ishl, 1) := by decide +kernel
theorem dX2_turn_13 : decode cX2_turn 13 = .ok (.iload_n 2, 1) := by decide +kernel
theorem dX2_turn_14 : decode cX2_turn 14 = .ok (.bipush 8, 2) := by decide +kernel
theorem dX2_turn_16 : decode cX2_turn 16 = .ok (.ishr, 1) := by decide +kernel
theorem dX2_turn_17 : decode cX2_turn 17 = .ok (.ior, 1) := by decide +kernel
theorem dX2_turn_18 : decode cX2_turn 18 = .ok (.ireturn, 1) := by decide +kernel
theorem dX2_turn_19 : decode cX2_turn 19 = .ok (.iload_n 1, 1) := by decide +kernel
theorem dX2_turn_20 : decode cX2_turn 20 = .ok (.iconst 3, 1) := by decide +kernel
theorem dX2_turn_21 : decode cX2_turn 21 = .ok (.if_icmp .ne 26, 3) := by decide +kernel
theorem dX2_turn_24 : decode cX2_turn 24 = .ok (.iload_n 2, 1) := by decide +kernel
theorem dX2_turn_25 : decode cX2_turn 25 = .ok (.i2b, 1) := by decide +kernel
theorem dX2_turn_26 : decode cX2_turn 26 = .ok (.ldc 26, 2) := by decide +kernel
theorem dX2_turn_28 : decode cX2_turn 28 = .ok (.iand, 1) := by decide +kernel
theorem dX2_turn_29 : decode cX2_turn 29 = .ok (.istore_n 3, 1) := by decide +kernel
theorem dX2_turn_30 : decode cX2_turn 30 = .ok (.aload_n 0, 1) := by decide +kernel
theorem dX2_turn_31 : decode cX2_turn 31 = .ok (.iload_n 3, 1) := by decide +kernel
theorem dX2_turn_32 : decode cX2_turn 32 = .ok (.iload_n 3, 1) := by decide +kernel
theorem dX2_turn_33 : decode cX2_turn 33 = .ok (.ifCond .eq 7, 3) := by decide +kernel
theorem dX2_turn_36 : decode cX2_turn 36 = .ok (.iconst 1, 1) := by decide +kernel
theorem dX2_turn_37 : decode cX2_turn 37 = .ok (.goto 4, 3) := by decide +kernel
theorem dX2_turn_40 : decode cX2_turn 40 = .ok (.iconst 0, 1) := by decide +kernel
theorem dX2_turn_41 : decode cX2_turn 41 = .ok (.iconst 0, 1) := by decide +kernel
theorem dX2_turn_42 : decode cX2_turn 42 = .ok (.invokevirtual 166, 3) := by decide +kernel
theorem dX2_turn_45 : decode cX2_turn 45 = .ok (.iload_n 3, 1) := by decide +kernel
theorem dX2_turn_46 : decode cX2_turn 46 = .ok (.ireturn, 1) := by decide +kernel
theorem dX2_turn_47 : decode cX2_turn 47 = .ok (.aload_n 0, 1) := by decide +kernel
theorem dX2_turn_48 : decode cX2_turn 48 = .ok (.getfield 131, 3) := by decide +kernel
theorem dX2_turn_51 : decode cX2_turn 51 = .ok (.ifCond .eq 9, 3) := by decide +kernel
theorem dX2_turn_54 : decode cX2_turn 54 = .ok (.sipush 128, 3) := by decide +kernel
theorem dX2_turn_57 : decode cX2_turn 57 = .ok (.goto 5, 3) := by decide +kernel
theorem dX2_turn_60 : decode cX2_turn 60 = .ok (.ldc 170, 2) := by decide +kernel
theorem dX2_turn_62 : decode cX2_turn 62 = .ok (.istore_n 3, 1) := by decide +kernel
theorem dX2_turn_63 : decode cX2_turn 63 = .ok (.iload_n 1, 1) := by decide +kernel
theorem dX2_turn_64 : decode cX2_turn 64 = .ok (.ifCond .ne 16, 3) := by decide +kernel
theorem dX2_turn_67 : decode cX2_turn 67 = .ok (.aload_n 0, 1) := by decide +kernel
theorem dX2_turn_68 : decode cX2_turn 68 = .ok (.getfield 9, 3) := by decide +kernel
theorem dX2_turn_71 : decode cX2_turn 71 = .ok (.iconst 2, 1) := by decide +kernel
theorem dX2_turn_72 : decode cX2_turn 72 = .ok (.iaload, 1) := by decide +kernel
theorem dX2_turn_73 : decode cX2_turn 73 = .ok (.iconst 1, 1) := by decide +kernel
theorem dX2_turn_74 : decode cX2_turn 74 = .ok (.iand, 1) := by decide +kernel
theorem dX2_turn_75 : decode cX2_turn 75 = .ok (.iload_n 3, 1) := by decide +kernel
theorem dX2_turn_76 : decode cX2_turn 76 = .ok (.imul, 1) := by decide +kernel
theorem dX2_turn_77 : decode cX2_turn 77 = .ok (.goto 6, 3) := by decide +kernel
theorem dX2_turn_80 : decode cX2_turn 80 = .ok (.iload_n 2, 1) := by decide +kernel
theorem dX2_turn_81 : decode cX2_turn 81 = .ok (.iload_n 3, 1) := by decide +kernel
theorem dX2_turn_82 : decode cX2_turn 82 = .ok (.iand, 1) := by decide +kernel
theorem dX2_turn_83 : decode cX2_turn 83 = .ok (.istore 4, 2) := by decide +kernel
theorem dX2_turn_85 : decode cX2_turn 85 = .ok (.iload_n 2, 1) := by decide +kernel
theorem dX2_turn_86 : decode cX2_turn 86 = .ok (.iconst 1, 1) := by decide +kernel
theorem dX2_turn_87 : decode cX2_turn 87 = .ok (.ishr, 1) := by decide +kernel
theorem dX2_turn_88 : decode cX2_turn 88 = .ok (.iload 4, 2) := by decide +kernel
theorem dX2_turn_90 : decode cX2_turn 90 = .ok (.ior, 1) := by decide +kernel
theorem dX2_turn_91 : decode cX2_turn 91 = .ok (.istore 5, 2) := by decide +kernel
theorem dX2_turn_93 : decode cX2_turn 93 = .ok (.aload_n 0, 1) := by decide +kernel
theorem dX2_turn_94 : decode cX2_turn 94 = .ok (.iload 5, 2) := by decide +kernel
theorem dX2_turn_96 : decode cX2_turn 96 = .ok (.iload_n 2, 1) := by decide +kernel
theorem dX2_turn_97 : decode cX2_turn 97 = .ok (.iconst 1, 1) := by decide +kernel
theorem dX2_turn_98 : decode cX2_turn 98 = .ok (.iand, 1) := by decide +kernel
theorem dX2_turn_99 : decode cX2_turn 99 = .ok (.ifCond .eq 7, 3) := by decide +kernel
theorem dX2_turn_102 : decode cX2_turn 102 = .ok (.iconst 1, 1) := by decide +kernel
theorem dX2_turn_103 : decode cX2_turn 103 = .ok (.goto 4, 3) := by decide +kernel
theorem dX2_turn_106 : decode cX2_turn 106 = .ok (.iconst 0, 1) := by decide +kernel
theorem dX2_turn_107 : decode cX2_turn 107 = .ok (.iconst 0, 1) := by decide +kernel
theorem dX2_turn_108 : decode cX2_turn 108 = .ok (.invokevirtual 166, 3) := by decide +kernel
theorem dX2_turn_111 : decode cX2_turn 111 = .ok (.iload 5, 2) := by decide +kernel
theorem dX2_turn_113 : decode cX2_turn 113 = .ok (.ireturn, 1) := by decide +kernel
theorem dX2_operand_0 : decode cX2_operand 0 = .ok (.iload_n 1, 1) := by decide +kernel
theorem dX2_operand_1 : decode cX2_operand 1 = .ok (.iload_n 2, 1) := by decide +kernel
theorem dX2_operand_2 : decode cX2_operand 2 = .ok (.invokestatic 156, 3) := by decide +kernel
theorem dX2_operand_5 : decode cX2_operand 5 = .ok (.ifCond .eq 33, 3) := by decide +kernel
theorem dX2_operand_8 : decode cX2_operand 8 = .ok (.aload_n 0, 1) := by decide +kernel
theorem dX2_operand_9 : decode cX2_operand 9 = .ok (.iconst (-1), 1) := by decide +kernel
theorem dX2_operand_10 : decode cX2_operand 10 = .ok (.putfield 143, 3) := by decide +kernel
theorem dX2_operand_13 : decode cX2_operand 13 = .ok (.aload_n 0, 1) := by decide +kernel
theorem dX2_operand_14 : decode cX2_operand 14 = .ok (.getfield 131, 3) := by decide +kernel
theorem dX2_operand_17 : decode cX2_operand 17 = .ok (.ifCond .eq 15, 3) := by decide +kernel
theorem dX2_operand_20 : decode cX2_operand 20 = .ok (.iload_n 1, 1) := by decide +kernel
theorem dX2_operand_21 : decode cX2_operand 21 = .ok (.iload_n 2, 1) := by decide +kernel
theorem dX2_operand_22 : decode cX2_operand 22 = .ok (.invokestatic 171, 3) := by decide +kernel
theorem dX2_operand_25 : decode cX2_operand 25 = .ok (.sipush 255, 3) := by decide +kernel
theorem dX2_operand_28 : decode cX2_operand 28 = .ok (.iand, 1) := by decide +kernel
theorem dX2_operand_29 : decode cX2_operand 29 = .ok (.goto 8, 3) := by decide +kernel
theorem dX2_operand_32 : decode cX2_operand 32 = .ok (.iload_n 1, 1) := by decide +kernel
theorem dX2_operand_33 : decode cX2_operand 33 = .ok (.iload_n 2, 1) := by decide +kernel
theorem dX2_operand_34 : decode cX2_operand 34 = .ok (.invokestatic 171, 3) := by decide +kernel
theorem dX2_operand_37 : decode cX2_operand 37 = .ok (.ireturn, 1) := by decide +kernel
theorem dX2_operand_38 : decode cX2_operand 38 = .ok (.iload_n 1, 1) := by decide +kernel
theorem dX2_operand_39 : decode cX2_operand 39 = .ok (.ifCond .ne 14, 3) := by decide +kernel
theorem dX2_operand_42 : decode cX2_operand 42 = .ok (.aload_n 0, 1) := by decide +kernel
theorem dX2_operand_43 : decode cX2_operand 43 = .ok (.ldc 142, 2) := by decide +kernel
theorem dX2_operand_45 : decode cX2_operand 45 = .ok (.iload_n 2, 1) := by decide +kernel
theorem dX2_operand_46 : decode cX2_operand 46 = .ok (.iadd, 1) := by decide +kernel
theorem dX2_operand_47 : decode cX2_operand 47 = .ok (.putfield 143, 3) := by decide +kernel
theorem dX2_operand_50 : decode cX2_operand 50 = .ok (.goto 30, 3) := by decide +kernel
theorem dX2_operand_53 : decode cX2_operand 53 = .ok (.iload_n 1, 1) := by decide +kernel
theorem dX2_operand_54 : decode cX2_operand 54 = .ok (.iconst 1, 1) := by decide +kernel
theorem dX2_operand_55 : decode cX2_operand 55 = .ok (.if_icmp .ne 15, 3) := by decide +kernel
theorem dX2_operand_58 : decode cX2_operand 58 = .ok (.aload_n 0, 1) := by decide +kernel
theorem dX2_operand_59 : decode cX2_operand 59 = .ok (.aload_n 0, 1) := by decide +kernel
theorem dX2_operand_60 : decode cX2_operand 60 = .ok (.iload_n 2, 1) := by decide +kernel
theorem dX2_operand_61 : decode cX2_operand 61 = .ok (.invokevirtual 139, 3) := by decide +kernel
theorem dX2_operand_64 : decode cX2_operand 64 = .ok (.putfield 143, 3) := by decide +kernel
theorem dX2_operand_67 : decode cX2_operand 67 = .ok (.goto 13, 3) := by decide +kernel
theorem dX2_operand_70 : decode cX2_operand 70 = .ok (.aload_n 0, 1) := by decide +kernel
theorem dX2_operand_71 : decode cX2_operand 71 = .ok (.aload_n 0, 1) := by decide +kernel
theorem dX2_operand_72 : decode cX2_operand 72 = .ok (.getfield 9, 3) := by decide +kernel
theorem dX2_operand_75 : decode cX2_operand 75 = .ok (.iload_n 2, 1) := by decide +kernel
theorem dX2_operand_76 : decode cX2_operand 76 = .ok (.iaload, 1) := by decide +kernel
theorem dX2_operand_77 : decode cX2_operand 77 = .ok (.putfield 143, 3) := by decide +kernel
theorem dX2_operand_80 : decode cX2_operand 80 = .ok (.aload_n 0, 1) := by decide +kernel
theorem dX2_operand_81 : decode cX2_operand 81 = .ok (.invokevirtual 146, 3) := by decide +kernel
theorem dX2_operand_84 : decode cX2_operand 84 = .ok (.istore_n 3, 1) := by decide +kernel
theorem dX2_operand_85 : decode cX2_operand 85 = .ok (.iload_n 1, 1) := by decide +kernel
theorem dX2_operand_86 : decode cX2_operand 86 = .ok (.iconst 3, 1) := by decide +kernel
theorem dX2_operand_87 : decode cX2_operand 87 = .ok (.if_icmp .ne 36, 3) := by decide +kernel
theorem dX2_operand_90 : decode cX2_operand 90 = .ok (.aload_n 0, 1) := by decide +kernel
theorem dX2_operand_91 : decode cX2_operand 91 = .ok (.iload_n 2, 1) := by decide +kernel
theorem dX2_operand_92 : decode cX2_operand 92 = .ok (.aload_n 0, 1) := by decide +kernel
theorem dX2_operand_93 : decode cX2_operand 93 = .ok (.getfield 9, 3) := by decide +kernel
theorem dX2_operand_96 : decode cX2_operand 96 = .ok (.iload_n 2, 1) := by decide +kernel
theorem dX2_operand_97 : decode cX2_operand 97 = .ok (.iaload, 1) := by decide +kernel
theorem dX2_operand_98 : decode cX2_operand 98 = .ok (.aload_n 0, 1) := by decide +kernel
theorem dX2_operand_99 : decode cX2_operand 99 = .ok (.getfield 131, 3) := by decide +kernel
theorem dX2_operand_102 : decode cX2_operand 102 = .ok (.ifCond .eq 16, 3) := by decide +kernel
theorem dX2_operand_105 : decode cX2_operand 105 = .ok (.iload_n 2, 1) := by decide +kernel
theorem dX2_operand_106 : decode cX2_operand 106 = .ok (.ifCond .eq 12, 3) := by decide +kernel
theorem dX2_operand_109 : decode cX2_operand 109 = .ok (.iload_n 2, 1) := by decide +kernel
theorem dX2_operand_110 : decode cX2_operand 110 = .ok (.iconst 1, 1) := by decide +kernel
theorem dX2_operand_111 : decode cX2_operand 111 = .ok (.if_icmp .eq 7, 3) := by decide +kernel
theorem dX2_operand_114 : decode cX2_operand 114 = .ok (.iconst 1, 1) := by decide +kernel
theorem dX2_operand_115 : decode cX2_operand 115 = .ok (.goto 4, 3) := by decide +kernel
theorem dX2_operand_118 : decode cX2_operand 118 = .ok (.iconst 2, 1) := by decide +kernel
theorem dX2_operand_119 : decode cX2_operand 119 = .ok (.iadd, 1) := by decide +kernel
theorem dX2_operand_120 : decode cX2_operand 120 = .ok (.invokevirtual 47, 3) := by decide +kernel
theorem dX2_operand_123 : decode cX2_operand 123 = .ok (.iload_n 3, 1) := by decide +kernel
theorem dX2_operand_124 : decode cX2_operand 124 = .ok (.ireturn, 1) := by decide +kernel
theorem dX2_indexed_0 : decode cX2_indexed 0 = .ok (.aload_n 0, 1) := by decide +kernel
theorem dX2_indexed_1 : decode cX2_indexed 1 = .ok (.getfield 9, 3) := by decide +kernel
theorem dX2_indexed_4 : decode cX2_indexed 4 = .ok (.iconst 0, 1) := by decide +kernel
theorem dX2_indexed_5 : decode cX2_indexed 5 = .ok (.iaload, 1) := by decide +kernel
theorem dX2_indexed_6 : decode cX2_indexed 6 = .ok (.istore_n 2, 1) := by decide +kernel
theorem dX2_indexed_7 : decode cX2_indexed 7 = .ok (.aload_n 0, 1) := by decide +kernel
theorem dX2_indexed_8 : decode cX2_indexed 8 = .ok (.getfield 22, 3) := by decide +kernel
theorem dX2_indexed_11 : decode cX2_indexed 11 = .ok (.iload_n 2, 1) := by decide +kernel
theorem dX2_indexed_12 : decode cX2_indexed 12 = .ok (.invokevirtual 119, 3) := by decide +kernel
theorem dX2_indexed_15 : decode cX2_indexed 15 = .ok (.istore_n 3, 1) := by decide +kernel
theorem dX2_indexed_16 : decode cX2_indexed 16 = .ok (.aload_n 0, 1) := by decide +kernel
theorem dX2_indexed_17 : decode cX2_indexed 17 = .ok (.iconst 0, 1) := by decide +kernel
theorem dX2_indexed_18 : decode cX2_indexed 18 = .ok (.iload_n 2, 1) := by decide +kernel
theorem dX2_indexed_19 : decode cX2_indexed 19 = .ok (.iconst 2, 1) := by decide +kernel
theorem dX2_indexed_20 : decode cX2_indexed 20 = .ok (.iadd, 1) := by decide +kernel
theorem dX2_indexed_21 : decode cX2_indexed 21 = .ok (.invokevirtual 47, 3) := by decide +kernel
theorem dX2_indexed_24 : decode cX2_indexed 24 = .ok (.iload_n 1, 1) := by decide +kernel
theorem dX2_indexed_25 : decode cX2_indexed 25 = .ok (.ifCond .ne 10, 3) := by decide +kernel
theorem dX2_indexed_28 : decode cX2_indexed 28 = .ok (.iload_n 2, 1) := by decide +kernel
theorem dX2_indexed_29 : decode cX2_indexed 29 = .ok (.iload_n 3, 1) := by decide +kernel
theorem dX2_indexed_30 : decode cX2_indexed 30 = .ok (.iadd, 1) := by decide +kernel
theorem dX2_indexed_31 : decode cX2_indexed 31 = .ok (.ldc 26, 2) := by decide +kernel
theorem dX2_indexed_33 : decode cX2_indexed 33 = .ok (.iand, 1) := by decide +kernel
theorem dX2_indexed_34 : decode cX2_indexed 34 = .ok (.ireturn, 1) := by decide +kernel
theorem dX2_indexed_35 : decode cX2_indexed 35 = .ok (.iload_n 1, 1) := by decide +kernel
theorem dX2_indexed_36 : decode cX2_indexed 36 = .ok (.iconst 2, 1) := by decide +kernel
theorem dX2_indexed_37 : decode cX2_indexed 37 = .ok (.if_icmp .eq 8, 3) := by decide +kernel
theorem dX2_indexed_40 : decode cX2_indexed 40 = .ok (.iload_n 1, 1) := by decide +kernel
theorem dX2_indexed_41 : decode cX2_indexed 41 = .ok (.iconst 3, 1) := by decide +kernel
theorem dX2_indexed_42 : decode cX2_indexed 42 = .ok (.if_icmp .ne 7, 3) := by decide +kernel
theorem dX2_indexed_45 : decode cX2_indexed 45 = .ok (.iload_n 3, 1) := by decide +kernel
theorem dX2_indexed_46 : decode cX2_indexed 46 = .ok (.goto 14, 3) := by decide +kernel
theorem dX2_indexed_49 : decode cX2_indexed 49 = .ok (.aload_n 0, 1) := by decide +kernel
theorem dX2_indexed_50 : decode cX2_indexed 50 = .ok (.getfield 9, 3) := by decide +kernel
theorem dX2_indexed_53 : decode cX2_indexed 53 = .ok (.iload_n 1, 1) := by decide +kernel
theorem dX2_indexed_54 : decode cX2_indexed 54 = .ok (.iaload, 1) := by decide +kernel
theorem dX2_indexed_55 : decode cX2_indexed 55 = .ok (.iload_n 3, 1) := by decide +kernel
theorem dX2_indexed_56 : decode cX2_indexed 56 = .ok (.iadd, 1) := by decide +kernel
theorem dX2_indexed_57 : decode cX2_indexed 57 = .ok (.ldc 26, 2) := by decide +kernel
theorem dX2_indexed_59 : decode cX2_indexed 59 = .ok (.iand, 1) := by decide +kernel
theorem dX2_indexed_60 : decode cX2_indexed 60 = .ok (.ireturn, 1) := by decide +kernel
theorem dX2_load_0 : decode cX2_load 0 = .ok (.aload_n 0, 1) := by decide +kernel
theorem dX2_load_1 : decode cX2_load 1 = .ok (.getfield 143, 3) := by decide +kernel
theorem dX2_load_4 : decode cX2_load 4 = .ok (.ldc 142, 2) := by decide +kernel
theorem dX2_load_6 : decode cX2_load 6 = .ok (.if_icmp .lt 33, 3) := by decide +kernel
theorem dX2_load_9 : decode cX2_load 9 = .ok (.aload_n 0, 1) := by decide +kernel
theorem dX2_load_10 : decode cX2_load 10 = .ok (.getfield 9, 3) := by decide +kernel
theorem dX2_load_13 : decode cX2_load 13 = .ok (.aload_n 0, 1) := by decide +kernel
theorem dX2_load_14 : decode cX2_load 14 = .ok (.getfield 143, 3) := by decide +kernel
theorem dX2_load_17 : decode cX2_load 17 = .ok (.bipush 15, 2) := by decide +kernel
theorem dX2_load_19 : decode cX2_load 19 = .ok (.iand, 1) := by decide +kernel
theorem dX2_load_20 : decode cX2_load 20 = .ok (.iaload, 1) := by decide +kernel
theorem dX2_load_21 : decode cX2_load 21 = .ok (.istore_n 1, 1) := by decide +kernel
theorem dX2_load_22 : decode cX2_load 22 = .ok (.aload_n 0, 1) := by decide +kernel
theorem dX2_load_23 : decode cX2_load 23 = .ok (.getfield 131, 3) := by decide +kernel
theorem dX2_load_26 : decode cX2_load 26 = .ok (.ifCond .eq 11, 3) := by decide +kernel
theorem dX2_load_29 : decode cX2_load 29 = .ok (.iload_n 1, 1) := by decide +kernel
theorem dX2_load_30 : decode cX2_load 30 = .ok (.sipush 255, 3) := by decide +kernel
theorem dX2_load_33 : decode cX2_load 33 = .ok (.iand, 1) := by decide +kernel
theorem dX2_load_34 : decode cX2_load 34 = .ok (.goto 4, 3) := by decide +kernel
theorem dX2_load_37 : decode cX2_load 37 = .ok (.iload_n 1, 1) := by decide +kernel
theorem dX2_load_38 : decode cX2_load 38 = .ok (.ireturn, 1) := by decide +kernel
theorem dX2_load_39 : decode cX2_load 39 = .ok (.aload_n 0, 1) := by decide +kernel
theorem dX2_load_40 : decode cX2_load 40 = .ok (.getfield 131, 3) := by decide +kernel
theorem dX2_load_43 : decode cX2_load 43 = .ok (.ifCond .eq 17, 3) := by decide +kernel
theorem dX2_load_46 : decode cX2_load 46 = .ok (.aload_n 0, 1) := by decide +kernel
theorem dX2_load_47 : decode cX2_load 47 = .ok (.getfield 22, 3) := by decide +kernel
theorem dX2_load_50 : decode cX2_load 50 = .ok (.aload_n 0, 1) := by decide +kernel
theorem dX2_load_51 : decode cX2_load 51 = .ok (.getfield 143, 3) := by decide +kernel
theorem dX2_load_54 : decode cX2_load 54 = .ok (.invokevirtual 174, 3) := by decide +kernel
theorem dX2_load_57 : decode cX2_load 57 = .ok (.goto 14, 3) := by decide +kernel
theorem dX2_load_60 : decode cX2_load 60 = .ok (.aload_n 0, 1) := by decide +kernel
theorem dX2_load_61 : decode cX2_load 61 = .ok (.getfield 22, 3) := by decide +kernel
theorem dX2_load_64 : decode cX2_load 64 = .ok (.aload_n 0, 1) := by decide +kernel
theorem dX2_load_65 : decode cX2_load 65 = .ok (.getfield 143, 3) := by decide +kernel
theorem dX2_load_68 : decode cX2_load 68 = .ok (.invokevirtual 119, 3) := by decide +kernel
theorem dX2_load_71 : decode cX2_load 71 = .ok (.ireturn, 1) := by decide +kernel
theorem dX2_store_0 : decode cX2_store 0 = .ok (.aload_n 0, 1) := by decide +kernel
theorem dX2_store_1 : decode cX2_store 1 = .ok (.getfield 143, 3) := by decide +kernel
theorem dX2_store_4 : decode cX2_store 4 = .ok (.iconst (-1), 1) := by decide +kernel
theorem dX2_store_5 : decode cX2_store 5 = .ok (.if_icmp .ne 4, 3) := by decide +kernel
theorem dX2_store_8 : decode cX2_store 8 = .ok (.return_, 1) := by decide +kernel
theorem dX2_store_9 : decode cX2_store 9 = .ok (.aload_n 0, 1) := by decide +kernel
theorem dX2_store_10 : decode cX2_store 10 = .ok (.getfield 143, 3) := by decide +kernel
theorem dX2_store_13 : decode cX2_store 13 = .ok (.ldc 142, 2) := by decide +kernel
theorem dX2_store_15 : decode cX2_store 15 = .ok (.if_icmp .lt 33, 3) := by decide +kernel
theorem dX2_store_18 : decode cX2_store 18 = .ok (.aload_n 0, 1) := by decide +kernel
theorem dX2_store_19 : decode cX2_store 19 = .ok (.aload_n 0, 1) := by decide +kernel
theorem dX2_store_20 : decode cX2_store 20 = .ok (.getfield 143, 3) := by decide +kernel
theorem dX2_store_23 : decode cX2_store 23 = .ok (.bipush 15, 2) := by decide +kernel
theorem dX2_store_25 : decode cX2_store 25 = .ok (.iand, 1) := by decide +kernel
theorem dX2_store_26 : decode cX2_store 26 = .ok (.aload_n 0, 1) := by decide +kernel
theorem dX2_store_27 : decode cX2_store 27 = .ok (.getfield 131, 3) := by decide +kernel
theorem dX2_store_30 : decode cX2_store 30 = .ok (.ifCond .eq 11, 3) := by decide +kernel
theorem dX2_store_33 : decode cX2_store 33 = .ok (.iload_n 1, 1) := by decide +kernel
theorem dX2_store_34 : decode cX2_store 34 = .ok (.sipush 255, 3) := by decide +kernel
theorem dX2_store_37 : decode cX2_store 37 = .ok (.iand, 1) := by decide +kernel
theorem dX2_store_38 : decode cX2_store 38 = .ok (.goto 4, 3) := by decide +kernel
theorem dX2_store_41 : decode cX2_store 41 = .ok (.iload_n 1, 1) := by decide +kernel
theorem dX2_store_42 : decode cX2_store 42 = .ok (.invokevirtual 47, 3) := by decide +kernel
theorem dX2_store_45 : decode cX2_store 45 = .ok (.goto 37, 3) := by decide +kernel
theorem dX2_store_48 : decode cX2_store 48 = .ok (.aload_n 0, 1) := by decide +kernel
theorem dX2_store_49 : decode cX2_store 49 = .ok (.getfield 131, 3) := by decide +kernel
theorem dX2_store_52 : decode cX2_store 52 = .ok (.ifCond .eq 18, 3) := by decide +kernel
theorem dX2_store_55 : decode cX2_store 55 = .ok (.aload_n 0, 1) := by decide +kernel
theorem dX2_store_56 : decode cX2_store 56 = .ok (.getfield 22, 3) := by decide +kernel
theorem dX2_store_59 : decode cX2_store 59 = .ok (.aload_n 0, 1) := by decide +kernel
theorem dX2_store_60 : decode cX2_store 60 = .ok (.getfield 143, 3) := by decide +kernel
theorem dX2_store_63 : decode cX2_store 63 = .ok (.iload_n 1, 1) := by decide +kernel
theorem dX2_store_64 : decode cX2_store 64 = .ok (.invokevirtual 177, 3) := by decide +kernel
theorem dX2_store_67 : decode cX2_store 67 = .ok (.goto 15, 3) := by decide +kernel
theorem dX2_store_70 : decode cX2_store 70 = .ok (.aload_n 0, 1) := by decide +kernel
theorem dX2_store_71 : decode cX2_store 71 = .ok (.getfield 22, 3) := by decide +kernel
theorem dX2_store_74 : decode cX2_store 74 = .ok (.aload_n 0, 1) := by decide +kernel
theorem dX2_store_75 : decode cX2_store 75 = .ok (.getfield 143, 3) := by decide +kernel
theorem dX2_store_78 : decode cX2_store 78 = .ok (.iload_n 1, 1) := by decide +kernel
theorem dX2_store_79 : decode cX2_store 79 = .ok (.invokevirtual 128, 3) := by decide +kernel
theorem dX2_store_82 : decode cX2_store 82 = .ok (.return_, 1) := by decide +kernel
theorem dX2_compute_0 : decode cX2_compute 0 = .ok (.aload_n 0, 1) := by decide +kernel
theorem dX2_compute_1 : decode cX2_compute 1 = .ok (.getfield 131, 3) := by decide +kernel
theorem dX2_compute_4 : decode cX2_compute 4 = .ok (.ifCond .eq 9, 3) := by decide +kernel
theorem dX2_compute_7 : decode cX2_compute 7 = .ok (.sipush 255, 3) := by decide +kernel
theorem dX2_compute_10 : decode cX2_compute 10 = .ok (.goto 5, 3) := by decide +kernel
theorem dX2_compute_13 : decode cX2_compute 13 = .ok (.ldc 26, 2) := by decide +kernel
theorem dX2_compute_15 : decode cX2_compute 15 = .ok (.istore 4, 2) := by decide +kernel
theorem dX2_compute_17 : decode cX2_compute 17 = .ok (.aload_n 0, 1) := by decide +kernel
theorem dX2_compute_18 : decode cX2_compute 18 = .ok (.getfield 9, 3) := by decide +kernel
theorem dX2_compute_21 : decode cX2_compute 21 = .ok (.iconst 2, 1) := by decide +kernel
theorem dX2_compute_22 : decode cX2_compute 22 = .ok (.iaload, 1) := by decide +kernel
theorem dX2_compute_23 : decode cX2_compute 23 = .ok (.iconst 1, 1) := by decide +kernel
theorem dX2_compute_24 : decode cX2_compute 24 = .ok (.iand, 1) := by decide +kernel
theorem dX2_compute_25 : decode cX2_compute 25 = .ok (.istore 5, 2) := by decide +kernel
theorem dX2_compute_27 : decode cX2_compute 27 = .ok (.iload_n 1, 1) := by decide +kernel
theorem dX2_compute_28 : decode cX2_compute 28 = .ok (.tableswitch 130 4 14 #[60, 62, 70, 79, 93, 93, 106, 130, 113, 119, 123], 60) := by decide +kernel
theorem dX2_compute_88 : decode cX2_compute 88 = .ok (.iload_n 2, 1) := by decide +kernel
theorem dX2_compute_89 : decode cX2_compute 89 = .ok (.ireturn, 1) := by decide +kernel
theorem dX2_compute_90 : decode cX2_compute 90 = .ok (.aload_n 0, 1) := by decide +kernel
theorem dX2_compute_91 : decode cX2_compute 91 = .ok (.iload_n 2, 1) := by decide +kernel
theorem dX2_compute_92 : decode cX2_compute 92 = .ok (.iload_n 3, 1) := by decide +kernel
theorem dX2_compute_93 : decode cX2_compute 93 = .ok (.iconst 0, 1) := by decide +kernel
theorem dX2_compute_94 : decode cX2_compute 94 = .ok (.invokevirtual 180, 3) := by decide +kernel
theorem dX2_compute_97 : decode cX2_compute 97 = .ok (.ireturn, 1) := by decide +kernel
theorem dX2_compute_98 : decode cX2_compute 98 = .ok (.aload_n 0, 1) := by decide +kernel
theorem dX2_compute_99 : decode cX2_compute 99 = .ok (.iload_n 2, 1) := by decide +kernel
theorem dX2_compute_100 : decode cX2_compute 100 = .ok (.iload_n 3, 1) := by decide +kernel
theorem dX2_compute_101 : decode cX2_compute 101 = .ok (.iload 5, 2) := by decide +kernel
theorem dX2_compute_103 : decode cX2_compute 103 = .ok (.invokevirtual 180, 3) := by decide +kernel
theorem dX2_compute_106 : decode cX2_compute 106 = .ok (.ireturn, 1) := by decide +kernel
theorem dX2_compute_107 : decode cX2_compute 107 = .ok (.aload_n 0, 1) := by decide +kernel
theorem dX2_compute_108 : decode cX2_compute 108 = .ok (.iload_n 2, 1) := by decide +kernel
theorem dX2_compute_109 : decode cX2_compute 109 = .ok (.iconst (-1), 1) := by decide +kernel
theorem dX2_compute_110 : decode cX2_compute 110 = .ok (.ixor, 1) := by decide +kernel
theorem dX2_compute_111 : decode cX2_compute 111 = .ok (.iload 4, 2) := by decide +kernel
theorem dX2_compute_113 : decode cX2_compute 113 = .ok (.iand, 1) := by decide +kernel
theorem dX2_compute_114 : decode cX2_compute 114 = .ok (.iload_n 3, 1) := by decide +kernel
theorem dX2_compute_115 : decode cX2_compute 115 = .ok (.iload 5, 2) := by decide +kernel
theorem dX2_compute_117 : decode cX2_compute 117 = .ok (.invokevirtual 180, 3) := by decide +kernel
theorem dX2_compute_120 : decode cX2_compute 120 = .ok (.ireturn, 1) := by decide +kernel
theorem dX2_compute_121 : decode cX2_compute 121 = .ok (.aload_n 0, 1) := by decide +kernel
theorem dX2_compute_122 : decode cX2_compute 122 = .ok (.iload_n 2, 1) := by decide +kernel
theorem dX2_compute_123 : decode cX2_compute 123 = .ok (.iconst (-1), 1) := by decide +kernel
theorem dX2_compute_124 : decode cX2_compute 124 = .ok (.ixor, 1) := by decide +kernel
theorem dX2_compute_125 : decode cX2_compute 125 = .ok (.iload 4, 2) := by decide +kernel
theorem dX2_compute_127 : decode cX2_compute 127 = .ok (.iand, 1) := by decide +kernel
theorem dX2_compute_128 : decode cX2_compute 128 = .ok (.iload_n 3, 1) := by decide +kernel
theorem dX2_compute_129 : decode cX2_compute 129 = .ok (.iconst 1, 1) := by decide +kernel
theorem dX2_compute_130 : decode cX2_compute 130 = .ok (.invokevirtual 180, 3) := by decide +kernel
theorem dX2_compute_133 : decode cX2_compute 133 = .ok (.ireturn, 1) := by decide +kernel
theorem dX2_compute_134 : decode cX2_compute 134 = .ok (.aload_n 0, 1) := by decide +kernel
theorem dX2_compute_135 : decode cX2_compute 135 = .ok (.iload_n 2, 1) := by decide +kernel
theorem dX2_compute_136 : decode cX2_compute 136 = .ok (.iload_n 3, 1) := by decide +kernel
theorem dX2_compute_137 : decode cX2_compute 137 = .ok (.invokevirtual 183, 3) := by decide +kernel
theorem dX2_compute_140 : decode cX2_compute 140 = .ok (.ireturn, 1) := by decide +kernel
theorem dX2_compute_141 : decode cX2_compute 141 = .ok (.iload_n 3, 1) := by decide +kernel
theorem dX2_compute_142 : decode cX2_compute 142 = .ok (.iload_n 2, 1) := by decide +kernel
theorem dX2_compute_143 : decode cX2_compute 143 = .ok (.iconst (-1), 1) := by decide +kernel
theorem dX2_compute_144 : decode cX2_compute 144 = .ok (.ixor, 1) := by decide +kernel
theorem dX2_compute_145 : decode cX2_compute 145 = .ok (.iand, 1) := by decide +kernel
theorem dX2_compute_146 : decode cX2_compute 146 = .ok (.ireturn, 1) := by decide +kernel
theorem dX2_compute_147 : decode cX2_compute 147 = .ok (.iload_n 3, 1) := by decide +kernel
theorem dX2_compute_148 : decode cX2_compute 148 = .ok (.iload_n 2, 1) := by decide +kernel
theorem dX2_compute_149 : decode cX2_compute 149 = .ok (.ior, 1) := by decide +kernel
theorem dX2_compute_150 : decode cX2_compute 150 = .ok (.ireturn, 1) := by decide +kernel
theorem dX2_compute_151 : decode cX2_compute 151 = .ok (.aload_n 0, 1) := by decide +kernel
theorem dX2_compute_152 : decode cX2_compute 152 = .ok (.iload_n 2, 1) := by decide +kernel
theorem dX2_compute_153 : decode cX2_compute 153 = .ok (.iload_n 3, 1) := by decide +kernel
theorem dX2_compute_154 : decode cX2_compute 154 = .ok (.invokevirtual 186, 3) := by decide +kernel
theorem dX2_compute_157 : decode cX2_compute 157 = .ok (.ireturn, 1) := by decide +kernel
theorem dX2_compute_158 : decode cX2_compute 158 = .ok (.aload_n 0, 1) := by decide +kernel
theorem dX2_compute_159 : decode cX2_compute 159 = .ok (.iload_n 2, 1) := by decide +kernel
theorem dX2_compute_160 : decode cX2_compute 160 = .ok (.iload_n 3, 1) := by decide +kernel
theorem dX2_compute_161 : decode cX2_compute 161 = .ok (.invokevirtual 189, 3) := by decide +kernel
theorem dX2_compute_164 : decode cX2_compute 164 = .ok (.ireturn, 1) := by decide +kernel
theorem dX2_common_0 : decode cX2_common 0 = .ok (.iload_n 1, 1) := by decide +kernel
theorem dX2_common_1 : decode cX2_common 1 = .ok (.iload_n 2, 1) := by decide +kernel
theorem dX2_common_2 : decode cX2_common 2 = .ok (.iand, 1) := by decide +kernel
theorem dX2_common_3 : decode cX2_common 3 = .ok (.istore_n 3, 1) := by decide +kernel
theorem dX2_common_4 : decode cX2_common 4 = .ok (.aload_n 0, 1) := by decide +kernel
theorem dX2_common_5 : decode cX2_common 5 = .ok (.iload_n 3, 1) := by decide +kernel
theorem dX2_common_6 : decode cX2_common 6 = .ok (.iload_n 3, 1) := by decide +kernel
theorem dX2_common_7 : decode cX2_common 7 = .ok (.ifCond .eq 7, 3) := by decide +kernel
theorem dX2_common_10 : decode cX2_common 10 = .ok (.iconst 1, 1) := by decide +kernel
theorem dX2_common_11 : decode cX2_common 11 = .ok (.goto 4, 3) := by decide +kernel
theorem dX2_common_14 : decode cX2_common 14 = .ok (.iconst 0, 1) := by decide +kernel
theorem dX2_common_15 : decode cX2_common 15 = .ok (.iconst 0, 1) := by decide +kernel
theorem dX2_common_16 : decode cX2_common 16 = .ok (.invokevirtual 166, 3) := by decide +kernel
theorem dX2_common_19 : decode cX2_common 19 = .ok (.iload_n 3, 1) := by decide +kernel
theorem dX2_common_20 : decode cX2_common 20 = .ok (.ireturn, 1) := by decide +kernel
theorem dX2_sum_0 : decode cX2_sum 0 = .ok (.aload_n 0, 1) := by decide +kernel
theorem dX2_sum_1 : decode cX2_sum 1 = .ok (.getfield 131, 3) := by decide +kernel
theorem dX2_sum_4 : decode cX2_sum 4 = .ok (.ifCond .eq 9, 3) := by decide +kernel
theorem dX2_sum_7 : decode cX2_sum 7 = .ok (.sipush 255, 3) := by decide +kernel
theorem dX2_sum_10 : decode cX2_sum 10 = .ok (.goto 5, 3) := by decide +kernel
theorem dX2_sum_13 : decode cX2_sum 13 = .ok (.ldc 26, 2) := by decide +kernel
theorem dX2_sum_15 : decode cX2_sum 15 = .ok (.istore 4, 2) := by decide +kernel
theorem dX2_sum_17 : decode cX2_sum 17 = .ok (.aload_n 0, 1) := by decide +kernel
theorem dX2_sum_18 : decode cX2_sum 18 = .ok (.getfield 131, 3) := by decide +kernel
theorem dX2_sum_21 : decode cX2_sum 21 = .ok (.ifCond .eq 9, 3) := by decide +kernel
theorem dX2_sum_24 : decode cX2_sum 24 = .ok (.sipush 128, 3) := by decide +kernel
theorem dX2_sum_27 : decode cX2_sum 27 = .ok (.goto 5, 3) := by decide +kernel
theorem dX2_sum_30 : decode cX2_sum 30 = .ok (.ldc 170, 2) := by decide +kernel
theorem dX2_sum_32 : decode cX2_sum 32 = .ok (.istore 5, 2) := by decide +kernel
theorem dX2_sum_34 : decode cX2_sum 34 = .ok (.iload_n 1, 1) := by decide +kernel
theorem dX2_sum_35 : decode cX2_sum 35 = .ok (.iload_n 2, 1) := by decide +kernel
theorem dX2_sum_36 : decode cX2_sum 36 = .ok (.iadd, 1) := by decide +kernel
theorem dX2_sum_37 : decode cX2_sum 37 = .ok (.iload_n 3, 1) := by decide +kernel
theorem dX2_sum_38 : decode cX2_sum 38 = .ok (.iadd, 1) := by decide +kernel
theorem dX2_sum_39 : decode cX2_sum 39 = .ok (.istore 6, 2) := by decide +kernel
theorem dX2_sum_41 : decode cX2_sum 41 = .ok (.iload 6, 2) := by decide +kernel
theorem dX2_sum_43 : decode cX2_sum 43 = .ok (.iload 4, 2) := by decide +kernel
theorem dX2_sum_45 : decode cX2_sum 45 = .ok (.iand, 1) := by decide +kernel
theorem dX2_sum_46 : decode cX2_sum 46 = .ok (.istore 7, 2) := by decide +kernel
theorem dX2_sum_48 : decode cX2_sum 48 = .ok (.aload_n 0, 1) := by decide +kernel
theorem dX2_sum_49 : decode cX2_sum 49 = .ok (.iload 7, 2) := by decide +kernel
theorem dX2_sum_51 : decode cX2_sum 51 = .ok (.iload 6, 2) := by decide +kernel
theorem dX2_sum_53 : decode cX2_sum 53 = .ok (.iload 4, 2) := by decide +kernel
theorem dX2_sum_55 : decode cX2_sum 55 = .ok (.if_icmp .le 7, 3) := by decide +kernel
theorem dX2_sum_58 : decode cX2_sum 58 = .ok (.iconst 1, 1) := by decide +kernel
theorem dX2_sum_59 : decode cX2_sum 59 = .ok (.goto 4, 3) := by decide +kernel
theorem dX2_sum_62 : decode cX2_sum 62 = .ok (.iconst 0, 1) := by decide +kernel
theorem dX2_sum_63 : decode cX2_sum 63 = .ok (.iload_n 1, 1) := by decide +kernel
theorem dX2_sum_64 : decode cX2_sum 64 = .ok (.iload 7, 2) := by decide +kernel
theorem dX2_sum_66 : decode cX2_sum 66 = .ok (.ixor, 1) := by decide +kernel
theorem dX2_sum_67 : decode cX2_sum 67 = .ok (.iload_n 2, 1) := by decide +kernel
theorem dX2_sum_68 : decode cX2_sum 68 = .ok (.iload 7, 2) := by decide +kernel
theorem dX2_sum_70 : decode cX2_sum 70 = .ok (.ixor, 1) := by decide +kernel
theorem dX2_sum_71 : decode cX2_sum 71 = .ok (.iand, 1) := by decide +kernel
theorem dX2_sum_72 : decode cX2_sum 72 = .ok (.iload 5, 2) := by decide +kernel
theorem dX2_sum_74 : decode cX2_sum 74 = .ok (.iand, 1) := by decide +kernel
theorem dX2_sum_75 : decode cX2_sum 75 = .ok (.ifCond .eq 7, 3) := by decide +kernel
theorem dX2_sum_78 : decode cX2_sum 78 = .ok (.iconst 1, 1) := by decide +kernel
theorem dX2_sum_79 : decode cX2_sum 79 = .ok (.goto 4, 3) := by decide +kernel
theorem dX2_sum_82 : decode cX2_sum 82 = .ok (.iconst 0, 1) := by decide +kernel
theorem dX2_sum_83 : decode cX2_sum 83 = .ok (.invokevirtual 166, 3) := by decide +kernel
theorem dX2_sum_86 : decode cX2_sum 86 = .ok (.iload 7, 2) := by decide +kernel
theorem dX2_sum_88 : decode cX2_sum 88 = .ok (.ireturn, 1) := by decide +kernel
theorem dX2_decimalSum_0 : decode cX2_decimalSum 0 = .ok (.aload_n 0, 1) := by decide +kernel
theorem dX2_decimalSum_1 : decode cX2_decimalSum 1 = .ok (.getfield 9, 3) := by decide +kernel
theorem dX2_decimalSum_4 : decode cX2_decimalSum 4 = .ok (.iconst 2, 1) := by decide +kernel
theorem dX2_decimalSum_5 : decode cX2_decimalSum 5 = .ok (.iaload, 1) := by decide +kernel
theorem dX2_decimalSum_6 : decode cX2_decimalSum 6 = .ok (.iconst 1, 1) := by decide +kernel
theorem dX2_decimalSum_7 : decode cX2_decimalSum 7 = .ok (.iand, 1) := by decide +kernel
theorem dX2_decimalSum_8 : decode cX2_decimalSum 8 = .ok (.istore_n 3, 1) := by decide +kernel
theorem dX2_decimalSum_9 : decode cX2_decimalSum 9 = .ok (.aload_n 0, 1) := by decide +kernel
theorem dX2_decimalSum_10 : decode cX2_decimalSum 10 = .ok (.getfield 131, 3) := by decide +kernel
theorem dX2_decimalSum_13 : decode cX2_decimalSum 13 = .ok (.ifCond .eq 8, 3) := by decide +kernel
theorem dX2_decimalSum_16 : decode cX2_decimalSum 16 = .ok (.bipush 8, 2) := by decide +kernel
theorem dX2_decimalSum_18 : decode cX2_decimalSum 18 = .ok (.goto 5, 3) := by decide +kernel
theorem dX2_decimalSum_21 : decode cX2_decimalSum 21 = .ok (.bipush 16, 2) := by decide +kernel
theorem dX2_decimalSum_23 : decode cX2_decimalSum 23 = .ok (.istore 4, 2) := by decide +kernel
theorem dX2_decimalSum_25 : decode cX2_decimalSum 25 = .ok (.iconst 0, 1) := by decide +kernel
theorem dX2_decimalSum_26 : decode cX2_decimalSum 26 = .ok (.istore 5, 2) := by decide +kernel
theorem dX2_decimalSum_28 : decode cX2_decimalSum 28 = .ok (.iconst 0, 1) := by decide +kernel
theorem dX2_decimalSum_29 : decode cX2_decimalSum 29 = .ok (.istore 6, 2) := by decide +kernel
theorem dX2_decimalSum_31 : decode cX2_decimalSum 31 = .ok (.iload 6, 2) := by decide +kernel
theorem dX2_decimalSum_33 : decode cX2_decimalSum 33 = .ok (.iload 4, 2) := by decide +kernel
theorem dX2_decimalSum_35 : decode cX2_decimalSum 35 = .ok (.if_icmp .ge 59, 3) := by decide +kernel
theorem dX2_decimalSum_38 : decode cX2_decimalSum 38 = .ok (.iload_n 1, 1) := by decide +kernel
theorem dX2_decimalSum_39 : decode cX2_decimalSum 39 = .ok (.iload 6, 2) := by decide +kernel
theorem dX2_decimalSum_41 : decode cX2_decimalSum 41 = .ok (.ishr, 1) := by decide +kernel
theorem dX2_decimalSum_42 : decode cX2_decimalSum 42 = .ok (.bipush 15, 2) := by decide +kernel
theorem dX2_decimalSum_44 : decode cX2_decimalSum 44 = .ok (.iand, 1) := by decide +kernel
theorem dX2_decimalSum_45 : decode cX2_decimalSum 45 = .ok (.iload_n 2, 1) := by decide +kernel
theorem dX2_decimalSum_46 : decode cX2_decimalSum 46 = .ok (.iload 6, 2) := by decide +kernel
theorem dX2_decimalSum_48 : decode cX2_decimalSum 48 = .ok (.ishr, 1) := by decide +kernel
theorem dX2_decimalSum_49 : decode cX2_decimalSum 49 = .ok (.bipush 15, 2) := by decide +kernel
theorem dX2_decimalSum_51 : decode cX2_decimalSum 51 = .ok (.iand, 1) := by decide +kernel
theorem dX2_decimalSum_52 : decode cX2_decimalSum 52 = .ok (.iadd, 1) := by decide +kernel
theorem dX2_decimalSum_53 : decode cX2_decimalSum 53 = .ok (.iload_n 3, 1) := by decide +kernel
theorem dX2_decimalSum_54 : decode cX2_decimalSum 54 = .ok (.iadd, 1) := by decide +kernel
theorem dX2_decimalSum_55 : decode cX2_decimalSum 55 = .ok (.istore 7, 2) := by decide +kernel
theorem dX2_decimalSum_57 : decode cX2_decimalSum 57 = .ok (.iload 7, 2) := by decide +kernel
theorem dX2_decimalSum_59 : decode cX2_decimalSum 59 = .ok (.bipush 9, 2) := by decide +kernel
theorem dX2_decimalSum_61 : decode cX2_decimalSum 61 = .ok (.if_icmp .le 7, 3) := by decide +kernel
theorem dX2_decimalSum_64 : decode cX2_decimalSum 64 = .ok (.iconst 1, 1) := by decide +kernel
theorem dX2_decimalSum_65 : decode cX2_decimalSum 65 = .ok (.goto 4, 3) := by decide +kernel
theorem dX2_decimalSum_68 : decode cX2_decimalSum 68 = .ok (.iconst 0, 1) := by decide +kernel
theorem dX2_decimalSum_69 : decode cX2_decimalSum 69 = .ok (.istore_n 3, 1) := by decide +kernel
theorem dX2_decimalSum_70 : decode cX2_decimalSum 70 = .ok (.iload 5, 2) := by decide +kernel
theorem dX2_decimalSum_72 : decode cX2_decimalSum 72 = .ok (.iload 7, 2) := by decide +kernel
theorem dX2_decimalSum_74 : decode cX2_decimalSum 74 = .ok (.bipush 10, 2) := by decide +kernel
theorem dX2_decimalSum_76 : decode cX2_decimalSum 76 = .ok (.iload_n 3, 1) := by decide +kernel
theorem dX2_decimalSum_77 : decode cX2_decimalSum 77 = .ok (.imul, 1) := by decide +kernel
theorem dX2_decimalSum_78 : decode cX2_decimalSum 78 = .ok (.isub, 1) := by decide +kernel
theorem dX2_decimalSum_79 : decode cX2_decimalSum 79 = .ok (.bipush 15, 2) := by decide +kernel
theorem dX2_decimalSum_81 : decode cX2_decimalSum 81 = .ok (.iand, 1) := by decide +kernel
theorem dX2_decimalSum_82 : decode cX2_decimalSum 82 = .ok (.iload 6, 2) := by decide +kernel
theorem dX2_decimalSum_84 : decode cX2_decimalSum 84 = .ok (.ishl, 1) := by decide +kernel
theorem dX2_decimalSum_85 : decode cX2_decimalSum 85 = .ok (.ior, 1) := by decide +kernel
theorem dX2_decimalSum_86 : decode cX2_decimalSum 86 = .ok (.istore 5, 2) := by decide +kernel
theorem dX2_decimalSum_88 : decode cX2_decimalSum 88 = .ok (.iinc 6 4, 3) := by decide +kernel
theorem dX2_decimalSum_91 : decode cX2_decimalSum 91 = .ok (.goto (-60), 3) := by decide +kernel
theorem dX2_decimalSum_94 : decode cX2_decimalSum 94 = .ok (.aload_n 0, 1) := by decide +kernel
theorem dX2_decimalSum_95 : decode cX2_decimalSum 95 = .ok (.iload 5, 2) := by decide +kernel
theorem dX2_decimalSum_97 : decode cX2_decimalSum 97 = .ok (.iload_n 3, 1) := by decide +kernel
theorem dX2_decimalSum_98 : decode cX2_decimalSum 98 = .ok (.ifCond .eq 7, 3) := by decide +kernel
theorem dX2_decimalSum_101 : decode cX2_decimalSum 101 = .ok (.iconst 1, 1) := by decide +kernel
theorem dX2_decimalSum_102 : decode cX2_decimalSum 102 = .ok (.goto 4, 3) := by decide +kernel
theorem dX2_decimalSum_105 : decode cX2_decimalSum 105 = .ok (.iconst 0, 1) := by decide +kernel
theorem dX2_decimalSum_106 : decode cX2_decimalSum 106 = .ok (.aload_n 0, 1) := by decide +kernel
theorem dX2_decimalSum_107 : decode cX2_decimalSum 107 = .ok (.getfield 9, 3) := by decide +kernel
theorem dX2_decimalSum_110 : decode cX2_decimalSum 110 = .ok (.iconst 2, 1) := by decide +kernel
theorem dX2_decimalSum_111 : decode cX2_decimalSum 111 = .ok (.iaload, 1) := by decide +kernel
theorem dX2_decimalSum_112 : decode cX2_decimalSum 112 = .ok (.sipush 256, 3) := by decide +kernel
theorem dX2_decimalSum_115 : decode cX2_decimalSum 115 = .ok (.iand, 1) := by decide +kernel
theorem dX2_decimalSum_116 : decode cX2_decimalSum 116 = .ok (.ifCond .eq 7, 3) := by decide +kernel
theorem dX2_decimalSum_119 : decode cX2_decimalSum 119 = .ok (.iconst 1, 1) := by decide +kernel
theorem dX2_decimalSum_120 : decode cX2_decimalSum 120 = .ok (.goto 4, 3) := by decide +kernel
theorem dX2_decimalSum_123 : decode cX2_decimalSum 123 = .ok (.iconst 0, 1) := by decide +kernel
theorem dX2_decimalSum_124 : decode cX2_decimalSum 124 = .ok (.invokevirtual 166, 3) := by decide +kernel
theorem dX2_decimalSum_127 : decode cX2_decimalSum 127 = .ok (.iload 5, 2) := by decide +kernel
theorem dX2_decimalSum_129 : decode cX2_decimalSum 129 = .ok (.ireturn, 1) := by decide +kernel
theorem dX2_exclusive_0 : decode cX2_exclusive 0 = .ok (.aload_n 0, 1) := by decide +kernel
theorem dX2_exclusive_1 : decode cX2_exclusive 1 = .ok (.getfield 131, 3) := by decide +kernel
theorem dX2_exclusive_4 : decode cX2_exclusive 4 = .ok (.ifCond .eq 9, 3) := by decide +kernel
theorem dX2_exclusive_7 : decode cX2_exclusive 7 = .ok (.sipush 128, 3) := by decide +kernel
theorem dX2_exclusive_10 : decode cX2_exclusive 10 = .ok (.goto 5, 3) := by decide +kernel
theorem dX2_exclusive_13 : decode cX2_exclusive 13 = .ok (.ldc 170, 2) := by decide +kernel
theorem dX2_exclusive_15 : decode cX2_exclusive 15 = .ok (.istore_n 3, 1) := by decide +kernel
theorem dX2_exclusive_16 : decode cX2_exclusive 16 = .ok (.iload_n 1, 1) := by decide +kernel
theorem dX2_exclusive_17 : decode cX2_exclusive 17 = .ok (.iload_n 2, 1) := by decide +kernel
theorem dX2_exclusive_18 : decode cX2_exclusive 18 = .ok (.ixor, 1) := by decide +kernel
theorem dX2_exclusive_19 : decode cX2_exclusive 19 = .ok (.istore 4, 2) := by decide +kernel
theorem dX2_exclusive_21 : decode cX2_exclusive 21 = .ok (.aload_n 0, 1) := by decide +kernel
theorem dX2_exclusive_22 : decode cX2_exclusive 22 = .ok (.iload 4, 2) := by decide +kernel
theorem dX2_exclusive_24 : decode cX2_exclusive 24 = .ok (.iload 4, 2) := by decide +kernel
theorem dX2_exclusive_26 : decode cX2_exclusive 26 = .ok (.ifCond .eq 7, 3) := by decide +kernel
theorem dX2_exclusive_29 : decode cX2_exclusive 29 = .ok (.iconst 1, 1) := by decide +kernel
theorem dX2_exclusive_30 : decode cX2_exclusive 30 = .ok (.goto 4, 3) := by decide +kernel
theorem dX2_exclusive_33 : decode cX2_exclusive 33 = .ok (.iconst 0, 1) := by decide +kernel
theorem dX2_exclusive_34 : decode cX2_exclusive 34 = .ok (.iload_n 1, 1) := by decide +kernel
theorem dX2_exclusive_35 : decode cX2_exclusive 35 = .ok (.iload_n 2, 1) := by decide +kernel
theorem dX2_exclusive_36 : decode cX2_exclusive 36 = .ok (.iand, 1) := by decide +kernel
theorem dX2_exclusive_37 : decode cX2_exclusive 37 = .ok (.iload_n 3, 1) := by decide +kernel
theorem dX2_exclusive_38 : decode cX2_exclusive 38 = .ok (.iand, 1) := by decide +kernel
theorem dX2_exclusive_39 : decode cX2_exclusive 39 = .ok (.ifCond .eq 7, 3) := by decide +kernel
theorem dX2_exclusive_42 : decode cX2_exclusive 42 = .ok (.iconst 1, 1) := by decide +kernel
theorem dX2_exclusive_43 : decode cX2_exclusive 43 = .ok (.goto 4, 3) := by decide +kernel
theorem dX2_exclusive_46 : decode cX2_exclusive 46 = .ok (.iconst 0, 1) := by decide +kernel
theorem dX2_exclusive_47 : decode cX2_exclusive 47 = .ok (.invokevirtual 166, 3) := by decide +kernel
theorem dX2_exclusive_50 : decode cX2_exclusive 50 = .ok (.iload 4, 2) := by decide +kernel
theorem dX2_exclusive_52 : decode cX2_exclusive 52 = .ok (.ireturn, 1) := by decide +kernel
theorem dX2_putFlags_0 : decode cX2_putFlags 0 = .ok (.aload_n 0, 1) := by decide +kernel
theorem dX2_putFlags_1 : decode cX2_putFlags 1 = .ok (.getfield 131, 3) := by decide +kernel
theorem dX2_putFlags_4 : decode cX2_putFlags 4 = .ok (.ifCond .eq 9, 3) := by decide +kernel
theorem dX2_putFlags_7 : decode cX2_putFlags 7 = .ok (.sipush 128, 3) := by decide +kernel
theorem dX2_putFlags_10 : decode cX2_putFlags 10 = .ok (.goto 5, 3) := by decide +kernel
theorem dX2_putFlags_13 : decode cX2_putFlags 13 = .ok (.ldc 170, 2) := by decide +kernel
theorem dX2_putFlags_15 : decode cX2_putFlags 15 = .ok (.istore 4, 2) := by decide +kernel
theorem dX2_putFlags_17 : decode cX2_putFlags 17 = .ok (.iload_n 2, 1) := by decide +kernel
theorem dX2_putFlags_18 : decode cX2_putFlags 18 = .ok (.ifCond .eq 7, 3) := by decide +kernel
theorem dX2_putFlags_21 : decode cX2_putFlags 21 = .ok (.iconst 1, 1) := by decide +kernel
theorem dX2_putFlags_22 : decode cX2_putFlags 22 = .ok (.goto 4, 3) := by decide +kernel
theorem dX2_putFlags_25 : decode cX2_putFlags 25 = .ok (.iconst 0, 1) := by decide +kernel
theorem dX2_putFlags_26 : decode cX2_putFlags 26 = .ok (.iload_n 3, 1) := by decide +kernel
theorem dX2_putFlags_27 : decode cX2_putFlags 27 = .ok (.ifCond .eq 9, 3) := by decide +kernel
theorem dX2_putFlags_30 : decode cX2_putFlags 30 = .ok (.sipush 256, 3) := by decide +kernel
theorem dX2_putFlags_33 : decode cX2_putFlags 33 = .ok (.goto 4, 3) := by decide +kernel
theorem dX2_putFlags_36 : decode cX2_putFlags 36 = .ok (.iconst 0, 1) := by decide +kernel
theorem dX2_putFlags_37 : decode cX2_putFlags 37 = .ok (.ior, 1) := by decide +kernel
theorem dX2_putFlags_38 : decode cX2_putFlags 38 = .ok (.istore 5, 2) := by decide +kernel
theorem dX2_putFlags_40 : decode cX2_putFlags 40 = .ok (.iload 5, 2) := by decide +kernel
theorem dX2_putFlags_42 : decode cX2_putFlags 42 = .ok (.iload_n 1, 1) := by decide +kernel
theorem dX2_putFlags_43 : decode cX2_putFlags 43 = .ok (.iload 4, 2) := by decide +kernel
theorem dX2_putFlags_45 : decode cX2_putFlags 45 = .ok (.iand, 1) := by decide +kernel
theorem dX2_putFlags_46 : decode cX2_putFlags 46 = .ok (.ifCond .eq 7, 3) := by decide +kernel
theorem dX2_putFlags_49 : decode cX2_putFlags 49 = .ok (.iconst 4, 1) := by decide +kernel
theorem dX2_putFlags_50 : decode cX2_putFlags 50 = .ok (.goto 4, 3) := by decide +kernel
theorem dX2_putFlags_53 : decode cX2_putFlags 53 = .ok (.iconst 0, 1) := by decide +kernel
theorem dX2_putFlags_54 : decode cX2_putFlags 54 = .ok (.ior, 1) := by decide +kernel
theorem dX2_putFlags_55 : decode cX2_putFlags 55 = .ok (.istore 5, 2) := by decide +kernel
theorem dX2_putFlags_57 : decode cX2_putFlags 57 = .ok (.iload 5, 2) := by decide +kernel
theorem dX2_putFlags_59 : decode cX2_putFlags 59 = .ok (.iload_n 1, 1) := by decide +kernel
theorem dX2_putFlags_60 : decode cX2_putFlags 60 = .ok (.ifCond .ne 7, 3) := by decide +kernel
theorem dX2_putFlags_63 : decode cX2_putFlags 63 = .ok (.iconst 2, 1) := by decide +kernel
theorem dX2_putFlags_64 : decode cX2_putFlags 64 = .ok (.goto 4, 3) := by decide +kernel
theorem dX2_putFlags_67 : decode cX2_putFlags 67 = .ok (.iconst 0, 1) := by decide +kernel
theorem dX2_putFlags_68 : decode cX2_putFlags 68 = .ok (.ior, 1) := by decide +kernel
theorem dX2_putFlags_69 : decode cX2_putFlags 69 = .ok (.istore 5, 2) := by decide +kernel
theorem dX2_putFlags_71 : decode cX2_putFlags 71 = .ok (.aload_n 0, 1) := by decide +kernel
theorem dX2_putFlags_72 : decode cX2_putFlags 72 = .ok (.getfield 9, 3) := by decide +kernel
theorem dX2_putFlags_75 : decode cX2_putFlags 75 = .ok (.iconst 2, 1) := by decide +kernel
theorem dX2_putFlags_76 : decode cX2_putFlags 76 = .ok (.aload_n 0, 1) := by decide +kernel
theorem dX2_putFlags_77 : decode cX2_putFlags 77 = .ok (.getfield 9, 3) := by decide +kernel
theorem dX2_putFlags_80 : decode cX2_putFlags 80 = .ok (.iconst 2, 1) := by decide +kernel
theorem dX2_putFlags_81 : decode cX2_putFlags 81 = .ok (.iaload, 1) := by decide +kernel
theorem dX2_putFlags_82 : decode cX2_putFlags 82 = .ok (.sipush (-264), 3) := by decide +kernel
theorem dX2_putFlags_85 : decode cX2_putFlags 85 = .ok (.iand, 1) := by decide +kernel
theorem dX2_putFlags_86 : decode cX2_putFlags 86 = .ok (.iload 5, 2) := by decide +kernel
theorem dX2_putFlags_88 : decode cX2_putFlags 88 = .ok (.ior, 1) := by decide +kernel
theorem dX2_putFlags_89 : decode cX2_putFlags 89 = .ok (.iastore, 1) := by decide +kernel
theorem dX2_putFlags_90 : decode cX2_putFlags 90 = .ok (.return_, 1) := by decide +kernel
theorem dX3_init_0 : decode cX3_init 0 = .ok (.aload_n 0, 1) := by decide +kernel
theorem dX3_init_1 : decode cX3_init 1 = .ok (.invokespecial 1, 3) := by decide +kernel
theorem dX3_init_4 : decode cX3_init 4 = .ok (.aload_n 0, 1) := by decide +kernel
theorem dX3_init_5 : decode cX3_init 5 = .ok (.bipush 40, 2) := by decide +kernel
theorem dX3_init_7 : decode cX3_init 7 = .ok (.newarray .int, 2) := by decide +kernel
theorem dX3_init_9 : decode cX3_init 9 = .ok (.putfield 9, 3) := by decide +kernel
theorem dX3_init_12 : decode cX3_init 12 = .ok (.aload_n 0, 1) := by decide +kernel
theorem dX3_init_13 : decode cX3_init 13 = .ok (.bipush 40, 2) := by decide +kernel
theorem dX3_init_15 : decode cX3_init 15 = .ok (.newarray .int, 2) := by decide +kernel
theorem dX3_init_17 : decode cX3_init 17 = .ok (.putfield 13, 3) := by decide +kernel
theorem dX3_init_20 : decode cX3_init 20 = .ok (.return_, 1) := by decide +kernel
theorem dX3_clear_0 : decode cX3_clear 0 = .ok (.aload_n 0, 1) := by decide +kernel
theorem dX3_clear_1 : decode cX3_clear 1 = .ok (.iconst 0, 1) := by decide +kernel
theorem dX3_clear_2 : decode cX3_clear 2 = .ok (.putfield 16, 3) := by decide +kernel
theorem dX3_clear_5 : decode cX3_clear 5 = .ok (.return_, 1) := by decide +kernel
theorem dX3_waiting_0 : decode cX3_waiting 0 = .ok (.aload_n 0, 1) := by decide +kernel
theorem dX3_waiting_1 : decode cX3_waiting 1 = .ok (.getfield 16, 3) := by decide +kernel
theorem dX3_waiting_4 : decode cX3_waiting 4 = .ok (.ireturn, 1) := by decide +kernel
theorem dX3_takes_0 : decode cX3_takes 0 = .ok (.aload_n 0, 1) := by decide +kernel
theorem dX3_takes_1 : decode cX3_takes 1 = .ok (.getfield 16, 3) := by decide +kernel
theorem dX3_takes_4 : decode cX3_takes 4 = .ok (.bipush 40, 2) := by decide +kernel
theorem dX3_takes_6 : decode cX3_takes 6 = .ok (.if_icmp .ge 29, 3) := by decide +kernel
theorem dX3_takes_9 : decode cX3_takes 9 = .ok (.aload_n 0, 1) := by decide +kernel
theorem dX3_takes_10 : decode cX3_takes 10 = .ok (.getfield 16, 3) := by decide +kernel
theorem dX3_takes_13 : decode cX3_takes 13 = .ok (.ifCond .eq 18, 3) := by decide +kernel
theorem dX3_takes_16 : decode cX3_takes 16 = .ok (.iload_n 1, 1) := by decide +kernel
theorem dX3_takes_17 : decode cX3_takes 17 = .ok (.aload_n 0, 1) := by decide +kernel
theorem dX3_takes_18 : decode cX3_takes 18 = .ok (.getfield 9, 3) := by decide +kernel
theorem dX3_takes_21 : decode cX3_takes 21 = .ok (.aload_n 0, 1) := by decide +kernel
theorem dX3_takes_22 : decode cX3_takes 22 = .ok (.getfield 16, 3) := by decide +kernel
theorem dX3_takes_25 : decode cX3_takes 25 = .ok (.iconst 1, 1) := by decide +kernel
theorem dX3_takes_26 : decode cX3_takes 26 = .ok (.isub, 1) := by decide +kernel
theorem dX3_takes_27 : decode cX3_takes 27 = .ok (.iaload, 1) := by decide +kernel
theorem dX3_takes_28 : decode cX3_takes 28 = .ok (.if_icmp .lt 7, 3) := by decide +kernel
theorem dX3_takes_31 : decode cX3_takes 31 = .ok (.iconst 1, 1) := by decide +kernel
theorem dX3_takes_32 : decode cX3_takes 32 = .ok (.goto 4, 3) := by decide +kernel
theorem dX3_takes_35 : decode cX3_takes 35 = .ok (.iconst 0, 1) := by decide +kernel
theorem dX3_takes_36 : decode cX3_takes 36 = .ok (.ireturn, 1) := by decide +kernel
theorem dX3_add_0 : decode cX3_add 0 = .ok (.aload_n 0, 1) := by decide +kernel
theorem dX3_add_1 : decode cX3_add 1 = .ok (.getfield 16, 3) := by decide +kernel
theorem dX3_add_4 : decode cX3_add 4 = .ok (.bipush 40, 2) := by decide +kernel
theorem dX3_add_6 : decode cX3_add 6 = .ok (.if_icmp .ge 33, 3) := by decide +kernel
theorem dX3_add_9 : decode cX3_add 9 = .ok (.aload_n 0, 1) := by decide +kernel
theorem dX3_add_10 : decode cX3_add 10 = .ok (.getfield 9, 3) := by decide +kernel
theorem dX3_add_13 : decode cX3_add 13 = .ok (.aload_n 0, 1) := by decide +kernel
theorem dX3_add_14 : decode cX3_add 14 = .ok (.getfield 16, 3) := by decide +kernel
theorem dX3_add_17 : decode cX3_add 17 = .ok (.iload_n 1, 1) := by decide +kernel
theorem dX3_add_18 : decode cX3_add 18 = .ok (.iastore, 1) := by decide +kernel
theorem dX3_add_19 : decode cX3_add 19 = .ok (.aload_n 0, 1) := by decide +kernel
theorem dX3_add_20 : decode cX3_add 20 = .ok (.getfield 13, 3) := by decide +kernel
theorem dX3_add_23 : decode cX3_add 23 = .ok (.aload_n 0, 1) := by decide +kernel
theorem dX3_add_24 : decode cX3_add 24 = .ok (.getfield 16, 3) := by decide +kernel
theorem dX3_add_27 : decode cX3_add 27 = .ok (.iload_n 2, 1) := by decide +kernel
theorem dX3_add_28 : decode cX3_add 28 = .ok (.iastore, 1) := by decide +kernel
theorem dX3_add_29 : decode cX3_add 29 = .ok (.aload_n 0, 1) := by decide +kernel
theorem dX3_add_30 : decode cX3_add 30 = .ok (.dup, 1) := by decide +kernel
theorem dX3_add_31 : decode cX3_add 31 = .ok (.getfield 16, 3) := by decide +kernel
theorem dX3_add_34 : decode cX3_add 34 = .ok (.iconst 1, 1) := by decide +kernel
theorem dX3_add_35 : decode cX3_add 35 = .ok (.iadd, 1) := by decide +kernel
theorem dX3_add_36 : decode cX3_add 36 = .ok (.putfield 16, 3) := by decide +kernel
theorem dX3_add_39 : decode cX3_add 39 = .ok (.return_, 1) := by decide +kernel
theorem dX3_reach_0 : decode cX3_reach 0 = .ok (.iconst 0, 1) := by decide +kernel
theorem dX3_reach_1 : decode cX3_reach 1 = .ok (.istore_n 3, 1) := by decide +kernel
theorem dX3_reach_2 : decode cX3_reach 2 = .ok (.iload_n 3, 1) := by decide +kernel
theorem dX3_reach_3 : decode cX3_reach 3 = .ok (.aload_n 0, 1) := by decide +kernel
theorem dX3_reach_4 : decode cX3_reach 4 = .ok (.getfield 16, 3) := by decide +kernel
theorem dX3_reach_7 : decode cX3_reach 7 = .ok (.if_icmp .ge 29, 3) := by decide +kernel
theorem dX3_reach_10 : decode cX3_reach 10 = .ok (.aload_n 0, 1) := by decide +kernel
theorem dX3_reach_11 : decode cX3_reach 11 = .ok (.getfield 9, 3) := by decide +kernel
theorem dX3_reach_14 : decode cX3_reach 14 = .ok (.iload_n 3, 1) := by decide +kernel
theorem dX3_reach_15 : decode cX3_reach 15 = .ok (.iaload, 1) := by decide +kernel
theorem dX3_reach_16 : decode cX3_reach 16 = .ok (.iload_n 1, 1) := by decide +kernel
theorem dX3_reach_17 : decode cX3_reach 17 = .ok (.if_icmp .gt 19, 3) := by decide +kernel
theorem dX3_reach_20 : decode cX3_reach 20 = .ok (.aload_n 2, 1) := by decide +kernel
theorem dX3_reach_21 : decode cX3_reach 21 = .ok (.aload_n 0, 1) := by decide +kernel
theorem dX3_reach_22 : decode cX3_reach 22 = .ok (.getfield 13, 3) := by decide +kernel
theorem dX3_reach_25 : decode cX3_reach 25 = .ok (.iload_n 3, 1) := by decide +kernel
theorem dX3_reach_26 : decode cX3_reach 26 = .ok (.iaload, 1) := by decide +kernel
theorem dX3_reach_27 : decode cX3_reach 27 = .ok (.invokevirtual 20, 3) := by decide +kernel
theorem dX3_reach_30 : decode cX3_reach 30 = .ok (.iinc 3 1, 3) := by decide +kernel
theorem dX3_reach_33 : decode cX3_reach 33 = .ok (.goto (-31), 3) := by decide +kernel
theorem dX3_reach_36 : decode cX3_reach 36 = .ok (.iload_n 3, 1) := by decide +kernel
theorem dX3_reach_37 : decode cX3_reach 37 = .ok (.ifCond .ne 4, 3) := by decide +kernel
theorem dX3_reach_40 : decode cX3_reach 40 = .ok (.return_, 1) := by decide +kernel
theorem dX3_reach_41 : decode cX3_reach 41 = .ok (.iload_n 3, 1) := by decide +kernel
theorem dX3_reach_42 : decode cX3_reach 42 = .ok (.istore 4, 2) := by decide +kernel
theorem dX3_reach_44 : decode cX3_reach 44 = .ok (.iload 4, 2) := by decide +kernel
theorem dX3_reach_46 : decode cX3_reach 46 = .ok (.aload_n 0, 1) := by decide +kernel
theorem dX3_reach_47 : decode cX3_reach 47 = .ok (.getfield 16, 3) := by decide +kernel
theorem dX3_reach_50 : decode cX3_reach 50 = .ok (.if_icmp .ge 41, 3) := by decide +kernel
theorem dX3_reach_53 : decode cX3_reach 53 = .ok (.aload_n 0, 1) := by decide +kernel
theorem dX3_reach_54 : decode cX3_reach 54 = .ok (.getfield 9, 3) := by decide +kernel
theorem dX3_reach_57 : decode cX3_reach 57 = .ok (.iload 4, 2) := by decide +kernel
theorem dX3_reach_59 : decode cX3_reach 59 = .ok (.iload_n 3, 1) := by decide +kernel
theorem dX3_reach_60 : decode cX3_reach 60 = .ok (.isub, 1) := by decide +kernel
theorem dX3_reach_61 : decode cX3_reach 61 = .ok (.aload_n 0, 1) := by decide +kernel
theorem dX3_reach_62 : decode cX3_reach 62 = .ok (.getfield 9, 3) := by decide +kernel
theorem dX3_reach_65 : decode cX3_reach 65 = .ok (.iload 4, 2) := by decide +kernel
theorem dX3_reach_67 : decode cX3_reach 67 = .ok (.iaload, 1) := by decide +kernel
theorem dX3_reach_68 : decode cX3_reach 68 = .ok (.iastore, 1) := by decide +kernel
theorem dX3_reach_69 : decode cX3_reach 69 = .ok (.aload_n 0, 1) := by decide +kernel
theorem dX3_reach_70 : decode cX3_reach 70 = .ok (.getfield 13, 3) := by decide +kernel
theorem dX3_reach_73 : decode cX3_reach 73 = .ok (.iload 4, 2) := by decide +kernel
theorem dX3_reach_75 : decode cX3_reach 75 = .ok (.iload_n 3, 1) := by decide +kernel
theorem dX3_reach_76 : decode cX3_reach 76 = .ok (.isub, 1) := by decide +kernel
theorem dX3_reach_77 : decode cX3_reach 77 = .ok (.aload_n 0, 1) := by decide +kernel
theorem dX3_reach_78 : decode cX3_reach 78 = .ok (.getfield 13, 3) := by decide +kernel
theorem dX3_reach_81 : decode cX3_reach 81 = .ok (.iload 4, 2) := by decide +kernel
theorem dX3_reach_83 : decode cX3_reach 83 = .ok (.iaload, 1) := by decide +kernel
theorem dX3_reach_84 : decode cX3_reach 84 = .ok (.iastore, 1) := by decide +kernel
theorem dX3_reach_85 : decode cX3_reach 85 = .ok (.iinc 4 1, 3) := by decide +kernel
theorem dX3_reach_88 : decode cX3_reach 88 = .ok (.goto (-44), 3) := by decide +kernel
theorem dX3_reach_91 : decode cX3_reach 91 = .ok (.aload_n 0, 1) := by decide +kernel
theorem dX3_reach_92 : decode cX3_reach 92 = .ok (.dup, 1) := by decide +kernel
theorem dX3_reach_93 : decode cX3_reach 93 = .ok (.getfield 16, 3) := by decide +kernel
theorem dX3_reach_96 : decode cX3_reach 96 = .ok (.iload_n 3, 1) := by decide +kernel
theorem dX3_reach_97 : decode cX3_reach 97 = .ok (.isub, 1) := by decide +kernel
theorem dX3_reach_98 : decode cX3_reach 98 = .ok (.putfield 16, 3) := by decide +kernel
theorem dX3_reach_101 : decode cX3_reach 101 = .ok (.return_, 1) := by decide +kernel
theorem dX4_init_0 : decode cX4_init 0 = .ok (.aload_n 0, 1) := by decide +kernel
theorem dX4_init_1 : decode cX4_init 1 = .ok (.invokespecial 3, 3) := by decide +kernel
theorem dX4_init_4 : decode cX4_init 4 = .ok (.aload_n 0, 1) := by decide +kernel
theorem dX4_init_5 : decode cX4_init 5 = .ok (.bipush 60, 2) := by decide +kernel
theorem dX4_init_7 : decode cX4_init 7 = .ok (.newarray .long, 2) := by decide +kernel
theorem dX4_init_9 : decode cX4_init 9 = .ok (.putfield 11, 3) := by decide +kernel
theorem dX4_init_12 : decode cX4_init 12 = .ok (.aload_n 0, 1) := by decide +kernel
theorem dX4_init_13 : decode cX4_init 13 = .ok (.bipush 60, 2) := by decide +kernel
theorem dX4_init_15 : decode cX4_init 15 = .ok (.newarray .int, 2) := by decide +kernel
theorem dX4_init_17 : decode cX4_init 17 = .ok (.putfield 15, 3) := by decide +kernel
theorem dX4_init_20 : decode cX4_init 20 = .ok (.aload_n 0, 1) := by decide +kernel
theorem dX4_init_21 : decode cX4_init 21 = .ok (.bipush 60, 2) := by decide +kernel
theorem dX4_init_23 : decode cX4_init 23 = .ok (.newarray .int, 2) := by decide +kernel
theorem dX4_init_25 : decode cX4_init 25 = .ok (.putfield 19, 3) := by decide +kernel
theorem dX4_init_28 : decode cX4_init 28 = .ok (.return_, 1) := by decide +kernel
theorem dX4_clear_0 : decode cX4_clear 0 = .ok (.aload_n 0, 1) := by decide +kernel
theorem dX4_clear_1 : decode cX4_clear 1 = .ok (.iconst 0, 1) := by decide +kernel
theorem dX4_clear_2 : decode cX4_clear 2 = .ok (.putfield 22, 3) := by decide +kernel
theorem dX4_clear_5 : decode cX4_clear 5 = .ok (.return_, 1) := by decide +kernel
theorem dX4_takes_0 : decode cX4_takes 0 = .ok (.aload_n 0, 1) := by decide +kernel
theorem dX4_takes_1 : decode cX4_takes 1 = .ok (.getfield 22, 3) := by decide +kernel
theorem dX4_takes_4 : decode cX4_takes 4 = .ok (.bipush 60, 2) := by decide +kernel
theorem dX4_takes_6 : decode cX4_takes 6 = .ok (.if_icmp .ge 16, 3) := by decide +kernel
theorem dX4_takes_9 : decode cX4_takes 9 = .ok (.aload_n 0, 1) := by decide +kernel
theorem dX4_takes_10 : decode cX4_takes 10 = .ok (.lload_n 1, 1) := by decide +kernel
theorem dX4_takes_11 : decode cX4_takes 11 = .ok (.invokevirtual 26, 3) := by decide +kernel
theorem dX4_takes_14 : decode cX4_takes 14 = .ok (.iconst (-1), 1) := by decide +kernel
theorem dX4_takes_15 : decode cX4_takes 15 = .ok (.if_icmp .ne 7, 3) := by decide +kernel
theorem dX4_takes_18 : decode cX4_takes 18 = .ok (.iconst 1, 1) := by decide +kernel
theorem dX4_takes_19 : decode cX4_takes 19 = .ok (.goto 4, 3) := by decide +kernel
theorem dX4_takes_22 : decode cX4_takes 22 = .ok (.iconst 0, 1) := by decide +kernel
theorem dX4_takes_23 : decode cX4_takes 23 = .ok (.ireturn, 1) := by decide +kernel
theorem dX4_add_0 : decode cX4_add 0 = .ok (.aload_n 0, 1) := by decide +kernel
theorem dX4_add_1 : decode cX4_add 1 = .ok (.getfield 22, 3) := by decide +kernel
theorem dX4_add_4 : decode cX4_add 4 = .ok (.bipush 60, 2) := by decide +kernel
theorem dX4_add_6 : decode cX4_add 6 = .ok (.if_icmp .ge 44, 3) := by decide +kernel
theorem dX4_add_9 : decode cX4_add 9 = .ok (.aload_n 0, 1) := by decide +kernel
theorem dX4_add_10 : decode cX4_add 10 = .ok (.getfield 11, 3) := by decide +kernel
theorem dX4_add_13 : decode cX4_add 13 = .ok (.aload_n 0, 1) := by decide +kernel
theorem dX4_add_14 : decode cX4_add 14 = .ok (.getfield 22, 3) := by decide +kernel
theorem dX4_add_17 : decode cX4_add 17 = .ok (.lload_n 1, 1) := by decide +kernel
theorem dX4_add_18 : decode cX4_add 18 = .ok (.lastore, 1) := by decide +kernel
theorem dX4_add_19 : decode cX4_add 19 = .ok (.aload_n 0, 1) := by decide +kernel
theorem dX4_add_20 : decode cX4_add 20 = .ok (.getfield 15, 3) := by decide +kernel
theorem dX4_add_23 : decode cX4_add 23 = .ok (.aload_n 0, 1) := by decide +kernel
theorem dX4_add_24 : decode cX4_add 24 = .ok (.getfield 22, 3) := by decide +kernel
theorem dX4_add_27 : decode cX4_add 27 = .ok (.iload_n 3, 1) := by decide +kernel
theorem dX4_add_28 : decode cX4_add 28 = .ok (.iastore, 1) := by decide +kernel
theorem dX4_add_29 : decode cX4_add 29 = .ok (.aload_n 0, 1) := by decide +kernel
theorem dX4_add_30 : decode cX4_add 30 = .ok (.getfield 19, 3) := by decide +kernel
theorem dX4_add_33 : decode cX4_add 33 = .ok (.aload_n 0, 1) := by decide +kernel
theorem dX4_add_34 : decode cX4_add 34 = .ok (.getfield 22, 3) := by decide +kernel
theorem dX4_add_37 : decode cX4_add 37 = .ok (.iload 4, 2) := by decide +kernel
theorem dX4_add_39 : decode cX4_add 39 = .ok (.iastore, 1) := by decide +kernel
theorem dX4_add_40 : decode cX4_add 40 = .ok (.aload_n 0, 1) := by decide +kernel
theorem dX4_add_41 : decode cX4_add 41 = .ok (.dup, 1) := by decide +kernel
theorem dX4_add_42 : decode cX4_add 42 = .ok (.getfield 22, 3) := by decide +kernel
theorem dX4_add_45 : decode cX4_add 45 = .ok (.iconst 1, 1) := by decide +kernel
theorem dX4_add_46 : decode cX4_add 46 = .ok (.iadd, 1) := by decide +kernel
