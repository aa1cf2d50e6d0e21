theorem dX0_init_0 : decode cX0_init 0 = .ok (.aload_n 0, 1) := by decide +kernel
theorem dX0_init_1 : decode cX0_init 1 = .ok (.invokespecial 3, 3) := by decide +kernel
theorem dX0_init_4 : decode cX0_init 4 = .ok (.aload_n 0, 1) := by decide +kernel
theorem dX0_init_5 : decode cX0_init 5 = .ok (.new 9, 3) := by decide +kernel
theorem dX0_init_8 : decode cX0_init 8 = .ok (.dup, 1) := by decide +kernel
theorem dX0_init_9 : decode cX0_init 9 = .ok (.invokespecial 11, 3) := by decide +kernel
theorem dX0_init_12 : decode cX0_init 12 = .ok (.putfield 12, 3) := by decide +kernel
theorem dX0_init_15 : decode cX0_init 15 = .ok (.aload_n 0, 1) := by decide +kernel
theorem dX0_init_16 : decode cX0_init 16 = .ok (.new 9, 3) := by decide +kernel
theorem dX0_init_19 : decode cX0_init 19 = .ok (.dup, 1) := by decide +kernel
theorem dX0_init_20 : decode cX0_init 20 = .ok (.invokespecial 11, 3) := by decide +kernel
theorem dX0_init_23 : decode cX0_init 23 = .ok (.putfield 18, 3) := by decide +kernel
theorem dX0_init_26 : decode cX0_init 26 = .ok (.aload_n 0, 1) := by decide +kernel
theorem dX0_init_27 : decode cX0_init 27 = .ok (.sipush 2600, 3) := by decide +kernel
theorem dX0_init_30 : decode cX0_init 30 = .ok (.newarray .int, 2) := by decide +kernel
theorem dX0_init_32 : decode cX0_init 32 = .ok (.putfield 21, 3) := by decide +kernel
theorem dX0_init_35 : decode cX0_init 35 = .ok (.aload_n 0, 1) := by decide +kernel
theorem dX0_init_36 : decode cX0_init 36 = .ok (.sipush 2600, 3) := by decide +kernel
theorem dX0_init_39 : decode cX0_init 39 = .ok (.newarray .int, 2) := by decide +kernel
theorem dX0_init_41 : decode cX0_init 41 = .ok (.putfield 25, 3) := by decide +kernel
theorem dX0_init_44 : decode cX0_init 44 = .ok (.aload_n 0, 1) := by decide +kernel
theorem dX0_init_45 : decode cX0_init 45 = .ok (.new 28, 3) := by decide +kernel
theorem dX0_init_48 : decode cX0_init 48 = .ok (.dup, 1) := by decide +kernel
theorem dX0_init_49 : decode cX0_init 49 = .ok (.invokespecial 30, 3) := by decide +kernel
theorem dX0_init_52 : decode cX0_init 52 = .ok (.putfield 31, 3) := by decide +kernel
theorem dX0_init_55 : decode cX0_init 55 = .ok (.aload_n 0, 1) := by decide +kernel
theorem dX0_init_56 : decode cX0_init 56 = .ok (.new 28, 3) := by decide +kernel
theorem dX0_init_59 : decode cX0_init 59 = .ok (.dup, 1) := by decide +kernel
theorem dX0_init_60 : decode cX0_init 60 = .ok (.invokespecial 30, 3) := by decide +kernel
theorem dX0_init_63 : decode cX0_init 63 = .ok (.putfield 35, 3) := by decide +kernel
theorem dX0_init_66 : decode cX0_init 66 = .ok (.aload_n 0, 1) := by decide +kernel
theorem dX0_init_67 : decode cX0_init 67 = .ok (.new 38, 3) := by decide +kernel
theorem dX0_init_70 : decode cX0_init 70 = .ok (.dup, 1) := by decide +kernel
theorem dX0_init_71 : decode cX0_init 71 = .ok (.aload_n 1, 1) := by decide +kernel
theorem dX0_init_72 : decode cX0_init 72 = .ok (.invokespecial 40, 3) := by decide +kernel
theorem dX0_init_75 : decode cX0_init 75 = .ok (.putfield 43, 3) := by decide +kernel
theorem dX0_init_78 : decode cX0_init 78 = .ok (.return_, 1) := by decide +kernel
theorem dX0_faultKind_0 : decode cX0_faultKind 0 = .ok (.aload_n 0, 1) := by decide +kernel
theorem dX0_faultKind_1 : decode cX0_faultKind 1 = .ok (.getfield 47, 3) := by decide +kernel
theorem dX0_faultKind_4 : decode cX0_faultKind 4 = .ok (.ireturn, 1) := by decide +kernel
theorem dX0_faultPlace_0 : decode cX0_faultPlace 0 = .ok (.aload_n 0, 1) := by decide +kernel
theorem dX0_faultPlace_1 : decode cX0_faultPlace 1 = .ok (.getfield 51, 3) := by decide +kernel
theorem dX0_faultPlace_4 : decode cX0_faultPlace 4 = .ok (.ireturn, 1) := by decide +kernel
theorem dX0_labelOfLine_0 : decode cX0_labelOfLine 0 = .ok (.aload_n 0, 1) := by decide +kernel
theorem dX0_labelOfLine_1 : decode cX0_labelOfLine 1 = .ok (.getfield 35, 3) := by decide +kernel
theorem dX0_labelOfLine_4 : decode cX0_labelOfLine 4 = .ok (.iload_n 1, 1) := by decide +kernel
theorem dX0_labelOfLine_5 : decode cX0_labelOfLine 5 = .ok (.invokevirtual 54, 3) := by decide +kernel
theorem dX0_labelOfLine_8 : decode cX0_labelOfLine 8 = .ok (.ireturn, 1) := by decide +kernel
theorem dX0_open_0 : decode cX0_open 0 = .ok (.aload_n 0, 1) := by decide +kernel
theorem dX0_open_1 : decode cX0_open 1 = .ok (.iconst 0, 1) := by decide +kernel
theorem dX0_open_2 : decode cX0_open 2 = .ok (.putfield 47, 3) := by decide +kernel
theorem dX0_open_5 : decode cX0_open 5 = .ok (.aload_n 0, 1) := by decide +kernel
theorem dX0_open_6 : decode cX0_open 6 = .ok (.iconst 0, 1) := by decide +kernel
theorem dX0_open_7 : decode cX0_open 7 = .ok (.putfield 51, 3) := by decide +kernel
theorem dX0_open_10 : decode cX0_open 10 = .ok (.iload_n 1, 1) := by decide +kernel
theorem dX0_open_11 : decode cX0_open 11 = .ok (.sipush 2500, 3) := by decide +kernel
theorem dX0_open_14 : decode cX0_open 14 = .ok (.if_icmp .le 13, 3) := by decide +kernel
theorem dX0_open_17 : decode cX0_open 17 = .ok (.aload_n 0, 1) := by decide +kernel
theorem dX0_open_18 : decode cX0_open 18 = .ok (.bipush 6, 2) := by decide +kernel
theorem dX0_open_20 : decode cX0_open 20 = .ok (.sipush 2500, 3) := by decide +kernel
theorem dX0_open_23 : decode cX0_open 23 = .ok (.invokevirtual 58, 3) := by decide +kernel
theorem dX0_open_26 : decode cX0_open 26 = .ok (.ireturn, 1) := by decide +kernel
theorem dX0_open_27 : decode cX0_open 27 = .ok (.aload_n 0, 1) := by decide +kernel
theorem dX0_open_28 : decode cX0_open 28 = .ok (.getfield 43, 3) := by decide +kernel
theorem dX0_open_31 : decode cX0_open 31 = .ok (.iload_n 1, 1) := by decide +kernel
theorem dX0_open_32 : decode cX0_open 32 = .ok (.invokevirtual 62, 3) := by decide +kernel
theorem dX0_open_35 : decode cX0_open 35 = .ok (.aload_n 0, 1) := by decide +kernel
theorem dX0_open_36 : decode cX0_open 36 = .ok (.getfield 31, 3) := by decide +kernel
theorem dX0_open_39 : decode cX0_open 39 = .ok (.invokevirtual 66, 3) := by decide +kernel
theorem dX0_open_42 : decode cX0_open 42 = .ok (.iconst 1, 1) := by decide +kernel
theorem dX0_open_43 : decode cX0_open 43 = .ok (.ireturn, 1) := by decide +kernel
theorem dX0_pass_0 : decode cX0_pass 0 = .ok (.aload_n 0, 1) := by decide +kernel
theorem dX0_pass_1 : decode cX0_pass 1 = .ok (.iload_n 1, 1) := by decide +kernel
theorem dX0_pass_2 : decode cX0_pass 2 = .ok (.putfield 69, 3) := by decide +kernel
theorem dX0_pass_5 : decode cX0_pass 5 = .ok (.aload_n 0, 1) := by decide +kernel
theorem dX0_pass_6 : decode cX0_pass 6 = .ok (.ldc 73, 2) := by decide +kernel
theorem dX0_pass_8 : decode cX0_pass 8 = .ok (.putfield 74, 3) := by decide +kernel
theorem dX0_pass_11 : decode cX0_pass 11 = .ok (.aload_n 0, 1) := by decide +kernel
theorem dX0_pass_12 : decode cX0_pass 12 = .ok (.iconst 0, 1) := by decide +kernel
theorem dX0_pass_13 : decode cX0_pass 13 = .ok (.putfield 77, 3) := by decide +kernel
theorem dX0_pass_16 : decode cX0_pass 16 = .ok (.aload_n 0, 1) := by decide +kernel
theorem dX0_pass_17 : decode cX0_pass 17 = .ok (.getfield 43, 3) := by decide +kernel
theorem dX0_pass_20 : decode cX0_pass 20 = .ok (.invokevirtual 80, 3) := by decide +kernel
theorem dX0_pass_23 : decode cX0_pass 23 = .ok (.iconst 0, 1) := by decide +kernel
theorem dX0_pass_24 : decode cX0_pass 24 = .ok (.istore_n 2, 1) := by decide +kernel
theorem dX0_pass_25 : decode cX0_pass 25 = .ok (.iload_n 2, 1) := by decide +kernel
theorem dX0_pass_26 : decode cX0_pass 26 = .ok (.sipush 2500, 3) := by decide +kernel
theorem dX0_pass_29 : decode cX0_pass 29 = .ok (.if_icmp .gt 42, 3) := by decide +kernel
theorem dX0_pass_32 : decode cX0_pass 32 = .ok (.aload_n 0, 1) := by decide +kernel
theorem dX0_pass_33 : decode cX0_pass 33 = .ok (.iload_n 2, 1) := by decide +kernel
theorem dX0_pass_34 : decode cX0_pass 34 = .ok (.putfield 83, 3) := by decide +kernel
theorem dX0_pass_37 : decode cX0_pass 37 = .ok (.aload_n 0, 1) := by decide +kernel
theorem dX0_pass_38 : decode cX0_pass 38 = .ok (.invokevirtual 86, 3) := by decide +kernel
theorem dX0_pass_41 : decode cX0_pass 41 = .ok (.ifCond .ne 5, 3) := by decide +kernel
theorem dX0_pass_44 : decode cX0_pass 44 = .ok (.iconst 0, 1) := by decide +kernel
theorem dX0_pass_45 : decode cX0_pass 45 = .ok (.ireturn, 1) := by decide +kernel
theorem dX0_pass_46 : decode cX0_pass 46 = .ok (.aload_n 0, 1) := by decide +kernel
theorem dX0_pass_47 : decode cX0_pass 47 = .ok (.getfield 43, 3) := by decide +kernel
theorem dX0_pass_50 : decode cX0_pass 50 = .ok (.invokevirtual 90, 3) := by decide +kernel
theorem dX0_pass_53 : decode cX0_pass 53 = .ok (.ifCond .eq 5, 3) := by decide +kernel
theorem dX0_pass_56 : decode cX0_pass 56 = .ok (.iconst 1, 1) := by decide +kernel
theorem dX0_pass_57 : decode cX0_pass 57 = .ok (.ireturn, 1) := by decide +kernel
theorem dX0_pass_58 : decode cX0_pass 58 = .ok (.aload_n 0, 1) := by decide +kernel
theorem dX0_pass_59 : decode cX0_pass 59 = .ok (.getfield 43, 3) := by decide +kernel
theorem dX0_pass_62 : decode cX0_pass 62 = .ok (.invokevirtual 93, 3) := by decide +kernel
theorem dX0_pass_65 : decode cX0_pass 65 = .ok (.iinc 2 1, 3) := by decide +kernel
theorem dX0_pass_68 : decode cX0_pass 68 = .ok (.goto (-43), 3) := by decide +kernel
theorem dX0_pass_71 : decode cX0_pass 71 = .ok (.iconst 1, 1) := by decide +kernel
theorem dX0_pass_72 : decode cX0_pass 72 = .ok (.ireturn, 1) := by decide +kernel
theorem dX0_keepLabels_0 : decode cX0_keepLabels 0 = .ok (.aload_n 0, 1) := by decide +kernel
theorem dX0_keepLabels_1 : decode cX0_keepLabels 1 = .ok (.getfield 35, 3) := by decide +kernel
theorem dX0_keepLabels_4 : decode cX0_keepLabels 4 = .ok (.astore_n 1, 1) := by decide +kernel
theorem dX0_keepLabels_5 : decode cX0_keepLabels 5 = .ok (.aload_n 0, 1) := by decide +kernel
theorem dX0_keepLabels_6 : decode cX0_keepLabels 6 = .ok (.aload_n 0, 1) := by decide +kernel
theorem dX0_keepLabels_7 : decode cX0_keepLabels 7 = .ok (.getfield 31, 3) := by decide +kernel
theorem dX0_keepLabels_10 : decode cX0_keepLabels 10 = .ok (.putfield 35, 3) := by decide +kernel
theorem dX0_keepLabels_13 : decode cX0_keepLabels 13 = .ok (.aload_n 0, 1) := by decide +kernel
theorem dX0_keepLabels_14 : decode cX0_keepLabels 14 = .ok (.aload_n 1, 1) := by decide +kernel
theorem dX0_keepLabels_15 : decode cX0_keepLabels 15 = .ok (.putfield 31, 3) := by decide +kernel
theorem dX0_keepLabels_18 : decode cX0_keepLabels 18 = .ok (.return_, 1) := by decide +kernel
theorem dX0_writeTo_0 : decode cX0_writeTo 0 = .ok (.iconst 0, 1) := by decide +kernel
theorem dX0_writeTo_1 : decode cX0_writeTo 1 = .ok (.istore_n 2, 1) := by decide +kernel
theorem dX0_writeTo_2 : decode cX0_writeTo 2 = .ok (.iload_n 2, 1) := by decide +kernel
theorem dX0_writeTo_3 : decode cX0_writeTo 3 = .ok (.aload_n 0, 1) := by decide +kernel
theorem dX0_writeTo_4 : decode cX0_writeTo 4 = .ok (.getfield 77, 3) := by decide +kernel
theorem dX0_writeTo_7 : decode cX0_writeTo 7 = .ok (.if_icmp .ge 32, 3) := by decide +kernel
theorem dX0_writeTo_10 : decode cX0_writeTo 10 = .ok (.iload_n 2, 1) := by decide +kernel
theorem dX0_writeTo_11 : decode cX0_writeTo 11 = .ok (.sipush 2600, 3) := by decide +kernel
theorem dX0_writeTo_14 : decode cX0_writeTo 14 = .ok (.if_icmp .ge 25, 3) := by decide +kernel
theorem dX0_writeTo_17 : decode cX0_writeTo 17 = .ok (.aload_n 1, 1) := by decide +kernel
theorem dX0_writeTo_18 : decode cX0_writeTo 18 = .ok (.aload_n 0, 1) := by decide +kernel
theorem dX0_writeTo_19 : decode cX0_writeTo 19 = .ok (.getfield 25, 3) := by decide +kernel
theorem dX0_writeTo_22 : decode cX0_writeTo 22 = .ok (.iload_n 2, 1) := by decide +kernel
theorem dX0_writeTo_23 : decode cX0_writeTo 23 = .ok (.iaload, 1) := by decide +kernel
theorem dX0_writeTo_24 : decode cX0_writeTo 24 = .ok (.aload_n 0, 1) := by decide +kernel
theorem dX0_writeTo_25 : decode cX0_writeTo 25 = .ok (.getfield 21, 3) := by decide +kernel
theorem dX0_writeTo_28 : decode cX0_writeTo 28 = .ok (.iload_n 2, 1) := by decide +kernel
theorem dX0_writeTo_29 : decode cX0_writeTo 29 = .ok (.iaload, 1) := by decide +kernel
theorem dX0_writeTo_30 : decode cX0_writeTo 30 = .ok (.invokevirtual 96, 3) := by decide +kernel
theorem dX0_writeTo_33 : decode cX0_writeTo 33 = .ok (.iinc 2 1, 3) := by decide +kernel
theorem dX0_writeTo_36 : decode cX0_writeTo 36 = .ok (.goto (-34), 3) := by decide +kernel
theorem dX0_writeTo_39 : decode cX0_writeTo 39 = .ok (.aload_n 0, 1) := by decide +kernel
theorem dX0_writeTo_40 : decode cX0_writeTo 40 = .ok (.getfield 77, 3) := by decide +kernel
theorem dX0_writeTo_43 : decode cX0_writeTo 43 = .ok (.ireturn, 1) := by decide +kernel
theorem dX0_fail_0 : decode cX0_fail 0 = .ok (.aload_n 0, 1) := by decide +kernel
theorem dX0_fail_1 : decode cX0_fail 1 = .ok (.iload_n 1, 1) := by decide +kernel
theorem dX0_fail_2 : decode cX0_fail 2 = .ok (.putfield 47, 3) := by decide +kernel
theorem dX0_fail_5 : decode cX0_fail 5 = .ok (.aload_n 0, 1) := by decide +kernel
theorem dX0_fail_6 : decode cX0_fail 6 = .ok (.iload_n 2, 1) := by decide +kernel
theorem dX0_fail_7 : decode cX0_fail 7 = .ok (.putfield 51, 3) := by decide +kernel
theorem dX0_fail_10 : decode cX0_fail 10 = .ok (.iconst 0, 1) := by decide +kernel
theorem dX0_fail_11 : decode cX0_fail 11 = .ok (.ireturn, 1) := by decide +kernel
theorem dX0_readLine_0 : decode cX0_readLine 0 = .ok (.aload_n 0, 1) := by decide +kernel
theorem dX0_readLine_1 : decode cX0_readLine 1 = .ok (.getfield 43, 3) := by decide +kernel
theorem dX0_readLine_4 : decode cX0_readLine 4 = .ok (.invokevirtual 102, 3) := by decide +kernel
theorem dX0_readLine_7 : decode cX0_readLine 7 = .ok (.iconst 2, 1) := by decide +kernel
theorem dX0_readLine_8 : decode cX0_readLine 8 = .ok (.if_icmp .ne 7, 3) := by decide +kernel
theorem dX0_readLine_11 : decode cX0_readLine 11 = .ok (.iconst 1, 1) := by decide +kernel
theorem dX0_readLine_12 : decode cX0_readLine 12 = .ok (.goto 4, 3) := by decide +kernel
theorem dX0_readLine_15 : decode cX0_readLine 15 = .ok (.iconst 0, 1) := by decide +kernel
theorem dX0_readLine_16 : decode cX0_readLine 16 = .ok (.istore_n 1, 1) := by decide +kernel
theorem dX0_readLine_17 : decode cX0_readLine 17 = .ok (.aload_n 0, 1) := by decide +kernel
theorem dX0_readLine_18 : decode cX0_readLine 18 = .ok (.getfield 43, 3) := by decide +kernel
theorem dX0_readLine_21 : decode cX0_readLine 21 = .ok (.invokevirtual 106, 3) := by decide +kernel
theorem dX0_readLine_24 : decode cX0_readLine 24 = .ok (.lstore_n 2, 1) := by decide +kernel
theorem dX0_readLine_25 : decode cX0_readLine 25 = .ok (.iload_n 1, 1) := by decide +kernel
theorem dX0_readLine_26 : decode cX0_readLine 26 = .ok (.ifCond .eq 73, 3) := by decide +kernel
theorem dX0_readLine_29 : decode cX0_readLine 29 = .ok (.aload_n 0, 1) := by decide +kernel
theorem dX0_readLine_30 : decode cX0_readLine 30 = .ok (.getfield 69, 3) := by decide +kernel
theorem dX0_readLine_33 : decode cX0_readLine 33 = .ok (.ifCond .ne 27, 3) := by decide +kernel
theorem dX0_readLine_36 : decode cX0_readLine 36 = .ok (.aload_n 0, 1) := by decide +kernel
theorem dX0_readLine_37 : decode cX0_readLine 37 = .ok (.getfield 31, 3) := by decide +kernel
theorem dX0_readLine_40 : decode cX0_readLine 40 = .ok (.lload_n 2, 1) := by decide +kernel
theorem dX0_readLine_41 : decode cX0_readLine 41 = .ok (.invokevirtual 110, 3) := by decide +kernel
theorem dX0_readLine_44 : decode cX0_readLine 44 = .ok (.ifCond .ne 16, 3) := by decide +kernel
theorem dX0_readLine_47 : decode cX0_readLine 47 = .ok (.aload_n 0, 1) := by decide +kernel
theorem dX0_readLine_48 : decode cX0_readLine 48 = .ok (.iconst 3, 1) := by decide +kernel
theorem dX0_readLine_49 : decode cX0_readLine 49 = .ok (.aload_n 0, 1) := by decide +kernel
theorem dX0_readLine_50 : decode cX0_readLine 50 = .ok (.getfield 43, 3) := by decide +kernel
theorem dX0_readLine_53 : decode cX0_readLine 53 = .ok (.invokevirtual 114, 3) := by decide +kernel
theorem dX0_readLine_56 : decode cX0_readLine 56 = .ok (.invokevirtual 58, 3) := by decide +kernel
theorem dX0_readLine_59 : decode cX0_readLine 59 = .ok (.ireturn, 1) := by decide +kernel
theorem dX0_readLine_60 : decode cX0_readLine 60 = .ok (.aload_n 0, 1) := by decide +kernel
theorem dX0_readLine_61 : decode cX0_readLine 61 = .ok (.getfield 43, 3) := by decide +kernel
theorem dX0_readLine_64 : decode cX0_readLine 64 = .ok (.invokevirtual 93, 3) := by decide +kernel
theorem dX0_readLine_67 : decode cX0_readLine 67 = .ok (.aload_n 0, 1) := by decide +kernel
theorem dX0_readLine_68 : decode cX0_readLine 68 = .ok (.getfield 43, 3) := by decide +kernel
theorem dX0_readLine_71 : decode cX0_readLine 71 = .ok (.invokevirtual 102, 3) := by decide +kernel
theorem dX0_readLine_74 : decode cX0_readLine 74 = .ok (.bipush 58, 2) := by decide +kernel
theorem dX0_readLine_76 : decode cX0_readLine 76 = .ok (.if_icmp .eq 16, 3) := by decide +kernel
theorem dX0_readLine_79 : decode cX0_readLine 79 = .ok (.aload_n 0, 1) := by decide +kernel
theorem dX0_readLine_80 : decode cX0_readLine 80 = .ok (.iconst 1, 1) := by decide +kernel
theorem dX0_readLine_81 : decode cX0_readLine 81 = .ok (.aload_n 0, 1) := by decide +kernel
theorem dX0_readLine_82 : decode cX0_readLine 82 = .ok (.getfield 43, 3) := by decide +kernel
theorem dX0_readLine_85 : decode cX0_readLine 85 = .ok (.invokevirtual 114, 3) := by decide +kernel
theorem dX0_readLine_88 : decode cX0_readLine 88 = .ok (.invokevirtual 58, 3) := by decide +kernel
theorem dX0_readLine_91 : decode cX0_readLine 91 = .ok (.ireturn, 1) := by decide +kernel
theorem dX0_readLine_92 : decode cX0_readLine 92 = .ok (.aload_n 0, 1) := by decide +kernel
theorem dX0_readLine_93 : decode cX0_readLine 93 = .ok (.getfield 43, 3) := by decide +kernel
theorem dX0_readLine_96 : decode cX0_readLine 96 = .ok (.invokevirtual 93, 3) := by decide +kernel
theorem dX0_readLine_99 : decode cX0_readLine 99 = .ok (.aload_n 0, 1) := by decide +kernel
theorem dX0_readLine_100 : decode cX0_readLine 100 = .ok (.aload_n 0, 1) := by decide +kernel
theorem dX0_readLine_101 : decode cX0_readLine 101 = .ok (.getfield 74, 3) := by decide +kernel
theorem dX0_readLine_104 : decode cX0_readLine 104 = .ok (.putfield 116, 3) := by decide +kernel
theorem dX0_readLine_107 : decode cX0_readLine 107 = .ok (.aload_n 0, 1) := by decide +kernel
theorem dX0_readLine_108 : decode cX0_readLine 108 = .ok (.getfield 43, 3) := by decide +kernel
theorem dX0_readLine_111 : decode cX0_readLine 111 = .ok (.invokevirtual 102, 3) := by decide +kernel
theorem dX0_readLine_114 : decode cX0_readLine 114 = .ok (.ifCond .eq 12, 3) := by decide +kernel
theorem dX0_readLine_117 : decode cX0_readLine 117 = .ok (.aload_n 0, 1) := by decide +kernel
theorem dX0_readLine_118 : decode cX0_readLine 118 = .ok (.invokevirtual 119, 3) := by decide +kernel
theorem dX0_readLine_121 : decode cX0_readLine 121 = .ok (.ifCond .ne 5, 3) := by decide +kernel
theorem dX0_readLine_124 : decode cX0_readLine 124 = .ok (.iconst 0, 1) := by decide +kernel
theorem dX0_readLine_125 : decode cX0_readLine 125 = .ok (.ireturn, 1) := by decide +kernel
theorem dX0_readLine_126 : decode cX0_readLine 126 = .ok (.aload_n 0, 1) := by decide +kernel
theorem dX0_readLine_127 : decode cX0_readLine 127 = .ok (.getfield 43, 3) := by decide +kernel
theorem dX0_readLine_130 : decode cX0_readLine 130 = .ok (.invokevirtual 102, 3) := by decide +kernel
theorem dX0_readLine_133 : decode cX0_readLine 133 = .ok (.ifCond .eq 16, 3) := by decide +kernel
theorem dX0_readLine_136 : decode cX0_readLine 136 = .ok (.aload_n 0, 1) := by decide +kernel
theorem dX0_readLine_137 : decode cX0_readLine 137 = .ok (.iconst 1, 1) := by decide +kernel
theorem dX0_readLine_138 : decode cX0_readLine 138 = .ok (.aload_n 0, 1) := by decide +kernel
theorem dX0_readLine_139 : decode cX0_readLine 139 = .ok (.getfield 43, 3) := by decide +kernel
theorem dX0_readLine_142 : decode cX0_readLine 142 = .ok (.invokevirtual 114, 3) := by decide +kernel
theorem dX0_readLine_145 : decode cX0_readLine 145 = .ok (.invokevirtual 58, 3) := by decide +kernel
theorem dX0_readLine_148 : decode cX0_readLine 148 = .ok (.ireturn, 1) := by decide +kernel
theorem dX0_readLine_149 : decode cX0_readLine 149 = .ok (.aload_n 0, 1) := by decide +kernel
theorem dX0_readLine_150 : decode cX0_readLine 150 = .ok (.getfield 74, 3) := by decide +kernel
theorem dX0_readLine_153 : decode cX0_readLine 153 = .ok (.ldc 122, 2) := by decide +kernel
theorem dX0_readLine_155 : decode cX0_readLine 155 = .ok (.if_icmp .le 16, 3) := by decide +kernel
theorem dX0_readLine_158 : decode cX0_readLine 158 = .ok (.aload_n 0, 1) := by decide +kernel
theorem dX0_readLine_159 : decode cX0_readLine 159 = .ok (.iconst 2, 1) := by decide +kernel
theorem dX0_readLine_160 : decode cX0_readLine 160 = .ok (.aload_n 0, 1) := by decide +kernel
theorem dX0_readLine_161 : decode cX0_readLine 161 = .ok (.getfield 43, 3) := by decide +kernel
theorem dX0_readLine_164 : decode cX0_readLine 164 = .ok (.invokevirtual 114, 3) := by decide +kernel
theorem dX0_readLine_167 : decode cX0_readLine 167 = .ok (.invokevirtual 58, 3) := by decide +kernel
theorem dX0_readLine_170 : decode cX0_readLine 170 = .ok (.ireturn, 1) := by decide +kernel
theorem dX0_readLine_171 : decode cX0_readLine 171 = .ok (.iload_n 1, 1) := by decide +kernel
theorem dX0_readLine_172 : decode cX0_readLine 172 = .ok (.ifCond .eq 29, 3) := by decide +kernel
theorem dX0_readLine_175 : decode cX0_readLine 175 = .ok (.aload_n 0, 1) := by decide +kernel
theorem dX0_readLine_176 : decode cX0_readLine 176 = .ok (.getfield 69, 3) := by decide +kernel
theorem dX0_readLine_179 : decode cX0_readLine 179 = .ok (.ifCond .ne 22, 3) := by decide +kernel
theorem dX0_readLine_182 : decode cX0_readLine 182 = .ok (.aload_n 0, 1) := by decide +kernel
theorem dX0_readLine_183 : decode cX0_readLine 183 = .ok (.getfield 31, 3) := by decide +kernel
theorem dX0_readLine_186 : decode cX0_readLine 186 = .ok (.lload_n 2, 1) := by decide +kernel
theorem dX0_readLine_187 : decode cX0_readLine 187 = .ok (.aload_n 0, 1) := by decide +kernel
theorem dX0_readLine_188 : decode cX0_readLine 188 = .ok (.getfield 116, 3) := by decide +kernel
theorem dX0_readLine_191 : decode cX0_readLine 191 = .ok (.ldc 123, 2) := by decide +kernel
theorem dX0_readLine_193 : decode cX0_readLine 193 = .ok (.iand, 1) := by decide +kernel
theorem dX0_readLine_194 : decode cX0_readLine 194 = .ok (.aload_n 0, 1) := by decide +kernel
theorem dX0_readLine_195 : decode cX0_readLine 195 = .ok (.getfield 83, 3) := by decide +kernel
theorem dX0_readLine_198 : decode cX0_readLine 198 = .ok (.invokevirtual 124, 3) := by decide +kernel
theorem dX0_readLine_201 : decode cX0_readLine 201 = .ok (.iconst 1, 1) := by decide +kernel
theorem dX0_readLine_202 : decode cX0_readLine 202 = .ok (.ireturn, 1) := by decide +kernel
theorem dX0_statement_0 : decode cX0_statement 0 = .ok (.aload_n 0, 1) := by decide +kernel
theorem dX0_statement_1 : decode cX0_statement 1 = .ok (.getfield 43, 3) := by decide +kernel
theorem dX0_statement_4 : decode cX0_statement 4 = .ok (.invokevirtual 102, 3) := by decide +kernel
theorem dX0_statement_7 : decode cX0_statement 7 = .ok (.iconst 3, 1) := by decide +kernel
theorem dX0_statement_8 : decode cX0_statement 8 = .ok (.if_icmp .eq 16, 3) := by decide +kernel
theorem dX0_statement_11 : decode cX0_statement 11 = .ok (.aload_n 0, 1) := by decide +kernel
theorem dX0_statement_12 : decode cX0_statement 12 = .ok (.iconst 1, 1) := by decide +kernel
theorem dX0_statement_13 : decode cX0_statement 13 = .ok (.aload_n 0, 1) := by decide +kernel
theorem dX0_statement_14 : decode cX0_statement 14 = .ok (.getfield 43, 3) := by decide +kernel
theorem dX0_statement_17 : decode cX0_statement 17 = .ok (.invokevirtual 114, 3) := by decide +kernel
theorem dX0_statement_20 : decode cX0_statement 20 = .ok (.invokevirtual 58, 3) := by decide +kernel
theorem dX0_statement_23 : decode cX0_statement 23 = .ok (.ireturn, 1) := by decide +kernel
theorem dX0_statement_24 : decode cX0_statement 24 = .ok (.aload_n 0, 1) := by decide +kernel
theorem dX0_statement_25 : decode cX0_statement 25 = .ok (.getfield 43, 3) := by decide +kernel
theorem dX0_statement_28 : decode cX0_statement 28 = .ok (.invokevirtual 128, 3) := by decide +kernel
theorem dX0_statement_31 : decode cX0_statement 31 = .ok (.istore_n 1, 1) := by decide +kernel
theorem dX0_statement_32 : decode cX0_statement 32 = .ok (.aload_n 0, 1) := by decide +kernel
theorem dX0_statement_33 : decode cX0_statement 33 = .ok (.getfield 43, 3) := by decide +kernel
theorem dX0_statement_36 : decode cX0_statement 36 = .ok (.invokevirtual 93, 3) := by decide +kernel
theorem dX0_statement_39 : decode cX0_statement 39 = .ok (.iload_n 1, 1) := by decide +kernel
theorem dX0_statement_40 : decode cX0_statement 40 = .ok (.bipush 27, 2) := by decide +kernel
theorem dX0_statement_42 : decode cX0_statement 42 = .ok (.if_icmp .ne 8, 3) := by decide +kernel
theorem dX0_statement_45 : decode cX0_statement 45 = .ok (.aload_n 0, 1) := by decide +kernel
theorem dX0_statement_46 : decode cX0_statement 46 = .ok (.invokevirtual 131, 3) := by decide +kernel
theorem dX0_statement_49 : decode cX0_statement 49 = .ok (.ireturn, 1) := by decide +kernel
theorem dX0_statement_50 : decode cX0_statement 50 = .ok (.iload_n 1, 1) := by decide +kernel
theorem dX0_statement_51 : decode cX0_statement 51 = .ok (.bipush 29, 2) := by decide +kernel
theorem dX0_statement_53 : decode cX0_statement 53 = .ok (.if_icmp .ne 8, 3) := by decide +kernel
theorem dX0_statement_56 : decode cX0_statement 56 = .ok (.aload_n 0, 1) := by decide +kernel
theorem dX0_statement_57 : decode cX0_statement 57 = .ok (.invokevirtual 134, 3) := by decide +kernel
theorem dX0_statement_60 : decode cX0_statement 60 = .ok (.ireturn, 1) := by decide +kernel
theorem dX0_statement_61 : decode cX0_statement 61 = .ok (.aload_n 0, 1) := by decide +kernel
theorem dX0_statement_62 : decode cX0_statement 62 = .ok (.dup, 1) := by decide +kernel
theorem dX0_statement_63 : decode cX0_statement 63 = .ok (.getfield 74, 3) := by decide +kernel
theorem dX0_statement_66 : decode cX0_statement 66 = .ok (.aload_n 0, 1) := by decide +kernel
theorem dX0_statement_67 : decode cX0_statement 67 = .ok (.getfield 74, 3) := by decide +kernel
theorem dX0_statement_70 : decode cX0_statement 70 = .ok (.iconst 1, 1) := by decide +kernel
theorem dX0_statement_71 : decode cX0_statement 71 = .ok (.iand, 1) := by decide +kernel
theorem dX0_statement_72 : decode cX0_statement 72 = .ok (.iadd, 1) := by decide +kernel
theorem dX0_statement_73 : decode cX0_statement 73 = .ok (.putfield 74, 3) := by decide +kernel
theorem dX0_statement_76 : decode cX0_statement 76 = .ok (.aload_n 0, 1) := by decide +kernel
theorem dX0_statement_77 : decode cX0_statement 77 = .ok (.aload_n 0, 1) := by decide +kernel
theorem dX0_statement_78 : decode cX0_statement 78 = .ok (.getfield 74, 3) := by decide +kernel
theorem dX0_statement_81 : decode cX0_statement 81 = .ok (.putfield 116, 3) := by decide +kernel
theorem dX0_statement_84 : decode cX0_statement 84 = .ok (.iload_n 1, 1) := by decide +kernel
theorem dX0_statement_85 : decode cX0_statement 85 = .ok (.bipush 28, 2) := by decide +kernel
theorem dX0_statement_87 : decode cX0_statement 87 = .ok (.if_icmp .ne 8, 3) := by decide +kernel
theorem dX0_statement_90 : decode cX0_statement 90 = .ok (.aload_n 0, 1) := by decide +kernel
theorem dX0_statement_91 : decode cX0_statement 91 = .ok (.invokevirtual 137, 3) := by decide +kernel
theorem dX0_statement_94 : decode cX0_statement 94 = .ok (.ireturn, 1) := by decide +kernel
theorem dX0_statement_95 : decode cX0_statement 95 = .ok (.iload_n 1, 1) := by decide +kernel
theorem dX0_statement_96 : decode cX0_statement 96 = .ok (.bipush 12, 2) := by decide +kernel
theorem dX0_statement_98 : decode cX0_statement 98 = .ok (.if_icmp .ge 9, 3) := by decide +kernel
theorem dX0_statement_101 : decode cX0_statement 101 = .ok (.aload_n 0, 1) := by decide +kernel
theorem dX0_statement_102 : decode cX0_statement 102 = .ok (.iload_n 1, 1) := by decide +kernel
theorem dX0_statement_103 : decode cX0_statement 103 = .ok (.invokevirtual 140, 3) := by decide +kernel
theorem dX0_statement_106 : decode cX0_statement 106 = .ok (.ireturn, 1) := by decide +kernel
theorem dX0_statement_107 : decode cX0_statement 107 = .ok (.iload_n 1, 1) := by decide +kernel
theorem dX0_statement_108 : decode cX0_statement 108 = .ok (.bipush 18, 2) := by decide +kernel
theorem dX0_statement_110 : decode cX0_statement 110 = .ok (.if_icmp .ge 9, 3) := by decide +kernel
theorem dX0_statement_113 : decode cX0_statement 113 = .ok (.aload_n 0, 1) := by decide +kernel
theorem dX0_statement_114 : decode cX0_statement 114 = .ok (.iload_n 1, 1) := by decide +kernel
theorem dX0_statement_115 : decode cX0_statement 115 = .ok (.invokevirtual 144, 3) := by decide +kernel
theorem dX0_statement_118 : decode cX0_statement 118 = .ok (.ireturn, 1) := by decide +kernel
theorem dX0_statement_119 : decode cX0_statement 119 = .ok (.iload_n 1, 1) := by decide +kernel
theorem dX0_statement_120 : decode cX0_statement 120 = .ok (.bipush 19, 2) := by decide +kernel
theorem dX0_statement_122 : decode cX0_statement 122 = .ok (.if_icmp .lt 20, 3) := by decide +kernel
theorem dX0_statement_125 : decode cX0_statement 125 = .ok (.iload_n 1, 1) := by decide +kernel
theorem dX0_statement_126 : decode cX0_statement 126 = .ok (.bipush 27, 2) := by decide +kernel
theorem dX0_statement_128 : decode cX0_statement 128 = .ok (.if_icmp .ge 14, 3) := by decide +kernel
theorem dX0_statement_131 : decode cX0_statement 131 = .ok (.aload_n 0, 1) := by decide +kernel
theorem dX0_statement_132 : decode cX0_statement 132 = .ok (.iload_n 1, 1) := by decide +kernel
theorem dX0_statement_133 : decode cX0_statement 133 = .ok (.bipush 19, 2) := by decide +kernel
theorem dX0_statement_135 : decode cX0_statement 135 = .ok (.isub, 1) := by decide +kernel
theorem dX0_statement_136 : decode cX0_statement 136 = .ok (.invokevirtual 147, 3) := by decide +kernel
theorem dX0_statement_139 : decode cX0_statement 139 = .ok (.goto 8, 3) := by decide +kernel
theorem dX0_statement_142 : decode cX0_statement 142 = .ok (.aload_n 0, 1) := by decide +kernel
theorem dX0_statement_143 : decode cX0_statement 143 = .ok (.iload_n 1, 1) := by decide +kernel
theorem dX0_statement_144 : decode cX0_statement 144 = .ok (.invokevirtual 150, 3) := by decide +kernel
theorem dX0_statement_147 : decode cX0_statement 147 = .ok (.ireturn, 1) := by decide +kernel
theorem dX0_origin_0 : decode cX0_origin 0 = .ok (.aload_n 0, 1) := by decide +kernel
theorem dX0_origin_1 : decode cX0_origin 1 = .ok (.getfield 43, 3) := by decide +kernel
theorem dX0_origin_4 : decode cX0_origin 4 = .ok (.invokevirtual 102, 3) := by decide +kernel
theorem dX0_origin_7 : decode cX0_origin 7 = .ok (.iconst 2, 1) := by decide +kernel
theorem dX0_origin_8 : decode cX0_origin 8 = .ok (.if_icmp .ne 16, 3) := by decide +kernel
theorem dX0_origin_11 : decode cX0_origin 11 = .ok (.aload_n 0, 1) := by decide +kernel
theorem dX0_origin_12 : decode cX0_origin 12 = .ok (.iconst 1, 1) := by decide +kernel
theorem dX0_origin_13 : decode cX0_origin 13 = .ok (.aload_n 0, 1) := by decide +kernel
theorem dX0_origin_14 : decode cX0_origin 14 = .ok (.getfield 43, 3) := by decide +kernel
theorem dX0_origin_17 : decode cX0_origin 17 = .ok (.invokevirtual 114, 3) := by decide +kernel
theorem dX0_origin_20 : decode cX0_origin 20 = .ok (.invokevirtual 58, 3) := by decide +kernel
theorem dX0_origin_23 : decode cX0_origin 23 = .ok (.ireturn, 1) := by decide +kernel
theorem dX0_origin_24 : decode cX0_origin 24 = .ok (.aload_n 0, 1) := by decide +kernel
theorem dX0_origin_25 : decode cX0_origin 25 = .ok (.invokevirtual 153, 3) := by decide +kernel
theorem dX0_origin_28 : decode cX0_origin 28 = .ok (.ifCond .ne 5, 3) := by decide +kernel
theorem dX0_origin_31 : decode cX0_origin 31 = .ok (.iconst 0, 1) := by decide +kernel
theorem dX0_origin_32 : decode cX0_origin 32 = .ok (.ireturn, 1) := by decide +kernel
theorem dX0_origin_33 : decode cX0_origin 33 = .ok (.aload_n 0, 1) := by decide +kernel
theorem dX0_origin_34 : decode cX0_origin 34 = .ok (.aload_n 0, 1) := by decide +kernel
theorem dX0_origin_35 : decode cX0_origin 35 = .ok (.getfield 156, 3) := by decide +kernel
theorem dX0_origin_38 : decode cX0_origin 38 = .ok (.ldc 123, 2) := by decide +kernel
theorem dX0_origin_40 : decode cX0_origin 40 = .ok (.iand, 1) := by decide +kernel
theorem dX0_origin_41 : decode cX0_origin 41 = .ok (.putfield 74, 3) := by decide +kernel
theorem dX0_origin_44 : decode cX0_origin 44 = .ok (.aload_n 0, 1) := by decide +kernel
theorem dX0_origin_45 : decode cX0_origin 45 = .ok (.aload_n 0, 1) := by decide +kernel
theorem dX0_origin_46 : decode cX0_origin 46 = .ok (.getfield 74, 3) := by decide +kernel
theorem dX0_origin_49 : decode cX0_origin 49 = .ok (.putfield 116, 3) := by decide +kernel
theorem dX0_origin_52 : decode cX0_origin 52 = .ok (.iconst 1, 1) := by decide +kernel
theorem dX0_origin_53 : decode cX0_origin 53 = .ok (.ireturn, 1) := by decide +kernel
theorem dX0_byteRow_0 : decode cX0_byteRow 0 = .ok (.iconst 0, 1) := by decide +kernel
theorem dX0_byteRow_1 : decode cX0_byteRow 1 = .ok (.istore_n 1, 1) := by decide +kernel
theorem dX0_byteRow_2 : decode cX0_byteRow 2 = .ok (.iload_n 1, 1) := by decide +kernel
theorem dX0_byteRow_3 : decode cX0_byteRow 3 = .ok (.sipush 2500, 3) := by decide +kernel
theorem dX0_byteRow_6 : decode cX0_byteRow 6 = .ok (.if_icmp .gt 83, 3) := by decide +kernel
theorem dX0_byteRow_9 : decode cX0_byteRow 9 = .ok (.aload_n 0, 1) := by decide +kernel
theorem dX0_byteRow_10 : decode cX0_byteRow 10 = .ok (.invokevirtual 153, 3) := by decide +kernel
theorem dX0_byteRow_13 : decode cX0_byteRow 13 = .ok (.ifCond .ne 5, 3) := by decide +kernel
theorem dX0_byteRow_16 : decode cX0_byteRow 16 = .ok (.iconst 0, 1) := by decide +kernel
theorem dX0_byteRow_17 : decode cX0_byteRow 17 = .ok (.ireturn, 1) := by decide +kernel
theorem dX0_byteRow_18 : decode cX0_byteRow 18 = .ok (.aload_n 0, 1) := by decide +kernel
theorem dX0_byteRow_19 : decode cX0_byteRow 19 = .ok (.getfield 158, 3) := by decide +kernel
theorem dX0_byteRow_22 : decode cX0_byteRow 22 = .ok (.ifCond .eq 32, 3) := by decide +kernel
theorem dX0_byteRow_25 : decode cX0_byteRow 25 = .ok (.aload_n 0, 1) := by decide +kernel
theorem dX0_byteRow_26 : decode cX0_byteRow 26 = .ok (.getfield 156, 3) := by decide +kernel
theorem dX0_byteRow_29 : decode cX0_byteRow 29 = .ok (.bipush (-128), 2) := by decide +kernel
theorem dX0_byteRow_31 : decode cX0_byteRow 31 = .ok (.if_icmp .lt 13, 3) := by decide +kernel
theorem dX0_byteRow_34 : decode cX0_byteRow 34 = .ok (.aload_n 0, 1) := by decide +kernel
theorem dX0_byteRow_35 : decode cX0_byteRow 35 = .ok (.getfield 156, 3) := by decide +kernel
theorem dX0_byteRow_38 : decode cX0_byteRow 38 = .ok (.sipush 255, 3) := by decide +kernel
theorem dX0_byteRow_41 : decode cX0_byteRow 41 = .ok (.if_icmp .le 13, 3) := by decide +kernel
theorem dX0_byteRow_44 : decode cX0_byteRow 44 = .ok (.aload_n 0, 1) := by decide +kernel
theorem dX0_byteRow_45 : decode cX0_byteRow 45 = .ok (.iconst 2, 1) := by decide +kernel
theorem dX0_byteRow_46 : decode cX0_byteRow 46 = .ok (.aload_n 0, 1) := by decide +kernel
theorem dX0_byteRow_47 : decode cX0_byteRow 47 = .ok (.getfield 161, 3) := by decide +kernel
theorem dX0_byteRow_50 : decode cX0_byteRow 50 = .ok (.invokevirtual 58, 3) := by decide +kernel
theorem dX0_byteRow_53 : decode cX0_byteRow 53 = .ok (.ireturn, 1) := by decide +kernel
theorem dX0_byteRow_54 : decode cX0_byteRow 54 = .ok (.aload_n 0, 1) := by decide +kernel
theorem dX0_byteRow_55 : decode cX0_byteRow 55 = .ok (.aload_n 0, 1) := by decide +kernel
theorem dX0_byteRow_56 : decode cX0_byteRow 56 = .ok (.getfield 156, 3) := by decide +kernel
theorem dX0_byteRow_59 : decode cX0_byteRow 59 = .ok (.invokevirtual 164, 3) := by decide +kernel
theorem dX0_byteRow_62 : decode cX0_byteRow 62 = .ok (.aload_n 0, 1) := by decide +kernel
theorem dX0_byteRow_63 : decode cX0_byteRow 63 = .ok (.getfield 43, 3) := by decide +kernel
theorem dX0_byteRow_66 : decode cX0_byteRow 66 = .ok (.invokevirtual 102, 3) := by decide +kernel
theorem dX0_byteRow_69 : decode cX0_byteRow 69 = .ok (.bipush 44, 2) := by decide +kernel
theorem dX0_byteRow_71 : decode cX0_byteRow 71 = .ok (.if_icmp .eq 5, 3) := by decide +kernel
theorem dX0_byteRow_74 : decode cX0_byteRow 74 = .ok (.iconst 1, 1) := by decide +kernel
theorem dX0_byteRow_75 : decode cX0_byteRow 75 = .ok (.ireturn, 1) := by decide +kernel
theorem dX0_byteRow_76 : decode cX0_byteRow 76 = .ok (.aload_n 0, 1) := by decide +kernel
theorem dX0_byteRow_77 : decode cX0_byteRow 77 = .ok (.getfield 43, 3) := by decide +kernel
theorem dX0_byteRow_80 : decode cX0_byteRow 80 = .ok (.invokevirtual 93, 3) := by decide +kernel
theorem dX0_byteRow_83 : decode cX0_byteRow 83 = .ok (.iinc 1 1, 3) := by decide +kernel
theorem dX0_byteRow_86 : decode cX0_byteRow 86 = .ok (.goto (-84), 3) := by decide +kernel
theorem dX0_byteRow_89 : decode cX0_byteRow 89 = .ok (.iconst 1, 1) := by decide +kernel
theorem dX0_byteRow_90 : decode cX0_byteRow 90 = .ok (.ireturn, 1) := by decide +kernel
theorem dX0_wordRow_0 : decode cX0_wordRow 0 = .ok (.iconst 0, 1) := by decide +kernel
theorem dX0_wordRow_1 : decode cX0_wordRow 1 = .ok (.istore_n 1, 1) := by decide +kernel
theorem dX0_wordRow_2 : decode cX0_wordRow 2 = .ok (.iload_n 1, 1) := by decide +kernel
theorem dX0_wordRow_3 : decode cX0_wordRow 3 = .ok (.sipush 2500, 3) := by decide +kernel
theorem dX0_wordRow_6 : decode cX0_wordRow 6 = .ok (.if_icmp .gt 47, 3) := by decide +kernel
theorem dX0_wordRow_9 : decode cX0_wordRow 9 = .ok (.aload_n 0, 1) := by decide +kernel
theorem dX0_wordRow_10 : decode cX0_wordRow 10 = .ok (.invokevirtual 153, 3) := by decide +kernel
theorem dX0_wordRow_13 : decode cX0_wordRow 13 = .ok (.ifCond .ne 5, 3) := by decide +kernel
theorem dX0_wordRow_16 : decode cX0_wordRow 16 = .ok (.iconst 0, 1) := by decide +kernel
theorem dX0_wordRow_17 : decode cX0_wordRow 17 = .ok (.ireturn, 1) := by decide +kernel
theorem dX0_wordRow_18 : decode cX0_wordRow 18 = .ok (.aload_n 0, 1) := by decide +kernel
theorem dX0_wordRow_19 : decode cX0_wordRow 19 = .ok (.aload_n 0, 1) := by decide +kernel
theorem dX0_wordRow_20 : decode cX0_wordRow 20 = .ok (.getfield 156, 3) := by decide +kernel
theorem dX0_wordRow_23 : decode cX0_wordRow 23 = .ok (.invokevirtual 167, 3) := by decide +kernel
theorem dX0_wordRow_26 : decode cX0_wordRow 26 = .ok (.aload_n 0, 1) := by decide +kernel
theorem dX0_wordRow_27 : decode cX0_wordRow 27 = .ok (.getfield 43, 3) := by decide +kernel
theorem dX0_wordRow_30 : decode cX0_wordRow 30 = .ok (.invokevirtual 102, 3) := by decide +kernel
theorem dX0_wordRow_33 : decode cX0_wordRow 33 = .ok (.bipush 44, 2) := by decide +kernel
theorem dX0_wordRow_35 : decode cX0_wordRow 35 = .ok (.if_icmp .eq 5, 3) := by decide +kernel
theorem dX0_wordRow_38 : decode cX0_wordRow 38 = .ok (.iconst 1, 1) := by decide +kernel
theorem dX0_wordRow_39 : decode cX0_wordRow 39 = .ok (.ireturn, 1) := by decide +kernel
theorem dX0_wordRow_40 : decode cX0_wordRow 40 = .ok (.aload_n 0, 1) := by decide +kernel
theorem dX0_wordRow_41 : decode cX0_wordRow 41 = .ok (.getfield 43, 3) := by decide +kernel
theorem dX0_wordRow_44 : decode cX0_wordRow 44 = .ok (.invokevirtual 93, 3) := by decide +kernel
theorem dX0_wordRow_47 : decode cX0_wordRow 47 = .ok (.iinc 1 1, 3) := by decide +kernel
theorem dX0_wordRow_50 : decode cX0_wordRow 50 = .ok (.goto (-48), 3) := by decide +kernel
theorem dX0_wordRow_53 : decode cX0_wordRow 53 = .ok (.iconst 1, 1) := by decide +kernel
theorem dX0_wordRow_54 : decode cX0_wordRow 54 = .ok (.ireturn, 1) := by decide +kernel
theorem dX0_two_0 : decode cX0_two 0 = .ok (.aload_n 0, 1) := by decide +kernel
theorem dX0_two_1 : decode cX0_two 1 = .ok (.iload_n 1, 1) := by decide +kernel
theorem dX0_two_2 : decode cX0_two 2 = .ok (.invokevirtual 170, 3) := by decide +kernel
theorem dX0_two_5 : decode cX0_two 5 = .ok (.istore_n 2, 1) := by decide +kernel
theorem dX0_two_6 : decode cX0_two 6 = .ok (.aload_n 0, 1) := by decide +kernel
theorem dX0_two_7 : decode cX0_two 7 = .ok (.aload_n 0, 1) := by decide +kernel
theorem dX0_two_8 : decode cX0_two 8 = .ok (.getfield 12, 3) := by decide +kernel
theorem dX0_two_11 : decode cX0_two 11 = .ok (.iconst 1, 1) := by decide +kernel
theorem dX0_two_12 : decode cX0_two 12 = .ok (.iconst 1, 1) := by decide +kernel
theorem dX0_two_13 : decode cX0_two 13 = .ok (.invokevirtual 173, 3) := by decide +kernel
theorem dX0_two_16 : decode cX0_two 16 = .ok (.ifCond .ne 5, 3) := by decide +kernel
theorem dX0_two_19 : decode cX0_two 19 = .ok (.iconst 0, 1) := by decide +kernel
theorem dX0_two_20 : decode cX0_two 20 = .ok (.ireturn, 1) := by decide +kernel
theorem dX0_two_21 : decode cX0_two 21 = .ok (.aload_n 0, 1) := by decide +kernel
theorem dX0_two_22 : decode cX0_two 22 = .ok (.getfield 43, 3) := by decide +kernel
theorem dX0_two_25 : decode cX0_two 25 = .ok (.invokevirtual 102, 3) := by decide +kernel
theorem dX0_two_28 : decode cX0_two 28 = .ok (.bipush 44, 2) := by decide +kernel
theorem dX0_two_30 : decode cX0_two 30 = .ok (.if_icmp .eq 16, 3) := by decide +kernel
theorem dX0_two_33 : decode cX0_two 33 = .ok (.aload_n 0, 1) := by decide +kernel
theorem dX0_two_34 : decode cX0_two 34 = .ok (.iconst 1, 1) := by decide +kernel
theorem dX0_two_35 : decode cX0_two 35 = .ok (.aload_n 0, 1) := by decide +kernel
theorem dX0_two_36 : decode cX0_two 36 = .ok (.getfield 43, 3) := by decide +kernel
theorem dX0_two_39 : decode cX0_two 39 = .ok (.invokevirtual 114, 3) := by decide +kernel
theorem dX0_two_42 : decode cX0_two 42 = .ok (.invokevirtual 58, 3) := by decide +kernel
theorem dX0_two_45 : decode cX0_two 45 = .ok (.ireturn, 1) := by decide +kernel
theorem dX0_two_46 : decode cX0_two 46 = .ok (.aload_n 0, 1) := by decide +kernel
theorem dX0_two_47 : decode cX0_two 47 = .ok (.getfield 43, 3) := by decide +kernel
theorem dX0_two_50 : decode cX0_two 50 = .ok (.invokevirtual 93, 3) := by decide +kernel
theorem dX0_two_53 : decode cX0_two 53 = .ok (.aload_n 0, 1) := by decide +kernel
theorem dX0_two_54 : decode cX0_two 54 = .ok (.aload_n 0, 1) := by decide +kernel
theorem dX0_two_55 : decode cX0_two 55 = .ok (.getfield 18, 3) := by decide +kernel
theorem dX0_two_58 : decode cX0_two 58 = .ok (.iconst 0, 1) := by decide +kernel
theorem dX0_two_59 : decode cX0_two 59 = .ok (.iconst 1, 1) := by decide +kernel
theorem dX0_two_60 : decode cX0_two 60 = .ok (.invokevirtual 173, 3) := by decide +kernel
theorem dX0_two_63 : decode cX0_two 63 = .ok (.ifCond .eq 18, 3) := by decide +kernel
theorem dX0_two_66 : decode cX0_two 66 = .ok (.aload_n 0, 1) := by decide +kernel
theorem dX0_two_67 : decode cX0_two 67 = .ok (.iload_n 1, 1) := by decide +kernel
theorem dX0_two_68 : decode cX0_two 68 = .ok (.iconst 4, 1) := by decide +kernel
theorem dX0_two_69 : decode cX0_two 69 = .ok (.iadd, 1) := by decide +kernel
theorem dX0_two_70 : decode cX0_two 70 = .ok (.iload_n 2, 1) := by decide +kernel
theorem dX0_two_71 : decode cX0_two 71 = .ok (.invokevirtual 177, 3) := by decide +kernel
theorem dX0_two_74 : decode cX0_two 74 = .ok (.ifCond .eq 7, 3) := by decide +kernel
theorem dX0_two_77 : decode cX0_two 77 = .ok (.iconst 1, 1) := by decide +kernel
theorem dX0_two_78 : decode cX0_two 78 = .ok (.goto 4, 3) := by decide +kernel
theorem dX0_two_81 : decode cX0_two 81 = .ok (.iconst 0, 1) := by decide +kernel
theorem dX0_two_82 : decode cX0_two 82 = .ok (.ireturn, 1) := by decide +kernel
theorem dX0_one_0 : decode cX0_one 0 = .ok (.aload_n 0, 1) := by decide +kernel
theorem dX0_one_1 : decode cX0_one 1 = .ok (.iload_n 1, 1) := by decide +kernel
theorem dX0_one_2 : decode cX0_one 2 = .ok (.invokevirtual 170, 3) := by decide +kernel
theorem dX0_one_5 : decode cX0_one 5 = .ok (.istore_n 2, 1) := by decide +kernel
theorem dX0_one_6 : decode cX0_one 6 = .ok (.aload_n 0, 1) := by decide +kernel
theorem dX0_one_7 : decode cX0_one 7 = .ok (.aload_n 0, 1) := by decide +kernel
theorem dX0_one_8 : decode cX0_one 8 = .ok (.getfield 12, 3) := by decide +kernel
theorem dX0_one_11 : decode cX0_one 11 = .ok (.iconst 1, 1) := by decide +kernel
theorem dX0_one_12 : decode cX0_one 12 = .ok (.iload_n 1, 1) := by decide +kernel
theorem dX0_one_13 : decode cX0_one 13 = .ok (.bipush 16, 2) := by decide +kernel
theorem dX0_one_15 : decode cX0_one 15 = .ok (.if_icmp .ge 7, 3) := by decide +kernel
theorem dX0_one_18 : decode cX0_one 18 = .ok (.iconst 1, 1) := by decide +kernel
theorem dX0_one_19 : decode cX0_one 19 = .ok (.goto 4, 3) := by decide +kernel
theorem dX0_one_22 : decode cX0_one 22 = .ok (.iconst 0, 1) := by decide +kernel
theorem dX0_one_23 : decode cX0_one 23 = .ok (.invokevirtual 173, 3) := by decide +kernel
theorem dX0_one_26 : decode cX0_one 26 = .ok (.ifCond .ne 5, 3) := by decide +kernel
theorem dX0_one_29 : decode cX0_one 29 = .ok (.iconst 0, 1) := by decide +kernel
theorem dX0_one_30 : decode cX0_one 30 = .ok (.ireturn, 1) := by decide +kernel
theorem dX0_one_31 : decode cX0_one 31 = .ok (.aload_n 0, 1) := by decide +kernel
theorem dX0_one_32 : decode cX0_one 32 = .ok (.sipush 4096, 3) := by decide +kernel
theorem dX0_one_35 : decode cX0_one 35 = .ok (.iload_n 1, 1) := by decide +kernel
theorem dX0_one_36 : decode cX0_one 36 = .ok (.bipush 12, 2) := by decide +kernel
theorem dX0_one_38 : decode cX0_one 38 = .ok (.isub, 1) := by decide +kernel
theorem dX0_one_39 : decode cX0_one 39 = .ok (.bipush 7, 2) := by decide +kernel
theorem dX0_one_41 : decode cX0_one 41 = .ok (.ishl, 1) := by decide +kernel
theorem dX0_one_42 : decode cX0_one 42 = .ok (.ior, 1) := by decide +kernel
theorem dX0_one_43 : decode cX0_one 43 = .ok (.iload_n 2, 1) := by decide +kernel
theorem dX0_one_44 : decode cX0_one 44 = .ok (.ior, 1) := by decide +kernel
theorem dX0_one_45 : decode cX0_one 45 = .ok (.aload_n 0, 1) := by decide +kernel
theorem dX0_one_46 : decode cX0_one 46 = .ok (.getfield 12, 3) := by decide +kernel
theorem dX0_one_49 : decode cX0_one 49 = .ok (.invokevirtual 180, 3) := by decide +kernel
theorem dX0_one_52 : decode cX0_one 52 = .ok (.iconst 4, 1) := by decide +kernel
theorem dX0_one_53 : decode cX0_one 53 = .ok (.ishl, 1) := by decide +kernel
theorem dX0_one_54 : decode cX0_one 54 = .ok (.ior, 1) := by decide +kernel
theorem dX0_one_55 : decode cX0_one 55 = .ok (.aload_n 0, 1) := by decide +kernel
theorem dX0_one_56 : decode cX0_one 56 = .ok (.getfield 12, 3) := by decide +kernel
theorem dX0_one_59 : decode cX0_one 59 = .ok (.invokevirtual 183, 3) := by decide +kernel
theorem dX0_one_62 : decode cX0_one 62 = .ok (.ior, 1) := by decide +kernel
theorem dX0_one_63 : decode cX0_one 63 = .ok (.invokevirtual 167, 3) := by decide +kernel
theorem dX0_one_66 : decode cX0_one 66 = .ok (.aload_n 0, 1) := by decide +kernel
theorem dX0_one_67 : decode cX0_one 67 = .ok (.aload_n 0, 1) := by decide +kernel
theorem dX0_one_68 : decode cX0_one 68 = .ok (.getfield 12, 3) := by decide +kernel
theorem dX0_one_71 : decode cX0_one 71 = .ok (.invokevirtual 186, 3) := by decide +kernel
theorem dX0_one_74 : decode cX0_one 74 = .ok (.iconst 1, 1) := by decide +kernel
theorem dX0_one_75 : decode cX0_one 75 = .ok (.ireturn, 1) := by decide +kernel
theorem dX0_jump_0 : decode cX0_jump 0 = .ok (.aload_n 0, 1) := by decide +kernel
theorem dX0_jump_1 : decode cX0_jump 1 = .ok (.invokevirtual 153, 3) := by decide +kernel
theorem dX0_jump_4 : decode cX0_jump 4 = .ok (.ifCond .ne 5, 3) := by decide +kernel
theorem dX0_jump_7 : decode cX0_jump 7 = .ok (.iconst 0, 1) := by decide +kernel
theorem dX0_jump_8 : decode cX0_jump 8 = .ok (.ireturn, 1) := by decide +kernel
theorem dX0_jump_9 : decode cX0_jump 9 = .ok (.aload_n 0, 1) := by decide +kernel
theorem dX0_jump_10 : decode cX0_jump 10 = .ok (.getfield 156, 3) := by decide +kernel
theorem dX0_jump_13 : decode cX0_jump 13 = .ok (.aload_n 0, 1) := by decide +kernel
theorem dX0_jump_14 : decode cX0_jump 14 = .ok (.getfield 74, 3) := by decide +kernel
theorem dX0_jump_17 : decode cX0_jump 17 = .ok (.isub, 1) := by decide +kernel
theorem dX0_jump_18 : decode cX0_jump 18 = .ok (.iconst 2, 1) := by decide +kernel
theorem dX0_jump_19 : decode cX0_jump 19 = .ok (.isub, 1) := by decide +kernel
theorem dX0_jump_20 : decode cX0_jump 20 = .ok (.i2s, 1) := by decide +kernel
theorem dX0_jump_21 : decode cX0_jump 21 = .ok (.istore_n 2, 1) := by decide +kernel
theorem dX0_jump_22 : decode cX0_jump 22 = .ok (.aload_n 0, 1) := by decide +kernel
theorem dX0_jump_23 : decode cX0_jump 23 = .ok (.getfield 69, 3) := by decide +kernel
theorem dX0_jump_26 : decode cX0_jump 26 = .ok (.ifCond .eq 33, 3) := by decide +kernel
theorem dX0_jump_29 : decode cX0_jump 29 = .ok (.iload_n 2, 1) := by decide +kernel
theorem dX0_jump_30 : decode cX0_jump 30 = .ok (.iconst 1, 1) := by decide +kernel
theorem dX0_jump_31 : decode cX0_jump 31 = .ok (.iand, 1) := by decide +kernel
theorem dX0_jump_32 : decode cX0_jump 32 = .ok (.ifCond .ne 17, 3) := by decide +kernel
theorem dX0_jump_35 : decode cX0_jump 35 = .ok (.iload_n 2, 1) := by decide +kernel
theorem dX0_jump_36 : decode cX0_jump 36 = .ok (.sipush (-1024), 3) := by decide +kernel
theorem dX0_jump_39 : decode cX0_jump 39 = .ok (.if_icmp .lt 10, 3) := by decide +kernel
theorem dX0_jump_42 : decode cX0_jump 42 = .ok (.iload_n 2, 1) := by decide +kernel
theorem dX0_jump_43 : decode cX0_jump 43 = .ok (.sipush 1022, 3) := by decide +kernel
theorem dX0_jump_46 : decode cX0_jump 46 = .ok (.if_icmp .le 13, 3) := by decide +kernel
theorem dX0_jump_49 : decode cX0_jump 49 = .ok (.aload_n 0, 1) := by decide +kernel
theorem dX0_jump_50 : decode cX0_jump 50 = .ok (.iconst 5, 1) := by decide +kernel
theorem dX0_jump_51 : decode cX0_jump 51 = .ok (.aload_n 0, 1) := by decide +kernel
theorem dX0_jump_52 : decode cX0_jump 52 = .ok (.getfield 161, 3) := by decide +kernel
theorem dX0_jump_55 : decode cX0_jump 55 = .ok (.invokevirtual 58, 3) := by decide +kernel
theorem dX0_jump_58 : decode cX0_jump 58 = .ok (.ireturn, 1) := by decide +kernel
theorem dX0_jump_59 : decode cX0_jump 59 = .ok (.aload_n 0, 1) := by decide +kernel
theorem dX0_jump_60 : decode cX0_jump 60 = .ok (.sipush 8192, 3) := by decide +kernel
theorem dX0_jump_63 : decode cX0_jump 63 = .ok (.iload_n 1, 1) := by decide +kernel
theorem dX0_jump_64 : decode cX0_jump 64 = .ok (.bipush 10, 2) := by decide +kernel
theorem dX0_jump_66 : decode cX0_jump 66 = .ok (.ishl, 1) := by decide +kernel
theorem dX0_jump_67 : decode cX0_jump 67 = .ok (.ior, 1) := by decide +kernel
theorem dX0_jump_68 : decode cX0_jump 68 = .ok (.iload_n 2, 1) := by decide +kernel
theorem dX0_jump_69 : decode cX0_jump 69 = .ok (.iconst 1, 1) := by decide +kernel
theorem dX0_jump_70 : decode cX0_jump 70 = .ok (.ishr, 1) := by decide +kernel
theorem dX0_jump_71 : decode cX0_jump 71 = .ok (.sipush 1023, 3) := by decide +kernel
theorem dX0_jump_74 : decode cX0_jump 74 = .ok (.iand, 1) := by decide +kernel
theorem dX0_jump_75 : decode cX0_jump 75 = .ok (.ior, 1) := by decide +kernel
theorem dX0_jump_76 : decode cX0_jump 76 = .ok (.invokevirtual 167, 3) := by decide +kernel
theorem dX0_jump_79 : decode cX0_jump 79 = .ok (.iconst 1, 1) := by decide +kernel
theorem dX0_jump_80 : decode cX0_jump 80 = .ok (.ireturn, 1) := by decide +kernel
theorem dX0_other_0 : decode cX0_other 0 = .ok (.iload_n 1, 1) := by decide +kernel
theorem dX0_other_1 : decode cX0_other 1 = .ok (.bipush 18, 2) := by decide +kernel
theorem dX0_other_3 : decode cX0_other 3 = .ok (.if_icmp .ne 12, 3) := by decide +kernel
theorem dX0_other_6 : decode cX0_other 6 = .ok (.aload_n 0, 1) := by decide +kernel
theorem dX0_other_7 : decode cX0_other 7 = .ok (.sipush 4864, 3) := by decide +kernel
theorem dX0_other_10 : decode cX0_other 10 = .ok (.invokevirtual 167, 3) := by decide +kernel
theorem dX0_other_13 : decode cX0_other 13 = .ok (.iconst 1, 1) := by decide +kernel
theorem dX0_other_14 : decode cX0_other 14 = .ok (.ireturn, 1) := by decide +kernel
theorem dX0_other_15 : decode cX0_other 15 = .ok (.iload_n 1, 1) := by decide +kernel
theorem dX0_other_16 : decode cX0_other 16 = .ok (.bipush 32, 2) := by decide +kernel
theorem dX0_other_18 : decode cX0_other 18 = .ok (.if_icmp .ne 40, 3) := by decide +kernel
theorem dX0_other_21 : decode cX0_other 21 = .ok (.aload_n 0, 1) := by decide +kernel
theorem dX0_other_22 : decode cX0_other 22 = .ok (.getfield 18, 3) := by decide +kernel
theorem dX0_other_25 : decode cX0_other 25 = .ok (.iconst 0, 1) := by decide +kernel
theorem dX0_other_26 : decode cX0_other 26 = .ok (.iconst 0, 1) := by decide +kernel
theorem dX0_other_27 : decode cX0_other 27 = .ok (.invokevirtual 192, 3) := by decide +kernel
theorem dX0_other_30 : decode cX0_other 30 = .ok (.aload_n 0, 1) := by decide +kernel
theorem dX0_other_31 : decode cX0_other 31 = .ok (.aload_n 0, 1) := by decide +kernel
theorem dX0_other_32 : decode cX0_other 32 = .ok (.getfield 12, 3) := by decide +kernel
theorem dX0_other_35 : decode cX0_other 35 = .ok (.iconst 1, 1) := by decide +kernel
theorem dX0_other_36 : decode cX0_other 36 = .ok (.iconst 1, 1) := by decide +kernel
theorem dX0_other_37 : decode cX0_other 37 = .ok (.invokevirtual 173, 3) := by decide +kernel
theorem dX0_other_40 : decode cX0_other 40 = .ok (.ifCond .eq 16, 3) := by decide +kernel
theorem dX0_other_43 : decode cX0_other 43 = .ok (.aload_n 0, 1) := by decide +kernel
theorem dX0_other_44 : decode cX0_other 44 = .ok (.iconst 4, 1) := by decide +kernel
theorem dX0_other_45 : decode cX0_other 45 = .ok (.iconst 0, 1) := by decide +kernel
theorem dX0_other_46 : decode cX0_other 46 = .ok (.invokevirtual 177, 3) := by decide +kernel
theorem dX0_other_49 : decode cX0_other 49 = .ok (.ifCond .eq 7, 3) := by decide +kernel
theorem dX0_other_52 : decode cX0_other 52 = .ok (.iconst 1, 1) := by decide +kernel
theorem dX0_other_53 : decode cX0_other 53 = .ok (.goto 4, 3) := by decide +kernel
theorem dX0_other_56 : decode cX0_other 56 = .ok (.iconst 0, 1) := by decide +kernel
theorem dX0_other_57 : decode cX0_other 57 = .ok (.ireturn, 1) := by decide +kernel
theorem dX0_other_58 : decode cX0_other 58 = .ok (.iload_n 1, 1) := by decide +kernel
theorem dX0_other_59 : decode cX0_other 59 = .ok (.bipush 30, 2) := by decide +kernel
theorem dX0_other_61 : decode cX0_other 61 = .ok (.if_icmp .eq 9, 3) := by decide +kernel
theorem dX0_other_64 : decode cX0_other 64 = .ok (.iload_n 1, 1) := by decide +kernel
theorem dX0_other_65 : decode cX0_other 65 = .ok (.bipush 33, 2) := by decide +kernel
theorem dX0_other_67 : decode cX0_other 67 = .ok (.if_icmp .ne 15, 3) := by decide +kernel
theorem dX0_other_70 : decode cX0_other 70 = .ok (.aload_n 0, 1) := by decide +kernel
theorem dX0_other_71 : decode cX0_other 71 = .ok (.getfield 12, 3) := by decide +kernel
theorem dX0_other_74 : decode cX0_other 74 = .ok (.iconst 3, 1) := by decide +kernel
theorem dX0_other_75 : decode cX0_other 75 = .ok (.iconst 1, 1) := by decide +kernel
theorem dX0_other_76 : decode cX0_other 76 = .ok (.invokevirtual 192, 3) := by decide +kernel
theorem dX0_other_79 : decode cX0_other 79 = .ok (.goto 12, 3) := by decide +kernel
theorem dX0_other_82 : decode cX0_other 82 = .ok (.aload_n 0, 1) := by decide +kernel
theorem dX0_other_83 : decode cX0_other 83 = .ok (.getfield 12, 3) := by decide +kernel
theorem dX0_other_86 : decode cX0_other 86 = .ok (.iconst 0, 1) := by decide +kernel
theorem dX0_other_87 : decode cX0_other 87 = .ok (.iconst 3, 1) := by decide +kernel
theorem dX0_other_88 : decode cX0_other 88 = .ok (.invokevirtual 192, 3) := by decide +kernel
theorem dX0_other_91 : decode cX0_other 91 = .ok (.iload_n 1, 1) := by decide +kernel
theorem dX0_other_92 : decode cX0_other 92 = .ok (.bipush 30, 2) := by decide +kernel
theorem dX0_other_94 : decode cX0_other 94 = .ok (.if_icmp .eq 9, 3) := by decide +kernel
theorem dX0_other_97 : decode cX0_other 97 = .ok (.iload_n 1, 1) := by decide +kernel
theorem dX0_other_98 : decode cX0_other 98 = .ok (.bipush 31, 2) := by decide +kernel
theorem dX0_other_100 : decode cX0_other 100 = .ok (.if_icmp .ne 29, 3) := by decide +kernel
theorem dX0_other_103 : decode cX0_other 103 = .ok (.aload_n 0, 1) := by decide +kernel
theorem dX0_other_104 : decode cX0_other 104 = .ok (.getfield 18, 3) := by decide +kernel
theorem dX0_other_107 : decode cX0_other 107 = .ok (.iconst 0, 1) := by decide +kernel
theorem dX0_other_108 : decode cX0_other 108 = .ok (.iload_n 1, 1) := by decide +kernel
theorem dX0_other_109 : decode cX0_other 109 = .ok (.bipush 30, 2) := by decide +kernel
theorem dX0_other_111 : decode cX0_other 111 = .ok (.if_icmp .ne 7, 3) := by decide +kernel
theorem dX0_other_114 : decode cX0_other 114 = .ok (.iconst 0, 1) := by decide +kernel
theorem dX0_other_115 : decode cX0_other 115 = .ok (.goto 4, 3) := by decide +kernel
theorem dX0_other_118 : decode cX0_other 118 = .ok (.iconst 3, 1) := by decide +kernel
theorem dX0_other_119 : decode cX0_other 119 = .ok (.invokevirtual 192, 3) := by decide +kernel
theorem dX0_other_122 : decode cX0_other 122 = .ok (.aload_n 0, 1) := by decide +kernel
theorem dX0_other_123 : decode cX0_other 123 = .ok (.iconst 4, 1) := by decide +kernel
theorem dX0_other_124 : decode cX0_other 124 = .ok (.iconst 0, 1) := by decide +kernel
theorem dX0_other_125 : decode cX0_other 125 = .ok (.invokevirtual 177, 3) := by decide +kernel
theorem dX0_other_128 : decode cX0_other 128 = .ok (.ireturn, 1) := by decide +kernel
theorem dX0_other_129 : decode cX0_other 129 = .ok (.aload_n 0, 1) := by decide +kernel
theorem dX0_other_130 : decode cX0_other 130 = .ok (.aload_n 0, 1) := by decide +kernel
theorem dX0_other_131 : decode cX0_other 131 = .ok (.getfield 18, 3) := by decide +kernel
theorem dX0_other_134 : decode cX0_other 134 = .ok (.iconst 0, 1) := by decide +kernel
theorem dX0_other_135 : decode cX0_other 135 = .ok (.iconst 1, 1) := by decide +kernel
theorem dX0_other_136 : decode cX0_other 136 = .ok (.invokevirtual 173, 3) := by decide +kernel
theorem dX0_other_139 : decode cX0_other 139 = .ok (.ifCond .eq 16, 3) := by decide +kernel
theorem dX0_other_142 : decode cX0_other 142 = .ok (.aload_n 0, 1) := by decide +kernel
theorem dX0_other_143 : decode cX0_other 143 = .ok (.iconst 4, 1) := by decide +kernel
theorem dX0_other_144 : decode cX0_other 144 = .ok (.iconst 0, 1) := by decide +kernel
theorem dX0_other_145 : decode cX0_other 145 = .ok (.invokevirtual 177, 3) := by decide +kernel
theorem dX0_other_148 : decode cX0_other 148 = .ok (.ifCond .eq 7, 3) := by decide +kernel
theorem dX0_other_151 : decode cX0_other 151 = .ok (.iconst 1, 1) := by decide +kernel
theorem dX0_other_152 : decode cX0_other 152 = .ok (.goto 4, 3) := by decide +kernel
theorem dX0_other_155 : decode cX0_other 155 = .ok (.iconst 0, 1) := by decide +kernel
theorem dX0_other_156 : decode cX0_other 156 = .ok (.ireturn, 1) := by decide +kernel
theorem dX0_byteBit_0 : decode cX0_byteBit 0 = .ok (.iload_n 1, 1) := by decide +kernel
theorem dX0_byteBit_1 : decode cX0_byteBit 1 = .ok (.bipush 12, 2) := by decide +kernel
theorem dX0_byteBit_3 : decode cX0_byteBit 3 = .ok (.if_icmp .le 15, 3) := by decide +kernel
theorem dX0_byteBit_6 : decode cX0_byteBit 6 = .ok (.iload_n 1, 1) := by decide +kernel
theorem dX0_byteBit_7 : decode cX0_byteBit 7 = .ok (.bipush 14, 2) := by decide +kernel
theorem dX0_byteBit_9 : decode cX0_byteBit 9 = .ok (.if_icmp .eq 9, 3) := by decide +kernel
theorem dX0_byteBit_12 : decode cX0_byteBit 12 = .ok (.iload_n 1, 1) := by decide +kernel
theorem dX0_byteBit_13 : decode cX0_byteBit 13 = .ok (.bipush 16, 2) := by decide +kernel
theorem dX0_byteBit_15 : decode cX0_byteBit 15 = .ok (.if_icmp .ne 7, 3) := by decide +kernel
theorem dX0_byteBit_18 : decode cX0_byteBit 18 = .ok (.iconst 1, 1) := by decide +kernel
theorem dX0_byteBit_19 : decode cX0_byteBit 19 = .ok (.goto 4, 3) := by decide +kernel
theorem dX0_byteBit_22 : decode cX0_byteBit 22 = .ok (.iconst 0, 1) := by decide +kernel
theorem dX0_byteBit_23 : decode cX0_byteBit 23 = .ok (.istore_n 2, 1) := by decide +kernel
theorem dX0_byteBit_24 : decode cX0_byteBit 24 = .ok (.iload_n 2, 1) := by decide +kernel
theorem dX0_byteBit_25 : decode cX0_byteBit 25 = .ok (.ifCond .eq 15, 3) := by decide +kernel
theorem dX0_byteBit_28 : decode cX0_byteBit 28 = .ok (.aload_n 0, 1) := by decide +kernel
theorem dX0_byteBit_29 : decode cX0_byteBit 29 = .ok (.getfield 43, 3) := by decide +kernel
theorem dX0_byteBit_32 : decode cX0_byteBit 32 = .ok (.invokevirtual 102, 3) := by decide +kernel
theorem dX0_byteBit_35 : decode cX0_byteBit 35 = .ok (.bipush 6, 2) := by decide +kernel
theorem dX0_byteBit_37 : decode cX0_byteBit 37 = .ok (.if_icmp .eq 5, 3) := by decide +kernel
theorem dX0_byteBit_40 : decode cX0_byteBit 40 = .ok (.iconst 0, 1) := by decide +kernel
theorem dX0_byteBit_41 : decode cX0_byteBit 41 = .ok (.ireturn, 1) := by decide +kernel
theorem dX0_byteBit_42 : decode cX0_byteBit 42 = .ok (.aload_n 0, 1) := by decide +kernel
theorem dX0_byteBit_43 : decode cX0_byteBit 43 = .ok (.getfield 43, 3) := by decide +kernel
theorem dX0_byteBit_46 : decode cX0_byteBit 46 = .ok (.invokevirtual 93, 3) := by decide +kernel
theorem dX0_byteBit_49 : decode cX0_byteBit 49 = .ok (.bipush 64, 2) := by decide +kernel
theorem dX0_byteBit_51 : decode cX0_byteBit 51 = .ok (.ireturn, 1) := by decide +kernel
theorem dX0_operand_0 : decode cX0_operand 0 = .ok (.aload_n 0, 1) := by decide +kernel
theorem dX0_operand_1 : decode cX0_operand 1 = .ok (.getfield 43, 3) := by decide +kernel
theorem dX0_operand_4 : decode cX0_operand 4 = .ok (.invokevirtual 102, 3) := by decide +kernel
theorem dX0_operand_7 : decode cX0_operand 7 = .ok (.istore 4, 2) := by decide +kernel
theorem dX0_operand_9 : decode cX0_operand 9 = .ok (.iload 4, 2) := by decide +kernel
theorem dX0_operand_11 : decode cX0_operand 11 = .ok (.iconst 4, 1) := by decide +kernel
theorem dX0_operand_12 : decode cX0_operand 12 = .ok (.if_icmp .ne 24, 3) := by decide +kernel
theorem dX0_operand_15 : decode cX0_operand 15 = .ok (.aload_n 1, 1) := by decide +kernel
theorem dX0_operand_16 : decode cX0_operand 16 = .ok (.iconst 0, 1) := by decide +kernel
theorem dX0_operand_17 : decode cX0_operand 17 = .ok (.aload_n 0, 1) := by decide +kernel
theorem dX0_operand_18 : decode cX0_operand 18 = .ok (.getfield 43, 3) := by decide +kernel
theorem dX0_operand_21 : decode cX0_operand 21 = .ok (.invokevirtual 128, 3) := by decide +kernel
theorem dX0_operand_24 : decode cX0_operand 24 = .ok (.invokevirtual 192, 3) := by decide +kernel
theorem dX0_operand_27 : decode cX0_operand 27 = .ok (.aload_n 0, 1) := by decide +kernel
theorem dX0_operand_28 : decode cX0_operand 28 = .ok (.getfield 43, 3) := by decide +kernel
theorem dX0_operand_31 : decode cX0_operand 31 = .ok (.invokevirtual 93, 3) := by decide +kernel
theorem dX0_operand_34 : decode cX0_operand 34 = .ok (.iconst 1, 1) := by decide +kernel
theorem dX0_operand_35 : decode cX0_operand 35 = .ok (.ireturn, 1) := by decide +kernel
theorem dX0_operand_36 : decode cX0_operand 36 = .ok (.iload 4, 2) := by decide +kernel
theorem dX0_operand_38 : decode cX0_operand 38 = .ok (.bipush 64, 2) := by decide +kernel
theorem dX0_operand_40 : decode cX0_operand 40 = .ok (.if_icmp .ne 13, 3) := by decide +kernel
theorem dX0_operand_43 : decode cX0_operand 43 = .ok (.iload_n 2, 1) := by decide +kernel
theorem dX0_operand_44 : decode cX0_operand 44 = .ok (.ifCond .eq 9, 3) := by decide +kernel
theorem dX0_operand_47 : decode cX0_operand 47 = .ok (.aload_n 0, 1) := by decide +kernel
theorem dX0_operand_48 : decode cX0_operand 48 = .ok (.aload_n 1, 1) := by decide +kernel
theorem dX0_operand_49 : decode cX0_operand 49 = .ok (.invokevirtual 195, 3) := by decide +kernel
theorem dX0_operand_52 : decode cX0_operand 52 = .ok (.ireturn, 1) := by decide +kernel
theorem dX0_operand_53 : decode cX0_operand 53 = .ok (.iload 4, 2) := by decide +kernel
theorem dX0_operand_55 : decode cX0_operand 55 = .ok (.bipush 35, 2) := by decide +kernel
theorem dX0_operand_57 : decode cX0_operand 57 = .ok (.if_icmp .ne 11, 3) := by decide +kernel
theorem dX0_operand_60 : decode cX0_operand 60 = .ok (.iload_n 2, 1) := by decide +kernel
theorem dX0_operand_61 : decode cX0_operand 61 = .ok (.ifCond .eq 7, 3) := by decide +kernel
theorem dX0_operand_64 : decode cX0_operand 64 = .ok (.iconst 1, 1) := by decide +kernel
theorem dX0_operand_65 : decode cX0_operand 65 = .ok (.goto 4, 3) := by decide +kernel
theorem dX0_operand_68 : decode cX0_operand 68 = .ok (.iconst 0, 1) := by decide +kernel
theorem dX0_operand_69 : decode cX0_operand 69 = .ok (.istore 5, 2) := by decide +kernel
theorem dX0_operand_71 : decode cX0_operand 71 = .ok (.iload 5, 2) := by decide +kernel
theorem dX0_operand_73 : decode cX0_operand 73 = .ok (.ifCond .ne 10, 3) := by decide +kernel
theorem dX0_operand_76 : decode cX0_operand 76 = .ok (.iload 4, 2) := by decide +kernel
theorem dX0_operand_78 : decode cX0_operand 78 = .ok (.bipush 38, 2) := by decide +kernel
theorem dX0_operand_80 : decode cX0_operand 80 = .ok (.if_icmp .ne 10, 3) := by decide +kernel
theorem dX0_operand_83 : decode cX0_operand 83 = .ok (.aload_n 0, 1) := by decide +kernel
theorem dX0_operand_84 : decode cX0_operand 84 = .ok (.getfield 43, 3) := by decide +kernel
theorem dX0_operand_87 : decode cX0_operand 87 = .ok (.invokevirtual 93, 3) := by decide +kernel
theorem dX0_operand_90 : decode cX0_operand 90 = .ok (.aload_n 0, 1) := by decide +kernel
theorem dX0_operand_91 : decode cX0_operand 91 = .ok (.invokevirtual 153, 3) := by decide +kernel
theorem dX0_operand_94 : decode cX0_operand 94 = .ok (.ifCond .ne 5, 3) := by decide +kernel
theorem dX0_operand_97 : decode cX0_operand 97 = .ok (.iconst 0, 1) := by decide +kernel
theorem dX0_operand_98 : decode cX0_operand 98 = .ok (.ireturn, 1) := by decide +kernel
theorem dX0_operand_99 : decode cX0_operand 99 = .ok (.iload 5, 2) := by decide +kernel
theorem dX0_operand_101 : decode cX0_operand 101 = .ok (.ifCond .eq 25, 3) := by decide +kernel
theorem dX0_operand_104 : decode cX0_operand 104 = .ok (.aload_n 0, 1) := by decide +kernel
theorem dX0_operand_105 : decode cX0_operand 105 = .ok (.getfield 158, 3) := by decide +kernel
theorem dX0_operand_108 : decode cX0_operand 108 = .ok (.ifCond .eq 18, 3) := by decide +kernel
theorem dX0_operand_111 : decode cX0_operand 111 = .ok (.iload_n 3, 1) := by decide +kernel
theorem dX0_operand_112 : decode cX0_operand 112 = .ok (.ifCond .eq 14, 3) := by decide +kernel
theorem dX0_operand_115 : decode cX0_operand 115 = .ok (.aload_n 1, 1) := by decide +kernel
theorem dX0_operand_116 : decode cX0_operand 116 = .ok (.aload_n 0, 1) := by decide +kernel
theorem dX0_operand_117 : decode cX0_operand 117 = .ok (.getfield 156, 3) := by decide +kernel
theorem dX0_operand_120 : decode cX0_operand 120 = .ok (.invokevirtual 199, 3) := by decide +kernel
theorem dX0_operand_123 : decode cX0_operand 123 = .ok (.goto 67, 3) := by decide +kernel
theorem dX0_operand_126 : decode cX0_operand 126 = .ok (.iload 5, 2) := by decide +kernel
theorem dX0_operand_128 : decode cX0_operand 128 = .ok (.ifCond .eq 16, 3) := by decide +kernel
theorem dX0_operand_131 : decode cX0_operand 131 = .ok (.aload_n 1, 1) := by decide +kernel
theorem dX0_operand_132 : decode cX0_operand 132 = .ok (.iconst 3, 1) := by decide +kernel
theorem dX0_operand_133 : decode cX0_operand 133 = .ok (.iconst 0, 1) := by decide +kernel
theorem dX0_operand_134 : decode cX0_operand 134 = .ok (.aload_n 0, 1) := by decide +kernel
theorem dX0_operand_135 : decode cX0_operand 135 = .ok (.getfield 156, 3) := by decide +kernel
theorem dX0_operand_138 : decode cX0_operand 138 = .ok (.invokevirtual 202, 3) := by decide +kernel
theorem dX0_operand_141 : decode cX0_operand 141 = .ok (.goto 49, 3) := by decide +kernel
theorem dX0_operand_144 : decode cX0_operand 144 = .ok (.iload 4, 2) := by decide +kernel
theorem dX0_operand_146 : decode cX0_operand 146 = .ok (.bipush 38, 2) := by decide +kernel
theorem dX0_operand_148 : decode cX0_operand 148 = .ok (.if_icmp .ne 16, 3) := by decide +kernel
theorem dX0_operand_151 : decode cX0_operand 151 = .ok (.aload_n 1, 1) := by decide +kernel
theorem dX0_operand_152 : decode cX0_operand 152 = .ok (.iconst 1, 1) := by decide +kernel
theorem dX0_operand_153 : decode cX0_operand 153 = .ok (.iconst 2, 1) := by decide +kernel
theorem dX0_operand_154 : decode cX0_operand 154 = .ok (.aload_n 0, 1) := by decide +kernel
theorem dX0_operand_155 : decode cX0_operand 155 = .ok (.getfield 156, 3) := by decide +kernel
theorem dX0_operand_158 : decode cX0_operand 158 = .ok (.invokevirtual 202, 3) := by decide +kernel
theorem dX0_operand_161 : decode cX0_operand 161 = .ok (.goto 29, 3) := by decide +kernel
theorem dX0_operand_164 : decode cX0_operand 164 = .ok (.aload_n 0, 1) := by decide +kernel
theorem dX0_operand_165 : decode cX0_operand 165 = .ok (.getfield 43, 3) := by decide +kernel
theorem dX0_operand_168 : decode cX0_operand 168 = .ok (.invokevirtual 102, 3) := by decide +kernel
theorem dX0_operand_171 : decode cX0_operand 171 = .ok (.bipush 40, 2) := by decide +kernel
theorem dX0_operand_173 : decode cX0_operand 173 = .ok (.if_icmp .ne 9, 3) := by decide +kernel
theorem dX0_operand_176 : decode cX0_operand 176 = .ok (.aload_n 0, 1) := by decide +kernel
theorem dX0_operand_177 : decode cX0_operand 177 = .ok (.aload_n 1, 1) := by decide +kernel
theorem dX0_operand_178 : decode cX0_operand 178 = .ok (.invokevirtual 206, 3) := by decide +kernel
theorem dX0_operand_181 : decode cX0_operand 181 = .ok (.ireturn, 1) := by decide +kernel
theorem dX0_operand_182 : decode cX0_operand 182 = .ok (.aload_n 1, 1) := by decide +kernel
theorem dX0_operand_183 : decode cX0_operand 183 = .ok (.aload_n 0, 1) := by decide +kernel
theorem dX0_operand_184 : decode cX0_operand 184 = .ok (.getfield 156, 3) := by decide +kernel
theorem dX0_operand_187 : decode cX0_operand 187 = .ok (.invokevirtual 209, 3) := by decide +kernel
theorem dX0_operand_190 : decode cX0_operand 190 = .ok (.iconst 1, 1) := by decide +kernel
theorem dX0_operand_191 : decode cX0_operand 191 = .ok (.ireturn, 1) := by decide +kernel
theorem dX0_through_0 : decode cX0_through 0 = .ok (.aload_n 0, 1) := by decide +kernel
theorem dX0_through_1 : decode cX0_through 1 = .ok (.getfield 43, 3) := by decide +kernel
theorem dX0_through_4 : decode cX0_through 4 = .ok (.invokevirtual 93, 3) := by decide +kernel
theorem dX0_through_7 : decode cX0_through 7 = .ok (.aload_n 0, 1) := by decide +kernel
theorem dX0_through_8 : decode cX0_through 8 = .ok (.getfield 43, 3) := by decide +kernel
theorem dX0_through_11 : decode cX0_through 11 = .ok (.invokevirtual 212, 3) := by decide +kernel
theorem dX0_through_14 : decode cX0_through 14 = .ok (.ifCond .ne 16, 3) := by decide +kernel
theorem dX0_through_17 : decode cX0_through 17 = .ok (.aload_n 0, 1) := by decide +kernel
theorem dX0_through_18 : decode cX0_through 18 = .ok (.iconst 1, 1) := by decide +kernel
theorem dX0_through_19 : decode cX0_through 19 = .ok (.aload_n 0, 1) := by decide +kernel
theorem dX0_through_20 : decode cX0_through 20 = .ok (.getfield 43, 3) := by decide +kernel
theorem dX0_through_23 : decode cX0_through 23 = .ok (.invokevirtual 114, 3) := by decide +kernel
theorem dX0_through_26 : decode cX0_through 26 = .ok (.invokevirtual 58, 3) := by decide +kernel
theorem dX0_through_29 : decode cX0_through 29 = .ok (.ireturn, 1) := by decide +kernel
theorem dX0_through_30 : decode cX0_through 30 = .ok (.aload_n 0, 1) := by decide +kernel
theorem dX0_through_31 : decode cX0_through 31 = .ok (.getfield 43, 3) := by decide +kernel
theorem dX0_through_34 : decode cX0_through 34 = .ok (.invokevirtual 128, 3) := by decide +kernel
theorem dX0_through_37 : decode cX0_through 37 = .ok (.istore_n 2, 1) := by decide +kernel
theorem dX0_through_38 : decode cX0_through 38 = .ok (.aload_n 0, 1) := by decide +kernel
theorem dX0_through_39 : decode cX0_through 39 = .ok (.getfield 43, 3) := by decide +kernel
theorem dX0_through_42 : decode cX0_through 42 = .ok (.invokevirtual 93, 3) := by decide +kernel
theorem dX0_through_45 : decode cX0_through 45 = .ok (.aload_n 0, 1) := by decide +kernel
theorem dX0_through_46 : decode cX0_through 46 = .ok (.getfield 43, 3) := by decide +kernel
theorem dX0_through_49 : decode cX0_through 49 = .ok (.invokevirtual 102, 3) := by decide +kernel
theorem dX0_through_52 : decode cX0_through 52 = .ok (.bipush 43, 2) := by decide +kernel
theorem dX0_through_54 : decode cX0_through 54 = .ok (.if_icmp .ne 7, 3) := by decide +kernel
theorem dX0_through_57 : decode cX0_through 57 = .ok (.iconst 1, 1) := by decide +kernel
theorem dX0_through_58 : decode cX0_through 58 = .ok (.goto 4, 3) := by decide +kernel
theorem dX0_through_61 : decode cX0_through 61 = .ok (.iconst 0, 1) := by decide +kernel
theorem dX0_through_62 : decode cX0_through 62 = .ok (.istore_n 3, 1) := by decide +kernel
theorem dX0_through_63 : decode cX0_through 63 = .ok (.iload_n 3, 1) := by decide +kernel
theorem dX0_through_64 : decode cX0_through 64 = .ok (.ifCond .eq 10, 3) := by decide +kernel
theorem dX0_through_67 : decode cX0_through 67 = .ok (.aload_n 0, 1) := by decide +kernel
theorem dX0_through_68 : decode cX0_through 68 = .ok (.getfield 43, 3) := by decide +kernel
theorem dX0_through_71 : decode cX0_through 71 = .ok (.invokevirtual 93, 3) := by decide +kernel
theorem dX0_through_74 : decode cX0_through 74 = .ok (.aload_n 1, 1) := by decide +kernel
theorem dX0_through_75 : decode cX0_through 75 = .ok (.iload_n 3, 1) := by decide +kernel
theorem dX0_through_76 : decode cX0_through 76 = .ok (.ifCond .eq 7, 3) := by decide +kernel
theorem dX0_through_79 : decode cX0_through 79 = .ok (.iconst 3, 1) := by decide +kernel
theorem dX0_through_80 : decode cX0_through 80 = .ok (.goto 4, 3) := by decide +kernel
theorem dX0_through_83 : decode cX0_through 83 = .ok (.iconst 2, 1) := by decide +kernel
theorem dX0_through_84 : decode cX0_through 84 = .ok (.iload_n 2, 1) := by decide +kernel
theorem dX0_through_85 : decode cX0_through 85 = .ok (.invokevirtual 192, 3) := by decide +kernel
theorem dX0_through_88 : decode cX0_through 88 = .ok (.iconst 1, 1) := by decide +kernel
theorem dX0_through_89 : decode cX0_through 89 = .ok (.ireturn, 1) := by decide +kernel
theorem dX0_indexed_0 : decode cX0_indexed 0 = .ok (.aload_n 0, 1) := by decide +kernel
theorem dX0_indexed_1 : decode cX0_indexed 1 = .ok (.getfield 43, 3) := by decide +kernel
theorem dX0_indexed_4 : decode cX0_indexed 4 = .ok (.invokevirtual 93, 3) := by decide +kernel
theorem dX0_indexed_7 : decode cX0_indexed 7 = .ok (.aload_n 0, 1) := by decide +kernel
theorem dX0_indexed_8 : decode cX0_indexed 8 = .ok (.getfield 43, 3) := by decide +kernel
theorem dX0_indexed_11 : decode cX0_indexed 11 = .ok (.invokevirtual 212, 3) := by decide +kernel
theorem dX0_indexed_14 : decode cX0_indexed 14 = .ok (.ifCond .ne 16, 3) := by decide +kernel
theorem dX0_indexed_17 : decode cX0_indexed 17 = .ok (.aload_n 0, 1) := by decide +kernel
theorem dX0_indexed_18 : decode cX0_indexed 18 = .ok (.iconst 1, 1) := by decide +kernel
theorem dX0_indexed_19 : decode cX0_indexed 19 = .ok (.aload_n 0, 1) := by decide +kernel
theorem dX0_indexed_20 : decode cX0_indexed 20 = .ok (.getfield 43, 3) := by decide +kernel
theorem dX0_indexed_23 : decode cX0_indexed 23 = .ok (.invokevirtual 114, 3) := by decide +kernel
theorem dX0_indexed_26 : decode cX0_indexed 26 = .ok (.invokevirtual 58, 3) := by decide +kernel
theorem dX0_indexed_29 : decode cX0_indexed 29 = .ok (.ireturn, 1) := by decide +kernel
theorem dX0_indexed_30 : decode cX0_indexed 30 = .ok (.aload_n 1, 1) := by decide +kernel
theorem dX0_indexed_31 : decode cX0_indexed 31 = .ok (.iconst 1, 1) := by decide +kernel
theorem dX0_indexed_32 : decode cX0_indexed 32 = .ok (.aload_n 0, 1) := by decide +kernel
theorem dX0_indexed_33 : decode cX0_indexed 33 = .ok (.getfield 43, 3) := by decide +kernel
theorem dX0_indexed_36 : decode cX0_indexed 36 = .ok (.invokevirtual 128, 3) := by decide +kernel
theorem dX0_indexed_39 : decode cX0_indexed 39 = .ok (.aload_n 0, 1) := by decide +kernel
theorem dX0_indexed_40 : decode cX0_indexed 40 = .ok (.getfield 156, 3) := by decide +kernel
theorem dX0_indexed_43 : decode cX0_indexed 43 = .ok (.invokevirtual 202, 3) := by decide +kernel
theorem dX0_indexed_46 : decode cX0_indexed 46 = .ok (.aload_n 0, 1) := by decide +kernel
theorem dX0_indexed_47 : decode cX0_indexed 47 = .ok (.getfield 43, 3) := by decide +kernel
theorem dX0_indexed_50 : decode cX0_indexed 50 = .ok (.invokevirtual 93, 3) := by decide +kernel
theorem dX0_indexed_53 : decode cX0_indexed 53 = .ok (.aload_n 0, 1) := by decide +kernel
theorem dX0_indexed_54 : decode cX0_indexed 54 = .ok (.getfield 43, 3) := by decide +kernel
theorem dX0_indexed_57 : decode cX0_indexed 57 = .ok (.invokevirtual 102, 3) := by decide +kernel
theorem dX0_indexed_60 : decode cX0_indexed 60 = .ok (.bipush 41, 2) := by decide +kernel
theorem dX0_indexed_62 : decode cX0_indexed 62 = .ok (.if_icmp .eq 16, 3) := by decide +kernel
theorem dX0_indexed_65 : decode cX0_indexed 65 = .ok (.aload_n 0, 1) := by decide +kernel
theorem dX0_indexed_66 : decode cX0_indexed 66 = .ok (.iconst 1, 1) := by decide +kernel
theorem dX0_indexed_67 : decode cX0_indexed 67 = .ok (.aload_n 0, 1) := by decide +kernel
theorem dX0_indexed_68 : decode cX0_indexed 68 = .ok (.getfield 43, 3) := by decide +kernel
theorem dX0_indexed_71 : decode cX0_indexed 71 = .ok (.invokevirtual 114, 3) := by decide +kernel
theorem dX0_indexed_74 : decode cX0_indexed 74 = .ok (.invokevirtual 58, 3) := by decide +kernel
theorem dX0_indexed_77 : decode cX0_indexed 77 = .ok (.ireturn, 1) := by decide +kernel
theorem dX0_indexed_78 : decode cX0_indexed 78 = .ok (.aload_n 0, 1) := by decide +kernel
theorem dX0_indexed_79 : decode cX0_indexed 79 = .ok (.getfield 43, 3) := by decide +kernel
theorem dX0_indexed_82 : decode cX0_indexed 82 = .ok (.invokevirtual 93, 3) := by decide +kernel
theorem dX0_indexed_85 : decode cX0_indexed 85 = .ok (.iconst 1, 1) := by decide +kernel
theorem dX0_indexed_86 : decode cX0_indexed 86 = .ok (.ireturn, 1) := by decide +kernel
theorem dX0_expression_0 : decode cX0_expression 0 = .ok (.aload_n 0, 1) := by decide +kernel
theorem dX0_expression_1 : decode cX0_expression 1 = .ok (.aload_n 0, 1) := by decide +kernel
theorem dX0_expression_2 : decode cX0_expression 2 = .ok (.getfield 43, 3) := by decide +kernel
theorem dX0_expression_5 : decode cX0_expression 5 = .ok (.invokevirtual 114, 3) := by decide +kernel
theorem dX0_expression_8 : decode cX0_expression 8 = .ok (.putfield 161, 3) := by decide +kernel
theorem dX0_expression_11 : decode cX0_expression 11 = .ok (.aload_n 0, 1) := by decide +kernel
theorem dX0_expression_12 : decode cX0_expression 12 = .ok (.iconst 0, 1) := by decide +kernel
theorem dX0_expression_13 : decode cX0_expression 13 = .ok (.putfield 156, 3) := by decide +kernel
theorem dX0_expression_16 : decode cX0_expression 16 = .ok (.aload_n 0, 1) := by decide +kernel
theorem dX0_expression_17 : decode cX0_expression 17 = .ok (.aload_n 0, 1) := by decide +kernel
theorem dX0_expression_18 : decode cX0_expression 18 = .ok (.getfield 43, 3) := by decide +kernel
theorem dX0_expression_21 : decode cX0_expression 21 = .ok (.invokevirtual 102, 3) := by decide +kernel
theorem dX0_expression_24 : decode cX0_expression 24 = .ok (.iconst 2, 1) := by decide +kernel
theorem dX0_expression_25 : decode cX0_expression 25 = .ok (.if_icmp .eq 7, 3) := by decide +kernel
theorem dX0_expression_28 : decode cX0_expression 28 = .ok (.iconst 1, 1) := by decide +kernel
theorem dX0_expression_29 : decode cX0_expression 29 = .ok (.goto 4, 3) := by decide +kernel
theorem dX0_expression_32 : decode cX0_expression 32 = .ok (.iconst 0, 1) := by decide +kernel
theorem dX0_expression_33 : decode cX0_expression 33 = .ok (.putfield 158, 3) := by decide +kernel
theorem dX0_expression_36 : decode cX0_expression 36 = .ok (.aload_n 0, 1) := by decide +kernel
theorem dX0_expression_37 : decode cX0_expression 37 = .ok (.getfield 158, 3) := by decide +kernel
theorem dX0_expression_40 : decode cX0_expression 40 = .ok (.ifCond .ne 52, 3) := by decide +kernel
theorem dX0_expression_43 : decode cX0_expression 43 = .ok (.aload_n 0, 1) := by decide +kernel
theorem dX0_expression_44 : decode cX0_expression 44 = .ok (.getfield 31, 3) := by decide +kernel
theorem dX0_expression_47 : decode cX0_expression 47 = .ok (.aload_n 0, 1) := by decide +kernel
theorem dX0_expression_48 : decode cX0_expression 48 = .ok (.getfield 43, 3) := by decide +kernel
theorem dX0_expression_51 : decode cX0_expression 51 = .ok (.invokevirtual 106, 3) := by decide +kernel
theorem dX0_expression_54 : decode cX0_expression 54 = .ok (.invokevirtual 215, 3) := by decide +kernel
theorem dX0_expression_57 : decode cX0_expression 57 = .ok (.istore_n 1, 1) := by decide +kernel
theorem dX0_expression_58 : decode cX0_expression 58 = .ok (.aload_n 0, 1) := by decide +kernel
theorem dX0_expression_59 : decode cX0_expression 59 = .ok (.getfield 69, 3) := by decide +kernel
theorem dX0_expression_62 : decode cX0_expression 62 = .ok (.ifCond .eq 18, 3) := by decide +kernel
theorem dX0_expression_65 : decode cX0_expression 65 = .ok (.iload_n 1, 1) := by decide +kernel
theorem dX0_expression_66 : decode cX0_expression 66 = .ok (.iconst (-1), 1) := by decide +kernel
theorem dX0_expression_67 : decode cX0_expression 67 = .ok (.if_icmp .ne 13, 3) := by decide +kernel
theorem dX0_expression_70 : decode cX0_expression 70 = .ok (.aload_n 0, 1) := by decide +kernel
theorem dX0_expression_71 : decode cX0_expression 71 = .ok (.iconst 4, 1) := by decide +kernel
theorem dX0_expression_72 : decode cX0_expression 72 = .ok (.aload_n 0, 1) := by decide +kernel
theorem dX0_expression_73 : decode cX0_expression 73 = .ok (.getfield 161, 3) := by decide +kernel
theorem dX0_expression_76 : decode cX0_expression 76 = .ok (.invokevirtual 58, 3) := by decide +kernel
theorem dX0_expression_79 : decode cX0_expression 79 = .ok (.ireturn, 1) := by decide +kernel
theorem dX0_expression_80 : decode cX0_expression 80 = .ok (.aload_n 0, 1) := by decide +kernel
theorem dX0_expression_81 : decode cX0_expression 81 = .ok (.iload_n 1, 1) := by decide +kernel
theorem dX0_expression_82 : decode cX0_expression 82 = .ok (.putfield 156, 3) := by decide +kernel
theorem dX0_expression_85 : decode cX0_expression 85 = .ok (.aload_n 0, 1) := by decide +kernel
theorem dX0_expression_86 : decode cX0_expression 86 = .ok (.getfield 43, 3) := by decide +kernel
theorem dX0_expression_89 : decode cX0_expression 89 = .ok (.invokevirtual 93, 3) := by decide +kernel
theorem dX0_expression_92 : decode cX0_expression 92 = .ok (.aload_n 0, 1) := by decide +kernel
theorem dX0_expression_93 : decode cX0_expression 93 = .ok (.getfield 43, 3) := by decide +kernel
theorem dX0_expression_96 : decode cX0_expression 96 = .ok (.invokevirtual 102, 3) := by decide +kernel
theorem dX0_expression_99 : decode cX0_expression 99 = .ok (.istore_n 1, 1) := by decide +kernel
theorem dX0_expression_100 : decode cX0_expression 100 = .ok (.iload_n 1, 1) := by decide +kernel
theorem dX0_expression_101 : decode cX0_expression 101 = .ok (.bipush 45, 2) := by decide +kernel
theorem dX0_expression_103 : decode cX0_expression 103 = .ok (.if_icmp .eq 16, 3) := by decide +kernel
theorem dX0_expression_106 : decode cX0_expression 106 = .ok (.iload_n 1, 1) := by decide +kernel
theorem dX0_expression_107 : decode cX0_expression 107 = .ok (.bipush 43, 2) := by decide +kernel
theorem dX0_expression_109 : decode cX0_expression 109 = .ok (.if_icmp .ne 14, 3) := by decide +kernel
theorem dX0_expression_112 : decode cX0_expression 112 = .ok (.aload_n 0, 1) := by decide +kernel
theorem dX0_expression_113 : decode cX0_expression 113 = .ok (.getfield 158, 3) := by decide +kernel
theorem dX0_expression_116 : decode cX0_expression 116 = .ok (.ifCond .ne 7, 3) := by decide +kernel
theorem dX0_expression_119 : decode cX0_expression 119 = .ok (.iconst 1, 1) := by decide +kernel
theorem dX0_expression_120 : decode cX0_expression 120 = .ok (.goto 4, 3) := by decide +kernel
theorem dX0_expression_123 : decode cX0_expression 123 = .ok (.iconst 0, 1) := by decide +kernel
theorem dX0_expression_124 : decode cX0_expression 124 = .ok (.istore_n 2, 1) := by decide +kernel
theorem dX0_expression_125 : decode cX0_expression 125 = .ok (.aload_n 0, 1) := by decide +kernel
theorem dX0_expression_126 : decode cX0_expression 126 = .ok (.getfield 158, 3) := by decide +kernel
theorem dX0_expression_129 : decode cX0_expression 129 = .ok (.ifCond .ne 9, 3) := by decide +kernel
theorem dX0_expression_132 : decode cX0_expression 132 = .ok (.iload_n 2, 1) := by decide +kernel
theorem dX0_expression_133 : decode cX0_expression 133 = .ok (.ifCond .ne 5, 3) := by decide +kernel
theorem dX0_expression_136 : decode cX0_expression 136 = .ok (.iconst 1, 1) := by decide +kernel
theorem dX0_expression_137 : decode cX0_expression 137 = .ok (.ireturn, 1) := by decide +kernel
theorem dX0_expression_138 : decode cX0_expression 138 = .ok (.iload_n 2, 1) := by decide +kernel
theorem dX0_expression_139 : decode cX0_expression 139 = .ok (.ifCond .eq 10, 3) := by decide +kernel
theorem dX0_expression_142 : decode cX0_expression 142 = .ok (.aload_n 0, 1) := by decide +kernel
theorem dX0_expression_143 : decode cX0_expression 143 = .ok (.getfield 43, 3) := by decide +kernel
theorem dX0_expression_146 : decode cX0_expression 146 = .ok (.invokevirtual 93, 3) := by decide +kernel
theorem dX0_expression_149 : decode cX0_expression 149 = .ok (.aload_n 0, 1) := by decide +kernel
theorem dX0_expression_150 : decode cX0_expression 150 = .ok (.getfield 43, 3) := by decide +kernel
theorem dX0_expression_153 : decode cX0_expression 153 = .ok (.invokevirtual 102, 3) := by decide +kernel
theorem dX0_expression_156 : decode cX0_expression 156 = .ok (.iconst 5, 1) := by decide +kernel
theorem dX0_expression_157 : decode cX0_expression 157 = .ok (.if_icmp .eq 16, 3) := by decide +kernel
theorem dX0_expression_160 : decode cX0_expression 160 = .ok (.aload_n 0, 1) := by decide +kernel
theorem dX0_expression_161 : decode cX0_expression 161 = .ok (.iconst 1, 1) := by decide +kernel
theorem dX0_expression_162 : decode cX0_expression 162 = .ok (.aload_n 0, 1) := by decide +kernel
theorem dX0_expression_163 : decode cX0_expression 163 = .ok (.getfield 43, 3) := by decide +kernel
theorem dX0_expression_166 : decode cX0_expression 166 = .ok (.invokevirtual 114, 3) := by decide +kernel
theorem dX0_expression_169 : decode cX0_expression 169 = .ok (.invokevirtual 58, 3) := by decide +kernel
theorem dX0_expression_172 : decode cX0_expression 172 = .ok (.ireturn, 1) := by decide +kernel
theorem dX0_expression_173 : decode cX0_expression 173 = .ok (.iload_n 1, 1) := by decide +kernel
theorem dX0_expression_174 : decode cX0_expression 174 = .ok (.bipush 45, 2) := by decide +kernel
theorem dX0_expression_176 : decode cX0_expression 176 = .ok (.if_icmp .ne 14, 3) := by decide +kernel
theorem dX0_expression_179 : decode cX0_expression 179 = .ok (.aload_n 0, 1) := by decide +kernel
theorem dX0_expression_180 : decode cX0_expression 180 = .ok (.getfield 43, 3) := by decide +kernel
theorem dX0_expression_183 : decode cX0_expression 183 = .ok (.invokevirtual 128, 3) := by decide +kernel
theorem dX0_expression_186 : decode cX0_expression 186 = .ok (.ineg, 1) := by decide +kernel
theorem dX0_expression_187 : decode cX0_expression 187 = .ok (.goto 10, 3) := by decide +kernel
theorem dX0_expression_190 : decode cX0_expression 190 = .ok (.aload_n 0, 1) := by decide +kernel
theorem dX0_expression_191 : decode cX0_expression 191 = .ok (.getfield 43, 3) := by decide +kernel
theorem dX0_expression_194 : decode cX0_expression 194 = .ok (.invokevirtual 128, 3) := by decide +kernel
theorem dX0_expression_197 : decode cX0_expression 197 = .ok (.istore_n 3, 1) := by decide +kernel
theorem dX0_expression_198 : decode cX0_expression 198 = .ok (.aload_n 0, 1) := by decide +kernel
theorem dX0_expression_199 : decode cX0_expression 199 = .ok (.getfield 43, 3) := by decide +kernel
theorem dX0_expression_202 : decode cX0_expression 202 = .ok (.invokevirtual 128, 3) := by decide +kernel
theorem dX0_expression_205 : decode cX0_expression 205 = .ok (.ldc 123, 2) := by decide +kernel
theorem dX0_expression_207 : decode cX0_expression 207 = .ok (.if_icmp .gt 17, 3) := by decide +kernel
theorem dX0_expression_210 : decode cX0_expression 210 = .ok (.aload_n 0, 1) := by decide +kernel
theorem dX0_expression_211 : decode cX0_expression 211 = .ok (.getfield 158, 3) := by decide +kernel
theorem dX0_expression_214 : decode cX0_expression 214 = .ok (.ifCond .eq 20, 3) := by decide +kernel
theorem dX0_expression_217 : decode cX0_expression 217 = .ok (.iload_n 3, 1) := by decide +kernel
theorem dX0_expression_218 : decode cX0_expression 218 = .ok (.sipush (-32768), 3) := by decide +kernel
theorem dX0_expression_221 : decode cX0_expression 221 = .ok (.if_icmp .ge 13, 3) := by decide +kernel
theorem dX0_expression_224 : decode cX0_expression 224 = .ok (.aload_n 0, 1) := by decide +kernel
theorem dX0_expression_225 : decode cX0_expression 225 = .ok (.iconst 2, 1) := by decide +kernel
theorem dX0_expression_226 : decode cX0_expression 226 = .ok (.aload_n 0, 1) := by decide +kernel
theorem dX0_expression_227 : decode cX0_expression 227 = .ok (.getfield 161, 3) := by decide +kernel
theorem dX0_expression_230 : decode cX0_expression 230 = .ok (.invokevirtual 58, 3) := by decide +kernel
theorem dX0_expression_233 : decode cX0_expression 233 = .ok (.ireturn, 1) := by decide +kernel
theorem dX0_expression_234 : decode cX0_expression 234 = .ok (.aload_n 0, 1) := by decide +kernel
theorem dX0_expression_235 : decode cX0_expression 235 = .ok (.dup, 1) := by decide +kernel
theorem dX0_expression_236 : decode cX0_expression 236 = .ok (.getfield 156, 3) := by decide +kernel
theorem dX0_expression_239 : decode cX0_expression 239 = .ok (.iload_n 3, 1) := by decide +kernel
theorem dX0_expression_240 : decode cX0_expression 240 = .ok (.iadd, 1) := by decide +kernel
theorem dX0_expression_241 : decode cX0_expression 241 = .ok (.putfield 156, 3) := by decide +kernel
theorem dX0_expression_244 : decode cX0_expression 244 = .ok (.aload_n 0, 1) := by decide +kernel
theorem dX0_expression_245 : decode cX0_expression 245 = .ok (.getfield 43, 3) := by decide +kernel
theorem dX0_expression_248 : decode cX0_expression 248 = .ok (.invokevirtual 93, 3) := by decide +kernel
theorem dX0_expression_251 : decode cX0_expression 251 = .ok (.iconst 1, 1) := by decide +kernel
theorem dX0_expression_252 : decode cX0_expression 252 = .ok (.ireturn, 1) := by decide +kernel
theorem dX0_putTwo_0 : decode cX0_putTwo 0 = .ok (.aload_n 0, 1) := by decide +kernel
theorem dX0_putTwo_1 : decode cX0_putTwo 1 = .ok (.iload_n 1, 1) := by decide +kernel
theorem dX0_putTwo_2 : decode cX0_putTwo 2 = .ok (.bipush 12, 2) := by decide +kernel
theorem dX0_putTwo_4 : decode cX0_putTwo 4 = .ok (.ishl, 1) := by decide +kernel
theorem dX0_putTwo_5 : decode cX0_putTwo 5 = .ok (.aload_n 0, 1) := by decide +kernel
theorem dX0_putTwo_6 : decode cX0_putTwo 6 = .ok (.getfield 12, 3) := by decide +kernel
theorem dX0_putTwo_9 : decode cX0_putTwo 9 = .ok (.invokevirtual 183, 3) := by decide +kernel
theorem dX0_putTwo_12 : decode cX0_putTwo 12 = .ok (.bipush 8, 2) := by decide +kernel
theorem dX0_putTwo_14 : decode cX0_putTwo 14 = .ok (.ishl, 1) := by decide +kernel
theorem dX0_putTwo_15 : decode cX0_putTwo 15 = .ok (.ior, 1) := by decide +kernel
theorem dX0_putTwo_16 : decode cX0_putTwo 16 = .ok (.aload_n 0, 1) := by decide +kernel
theorem dX0_putTwo_17 : decode cX0_putTwo 17 = .ok (.getfield 18, 3) := by decide +kernel
theorem dX0_putTwo_20 : decode cX0_putTwo 20 = .ok (.invokevirtual 180, 3) := by decide +kernel
theorem dX0_putTwo_23 : decode cX0_putTwo 23 = .ok (.bipush 7, 2) := by decide +kernel
theorem dX0_putTwo_25 : decode cX0_putTwo 25 = .ok (.ishl, 1) := by decide +kernel
theorem dX0_putTwo_26 : decode cX0_putTwo 26 = .ok (.ior, 1) := by decide +kernel
theorem dX0_putTwo_27 : decode cX0_putTwo 27 = .ok (.iload_n 2, 1) := by decide +kernel
theorem dX0_putTwo_28 : decode cX0_putTwo 28 = .ok (.ior, 1) := by decide +kernel
theorem dX0_putTwo_29 : decode cX0_putTwo 29 = .ok (.aload_n 0, 1) := by decide +kernel
theorem dX0_putTwo_30 : decode cX0_putTwo 30 = .ok (.getfield 12, 3) := by decide +kernel
theorem dX0_putTwo_33 : decode cX0_putTwo 33 = .ok (.invokevirtual 180, 3) := by decide +kernel
theorem dX0_putTwo_36 : decode cX0_putTwo 36 = .ok (.iconst 4, 1) := by decide +kernel
theorem dX0_putTwo_37 : decode cX0_putTwo 37 = .ok (.ishl, 1) := by decide +kernel
theorem dX0_putTwo_38 : decode cX0_putTwo 38 = .ok (.ior, 1) := by decide +kernel
theorem dX0_putTwo_39 : decode cX0_putTwo 39 = .ok (.aload_n 0, 1) := by decide +kernel
theorem dX0_putTwo_40 : decode cX0_putTwo 40 = .ok (.getfield 18, 3) := by decide +kernel
theorem dX0_putTwo_43 : decode cX0_putTwo 43 = .ok (.invokevirtual 183, 3) := by decide +kernel
theorem dX0_putTwo_46 : decode cX0_putTwo 46 = .ok (.ior, 1) := by decide +kernel
theorem dX0_putTwo_47 : decode cX0_putTwo 47 = .ok (.invokevirtual 167, 3) := by decide +kernel
theorem dX0_putTwo_50 : decode cX0_putTwo 50 = .ok (.aload_n 0, 1) := by decide +kernel
theorem dX0_putTwo_51 : decode cX0_putTwo 51 = .ok (.aload_n 0, 1) := by decide +kernel
theorem dX0_putTwo_52 : decode cX0_putTwo 52 = .ok (.getfield 12, 3) := by decide +kernel
theorem dX0_putTwo_55 : decode cX0_putTwo 55 = .ok (.invokevirtual 186, 3) := by decide +kernel
theorem dX0_putTwo_58 : decode cX0_putTwo 58 = .ok (.aload_n 0, 1) := by decide +kernel
theorem dX0_putTwo_59 : decode cX0_putTwo 59 = .ok (.aload_n 0, 1) := by decide +kernel
theorem dX0_putTwo_60 : decode cX0_putTwo 60 = .ok (.getfield 18, 3) := by decide +kernel
theorem dX0_putTwo_63 : decode cX0_putTwo 63 = .ok (.invokevirtual 186, 3) := by decide +kernel
theorem dX0_putTwo_66 : decode cX0_putTwo 66 = .ok (.iconst 1, 1) := by decide +kernel
theorem dX0_putTwo_67 : decode cX0_putTwo 67 = .ok (.ireturn, 1) := by decide +kernel
theorem dX0_putNext_0 : decode cX0_putNext 0 = .ok (.aload_n 1, 1) := by decide +kernel
theorem dX0_putNext_1 : decode cX0_putNext 1 = .ok (.invokevirtual 219, 3) := by decide +kernel
theorem dX0_putNext_4 : decode cX0_putNext 4 = .ok (.ifCond .eq 15, 3) := by decide +kernel
theorem dX0_putNext_7 : decode cX0_putNext 7 = .ok (.aload_n 0, 1) := by decide +kernel
theorem dX0_putNext_8 : decode cX0_putNext 8 = .ok (.aload_n 1, 1) := by decide +kernel
theorem dX0_putNext_9 : decode cX0_putNext 9 = .ok (.aload_n 0, 1) := by decide +kernel
theorem dX0_putNext_10 : decode cX0_putNext 10 = .ok (.getfield 74, 3) := by decide +kernel
theorem dX0_putNext_13 : decode cX0_putNext 13 = .ok (.invokevirtual 222, 3) := by decide +kernel
theorem dX0_putNext_16 : decode cX0_putNext 16 = .ok (.invokevirtual 167, 3) := by decide +kernel
theorem dX0_putNext_19 : decode cX0_putNext 19 = .ok (.return_, 1) := by decide +kernel
theorem dX0_putWord_0 : decode cX0_putWord 0 = .ok (.aload_n 0, 1) := by decide +kernel
theorem dX0_putWord_1 : decode cX0_putWord 1 = .ok (.getfield 69, 3) := by decide +kernel
theorem dX0_putWord_4 : decode cX0_putWord 4 = .ok (.ifCond .eq 88, 3) := by decide +kernel
theorem dX0_putWord_7 : decode cX0_putWord 7 = .ok (.aload_n 0, 1) := by decide +kernel
theorem dX0_putWord_8 : decode cX0_putWord 8 = .ok (.getfield 77, 3) := by decide +kernel
theorem dX0_putWord_11 : decode cX0_putWord 11 = .ok (.iconst 2, 1) := by decide +kernel
theorem dX0_putWord_12 : decode cX0_putWord 12 = .ok (.iadd, 1) := by decide +kernel
theorem dX0_putWord_13 : decode cX0_putWord 13 = .ok (.sipush 2600, 3) := by decide +kernel
theorem dX0_putWord_16 : decode cX0_putWord 16 = .ok (.if_icmp .gt 76, 3) := by decide +kernel
theorem dX0_putWord_19 : decode cX0_putWord 19 = .ok (.aload_n 0, 1) := by decide +kernel
theorem dX0_putWord_20 : decode cX0_putWord 20 = .ok (.getfield 21, 3) := by decide +kernel
theorem dX0_putWord_23 : decode cX0_putWord 23 = .ok (.aload_n 0, 1) := by decide +kernel
theorem dX0_putWord_24 : decode cX0_putWord 24 = .ok (.getfield 77, 3) := by decide +kernel
theorem dX0_putWord_27 : decode cX0_putWord 27 = .ok (.iload_n 1, 1) := by decide +kernel
theorem dX0_putWord_28 : decode cX0_putWord 28 = .ok (.sipush 255, 3) := by decide +kernel
theorem dX0_putWord_31 : decode cX0_putWord 31 = .ok (.iand, 1) := by decide +kernel
theorem dX0_putWord_32 : decode cX0_putWord 32 = .ok (.iastore, 1) := by decide +kernel
theorem dX0_putWord_33 : decode cX0_putWord 33 = .ok (.aload_n 0, 1) := by decide +kernel
theorem dX0_putWord_34 : decode cX0_putWord 34 = .ok (.getfield 25, 3) := by decide +kernel
theorem dX0_putWord_37 : decode cX0_putWord 37 = .ok (.aload_n 0, 1) := by decide +kernel
theorem dX0_putWord_38 : decode cX0_putWord 38 = .ok (.getfield 77, 3) := by decide +kernel
theorem dX0_putWord_41 : decode cX0_putWord 41 = .ok (.aload_n 0, 1) := by decide +kernel
theorem dX0_putWord_42 : decode cX0_putWord 42 = .ok (.getfield 74, 3) := by decide +kernel
theorem dX0_putWord_45 : decode cX0_putWord 45 = .ok (.iastore, 1) := by decide +kernel
theorem dX0_putWord_46 : decode cX0_putWord 46 = .ok (.aload_n 0, 1) := by decide +kernel
theorem dX0_putWord_47 : decode cX0_putWord 47 = .ok (.getfield 21, 3) := by decide +kernel
theorem dX0_putWord_50 : decode cX0_putWord 50 = .ok (.aload_n 0, 1) := by decide +kernel
theorem dX0_putWord_51 : decode cX0_putWord 51 = .ok (.getfield 77, 3) := by decide +kernel
theorem dX0_putWord_54 : decode cX0_putWord 54 = .ok (.iconst 1, 1) := by decide +kernel
theorem dX0_putWord_55 : decode cX0_putWord 55 = .ok (.iadd, 1) := by decide +kernel
theorem dX0_putWord_56 : decode cX0_putWord 56 = .ok (.iload_n 1, 1) := by decide +kernel
theorem dX0_putWord_57 : decode cX0_putWord 57 = .ok (.bipush 8, 2) := by decide +kernel
theorem dX0_putWord_59 : decode cX0_putWord 59 = .ok (.ishr, 1) := by decide +kernel
theorem dX0_putWord_60 : decode cX0_putWord 60 = .ok (.sipush 255, 3) := by decide +kernel
theorem dX0_putWord_63 : decode cX0_putWord 63 = .ok (.iand, 1) := by decide +kernel
theorem dX0_putWord_64 : decode cX0_putWord 64 = .ok (.iastore, 1) := by decide +kernel
theorem dX0_putWord_65 : decode cX0_putWord 65 = .ok (.aload_n 0, 1) := by decide +kernel
theorem dX0_putWord_66 : decode cX0_putWord 66 = .ok (.getfield 25, 3) := by decide +kernel
theorem dX0_putWord_69 : decode cX0_putWord 69 = .ok (.aload_n 0, 1) := by decide +kernel
theorem dX0_putWord_70 : decode cX0_putWord 70 = .ok (.getfield 77, 3) := by decide +kernel
theorem dX0_putWord_73 : decode cX0_putWord 73 = .ok (.iconst 1, 1) := by decide +kernel
theorem dX0_putWord_74 : decode cX0_putWord 74 = .ok (.iadd, 1) := by decide +kernel
theorem dX0_putWord_75 : decode cX0_putWord 75 = .ok (.aload_n 0, 1) := by decide +kernel
theorem dX0_putWord_76 : decode cX0_putWord 76 = .ok (.getfield 74, 3) := by decide +kernel
theorem dX0_putWord_79 : decode cX0_putWord 79 = .ok (.iconst 1, 1) := by decide +kernel
theorem dX0_putWord_80 : decode cX0_putWord 80 = .ok (.iadd, 1) := by decide +kernel
theorem dX0_putWord_81 : decode cX0_putWord 81 = .ok (.iastore, 1) := by decide +kernel
theorem dX0_putWord_82 : decode cX0_putWord 82 = .ok (.aload_n 0, 1) := by decide +kernel
theorem dX0_putWord_83 : decode cX0_putWord 83 = .ok (.dup, 1) := by decide +kernel
theorem dX0_putWord_84 : decode cX0_putWord 84 = .ok (.getfield 77, 3) := by decide +kernel
theorem dX0_putWord_87 : decode cX0_putWord 87 = .ok (.iconst 2, 1) := by decide +kernel
theorem dX0_putWord_88 : decode cX0_putWord 88 = .ok (.iadd, 1) := by decide +kernel
theorem dX0_putWord_89 : decode cX0_putWord 89 = .ok (.putfield 77, 3) := by decide +kernel
theorem dX0_putWord_92 : decode cX0_putWord 92 = .ok (.aload_n 0, 1) := by decide +kernel
theorem dX0_putWord_93 : decode cX0_putWord 93 = .ok (.dup, 1) := by decide +kernel
theorem dX0_putWord_94 : decode cX0_putWord 94 = .ok (.getfield 74, 3) := by decide +kernel
theorem dX0_putWord_97 : decode cX0_putWord 97 = .ok (.iconst 2, 1) := by decide +kernel
theorem dX0_putWord_98 : decode cX0_putWord 98 = .ok (.iadd, 1) := by decide +kernel
theorem dX0_putWord_99 : decode cX0_putWord 99 = .ok (.putfield 74, 3) := by decide +kernel
theorem dX0_putWord_102 : decode cX0_putWord 102 = .ok (.return_, 1) := by decide +kernel
theorem dX0_putByte_0 : decode cX0_putByte 0 = .ok (.aload_n 0, 1) := by decide +kernel
theorem dX0_putByte_1 : decode cX0_putByte 1 = .ok (.getfield 69, 3) := by decide +kernel
theorem dX0_putByte_4 : decode cX0_putByte 4 = .ok (.ifCond .eq 50, 3) := by decide +kernel
theorem dX0_putByte_7 : decode cX0_putByte 7 = .ok (.aload_n 0, 1) := by decide +kernel
theorem dX0_putByte_8 : decode cX0_putByte 8 = .ok (.getfield 77, 3) := by decide +kernel
theorem dX0_putByte_11 : decode cX0_putByte 11 = .ok (.sipush 2600, 3) := by decide +kernel
theorem dX0_putByte_14 : decode cX0_putByte 14 = .ok (.if_icmp .ge 40, 3) := by decide +kernel
theorem dX0_putByte_17 : decode cX0_putByte 17 = .ok (.aload_n 0, 1) := by decide +kernel
theorem dX0_putByte_18 : decode cX0_putByte 18 = .ok (.getfield 21, 3) := by decide +kernel
theorem dX0_putByte_21 : decode cX0_putByte 21 = .ok (.aload_n 0, 1) := by decide +kernel
theorem dX0_putByte_22 : decode cX0_putByte 22 = .ok (.getfield 77, 3) := by decide +kernel
theorem dX0_putByte_25 : decode cX0_putByte 25 = .ok (.iload_n 1, 1) := by decide +kernel
theorem dX0_putByte_26 : decode cX0_putByte 26 = .ok (.sipush 255, 3) := by decide +kernel
theorem dX0_putByte_29 : decode cX0_putByte 29 = .ok (.iand, 1) := by decide +kernel
theorem dX0_putByte_30 : decode cX0_putByte 30 = .ok (.iastore, 1) := by decide +kernel
theorem dX0_putByte_31 : decode cX0_putByte 31 = .ok (.aload_n 0, 1) := by decide +kernel
theorem dX0_putByte_32 : decode cX0_putByte 32 = .ok (.getfield 25, 3) := by decide +kernel
theorem dX0_putByte_35 : decode cX0_putByte 35 = .ok (.aload_n 0, 1) := by decide +kernel
theorem dX0_putByte_36 : decode cX0_putByte 36 = .ok (.getfield 77, 3) := by decide +kernel
theorem dX0_putByte_39 : decode cX0_putByte 39 = .ok (.aload_n 0, 1) := by decide +kernel
theorem dX0_putByte_40 : decode cX0_putByte 40 = .ok (.getfield 74, 3) := by decide +kernel
theorem dX0_putByte_43 : decode cX0_putByte 43 = .ok (.iastore, 1) := by decide +kernel
theorem dX0_putByte_44 : decode cX0_putByte 44 = .ok (.aload_n 0, 1) := by decide +kernel
theorem dX0_putByte_45 : decode cX0_putByte 45 = .ok (.dup, 1) := by decide +kernel
theorem dX0_putByte_46 : decode cX0_putByte 46 = .ok (.getfield 77, 3) := by decide +kernel
theorem dX0_putByte_49 : decode cX0_putByte 49 = .ok (.iconst 1, 1) := by decide +kernel
theorem dX0_putByte_50 : decode cX0_putByte 50 = .ok (.iadd, 1) := by decide +kernel
theorem dX0_putByte_51 : decode cX0_putByte 51 = .ok (.putfield 77, 3) := by decide +kernel
theorem dX0_putByte_54 : decode cX0_putByte 54 = .ok (.aload_n 0, 1) := by decide +kernel
theorem dX0_putByte_55 : decode cX0_putByte 55 = .ok (.dup, 1) := by decide +kernel
theorem dX0_putByte_56 : decode cX0_putByte 56 = .ok (.getfield 74, 3) := by decide +kernel
theorem dX0_putByte_59 : decode cX0_putByte 59 = .ok (.iconst 1, 1) := by decide +kernel
theorem dX0_putByte_60 : decode cX0_putByte 60 = .ok (.iadd, 1) := by decide +kernel
theorem dX0_putByte_61 : decode cX0_putByte 61 = .ok (.putfield 74, 3) := by decide +kernel
theorem dX0_putByte_64 : decode cX0_putByte 64 = .ok (.return_, 1) := by decide +kernel
theorem dX1_init_0 : decode cX1_init 0 = .ok (.aload_n 0, 1) := by decide +kernel
theorem dX1_init_1 : decode cX1_init 1 = .ok (.invokespecial 3, 3) := by decide +kernel
theorem dX1_init_4 : decode cX1_init 4 = .ok (.aload_n 0, 1) := by decide +kernel
theorem dX1_init_5 : decode cX1_init 5 = .ok (.ldc 9, 2) := by decide +kernel
theorem dX1_init_7 : decode cX1_init 7 = .ok (.newarray .int, 2) := by decide +kernel
theorem dX1_init_9 : decode cX1_init 9 = .ok (.putfield 10, 3) := by decide +kernel
theorem dX1_init_12 : decode cX1_init 12 = .ok (.aload_n 0, 1) := by decide +kernel
theorem dX1_init_13 : decode cX1_init 13 = .ok (.new 16, 3) := by decide +kernel
theorem dX1_init_16 : decode cX1_init 16 = .ok (.dup, 1) := by decide +kernel
theorem dX1_init_17 : decode cX1_init 17 = .ok (.invokespecial 18, 3) := by decide +kernel
theorem dX1_init_20 : decode cX1_init 20 = .ok (.putfield 19, 3) := by decide +kernel
theorem dX1_init_23 : decode cX1_init 23 = .ok (.aload_n 0, 1) := by decide +kernel
theorem dX1_init_24 : decode cX1_init 24 = .ok (.new 23, 3) := by decide +kernel
theorem dX1_init_27 : decode cX1_init 27 = .ok (.dup, 1) := by decide +kernel
theorem dX1_init_28 : decode cX1_init 28 = .ok (.invokespecial 25, 3) := by decide +kernel
theorem dX1_init_31 : decode cX1_init 31 = .ok (.putfield 26, 3) := by decide +kernel
theorem dX1_init_34 : decode cX1_init 34 = .ok (.aload_n 0, 1) := by decide +kernel
theorem dX1_init_35 : decode cX1_init 35 = .ok (.new 30, 3) := by decide +kernel
theorem dX1_init_38 : decode cX1_init 38 = .ok (.dup, 1) := by decide +kernel
theorem dX1_init_39 : decode cX1_init 39 = .ok (.invokespecial 32, 3) := by decide +kernel
theorem dX1_init_42 : decode cX1_init 42 = .ok (.putfield 33, 3) := by decide +kernel
theorem dX1_init_45 : decode cX1_init 45 = .ok (.return_, 1) := by decide +kernel
theorem dX1_port_0 : decode cX1_port 0 = .ok (.aload_n 0, 1) := by decide +kernel
theorem dX1_port_1 : decode cX1_port 1 = .ok (.getfield 19, 3) := by decide +kernel
theorem dX1_port_4 : decode cX1_port 4 = .ok (.areturn, 1) := by decide +kernel
theorem dX1_timer_0 : decode cX1_timer 0 = .ok (.aload_n 0, 1) := by decide +kernel
theorem dX1_timer_1 : decode cX1_timer 1 = .ok (.getfield 33, 3) := by decide +kernel
theorem dX1_timer_4 : decode cX1_timer 4 = .ok (.areturn, 1) := by decide +kernel
theorem dX1_clearThings_0 : decode cX1_clearThings 0 = .ok (.aload_n 0, 1) := by decide +kernel
theorem dX1_clearThings_1 : decode cX1_clearThings 1 = .ok (.getfield 19, 3) := by decide +kernel
theorem dX1_clearThings_4 : decode cX1_clearThings 4 = .ok (.invokevirtual 37, 3) := by decide +kernel
theorem dX1_clearThings_7 : decode cX1_clearThings 7 = .ok (.aload_n 0, 1) := by decide +kernel
theorem dX1_clearThings_8 : decode cX1_clearThings 8 = .ok (.getfield 26, 3) := by decide +kernel
theorem dX1_clearThings_11 : decode cX1_clearThings 11 = .ok (.invokevirtual 40, 3) := by decide +kernel
theorem dX1_clearThings_14 : decode cX1_clearThings 14 = .ok (.aload_n 0, 1) := by decide +kernel
theorem dX1_clearThings_15 : decode cX1_clearThings 15 = .ok (.getfield 33, 3) := by decide +kernel
theorem dX1_clearThings_18 : decode cX1_clearThings 18 = .ok (.invokevirtual 41, 3) := by decide +kernel
theorem dX1_clearThings_21 : decode cX1_clearThings 21 = .ok (.return_, 1) := by decide +kernel
theorem dX1_lookWord_0 : decode cX1_lookWord 0 = .ok (.iload_n 1, 1) := by decide +kernel
theorem dX1_lookWord_1 : decode cX1_lookWord 1 = .ok (.ldc 42, 2) := by decide +kernel
theorem dX1_lookWord_3 : decode cX1_lookWord 3 = .ok (.iand, 1) := by decide +kernel
theorem dX1_lookWord_4 : decode cX1_lookWord 4 = .ok (.istore_n 2, 1) := by decide +kernel
theorem dX1_lookWord_5 : decode cX1_lookWord 5 = .ok (.iload_n 2, 1) := by decide +kernel
theorem dX1_lookWord_6 : decode cX1_lookWord 6 = .ok (.sipush 512, 3) := by decide +kernel
theorem dX1_lookWord_9 : decode cX1_lookWord 9 = .ok (.if_icmp .ge 11, 3) := by decide +kernel
theorem dX1_lookWord_12 : decode cX1_lookWord 12 = .ok (.aload_n 0, 1) := by decide +kernel
theorem dX1_lookWord_13 : decode cX1_lookWord 13 = .ok (.iload_n 2, 1) := by decide +kernel
theorem dX1_lookWord_14 : decode cX1_lookWord 14 = .ok (.invokevirtual 43, 3) := by decide +kernel
theorem dX1_lookWord_17 : decode cX1_lookWord 17 = .ok (.goto 11, 3) := by decide +kernel
theorem dX1_lookWord_20 : decode cX1_lookWord 20 = .ok (.aload_n 0, 1) := by decide +kernel
theorem dX1_lookWord_21 : decode cX1_lookWord 21 = .ok (.getfield 10, 3) := by decide +kernel
theorem dX1_lookWord_24 : decode cX1_lookWord 24 = .ok (.iload_n 2, 1) := by decide +kernel
theorem dX1_lookWord_25 : decode cX1_lookWord 25 = .ok (.iconst 1, 1) := by decide +kernel
theorem dX1_lookWord_26 : decode cX1_lookWord 26 = .ok (.ishr, 1) := by decide +kernel
theorem dX1_lookWord_27 : decode cX1_lookWord 27 = .ok (.iaload, 1) := by decide +kernel
theorem dX1_lookWord_28 : decode cX1_lookWord 28 = .ok (.ireturn, 1) := by decide +kernel
theorem dX1_lookByte_0 : decode cX1_lookByte 0 = .ok (.iload_n 1, 1) := by decide +kernel
theorem dX1_lookByte_1 : decode cX1_lookByte 1 = .ok (.ldc 42, 2) := by decide +kernel
theorem dX1_lookByte_3 : decode cX1_lookByte 3 = .ok (.iand, 1) := by decide +kernel
theorem dX1_lookByte_4 : decode cX1_lookByte 4 = .ok (.istore_n 2, 1) := by decide +kernel
theorem dX1_lookByte_5 : decode cX1_lookByte 5 = .ok (.iload_n 2, 1) := by decide +kernel
theorem dX1_lookByte_6 : decode cX1_lookByte 6 = .ok (.sipush 512, 3) := by decide +kernel
theorem dX1_lookByte_9 : decode cX1_lookByte 9 = .ok (.if_icmp .ge 11, 3) := by decide +kernel
theorem dX1_lookByte_12 : decode cX1_lookByte 12 = .ok (.aload_n 0, 1) := by decide +kernel
theorem dX1_lookByte_13 : decode cX1_lookByte 13 = .ok (.iload_n 2, 1) := by decide +kernel
theorem dX1_lookByte_14 : decode cX1_lookByte 14 = .ok (.invokevirtual 43, 3) := by decide +kernel
theorem dX1_lookByte_17 : decode cX1_lookByte 17 = .ok (.goto 11, 3) := by decide +kernel
theorem dX1_lookByte_20 : decode cX1_lookByte 20 = .ok (.aload_n 0, 1) := by decide +kernel
theorem dX1_lookByte_21 : decode cX1_lookByte 21 = .ok (.getfield 10, 3) := by decide +kernel
theorem dX1_lookByte_24 : decode cX1_lookByte 24 = .ok (.iload_n 2, 1) := by decide +kernel
theorem dX1_lookByte_25 : decode cX1_lookByte 25 = .ok (.iconst 1, 1) := by decide +kernel
theorem dX1_lookByte_26 : decode cX1_lookByte 26 = .ok (.ishr, 1) := by decide +kernel
theorem dX1_lookByte_27 : decode cX1_lookByte 27 = .ok (.iaload, 1) := by decide +kernel
theorem dX1_lookByte_28 : decode cX1_lookByte 28 = .ok (.istore_n 3, 1) := by decide +kernel
theorem dX1_lookByte_29 : decode cX1_lookByte 29 = .ok (.iload_n 1, 1) := by decide +kernel
theorem dX1_lookByte_30 : decode cX1_lookByte 30 = .ok (.iconst 1, 1) := by decide +kernel
theorem dX1_lookByte_31 : decode cX1_lookByte 31 = .ok (.iand, 1) := by decide +kernel
theorem dX1_lookByte_32 : decode cX1_lookByte 32 = .ok (.ifCond .ne 11, 3) := by decide +kernel
theorem dX1_lookByte_35 : decode cX1_lookByte 35 = .ok (.iload_n 3, 1) := by decide +kernel
theorem dX1_lookByte_36 : decode cX1_lookByte 36 = .ok (.sipush 255, 3) := by decide +kernel
theorem dX1_lookByte_39 : decode cX1_lookByte 39 = .ok (.iand, 1) := by decide +kernel
theorem dX1_lookByte_40 : decode cX1_lookByte 40 = .ok (.goto 7, 3) := by decide +kernel
theorem dX1_lookByte_43 : decode cX1_lookByte 43 = .ok (.iload_n 3, 1) := by decide +kernel
theorem dX1_lookByte_44 : decode cX1_lookByte 44 = .ok (.bipush 8, 2) := by decide +kernel
theorem dX1_lookByte_46 : decode cX1_lookByte 46 = .ok (.ishr, 1) := by decide +kernel
theorem dX1_lookByte_47 : decode cX1_lookByte 47 = .ok (.ireturn, 1) := by decide +kernel
theorem dX1_readWord_0 : decode cX1_readWord 0 = .ok (.iload_n 1, 1) := by decide +kernel
theorem dX1_readWord_1 : decode cX1_readWord 1 = .ok (.ldc 42, 2) := by decide +kernel
theorem dX1_readWord_3 : decode cX1_readWord 3 = .ok (.iand, 1) := by decide +kernel
theorem dX1_readWord_4 : decode cX1_readWord 4 = .ok (.istore_n 2, 1) := by decide +kernel
theorem dX1_readWord_5 : decode cX1_readWord 5 = .ok (.iload_n 2, 1) := by decide +kernel
theorem dX1_readWord_6 : decode cX1_readWord 6 = .ok (.sipush 302, 3) := by decide +kernel
theorem dX1_readWord_9 : decode cX1_readWord 9 = .ok (.if_icmp .ne 11, 3) := by decide +kernel
theorem dX1_readWord_12 : decode cX1_readWord 12 = .ok (.aload_n 0, 1) := by decide +kernel
theorem dX1_readWord_13 : decode cX1_readWord 13 = .ok (.getfield 33, 3) := by decide +kernel
theorem dX1_readWord_16 : decode cX1_readWord 16 = .ok (.invokevirtual 47, 3) := by decide +kernel
theorem dX1_readWord_19 : decode cX1_readWord 19 = .ok (.ireturn, 1) := by decide +kernel
theorem dX1_readWord_20 : decode cX1_readWord 20 = .ok (.iload_n 2, 1) := by decide +kernel
theorem dX1_readWord_21 : decode cX1_readWord 21 = .ok (.sipush 512, 3) := by decide +kernel
theorem dX1_readWord_24 : decode cX1_readWord 24 = .ok (.if_icmp .ge 11, 3) := by decide +kernel
theorem dX1_readWord_27 : decode cX1_readWord 27 = .ok (.aload_n 0, 1) := by decide +kernel
theorem dX1_readWord_28 : decode cX1_readWord 28 = .ok (.iload_n 2, 1) := by decide +kernel
theorem dX1_readWord_29 : decode cX1_readWord 29 = .ok (.invokevirtual 43, 3) := by decide +kernel
theorem dX1_readWord_32 : decode cX1_readWord 32 = .ok (.goto 11, 3) := by decide +kernel
theorem dX1_readWord_35 : decode cX1_readWord 35 = .ok (.aload_n 0, 1) := by decide +kernel
theorem dX1_readWord_36 : decode cX1_readWord 36 = .ok (.getfield 10, 3) := by decide +kernel
theorem dX1_readWord_39 : decode cX1_readWord 39 = .ok (.iload_n 2, 1) := by decide +kernel
theorem dX1_readWord_40 : decode cX1_readWord 40 = .ok (.iconst 1, 1) := by decide +kernel
theorem dX1_readWord_41 : decode cX1_readWord 41 = .ok (.ishr, 1) := by decide +kernel
theorem dX1_readWord_42 : decode cX1_readWord 42 = .ok (.iaload, 1) := by decide +kernel
theorem dX1_readWord_43 : decode cX1_readWord 43 = .ok (.ireturn, 1) := by decide +kernel
theorem dX1_readByte_0 : decode cX1_readByte 0 = .ok (.iload_n 1, 1) := by decide +kernel
theorem dX1_readByte_1 : decode cX1_readByte 1 = .ok (.ldc 42, 2) := by decide +kernel
theorem dX1_readByte_3 : decode cX1_readByte 3 = .ok (.iand, 1) := by decide +kernel
theorem dX1_readByte_4 : decode cX1_readByte 4 = .ok (.istore_n 2, 1) := by decide +kernel
theorem dX1_readByte_5 : decode cX1_readByte 5 = .ok (.iload_n 2, 1) := by decide +kernel
theorem dX1_readByte_6 : decode cX1_readByte 6 = .ok (.sipush 302, 3) := by decide +kernel
theorem dX1_readByte_9 : decode cX1_readByte 9 = .ok (.if_icmp .ne 14, 3) := by decide +kernel
theorem dX1_readByte_12 : decode cX1_readByte 12 = .ok (.aload_n 0, 1) := by decide +kernel
theorem dX1_readByte_13 : decode cX1_readByte 13 = .ok (.getfield 33, 3) := by decide +kernel
theorem dX1_readByte_16 : decode cX1_readByte 16 = .ok (.invokevirtual 47, 3) := by decide +kernel
theorem dX1_readByte_19 : decode cX1_readByte 19 = .ok (.istore_n 3, 1) := by decide +kernel
theorem dX1_readByte_20 : decode cX1_readByte 20 = .ok (.goto 27, 3) := by decide +kernel
theorem dX1_readByte_23 : decode cX1_readByte 23 = .ok (.iload_n 2, 1) := by decide +kernel
theorem dX1_readByte_24 : decode cX1_readByte 24 = .ok (.sipush 512, 3) := by decide +kernel
theorem dX1_readByte_27 : decode cX1_readByte 27 = .ok (.if_icmp .ge 11, 3) := by decide +kernel
theorem dX1_readByte_30 : decode cX1_readByte 30 = .ok (.aload_n 0, 1) := by decide +kernel
theorem dX1_readByte_31 : decode cX1_readByte 31 = .ok (.iload_n 2, 1) := by decide +kernel
theorem dX1_readByte_32 : decode cX1_readByte 32 = .ok (.invokevirtual 43, 3) := by decide +kernel
theorem dX1_readByte_35 : decode cX1_readByte 35 = .ok (.goto 11, 3) := by decide +kernel
theorem dX1_readByte_38 : decode cX1_readByte 38 = .ok (.aload_n 0, 1) := by decide +kernel
theorem dX1_readByte_39 : decode cX1_readByte 39 = .ok (.getfield 10, 3) := by decide +kernel
theorem dX1_readByte_42 : decode cX1_readByte 42 = .ok (.iload_n 2, 1) := by decide +kernel
theorem dX1_readByte_43 : decode cX1_readByte 43 = .ok (.iconst 1, 1) := by decide +kernel
theorem dX1_readByte_44 : decode cX1_readByte 44 = .ok (.ishr, 1) := by decide +kernel
theorem dX1_readByte_45 : decode cX1_readByte 45 = .ok (.iaload, 1) := by decide +kernel
theorem dX1_readByte_46 : decode cX1_readByte 46 = .ok (.istore_n 3, 1) := by decide +kernel
theorem dX1_readByte_47 : decode cX1_readByte 47 = .ok (.iload_n 1, 1) := by decide +kernel
theorem dX1_readByte_48 : decode cX1_readByte 48 = .ok (.iconst 1, 1) := by decide +kernel
theorem dX1_readByte_49 : decode cX1_readByte 49 = .ok (.iand, 1) := by decide +kernel
theorem dX1_readByte_50 : decode cX1_readByte 50 = .ok (.ifCond .ne 11, 3) := by decide +kernel
theorem dX1_readByte_53 : decode cX1_readByte 53 = .ok (.iload_n 3, 1) := by decide +kernel
theorem dX1_readByte_54 : decode cX1_readByte 54 = .ok (.sipush 255, 3) := by decide +kernel
theorem dX1_readByte_57 : decode cX1_readByte 57 = .ok (.iand, 1) := by decide +kernel
theorem dX1_readByte_58 : decode cX1_readByte 58 = .ok (.goto 7, 3) := by decide +kernel
theorem dX1_readByte_61 : decode cX1_readByte 61 = .ok (.iload_n 3, 1) := by decide +kernel
theorem dX1_readByte_62 : decode cX1_readByte 62 = .ok (.bipush 8, 2) := by decide +kernel
theorem dX1_readByte_64 : decode cX1_readByte 64 = .ok (.ishr, 1) := by decide +kernel
theorem dX1_readByte_65 : decode cX1_readByte 65 = .ok (.ireturn, 1) := by decide +kernel
theorem dX1_writeWord_0 : decode cX1_writeWord 0 = .ok (.iload_n 1, 1) := by decide +kernel
theorem dX1_writeWord_1 : decode cX1_writeWord 1 = .ok (.ldc 42, 2) := by decide +kernel
theorem dX1_writeWord_3 : decode cX1_writeWord 3 = .ok (.iand, 1) := by decide +kernel
theorem dX1_writeWord_4 : decode cX1_writeWord 4 = .ok (.istore_n 3, 1) := by decide +kernel
theorem dX1_writeWord_5 : decode cX1_writeWord 5 = .ok (.iload_n 3, 1) := by decide +kernel
theorem dX1_writeWord_6 : decode cX1_writeWord 6 = .ok (.sipush 512, 3) := by decide +kernel
theorem dX1_writeWord_9 : decode cX1_writeWord 9 = .ok (.if_icmp .lt 18, 3) := by decide +kernel
theorem dX1_writeWord_12 : decode cX1_writeWord 12 = .ok (.aload_n 0, 1) := by decide +kernel
theorem dX1_writeWord_13 : decode cX1_writeWord 13 = .ok (.getfield 10, 3) := by decide +kernel
theorem dX1_writeWord_16 : decode cX1_writeWord 16 = .ok (.iload_n 3, 1) := by decide +kernel
theorem dX1_writeWord_17 : decode cX1_writeWord 17 = .ok (.iconst 1, 1) := by decide +kernel
theorem dX1_writeWord_18 : decode cX1_writeWord 18 = .ok (.ishr, 1) := by decide +kernel
theorem dX1_writeWord_19 : decode cX1_writeWord 19 = .ok (.iload_n 2, 1) := by decide +kernel
theorem dX1_writeWord_20 : decode cX1_writeWord 20 = .ok (.ldc 51, 2) := by decide +kernel
theorem dX1_writeWord_22 : decode cX1_writeWord 22 = .ok (.iand, 1) := by decide +kernel
theorem dX1_writeWord_23 : decode cX1_writeWord 23 = .ok (.iastore, 1) := by decide +kernel
theorem dX1_writeWord_24 : decode cX1_writeWord 24 = .ok (.goto 53, 3) := by decide +kernel
theorem dX1_writeWord_27 : decode cX1_writeWord 27 = .ok (.iload_n 3, 1) := by decide +kernel
theorem dX1_writeWord_28 : decode cX1_writeWord 28 = .ok (.sipush 288, 3) := by decide +kernel
theorem dX1_writeWord_31 : decode cX1_writeWord 31 = .ok (.if_icmp .lt 15, 3) := by decide +kernel
theorem dX1_writeWord_34 : decode cX1_writeWord 34 = .ok (.aload_n 0, 1) := by decide +kernel
theorem dX1_writeWord_35 : decode cX1_writeWord 35 = .ok (.iload_n 3, 1) := by decide +kernel
theorem dX1_writeWord_36 : decode cX1_writeWord 36 = .ok (.iload_n 2, 1) := by decide +kernel
theorem dX1_writeWord_37 : decode cX1_writeWord 37 = .ok (.ldc 51, 2) := by decide +kernel
theorem dX1_writeWord_39 : decode cX1_writeWord 39 = .ok (.iand, 1) := by decide +kernel
theorem dX1_writeWord_40 : decode cX1_writeWord 40 = .ok (.invokevirtual 52, 3) := by decide +kernel
theorem dX1_writeWord_43 : decode cX1_writeWord 43 = .ok (.goto 34, 3) := by decide +kernel
theorem dX1_writeWord_46 : decode cX1_writeWord 46 = .ok (.aload_n 0, 1) := by decide +kernel
theorem dX1_writeWord_47 : decode cX1_writeWord 47 = .ok (.getfield 19, 3) := by decide +kernel
theorem dX1_writeWord_50 : decode cX1_writeWord 50 = .ok (.iload_n 3, 1) := by decide +kernel
theorem dX1_writeWord_51 : decode cX1_writeWord 51 = .ok (.iload_n 2, 1) := by decide +kernel
theorem dX1_writeWord_52 : decode cX1_writeWord 52 = .ok (.sipush 255, 3) := by decide +kernel
theorem dX1_writeWord_55 : decode cX1_writeWord 55 = .ok (.iand, 1) := by decide +kernel
theorem dX1_writeWord_56 : decode cX1_writeWord 56 = .ok (.invokevirtual 56, 3) := by decide +kernel
theorem dX1_writeWord_59 : decode cX1_writeWord 59 = .ok (.aload_n 0, 1) := by decide +kernel
theorem dX1_writeWord_60 : decode cX1_writeWord 60 = .ok (.getfield 19, 3) := by decide +kernel
theorem dX1_writeWord_63 : decode cX1_writeWord 63 = .ok (.iload_n 3, 1) := by decide +kernel
theorem dX1_writeWord_64 : decode cX1_writeWord 64 = .ok (.iconst 1, 1) := by decide +kernel
theorem dX1_writeWord_65 : decode cX1_writeWord 65 = .ok (.iadd, 1) := by decide +kernel
theorem dX1_writeWord_66 : decode cX1_writeWord 66 = .ok (.iload_n 2, 1) := by decide +kernel
theorem dX1_writeWord_67 : decode cX1_writeWord 67 = .ok (.bipush 8, 2) := by decide +kernel
theorem dX1_writeWord_69 : decode cX1_writeWord 69 = .ok (.ishr, 1) := by decide +kernel
theorem dX1_writeWord_70 : decode cX1_writeWord 70 = .ok (.sipush 255, 3) := by decide +kernel
theorem dX1_writeWord_73 : decode cX1_writeWord 73 = .ok (.iand, 1) := by decide +kernel
theorem dX1_writeWord_74 : decode cX1_writeWord 74 = .ok (.invokevirtual 56, 3) := by decide +kernel
theorem dX1_writeWord_77 : decode cX1_writeWord 77 = .ok (.return_, 1) := by decide +kernel
theorem dX1_writeByte_0 : decode cX1_writeByte 0 = .ok (.iload_n 1, 1) := by decide +kernel
theorem dX1_writeByte_1 : decode cX1_writeByte 1 = .ok (.ldc 51, 2) := by decide +kernel
theorem dX1_writeByte_3 : decode cX1_writeByte 3 = .ok (.iand, 1) := by decide +kernel
theorem dX1_writeByte_4 : decode cX1_writeByte 4 = .ok (.istore_n 3, 1) := by decide +kernel
theorem dX1_writeByte_5 : decode cX1_writeByte 5 = .ok (.iload_n 3, 1) := by decide +kernel
theorem dX1_writeByte_6 : decode cX1_writeByte 6 = .ok (.sipush 288, 3) := by decide +kernel
theorem dX1_writeByte_9 : decode cX1_writeByte 9 = .ok (.if_icmp .ge 17, 3) := by decide +kernel
theorem dX1_writeByte_12 : decode cX1_writeByte 12 = .ok (.aload_n 0, 1) := by decide +kernel
theorem dX1_writeByte_13 : decode cX1_writeByte 13 = .ok (.getfield 19, 3) := by decide +kernel
theorem dX1_writeByte_16 : decode cX1_writeByte 16 = .ok (.iload_n 3, 1) := by decide +kernel
theorem dX1_writeByte_17 : decode cX1_writeByte 17 = .ok (.iload_n 2, 1) := by decide +kernel
theorem dX1_writeByte_18 : decode cX1_writeByte 18 = .ok (.sipush 255, 3) := by decide +kernel
theorem dX1_writeByte_21 : decode cX1_writeByte 21 = .ok (.iand, 1) := by decide +kernel
theorem dX1_writeByte_22 : decode cX1_writeByte 22 = .ok (.invokevirtual 56, 3) := by decide +kernel
theorem dX1_writeByte_25 : decode cX1_writeByte 25 = .ok (.return_, 1) := by decide +kernel
theorem dX1_writeByte_26 : decode cX1_writeByte 26 = .ok (.iload_n 3, 1) := by decide +kernel
theorem dX1_writeByte_27 : decode cX1_writeByte 27 = .ok (.ldc 42, 2) := by decide +kernel
theorem dX1_writeByte_29 : decode cX1_writeByte 29 = .ok (.iand, 1) := by decide +kernel
theorem dX1_writeByte_30 : decode cX1_writeByte 30 = .ok (.istore 4, 2) := by decide +kernel
theorem dX1_writeByte_32 : decode cX1_writeByte 32 = .ok (.iload 4, 2) := by decide +kernel
theorem dX1_writeByte_34 : decode cX1_writeByte 34 = .ok (.sipush 512, 3) := by decide +kernel
theorem dX1_writeByte_37 : decode cX1_writeByte 37 = .ok (.if_icmp .ge 12, 3) := by decide +kernel
theorem dX1_writeByte_40 : decode cX1_writeByte 40 = .ok (.aload_n 0, 1) := by decide +kernel
theorem dX1_writeByte_41 : decode cX1_writeByte 41 = .ok (.iload 4, 2) := by decide +kernel
theorem dX1_writeByte_43 : decode cX1_writeByte 43 = .ok (.invokevirtual 43, 3) := by decide +kernel
theorem dX1_writeByte_46 : decode cX1_writeByte 46 = .ok (.goto 12, 3) := by decide +kernel
theorem dX1_writeByte_49 : decode cX1_writeByte 49 = .ok (.aload_n 0, 1) := by decide +kernel
theorem dX1_writeByte_50 : decode cX1_writeByte 50 = .ok (.getfield 10, 3) := by decide +kernel
theorem dX1_writeByte_53 : decode cX1_writeByte 53 = .ok (.iload 4, 2) := by decide +kernel
theorem dX1_writeByte_55 : decode cX1_writeByte 55 = .ok (.iconst 1, 1) := by decide +kernel
theorem dX1_writeByte_56 : decode cX1_writeByte 56 = .ok (.ishr, 1) := by decide +kernel
theorem dX1_writeByte_57 : decode cX1_writeByte 57 = .ok (.iaload, 1) := by decide +kernel
theorem dX1_writeByte_58 : decode cX1_writeByte 58 = .ok (.istore 5, 2) := by decide +kernel
theorem dX1_writeByte_60 : decode cX1_writeByte 60 = .ok (.iload_n 3, 1) := by decide +kernel
theorem dX1_writeByte_61 : decode cX1_writeByte 61 = .ok (.iconst 1, 1) := by decide +kernel
theorem dX1_writeByte_62 : decode cX1_writeByte 62 = .ok (.iand, 1) := by decide +kernel
theorem dX1_writeByte_63 : decode cX1_writeByte 63 = .ok (.ifCond .ne 17, 3) := by decide +kernel
theorem dX1_writeByte_66 : decode cX1_writeByte 66 = .ok (.iload 5, 2) := by decide +kernel
theorem dX1_writeByte_68 : decode cX1_writeByte 68 = .ok (.ldc 59, 2) := by decide +kernel
theorem dX1_writeByte_70 : decode cX1_writeByte 70 = .ok (.iand, 1) := by decide +kernel
theorem dX1_writeByte_71 : decode cX1_writeByte 71 = .ok (.iload_n 2, 1) := by decide +kernel
theorem dX1_writeByte_72 : decode cX1_writeByte 72 = .ok (.sipush 255, 3) := by decide +kernel
theorem dX1_writeByte_75 : decode cX1_writeByte 75 = .ok (.iand, 1) := by decide +kernel
theorem dX1_writeByte_76 : decode cX1_writeByte 76 = .ok (.ior, 1) := by decide +kernel
theorem dX1_writeByte_77 : decode cX1_writeByte 77 = .ok (.goto 18, 3) := by decide +kernel
theorem dX1_writeByte_80 : decode cX1_writeByte 80 = .ok (.iload 5, 2) := by decide +kernel
theorem dX1_writeByte_82 : decode cX1_writeByte 82 = .ok (.sipush 255, 3) := by decide +kernel
theorem dX1_writeByte_85 : decode cX1_writeByte 85 = .ok (.iand, 1) := by decide +kernel
theorem dX1_writeByte_86 : decode cX1_writeByte 86 = .ok (.iload_n 2, 1) := by decide +kernel
theorem dX1_writeByte_87 : decode cX1_writeByte 87 = .ok (.sipush 255, 3) := by decide +kernel
theorem dX1_writeByte_90 : decode cX1_writeByte 90 = .ok (.iand, 1) := by decide +kernel
theorem dX1_writeByte_91 : decode cX1_writeByte 91 = .ok (.bipush 8, 2) := by decide +kernel
theorem dX1_writeByte_93 : decode cX1_writeByte 93 = .ok (.ishl, 1) := by decide +kernel
theorem dX1_writeByte_94 : decode cX1_writeByte 94 = .ok (.ior, 1) := by decide +kernel
theorem dX1_writeByte_95 : decode cX1_writeByte 95 = .ok (.istore 6, 2) := by decide +kernel
theorem dX1_writeByte_97 : decode cX1_writeByte 97 = .ok (.iload 4, 2) := by decide +kernel
theorem dX1_writeByte_99 : decode cX1_writeByte 99 = .ok (.sipush 512, 3) := by decide +kernel
theorem dX1_writeByte_102 : decode cX1_writeByte 102 = .ok (.if_icmp .lt 17, 3) := by decide +kernel
theorem dX1_writeByte_105 : decode cX1_writeByte 105 = .ok (.aload_n 0, 1) := by decide +kernel
theorem dX1_writeByte_106 : decode cX1_writeByte 106 = .ok (.getfield 10, 3) := by decide +kernel
theorem dX1_writeByte_109 : decode cX1_writeByte 109 = .ok (.iload 4, 2) := by decide +kernel
theorem dX1_writeByte_111 : decode cX1_writeByte 111 = .ok (.iconst 1, 1) := by decide +kernel
theorem dX1_writeByte_112 : decode cX1_writeByte 112 = .ok (.ishr, 1) := by decide +kernel
theorem dX1_writeByte_113 : decode cX1_writeByte 113 = .ok (.iload 6, 2) := by decide +kernel
theorem dX1_writeByte_115 : decode cX1_writeByte 115 = .ok (.iastore, 1) := by decide +kernel
theorem dX1_writeByte_116 : decode cX1_writeByte 116 = .ok (.goto 11, 3) := by decide +kernel
theorem dX1_writeByte_119 : decode cX1_writeByte 119 = .ok (.aload_n 0, 1) := by decide +kernel
theorem dX1_writeByte_120 : decode cX1_writeByte 120 = .ok (.iload 4, 2) := by decide +kernel
theorem dX1_writeByte_122 : decode cX1_writeByte 122 = .ok (.iload 6, 2) := by decide +kernel
theorem dX1_writeByte_124 : decode cX1_writeByte 124 = .ok (.invokevirtual 52, 3) := by decide +kernel
theorem dX1_writeByte_127 : decode cX1_writeByte 127 = .ok (.return_, 1) := by decide +kernel
theorem dX1_thingWord_0 : decode cX1_thingWord 0 = .ok (.iload_n 1, 1) := by decide +kernel
theorem dX1_thingWord_1 : decode cX1_thingWord 1 = .ok (.sipush 288, 3) := by decide +kernel
theorem dX1_thingWord_4 : decode cX1_thingWord 4 = .ok (.if_icmp .ge 26, 3) := by decide +kernel
theorem dX1_thingWord_7 : decode cX1_thingWord 7 = .ok (.aload_n 0, 1) := by decide +kernel
theorem dX1_thingWord_8 : decode cX1_thingWord 8 = .ok (.getfield 19, 3) := by decide +kernel
theorem dX1_thingWord_11 : decode cX1_thingWord 11 = .ok (.iload_n 1, 1) := by decide +kernel
theorem dX1_thingWord_12 : decode cX1_thingWord 12 = .ok (.invokevirtual 60, 3) := by decide +kernel
theorem dX1_thingWord_15 : decode cX1_thingWord 15 = .ok (.aload_n 0, 1) := by decide +kernel
theorem dX1_thingWord_16 : decode cX1_thingWord 16 = .ok (.getfield 19, 3) := by decide +kernel
theorem dX1_thingWord_19 : decode cX1_thingWord 19 = .ok (.iload_n 1, 1) := by decide +kernel
theorem dX1_thingWord_20 : decode cX1_thingWord 20 = .ok (.iconst 1, 1) := by decide +kernel
theorem dX1_thingWord_21 : decode cX1_thingWord 21 = .ok (.iadd, 1) := by decide +kernel
theorem dX1_thingWord_22 : decode cX1_thingWord 22 = .ok (.invokevirtual 60, 3) := by decide +kernel
theorem dX1_thingWord_25 : decode cX1_thingWord 25 = .ok (.bipush 8, 2) := by decide +kernel
theorem dX1_thingWord_27 : decode cX1_thingWord 27 = .ok (.ishl, 1) := by decide +kernel
theorem dX1_thingWord_28 : decode cX1_thingWord 28 = .ok (.ior, 1) := by decide +kernel
theorem dX1_thingWord_29 : decode cX1_thingWord 29 = .ok (.ireturn, 1) := by decide +kernel
theorem dX1_thingWord_30 : decode cX1_thingWord 30 = .ok (.iload_n 1, 1) := by decide +kernel
theorem dX1_thingWord_31 : decode cX1_thingWord 31 = .ok (.sipush 302, 3) := by decide +kernel
theorem dX1_thingWord_34 : decode cX1_thingWord 34 = .ok (.if_icmp .ne 11, 3) := by decide +kernel
theorem dX1_thingWord_37 : decode cX1_thingWord 37 = .ok (.aload_n 0, 1) := by decide +kernel
theorem dX1_thingWord_38 : decode cX1_thingWord 38 = .ok (.getfield 33, 3) := by decide +kernel
theorem dX1_thingWord_41 : decode cX1_thingWord 41 = .ok (.invokevirtual 63, 3) := by decide +kernel
theorem dX1_thingWord_44 : decode cX1_thingWord 44 = .ok (.ireturn, 1) := by decide +kernel
theorem dX1_thingWord_45 : decode cX1_thingWord 45 = .ok (.iload_n 1, 1) := by decide +kernel
theorem dX1_thingWord_46 : decode cX1_thingWord 46 = .ok (.sipush 304, 3) := by decide +kernel
theorem dX1_thingWord_49 : decode cX1_thingWord 49 = .ok (.if_icmp .lt 19, 3) := by decide +kernel
theorem dX1_thingWord_52 : decode cX1_thingWord 52 = .ok (.iload_n 1, 1) := by decide +kernel
theorem dX1_thingWord_53 : decode cX1_thingWord 53 = .ok (.sipush 318, 3) := by decide +kernel
theorem dX1_thingWord_56 : decode cX1_thingWord 56 = .ok (.if_icmp .gt 12, 3) := by decide +kernel
theorem dX1_thingWord_59 : decode cX1_thingWord 59 = .ok (.aload_n 0, 1) := by decide +kernel
theorem dX1_thingWord_60 : decode cX1_thingWord 60 = .ok (.getfield 26, 3) := by decide +kernel
theorem dX1_thingWord_63 : decode cX1_thingWord 63 = .ok (.iload_n 1, 1) := by decide +kernel
theorem dX1_thingWord_64 : decode cX1_thingWord 64 = .ok (.invokevirtual 66, 3) := by decide +kernel
theorem dX1_thingWord_67 : decode cX1_thingWord 67 = .ok (.ireturn, 1) := by decide +kernel
theorem dX1_thingWord_68 : decode cX1_thingWord 68 = .ok (.aload_n 0, 1) := by decide +kernel
theorem dX1_thingWord_69 : decode cX1_thingWord 69 = .ok (.getfield 33, 3) := by decide +kernel
theorem dX1_thingWord_72 : decode cX1_thingWord 72 = .ok (.iload_n 1, 1) := by decide +kernel
theorem dX1_thingWord_73 : decode cX1_thingWord 73 = .ok (.invokevirtual 69, 3) := by decide +kernel
theorem dX1_thingWord_76 : decode cX1_thingWord 76 = .ok (.ireturn, 1) := by decide +kernel
theorem dX1_writeThing_0 : decode cX1_writeThing 0 = .ok (.iload_n 1, 1) := by decide +kernel
theorem dX1_writeThing_1 : decode cX1_writeThing 1 = .ok (.sipush 302, 3) := by decide +kernel
theorem dX1_writeThing_4 : decode cX1_writeThing 4 = .ok (.if_icmp .ne 14, 3) := by decide +kernel
theorem dX1_writeThing_7 : decode cX1_writeThing 7 = .ok (.aload_n 0, 1) := by decide +kernel
theorem dX1_writeThing_8 : decode cX1_writeThing 8 = .ok (.getfield 33, 3) := by decide +kernel
theorem dX1_writeThing_11 : decode cX1_writeThing 11 = .ok (.invokevirtual 47, 3) := by decide +kernel
theorem dX1_writeThing_14 : decode cX1_writeThing 14 = .ok (.pop, 1) := by decide +kernel
theorem dX1_writeThing_15 : decode cX1_writeThing 15 = .ok (.goto 38, 3) := by decide +kernel
theorem dX1_writeThing_18 : decode cX1_writeThing 18 = .ok (.iload_n 1, 1) := by decide +kernel
theorem dX1_writeThing_19 : decode cX1_writeThing 19 = .ok (.sipush 304, 3) := by decide +kernel
theorem dX1_writeThing_22 : decode cX1_writeThing 22 = .ok (.if_icmp .lt 22, 3) := by decide +kernel
theorem dX1_writeThing_25 : decode cX1_writeThing 25 = .ok (.iload_n 1, 1) := by decide +kernel
theorem dX1_writeThing_26 : decode cX1_writeThing 26 = .ok (.sipush 318, 3) := by decide +kernel
theorem dX1_writeThing_29 : decode cX1_writeThing 29 = .ok (.if_icmp .gt 15, 3) := by decide +kernel
theorem dX1_writeThing_32 : decode cX1_writeThing 32 = .ok (.aload_n 0, 1) := by decide +kernel
theorem dX1_writeThing_33 : decode cX1_writeThing 33 = .ok (.getfield 26, 3) := by decide +kernel
theorem dX1_writeThing_36 : decode cX1_writeThing 36 = .ok (.iload_n 1, 1) := by decide +kernel
theorem dX1_writeThing_37 : decode cX1_writeThing 37 = .ok (.iload_n 2, 1) := by decide +kernel
theorem dX1_writeThing_38 : decode cX1_writeThing 38 = .ok (.invokevirtual 70, 3) := by decide +kernel
theorem dX1_writeThing_41 : decode cX1_writeThing 41 = .ok (.goto 12, 3) := by decide +kernel
theorem dX1_writeThing_44 : decode cX1_writeThing 44 = .ok (.aload_n 0, 1) := by decide +kernel
theorem dX1_writeThing_45 : decode cX1_writeThing 45 = .ok (.getfield 33, 3) := by decide +kernel
theorem dX1_writeThing_48 : decode cX1_writeThing 48 = .ok (.iload_n 1, 1) := by decide +kernel
theorem dX1_writeThing_49 : decode cX1_writeThing 49 = .ok (.iload_n 2, 1) := by decide +kernel
theorem dX1_writeThing_50 : decode cX1_writeThing 50 = .ok (.invokevirtual 73, 3) := by decide +kernel
theorem dX1_writeThing_53 : decode cX1_writeThing 53 = .ok (.return_, 1) := by decide +kernel
theorem dX2_init_0 : decode cX2_init 0 = .ok (.aload_n 0, 1) := by decide +kernel
theorem dX2_init_1 : decode cX2_init 1 = .ok (.invokespecial 3, 3) := by decide +kernel
theorem dX2_init_4 : decode cX2_init 4 = .ok (.aload_n 0, 1) := by decide +kernel
theorem dX2_init_5 : decode cX2_init 5 = .ok (.bipush 16, 2) := by decide +kernel
theorem dX2_init_7 : decode cX2_init 7 = .ok (.newarray .int, 2) := by decide +kernel
theorem dX2_init_9 : decode cX2_init 9 = .ok (.putfield 9, 3) := by decide +kernel
theorem dX2_init_12 : decode cX2_init 12 = .ok (.aload_n 0, 1) := by decide +kernel
theorem dX2_init_13 : decode cX2_init 13 = .ok (.new 15, 3) := by decide +kernel
theorem dX2_init_16 : decode cX2_init 16 = .ok (.dup, 1) := by decide +kernel
theorem dX2_init_17 : decode cX2_init 17 = .ok (.invokespecial 17, 3) := by decide +kernel
theorem dX2_init_20 : decode cX2_init 20 = .ok (.putfield 18, 3) := by decide +kernel
theorem dX2_init_23 : decode cX2_init 23 = .ok (.aload_n 0, 1) := by decide +kernel
theorem dX2_init_24 : decode cX2_init 24 = .ok (.aload_n 1, 1) := by decide +kernel
theorem dX2_init_25 : decode cX2_init 25 = .ok (.putfield 22, 3) := by decide +kernel
theorem dX2_init_28 : decode cX2_init 28 = .ok (.return_, 1) := by decide +kernel
theorem dX2_isCode_0 : decode cX2_isCode 0 = .ok (.iload_n 0, 1) := by decide +kernel
theorem dX2_isCode_1 : decode cX2_isCode 1 = .ok (.sipush 8192, 3) := by decide +kernel
theorem dX2_isCode_4 : decode cX2_isCode 4 = .ok (.if_icmp .lt 5, 3) := by decide +kernel
theorem dX2_isCode_7 : decode cX2_isCode 7 = .ok (.iconst 1, 1) := by decide +kernel
theorem dX2_isCode_8 : decode cX2_isCode 8 = .ok (.ireturn, 1) := by decide +kernel
theorem dX2_isCode_9 : decode cX2_isCode 9 = .ok (.iload_n 0, 1) := by decide +kernel
theorem dX2_isCode_10 : decode cX2_isCode 10 = .ok (.bipush 10, 2) := by decide +kernel
theorem dX2_isCode_12 : decode cX2_isCode 12 = .ok (.ishr, 1) := by decide +kernel
theorem dX2_isCode_13 : decode cX2_isCode 13 = .ok (.iconst 4, 1) := by decide +kernel
theorem dX2_isCode_14 : decode cX2_isCode 14 = .ok (.if_icmp .eq 5, 3) := by decide +kernel
theorem dX2_isCode_17 : decode cX2_isCode 17 = .ok (.iconst 0, 1) := by decide +kernel
theorem dX2_isCode_18 : decode cX2_isCode 18 = .ok (.ireturn, 1) := by decide +kernel
theorem dX2_isCode_19 : decode cX2_isCode 19 = .ok (.iload_n 0, 1) := by decide +kernel
theorem dX2_isCode_20 : decode cX2_isCode 20 = .ok (.bipush 7, 2) := by decide +kernel
