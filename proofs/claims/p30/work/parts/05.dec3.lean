theorem dL_cell_0 : decode cL_cell 0 = .ok (.aload_n 0, 1) := by decide +kernel
theorem dL_cell_1 : decode cL_cell 1 = .ok (.arraylength, 1) := by decide +kernel
theorem dL_cell_2 : decode cL_cell 2 = .ok (.ifCond .ne 12, 3) := by decide +kernel
theorem dL_cell_5 : decode cL_cell 5 = .ok (.iload_n 1, 1) := by decide +kernel
theorem dL_cell_6 : decode cL_cell 6 = .ok (.bipush 37, 2) := by decide +kernel
theorem dL_cell_8 : decode cL_cell 8 = .ok (.imul, 1) := by decide +kernel
theorem dL_cell_9 : decode cL_cell 9 = .ok (.iconst 5, 1) := by decide +kernel
theorem dL_cell_10 : decode cL_cell 10 = .ok (.iadd, 1) := by decide +kernel
theorem dL_cell_11 : decode cL_cell 11 = .ok (.goto 17, 3) := by decide +kernel
theorem dL_cell_14 : decode cL_cell 14 = .ok (.aload_n 0, 1) := by decide +kernel
theorem dL_cell_15 : decode cL_cell 15 = .ok (.iload_n 1, 1) := by decide +kernel
theorem dL_cell_16 : decode cL_cell 16 = .ok (.aload_n 0, 1) := by decide +kernel
theorem dL_cell_17 : decode cL_cell 17 = .ok (.arraylength, 1) := by decide +kernel
theorem dL_cell_18 : decode cL_cell 18 = .ok (.irem, 1) := by decide +kernel
theorem dL_cell_19 : decode cL_cell 19 = .ok (.iaload, 1) := by decide +kernel
theorem dL_cell_20 : decode cL_cell 20 = .ok (.iload_n 1, 1) := by decide +kernel
theorem dL_cell_21 : decode cL_cell 21 = .ok (.bipush 7, 2) := by decide +kernel
theorem dL_cell_23 : decode cL_cell 23 = .ok (.irem, 1) := by decide +kernel
theorem dL_cell_24 : decode cL_cell 24 = .ok (.ishr, 1) := by decide +kernel
theorem dL_cell_25 : decode cL_cell 25 = .ok (.ldc 7, 2) := by decide +kernel
theorem dL_cell_27 : decode cL_cell 27 = .ok (.iand, 1) := by decide +kernel
theorem dL_cell_28 : decode cL_cell 28 = .ok (.iload_n 2, 1) := by decide +kernel
theorem dL_cell_29 : decode cL_cell 29 = .ok (.irem, 1) := by decide +kernel
theorem dL_cell_30 : decode cL_cell 30 = .ok (.ireturn, 1) := by decide +kernel
theorem dL_power_0 : decode cL_power 0 = .ok (.iload_n 2, 1) := by decide +kernel
theorem dL_power_1 : decode cL_power 1 = .ok (.iconst 2, 1) := by decide +kernel
theorem dL_power_2 : decode cL_power 2 = .ok (.if_icmp .ne 9, 3) := by decide +kernel
theorem dL_power_5 : decode cL_power 5 = .ok (.lload_n 0, 1) := by decide +kernel
theorem dL_power_6 : decode cL_power 6 = .ok (.lload_n 0, 1) := by decide +kernel
theorem dL_power_7 : decode cL_power 7 = .ok (.lmul, 1) := by decide +kernel
theorem dL_power_8 : decode cL_power 8 = .ok (.goto 8, 3) := by decide +kernel
theorem dL_power_11 : decode cL_power 11 = .ok (.lload_n 0, 1) := by decide +kernel
theorem dL_power_12 : decode cL_power 12 = .ok (.lload_n 0, 1) := by decide +kernel
theorem dL_power_13 : decode cL_power 13 = .ok (.lmul, 1) := by decide +kernel
theorem dL_power_14 : decode cL_power 14 = .ok (.lload_n 0, 1) := by decide +kernel
theorem dL_power_15 : decode cL_power 15 = .ok (.lmul, 1) := by decide +kernel
theorem dL_power_16 : decode cL_power 16 = .ok (.lreturn, 1) := by decide +kernel
theorem dL_root_0 : decode cL_root 0 = .ok (.lconst 0, 1) := by decide +kernel
theorem dL_root_1 : decode cL_root 1 = .ok (.lstore_n 3, 1) := by decide +kernel
theorem dL_root_2 : decode cL_root 2 = .ok (.iload_n 2, 1) := by decide +kernel
theorem dL_root_3 : decode cL_root 3 = .ok (.iconst 2, 1) := by decide +kernel
theorem dL_root_4 : decode cL_root 4 = .ok (.if_icmp .ne 9, 3) := by decide +kernel
theorem dL_root_7 : decode cL_root 7 = .ok (.ldc2_w 8, 3) := by decide +kernel
theorem dL_root_10 : decode cL_root 10 = .ok (.goto 6, 3) := by decide +kernel
theorem dL_root_13 : decode cL_root 13 = .ok (.ldc2_w 10, 3) := by decide +kernel
theorem dL_root_16 : decode cL_root 16 = .ok (.lstore 5, 2) := by decide +kernel
theorem dL_root_18 : decode cL_root 18 = .ok (.lload 5, 2) := by decide +kernel
theorem dL_root_20 : decode cL_root 20 = .ok (.lload_n 3, 1) := by decide +kernel
theorem dL_root_21 : decode cL_root 21 = .ok (.lsub, 1) := by decide +kernel
theorem dL_root_22 : decode cL_root 22 = .ok (.lconst 1, 1) := by decide +kernel
theorem dL_root_23 : decode cL_root 23 = .ok (.lcmp, 1) := by decide +kernel
theorem dL_root_24 : decode cL_root 24 = .ok (.ifCond .le 37, 3) := by decide +kernel
theorem dL_root_27 : decode cL_root 27 = .ok (.lload_n 3, 1) := by decide +kernel
theorem dL_root_28 : decode cL_root 28 = .ok (.lload 5, 2) := by decide +kernel
theorem dL_root_30 : decode cL_root 30 = .ok (.ladd, 1) := by decide +kernel
theorem dL_root_31 : decode cL_root 31 = .ok (.ldc2_w 12, 3) := by decide +kernel
theorem dL_root_34 : decode cL_root 34 = .ok (.ldiv, 1) := by decide +kernel
theorem dL_root_35 : decode cL_root 35 = .ok (.lstore 7, 2) := by decide +kernel
theorem dL_root_37 : decode cL_root 37 = .ok (.lload 7, 2) := by decide +kernel
theorem dL_root_39 : decode cL_root 39 = .ok (.iload_n 2, 1) := by decide +kernel
theorem dL_root_40 : decode cL_root 40 = .ok (.invokestatic 14, 3) := by decide +kernel
theorem dL_root_43 : decode cL_root 43 = .ok (.lload_n 0, 1) := by decide +kernel
theorem dL_root_44 : decode cL_root 44 = .ok (.lcmp, 1) := by decide +kernel
theorem dL_root_45 : decode cL_root 45 = .ok (.ifCond .gt 9, 3) := by decide +kernel
theorem dL_root_48 : decode cL_root 48 = .ok (.lload 7, 2) := by decide +kernel
theorem dL_root_50 : decode cL_root 50 = .ok (.lstore_n 3, 1) := by decide +kernel
theorem dL_root_51 : decode cL_root 51 = .ok (.goto 7, 3) := by decide +kernel
theorem dL_root_54 : decode cL_root 54 = .ok (.lload 7, 2) := by decide +kernel
theorem dL_root_56 : decode cL_root 56 = .ok (.lstore 5, 2) := by decide +kernel
theorem dL_root_58 : decode cL_root 58 = .ok (.goto (-40), 3) := by decide +kernel
theorem dL_root_61 : decode cL_root 61 = .ok (.lload_n 3, 1) := by decide +kernel
theorem dL_root_62 : decode cL_root 62 = .ok (.lreturn, 1) := by decide +kernel
theorem dL_rounded_0 : decode cL_rounded 0 = .ok (.lload_n 0, 1) := by decide +kernel
theorem dL_rounded_1 : decode cL_rounded 1 = .ok (.iload_n 2, 1) := by decide +kernel
theorem dL_rounded_2 : decode cL_rounded 2 = .ok (.invokestatic 20, 3) := by decide +kernel
theorem dL_rounded_5 : decode cL_rounded 5 = .ok (.lstore 4, 2) := by decide +kernel
theorem dL_rounded_7 : decode cL_rounded 7 = .ok (.lload 4, 2) := by decide +kernel
theorem dL_rounded_9 : decode cL_rounded 9 = .ok (.iload_n 2, 1) := by decide +kernel
theorem dL_rounded_10 : decode cL_rounded 10 = .ok (.invokestatic 14, 3) := by decide +kernel
theorem dL_rounded_13 : decode cL_rounded 13 = .ok (.lload_n 0, 1) := by decide +kernel
theorem dL_rounded_14 : decode cL_rounded 14 = .ok (.lcmp, 1) := by decide +kernel
theorem dL_rounded_15 : decode cL_rounded 15 = .ok (.ifCond .ne 7, 3) := by decide +kernel
theorem dL_rounded_18 : decode cL_rounded 18 = .ok (.iconst 1, 1) := by decide +kernel
theorem dL_rounded_19 : decode cL_rounded 19 = .ok (.goto 4, 3) := by decide +kernel
theorem dL_rounded_22 : decode cL_rounded 22 = .ok (.iconst 0, 1) := by decide +kernel
theorem dL_rounded_23 : decode cL_rounded 23 = .ok (.istore 6, 2) := by decide +kernel
theorem dL_rounded_25 : decode cL_rounded 25 = .ok (.iload_n 2, 1) := by decide +kernel
theorem dL_rounded_26 : decode cL_rounded 26 = .ok (.iconst 2, 1) := by decide +kernel
theorem dL_rounded_27 : decode cL_rounded 27 = .ok (.if_icmp .ne 11, 3) := by decide +kernel
theorem dL_rounded_30 : decode cL_rounded 30 = .ok (.ldc2_w 23, 3) := by decide +kernel
theorem dL_rounded_33 : decode cL_rounded 33 = .ok (.lload_n 0, 1) := by decide +kernel
theorem dL_rounded_34 : decode cL_rounded 34 = .ok (.lmul, 1) := by decide +kernel
theorem dL_rounded_35 : decode cL_rounded 35 = .ok (.goto 8, 3) := by decide +kernel
theorem dL_rounded_38 : decode cL_rounded 38 = .ok (.ldc2_w 25, 3) := by decide +kernel
theorem dL_rounded_41 : decode cL_rounded 41 = .ok (.lload_n 0, 1) := by decide +kernel
theorem dL_rounded_42 : decode cL_rounded 42 = .ok (.lmul, 1) := by decide +kernel
theorem dL_rounded_43 : decode cL_rounded 43 = .ok (.lstore 7, 2) := by decide +kernel
theorem dL_rounded_45 : decode cL_rounded 45 = .ok (.ldc2_w 12, 3) := by decide +kernel
theorem dL_rounded_48 : decode cL_rounded 48 = .ok (.lload 4, 2) := by decide +kernel
theorem dL_rounded_50 : decode cL_rounded 50 = .ok (.lmul, 1) := by decide +kernel
theorem dL_rounded_51 : decode cL_rounded 51 = .ok (.lconst 1, 1) := by decide +kernel
theorem dL_rounded_52 : decode cL_rounded 52 = .ok (.ladd, 1) := by decide +kernel
theorem dL_rounded_53 : decode cL_rounded 53 = .ok (.iload_n 2, 1) := by decide +kernel
theorem dL_rounded_54 : decode cL_rounded 54 = .ok (.invokestatic 14, 3) := by decide +kernel
theorem dL_rounded_57 : decode cL_rounded 57 = .ok (.lload 7, 2) := by decide +kernel
theorem dL_rounded_59 : decode cL_rounded 59 = .ok (.lcmp, 1) := by decide +kernel
theorem dL_rounded_60 : decode cL_rounded 60 = .ok (.ifCond .ge 7, 3) := by decide +kernel
theorem dL_rounded_63 : decode cL_rounded 63 = .ok (.iconst 1, 1) := by decide +kernel
theorem dL_rounded_64 : decode cL_rounded 64 = .ok (.goto 4, 3) := by decide +kernel
theorem dL_rounded_67 : decode cL_rounded 67 = .ok (.iconst 0, 1) := by decide +kernel
theorem dL_rounded_68 : decode cL_rounded 68 = .ok (.istore 9, 2) := by decide +kernel
theorem dL_rounded_70 : decode cL_rounded 70 = .ok (.iload_n 3, 1) := by decide +kernel
theorem dL_rounded_71 : decode cL_rounded 71 = .ok (.iconst 2, 1) := by decide +kernel
theorem dL_rounded_72 : decode cL_rounded 72 = .ok (.if_icmp .ne 8, 3) := by decide +kernel
theorem dL_rounded_75 : decode cL_rounded 75 = .ok (.iload 6, 2) := by decide +kernel
theorem dL_rounded_77 : decode cL_rounded 77 = .ok (.ifCond .eq 13, 3) := by decide +kernel
theorem dL_rounded_80 : decode cL_rounded 80 = .ok (.iload_n 3, 1) := by decide +kernel
theorem dL_rounded_81 : decode cL_rounded 81 = .ok (.iconst 1, 1) := by decide +kernel
theorem dL_rounded_82 : decode cL_rounded 82 = .ok (.if_icmp .ne 15, 3) := by decide +kernel
theorem dL_rounded_85 : decode cL_rounded 85 = .ok (.iload 9, 2) := by decide +kernel
theorem dL_rounded_87 : decode cL_rounded 87 = .ok (.ifCond .eq 10, 3) := by decide +kernel
theorem dL_rounded_90 : decode cL_rounded 90 = .ok (.lload 4, 2) := by decide +kernel
theorem dL_rounded_92 : decode cL_rounded 92 = .ok (.lconst 1, 1) := by decide +kernel
theorem dL_rounded_93 : decode cL_rounded 93 = .ok (.ladd, 1) := by decide +kernel
theorem dL_rounded_94 : decode cL_rounded 94 = .ok (.goto 5, 3) := by decide +kernel
theorem dL_rounded_97 : decode cL_rounded 97 = .ok (.lload 4, 2) := by decide +kernel
theorem dL_rounded_99 : decode cL_rounded 99 = .ok (.lreturn, 1) := by decide +kernel
theorem dL_step_0 : decode cL_step 0 = .ok (.aload_n 1, 1) := by decide +kernel
theorem dL_step_1 : decode cL_step 1 = .ok (.iconst 1, 1) := by decide +kernel
theorem dL_step_2 : decode cL_step 2 = .ok (.iaload, 1) := by decide +kernel
theorem dL_step_3 : decode cL_step 3 = .ok (.ifCond .ge 37, 3) := by decide +kernel
theorem dL_step_6 : decode cL_step 6 = .ok (.lload_n 2, 1) := by decide +kernel
theorem dL_step_7 : decode cL_step 7 = .ok (.ldc2_w 27, 3) := by decide +kernel
theorem dL_step_10 : decode cL_step 10 = .ok (.lcmp, 1) := by decide +kernel
theorem dL_step_11 : decode cL_step 11 = .ok (.ifCond .gt 9, 3) := by decide +kernel
theorem dL_step_14 : decode cL_step 14 = .ok (.lload_n 2, 1) := by decide +kernel
theorem dL_step_15 : decode cL_step 15 = .ok (.lconst 0, 1) := by decide +kernel
theorem dL_step_16 : decode cL_step 16 = .ok (.lcmp, 1) := by decide +kernel
theorem dL_step_17 : decode cL_step 17 = .ok (.ifCond .ge 23, 3) := by decide +kernel
theorem dL_step_20 : decode cL_step 20 = .ok (.aload_n 1, 1) := by decide +kernel
theorem dL_step_21 : decode cL_step 21 = .ok (.iconst 1, 1) := by decide +kernel
theorem dL_step_22 : decode cL_step 22 = .ok (.aload_n 1, 1) := by decide +kernel
theorem dL_step_23 : decode cL_step 23 = .ok (.iconst 0, 1) := by decide +kernel
theorem dL_step_24 : decode cL_step 24 = .ok (.iaload, 1) := by decide +kernel
theorem dL_step_25 : decode cL_step 25 = .ok (.iastore, 1) := by decide +kernel
theorem dL_step_26 : decode cL_step 26 = .ok (.aload_n 1, 1) := by decide +kernel
theorem dL_step_27 : decode cL_step 27 = .ok (.iconst 2, 1) := by decide +kernel
theorem dL_step_28 : decode cL_step 28 = .ok (.lload_n 2, 1) := by decide +kernel
theorem dL_step_29 : decode cL_step 29 = .ok (.lconst 0, 1) := by decide +kernel
theorem dL_step_30 : decode cL_step 30 = .ok (.lcmp, 1) := by decide +kernel
theorem dL_step_31 : decode cL_step 31 = .ok (.ifCond .ge 7, 3) := by decide +kernel
theorem dL_step_34 : decode cL_step 34 = .ok (.iconst 2, 1) := by decide +kernel
theorem dL_step_35 : decode cL_step 35 = .ok (.goto 4, 3) := by decide +kernel
theorem dL_step_38 : decode cL_step 38 = .ok (.iconst 1, 1) := by decide +kernel
theorem dL_step_39 : decode cL_step 39 = .ok (.iastore, 1) := by decide +kernel
theorem dL_step_40 : decode cL_step 40 = .ok (.aload_n 0, 1) := by decide +kernel
theorem dL_step_41 : decode cL_step 41 = .ok (.aload_n 1, 1) := by decide +kernel
theorem dL_step_42 : decode cL_step 42 = .ok (.iconst 0, 1) := by decide +kernel
theorem dL_step_43 : decode cL_step 43 = .ok (.iaload, 1) := by decide +kernel
theorem dL_step_44 : decode cL_step 44 = .ok (.lload_n 2, 1) := by decide +kernel
theorem dL_step_45 : decode cL_step 45 = .ok (.lastore, 1) := by decide +kernel
theorem dL_step_46 : decode cL_step 46 = .ok (.aload_n 1, 1) := by decide +kernel
theorem dL_step_47 : decode cL_step 47 = .ok (.iconst 0, 1) := by decide +kernel
theorem dL_step_48 : decode cL_step 48 = .ok (.dup2, 1) := by decide +kernel
theorem dL_step_49 : decode cL_step 49 = .ok (.iaload, 1) := by decide +kernel
theorem dL_step_50 : decode cL_step 50 = .ok (.iconst 1, 1) := by decide +kernel
theorem dL_step_51 : decode cL_step 51 = .ok (.iadd, 1) := by decide +kernel
theorem dL_step_52 : decode cL_step 52 = .ok (.iastore, 1) := by decide +kernel
theorem dL_step_53 : decode cL_step 53 = .ok (.aload_n 1, 1) := by decide +kernel
theorem dL_step_54 : decode cL_step 54 = .ok (.iconst 1, 1) := by decide +kernel
theorem dL_step_55 : decode cL_step 55 = .ok (.iaload, 1) := by decide +kernel
theorem dL_step_56 : decode cL_step 56 = .ok (.ifCond .ge 7, 3) := by decide +kernel
theorem dL_step_59 : decode cL_step 59 = .ok (.lload_n 2, 1) := by decide +kernel
theorem dL_step_60 : decode cL_step 60 = .ok (.goto 4, 3) := by decide +kernel
theorem dL_step_63 : decode cL_step 63 = .ok (.lconst 0, 1) := by decide +kernel
theorem dL_step_64 : decode cL_step 64 = .ok (.lreturn, 1) := by decide +kernel
theorem dL_times_0 : decode cL_times 0 = .ok (.lload_n 2, 1) := by decide +kernel
theorem dL_times_1 : decode cL_times 1 = .ok (.lconst 0, 1) := by decide +kernel
theorem dL_times_2 : decode cL_times 2 = .ok (.lcmp, 1) := by decide +kernel
theorem dL_times_3 : decode cL_times 3 = .ok (.ifCond .le 19, 3) := by decide +kernel
theorem dL_times_6 : decode cL_times 6 = .ok (.lload_n 0, 1) := by decide +kernel
theorem dL_times_7 : decode cL_times 7 = .ok (.ldc2_w 27, 3) := by decide +kernel
theorem dL_times_10 : decode cL_times 10 = .ok (.lload_n 2, 1) := by decide +kernel
theorem dL_times_11 : decode cL_times 11 = .ok (.ldiv, 1) := by decide +kernel
theorem dL_times_12 : decode cL_times 12 = .ok (.lcmp, 1) := by decide +kernel
theorem dL_times_13 : decode cL_times 13 = .ok (.ifCond .le 9, 3) := by decide +kernel
theorem dL_times_16 : decode cL_times 16 = .ok (.ldc2_w 29, 3) := by decide +kernel
theorem dL_times_19 : decode cL_times 19 = .ok (.goto 6, 3) := by decide +kernel
theorem dL_times_22 : decode cL_times 22 = .ok (.lload_n 0, 1) := by decide +kernel
theorem dL_times_23 : decode cL_times 23 = .ok (.lload_n 2, 1) := by decide +kernel
theorem dL_times_24 : decode cL_times 24 = .ok (.lmul, 1) := by decide +kernel
theorem dL_times_25 : decode cL_times 25 = .ok (.lreturn, 1) := by decide +kernel
theorem dL_number_0 : decode cL_number 0 = .ok (.iload_n 3, 1) := by decide +kernel
theorem dL_number_1 : decode cL_number 1 = .ok (.sipush 999, 3) := by decide +kernel
theorem dL_number_4 : decode cL_number 4 = .ok (.if_icmp .le 9, 3) := by decide +kernel
theorem dL_number_7 : decode cL_number 7 = .ok (.sipush 1000, 3) := by decide +kernel
theorem dL_number_10 : decode cL_number 10 = .ok (.goto 26, 3) := by decide +kernel
theorem dL_number_13 : decode cL_number 13 = .ok (.iload_n 3, 1) := by decide +kernel
theorem dL_number_14 : decode cL_number 14 = .ok (.bipush 99, 2) := by decide +kernel
theorem dL_number_16 : decode cL_number 16 = .ok (.if_icmp .le 8, 3) := by decide +kernel
theorem dL_number_19 : decode cL_number 19 = .ok (.bipush 100, 2) := by decide +kernel
theorem dL_number_21 : decode cL_number 21 = .ok (.goto 15, 3) := by decide +kernel
theorem dL_number_24 : decode cL_number 24 = .ok (.iload_n 3, 1) := by decide +kernel
theorem dL_number_25 : decode cL_number 25 = .ok (.bipush 9, 2) := by decide +kernel
theorem dL_number_27 : decode cL_number 27 = .ok (.if_icmp .le 8, 3) := by decide +kernel
theorem dL_number_30 : decode cL_number 30 = .ok (.bipush 10, 2) := by decide +kernel
theorem dL_number_32 : decode cL_number 32 = .ok (.goto 4, 3) := by decide +kernel
theorem dL_number_35 : decode cL_number 35 = .ok (.iconst 1, 1) := by decide +kernel
theorem dL_number_36 : decode cL_number 36 = .ok (.istore 4, 2) := by decide +kernel
theorem dL_number_38 : decode cL_number 38 = .ok (.iload 4, 2) := by decide +kernel
theorem dL_number_40 : decode cL_number 40 = .ok (.ifCond .le 29, 3) := by decide +kernel
theorem dL_number_43 : decode cL_number 43 = .ok (.aload_n 0, 1) := by decide +kernel
theorem dL_number_44 : decode cL_number 44 = .ok (.bipush 48, 2) := by decide +kernel
theorem dL_number_46 : decode cL_number 46 = .ok (.iload_n 3, 1) := by decide +kernel
theorem dL_number_47 : decode cL_number 47 = .ok (.iload 4, 2) := by decide +kernel
theorem dL_number_49 : decode cL_number 49 = .ok (.idiv, 1) := by decide +kernel
theorem dL_number_50 : decode cL_number 50 = .ok (.bipush 10, 2) := by decide +kernel
theorem dL_number_52 : decode cL_number 52 = .ok (.irem, 1) := by decide +kernel
theorem dL_number_53 : decode cL_number 53 = .ok (.iadd, 1) := by decide +kernel
theorem dL_number_54 : decode cL_number 54 = .ok (.i2l, 1) := by decide +kernel
theorem dL_number_55 : decode cL_number 55 = .ok (.invokevirtual 31, 3) := by decide +kernel
theorem dL_number_58 : decode cL_number 58 = .ok (.pop, 1) := by decide +kernel
theorem dL_number_59 : decode cL_number 59 = .ok (.iload 4, 2) := by decide +kernel
theorem dL_number_61 : decode cL_number 61 = .ok (.bipush 10, 2) := by decide +kernel
theorem dL_number_63 : decode cL_number 63 = .ok (.idiv, 1) := by decide +kernel
theorem dL_number_64 : decode cL_number 64 = .ok (.istore 4, 2) := by decide +kernel
theorem dL_number_66 : decode cL_number 66 = .ok (.goto (-28), 3) := by decide +kernel
theorem dL_number_69 : decode cL_number 69 = .ok (.aload_n 1, 1) := by decide +kernel
theorem dL_number_70 : decode cL_number 70 = .ok (.aload_n 2, 1) := by decide +kernel
theorem dL_number_71 : decode cL_number 71 = .ok (.iload_n 3, 1) := by decide +kernel
theorem dL_number_72 : decode cL_number 72 = .ok (.i2l, 1) := by decide +kernel
theorem dL_number_73 : decode cL_number 73 = .ok (.invokestatic 37, 3) := by decide +kernel
theorem dL_number_76 : decode cL_number 76 = .ok (.lreturn, 1) := by decide +kernel
theorem dL_atom_0 : decode cL_atom 0 = .ok (.aload_n 3, 1) := by decide +kernel
theorem dL_atom_1 : decode cL_atom 1 = .ok (.iload 4, 2) := by decide +kernel
theorem dL_atom_3 : decode cL_atom 3 = .ok (.iconst 3, 1) := by decide +kernel
theorem dL_atom_4 : decode cL_atom 4 = .ok (.invokestatic 41, 3) := by decide +kernel
theorem dL_atom_7 : decode cL_atom 7 = .ok (.ifCond .ne 20, 3) := by decide +kernel
theorem dL_atom_10 : decode cL_atom 10 = .ok (.aload_n 0, 1) := by decide +kernel
theorem dL_atom_11 : decode cL_atom 11 = .ok (.aload_n 1, 1) := by decide +kernel
theorem dL_atom_12 : decode cL_atom 12 = .ok (.aload_n 2, 1) := by decide +kernel
theorem dL_atom_13 : decode cL_atom 13 = .ok (.aload_n 3, 1) := by decide +kernel
theorem dL_atom_14 : decode cL_atom 14 = .ok (.iload 4, 2) := by decide +kernel
theorem dL_atom_16 : decode cL_atom 16 = .ok (.iconst 1, 1) := by decide +kernel
theorem dL_atom_17 : decode cL_atom 17 = .ok (.iadd, 1) := by decide +kernel
theorem dL_atom_18 : decode cL_atom 18 = .ok (.iload 5, 2) := by decide +kernel
theorem dL_atom_20 : decode cL_atom 20 = .ok (.invokestatic 41, 3) := by decide +kernel
theorem dL_atom_23 : decode cL_atom 23 = .ok (.invokestatic 45, 3) := by decide +kernel
theorem dL_atom_26 : decode cL_atom 26 = .ok (.lreturn, 1) := by decide +kernel
theorem dL_atom_27 : decode cL_atom 27 = .ok (.aload_n 3, 1) := by decide +kernel
theorem dL_atom_28 : decode cL_atom 28 = .ok (.iload 4, 2) := by decide +kernel
theorem dL_atom_30 : decode cL_atom 30 = .ok (.iconst 1, 1) := by decide +kernel
theorem dL_atom_31 : decode cL_atom 31 = .ok (.iadd, 1) := by decide +kernel
theorem dL_atom_32 : decode cL_atom 32 = .ok (.bipush 8, 2) := by decide +kernel
theorem dL_atom_34 : decode cL_atom 34 = .ok (.invokestatic 41, 3) := by decide +kernel
theorem dL_atom_37 : decode cL_atom 37 = .ok (.istore 6, 2) := by decide +kernel
theorem dL_atom_39 : decode cL_atom 39 = .ok (.aload_n 0, 1) := by decide +kernel
theorem dL_atom_40 : decode cL_atom 40 = .ok (.bipush 65, 2) := by decide +kernel
theorem dL_atom_42 : decode cL_atom 42 = .ok (.iload 6, 2) := by decide +kernel
theorem dL_atom_44 : decode cL_atom 44 = .ok (.iadd, 1) := by decide +kernel
theorem dL_atom_45 : decode cL_atom 45 = .ok (.i2l, 1) := by decide +kernel
theorem dL_atom_46 : decode cL_atom 46 = .ok (.invokevirtual 31, 3) := by decide +kernel
theorem dL_atom_49 : decode cL_atom 49 = .ok (.pop, 1) := by decide +kernel
theorem dL_atom_50 : decode cL_atom 50 = .ok (.aload_n 2, 1) := by decide +kernel
theorem dL_atom_51 : decode cL_atom 51 = .ok (.iconst 4, 1) := by decide +kernel
theorem dL_atom_52 : decode cL_atom 52 = .ok (.dup2, 1) := by decide +kernel
theorem dL_atom_53 : decode cL_atom 53 = .ok (.iaload, 1) := by decide +kernel
theorem dL_atom_54 : decode cL_atom 54 = .ok (.iconst 1, 1) := by decide +kernel
theorem dL_atom_55 : decode cL_atom 55 = .ok (.iload 6, 2) := by decide +kernel
theorem dL_atom_57 : decode cL_atom 57 = .ok (.ishl, 1) := by decide +kernel
theorem dL_atom_58 : decode cL_atom 58 = .ok (.ior, 1) := by decide +kernel
theorem dL_atom_59 : decode cL_atom 59 = .ok (.iastore, 1) := by decide +kernel
theorem dL_atom_60 : decode cL_atom 60 = .ok (.aload_n 1, 1) := by decide +kernel
theorem dL_atom_61 : decode cL_atom 61 = .ok (.aload_n 2, 1) := by decide +kernel
theorem dL_atom_62 : decode cL_atom 62 = .ok (.aload_n 0, 1) := by decide +kernel
theorem dL_atom_63 : decode cL_atom 63 = .ok (.iload 6, 2) := by decide +kernel
theorem dL_atom_65 : decode cL_atom 65 = .ok (.invokevirtual 49, 3) := by decide +kernel
theorem dL_atom_68 : decode cL_atom 68 = .ok (.invokestatic 37, 3) := by decide +kernel
theorem dL_atom_71 : decode cL_atom 71 = .ok (.lreturn, 1) := by decide +kernel
theorem dL_apply_0 : decode cL_apply 0 = .ok (.aload_n 0, 1) := by decide +kernel
theorem dL_apply_1 : decode cL_apply 1 = .ok (.aload_n 1, 1) := by decide +kernel
theorem dL_apply_2 : decode cL_apply 2 = .ok (.iload_n 2, 1) := by decide +kernel
theorem dL_apply_3 : decode cL_apply 3 = .ok (.bipush 43, 2) := by decide +kernel
theorem dL_apply_5 : decode cL_apply 5 = .ok (.if_icmp .ne 10, 3) := by decide +kernel
theorem dL_apply_8 : decode cL_apply 8 = .ok (.lload_n 3, 1) := by decide +kernel
theorem dL_apply_9 : decode cL_apply 9 = .ok (.lload 5, 2) := by decide +kernel
theorem dL_apply_11 : decode cL_apply 11 = .ok (.ladd, 1) := by decide +kernel
theorem dL_apply_12 : decode cL_apply 12 = .ok (.goto 22, 3) := by decide +kernel
theorem dL_apply_15 : decode cL_apply 15 = .ok (.iload_n 2, 1) := by decide +kernel
theorem dL_apply_16 : decode cL_apply 16 = .ok (.bipush 45, 2) := by decide +kernel
theorem dL_apply_18 : decode cL_apply 18 = .ok (.if_icmp .ne 10, 3) := by decide +kernel
theorem dL_apply_21 : decode cL_apply 21 = .ok (.lload_n 3, 1) := by decide +kernel
theorem dL_apply_22 : decode cL_apply 22 = .ok (.lload 5, 2) := by decide +kernel
theorem dL_apply_24 : decode cL_apply 24 = .ok (.lsub, 1) := by decide +kernel
theorem dL_apply_25 : decode cL_apply 25 = .ok (.goto 9, 3) := by decide +kernel
theorem dL_apply_28 : decode cL_apply 28 = .ok (.lload_n 3, 1) := by decide +kernel
theorem dL_apply_29 : decode cL_apply 29 = .ok (.lload 5, 2) := by decide +kernel
theorem dL_apply_31 : decode cL_apply 31 = .ok (.invokestatic 52, 3) := by decide +kernel
theorem dL_apply_34 : decode cL_apply 34 = .ok (.invokestatic 37, 3) := by decide +kernel
theorem dL_apply_37 : decode cL_apply 37 = .ok (.lreturn, 1) := by decide +kernel
theorem dL_factor_0 : decode cL_factor 0 = .ok (.aload_n 3, 1) := by decide +kernel
theorem dL_factor_1 : decode cL_factor 1 = .ok (.iload 4, 2) := by decide +kernel
theorem dL_factor_3 : decode cL_factor 3 = .ok (.bipush 6, 2) := by decide +kernel
theorem dL_factor_5 : decode cL_factor 5 = .ok (.invokestatic 41, 3) := by decide +kernel
theorem dL_factor_8 : decode cL_factor 8 = .ok (.istore 6, 2) := by decide +kernel
theorem dL_factor_10 : decode cL_factor 10 = .ok (.iload 6, 2) := by decide +kernel
theorem dL_factor_12 : decode cL_factor 12 = .ok (.iconst 2, 1) := by decide +kernel
theorem dL_factor_13 : decode cL_factor 13 = .ok (.if_icmp .ge 17, 3) := by decide +kernel
theorem dL_factor_16 : decode cL_factor 16 = .ok (.aload_n 0, 1) := by decide +kernel
theorem dL_factor_17 : decode cL_factor 17 = .ok (.aload_n 1, 1) := by decide +kernel
theorem dL_factor_18 : decode cL_factor 18 = .ok (.aload_n 2, 1) := by decide +kernel
theorem dL_factor_19 : decode cL_factor 19 = .ok (.aload_n 3, 1) := by decide +kernel
theorem dL_factor_20 : decode cL_factor 20 = .ok (.iload 4, 2) := by decide +kernel
theorem dL_factor_22 : decode cL_factor 22 = .ok (.iconst 1, 1) := by decide +kernel
theorem dL_factor_23 : decode cL_factor 23 = .ok (.iadd, 1) := by decide +kernel
theorem dL_factor_24 : decode cL_factor 24 = .ok (.iload 5, 2) := by decide +kernel
theorem dL_factor_26 : decode cL_factor 26 = .ok (.invokestatic 56, 3) := by decide +kernel
theorem dL_factor_29 : decode cL_factor 29 = .ok (.lreturn, 1) := by decide +kernel
theorem dL_factor_30 : decode cL_factor 30 = .ok (.iload 6, 2) := by decide +kernel
theorem dL_factor_32 : decode cL_factor 32 = .ok (.iconst 2, 1) := by decide +kernel
theorem dL_factor_33 : decode cL_factor 33 = .ok (.if_icmp .le 35, 3) := by decide +kernel
theorem dL_factor_36 : decode cL_factor 36 = .ok (.aload_n 0, 1) := by decide +kernel
theorem dL_factor_37 : decode cL_factor 37 = .ok (.iload 6, 2) := by decide +kernel
theorem dL_factor_39 : decode cL_factor 39 = .ok (.iconst 3, 1) := by decide +kernel
theorem dL_factor_40 : decode cL_factor 40 = .ok (.if_icmp .ne 9, 3) := by decide +kernel
theorem dL_factor_43 : decode cL_factor 43 = .ok (.ldc2_w 60, 3) := by decide +kernel
theorem dL_factor_46 : decode cL_factor 46 = .ok (.goto 18, 3) := by decide +kernel
theorem dL_factor_49 : decode cL_factor 49 = .ok (.iload 6, 2) := by decide +kernel
theorem dL_factor_51 : decode cL_factor 51 = .ok (.iconst 4, 1) := by decide +kernel
theorem dL_factor_52 : decode cL_factor 52 = .ok (.if_icmp .ne 9, 3) := by decide +kernel
theorem dL_factor_55 : decode cL_factor 55 = .ok (.ldc2_w 62, 3) := by decide +kernel
theorem dL_factor_58 : decode cL_factor 58 = .ok (.goto 6, 3) := by decide +kernel
theorem dL_factor_61 : decode cL_factor 61 = .ok (.ldc2_w 64, 3) := by decide +kernel
theorem dL_factor_64 : decode cL_factor 64 = .ok (.invokevirtual 31, 3) := by decide +kernel
theorem dL_factor_67 : decode cL_factor 67 = .ok (.pop, 1) := by decide +kernel
theorem dL_factor_68 : decode cL_factor 68 = .ok (.aload_n 0, 1) := by decide +kernel
theorem dL_factor_69 : decode cL_factor 69 = .ok (.ldc2_w 66, 3) := by decide +kernel
theorem dL_factor_72 : decode cL_factor 72 = .ok (.invokevirtual 31, 3) := by decide +kernel
theorem dL_factor_75 : decode cL_factor 75 = .ok (.pop, 1) := by decide +kernel
theorem dL_factor_76 : decode cL_factor 76 = .ok (.aload_n 0, 1) := by decide +kernel
theorem dL_factor_77 : decode cL_factor 77 = .ok (.aload_n 1, 1) := by decide +kernel
theorem dL_factor_78 : decode cL_factor 78 = .ok (.aload_n 2, 1) := by decide +kernel
theorem dL_factor_79 : decode cL_factor 79 = .ok (.aload_n 3, 1) := by decide +kernel
theorem dL_factor_80 : decode cL_factor 80 = .ok (.iload 4, 2) := by decide +kernel
theorem dL_factor_82 : decode cL_factor 82 = .ok (.iconst 1, 1) := by decide +kernel
theorem dL_factor_83 : decode cL_factor 83 = .ok (.iadd, 1) := by decide +kernel
theorem dL_factor_84 : decode cL_factor 84 = .ok (.bipush 100, 2) := by decide +kernel
theorem dL_factor_86 : decode cL_factor 86 = .ok (.invokestatic 56, 3) := by decide +kernel
theorem dL_factor_89 : decode cL_factor 89 = .ok (.lstore 7, 2) := by decide +kernel
theorem dL_factor_91 : decode cL_factor 91 = .ok (.aload_n 3, 1) := by decide +kernel
theorem dL_factor_92 : decode cL_factor 92 = .ok (.iload 4, 2) := by decide +kernel
theorem dL_factor_94 : decode cL_factor 94 = .ok (.iconst 3, 1) := by decide +kernel
theorem dL_factor_95 : decode cL_factor 95 = .ok (.iadd, 1) := by decide +kernel
theorem dL_factor_96 : decode cL_factor 96 = .ok (.iconst 4, 1) := by decide +kernel
theorem dL_factor_97 : decode cL_factor 97 = .ok (.invokestatic 41, 3) := by decide +kernel
theorem dL_factor_100 : decode cL_factor 100 = .ok (.istore 9, 2) := by decide +kernel
theorem dL_factor_102 : decode cL_factor 102 = .ok (.iload 9, 2) := by decide +kernel
theorem dL_factor_104 : decode cL_factor 104 = .ok (.ifCond .le 65, 3) := by decide +kernel
theorem dL_factor_107 : decode cL_factor 107 = .ok (.iload 9, 2) := by decide +kernel
theorem dL_factor_109 : decode cL_factor 109 = .ok (.iconst 1, 1) := by decide +kernel
theorem dL_factor_110 : decode cL_factor 110 = .ok (.if_icmp .ne 8, 3) := by decide +kernel
theorem dL_factor_113 : decode cL_factor 113 = .ok (.bipush 43, 2) := by decide +kernel
theorem dL_factor_115 : decode cL_factor 115 = .ok (.goto 16, 3) := by decide +kernel
theorem dL_factor_118 : decode cL_factor 118 = .ok (.iload 9, 2) := by decide +kernel
theorem dL_factor_120 : decode cL_factor 120 = .ok (.iconst 2, 1) := by decide +kernel
theorem dL_factor_121 : decode cL_factor 121 = .ok (.if_icmp .ne 8, 3) := by decide +kernel
theorem dL_factor_124 : decode cL_factor 124 = .ok (.bipush 42, 2) := by decide +kernel
theorem dL_factor_126 : decode cL_factor 126 = .ok (.goto 5, 3) := by decide +kernel
theorem dL_factor_129 : decode cL_factor 129 = .ok (.bipush 45, 2) := by decide +kernel
theorem dL_factor_131 : decode cL_factor 131 = .ok (.istore 10, 2) := by decide +kernel
theorem dL_factor_133 : decode cL_factor 133 = .ok (.aload_n 0, 1) := by decide +kernel
theorem dL_factor_134 : decode cL_factor 134 = .ok (.iload 10, 2) := by decide +kernel
theorem dL_factor_136 : decode cL_factor 136 = .ok (.i2l, 1) := by decide +kernel
theorem dL_factor_137 : decode cL_factor 137 = .ok (.invokevirtual 31, 3) := by decide +kernel
theorem dL_factor_140 : decode cL_factor 140 = .ok (.pop, 1) := by decide +kernel
theorem dL_factor_141 : decode cL_factor 141 = .ok (.aload_n 0, 1) := by decide +kernel
theorem dL_factor_142 : decode cL_factor 142 = .ok (.aload_n 1, 1) := by decide +kernel
theorem dL_factor_143 : decode cL_factor 143 = .ok (.aload_n 2, 1) := by decide +kernel
theorem dL_factor_144 : decode cL_factor 144 = .ok (.aload_n 3, 1) := by decide +kernel
theorem dL_factor_145 : decode cL_factor 145 = .ok (.iload 4, 2) := by decide +kernel
theorem dL_factor_147 : decode cL_factor 147 = .ok (.iconst 4, 1) := by decide +kernel
theorem dL_factor_148 : decode cL_factor 148 = .ok (.iadd, 1) := by decide +kernel
theorem dL_factor_149 : decode cL_factor 149 = .ok (.bipush 100, 2) := by decide +kernel
theorem dL_factor_151 : decode cL_factor 151 = .ok (.invokestatic 56, 3) := by decide +kernel
theorem dL_factor_154 : decode cL_factor 154 = .ok (.lstore 11, 2) := by decide +kernel
theorem dL_factor_156 : decode cL_factor 156 = .ok (.aload_n 1, 1) := by decide +kernel
theorem dL_factor_157 : decode cL_factor 157 = .ok (.aload_n 2, 1) := by decide +kernel
theorem dL_factor_158 : decode cL_factor 158 = .ok (.iload 10, 2) := by decide +kernel
theorem dL_factor_160 : decode cL_factor 160 = .ok (.lload 7, 2) := by decide +kernel
theorem dL_factor_162 : decode cL_factor 162 = .ok (.lload 11, 2) := by decide +kernel
theorem dL_factor_164 : decode cL_factor 164 = .ok (.invokestatic 68, 3) := by decide +kernel
theorem dL_factor_167 : decode cL_factor 167 = .ok (.lstore 7, 2) := by decide +kernel
theorem dL_factor_169 : decode cL_factor 169 = .ok (.aload_n 0, 1) := by decide +kernel
theorem dL_factor_170 : decode cL_factor 170 = .ok (.ldc2_w 72, 3) := by decide +kernel
theorem dL_factor_173 : decode cL_factor 173 = .ok (.invokevirtual 31, 3) := by decide +kernel
theorem dL_factor_176 : decode cL_factor 176 = .ok (.pop, 1) := by decide +kernel
theorem dL_factor_177 : decode cL_factor 177 = .ok (.aload_n 2, 1) := by decide +kernel
theorem dL_factor_178 : decode cL_factor 178 = .ok (.iconst 3, 1) := by decide +kernel
theorem dL_factor_179 : decode cL_factor 179 = .ok (.dup2, 1) := by decide +kernel
theorem dL_factor_180 : decode cL_factor 180 = .ok (.iaload, 1) := by decide +kernel
theorem dL_factor_181 : decode cL_factor 181 = .ok (.iload 6, 2) := by decide +kernel
theorem dL_factor_183 : decode cL_factor 183 = .ok (.iconst 3, 1) := by decide +kernel
theorem dL_factor_184 : decode cL_factor 184 = .ok (.if_icmp .eq 9, 3) := by decide +kernel
theorem dL_factor_187 : decode cL_factor 187 = .ok (.iload 6, 2) := by decide +kernel
theorem dL_factor_189 : decode cL_factor 189 = .ok (.iconst 4, 1) := by decide +kernel
theorem dL_factor_190 : decode cL_factor 190 = .ok (.if_icmp .ne 7, 3) := by decide +kernel
theorem dL_factor_193 : decode cL_factor 193 = .ok (.iconst 1, 1) := by decide +kernel
theorem dL_factor_194 : decode cL_factor 194 = .ok (.goto 4, 3) := by decide +kernel
theorem dL_factor_197 : decode cL_factor 197 = .ok (.iconst 0, 1) := by decide +kernel
theorem dL_factor_198 : decode cL_factor 198 = .ok (.iadd, 1) := by decide +kernel
theorem dL_factor_199 : decode cL_factor 199 = .ok (.iastore, 1) := by decide +kernel
theorem dL_factor_200 : decode cL_factor 200 = .ok (.iload 6, 2) := by decide +kernel
theorem dL_factor_202 : decode cL_factor 202 = .ok (.iconst 2, 1) := by decide +kernel
theorem dL_factor_203 : decode cL_factor 203 = .ok (.if_icmp .ne 8, 3) := by decide +kernel
theorem dL_factor_206 : decode cL_factor 206 = .ok (.lload 7, 2) := by decide +kernel
theorem dL_factor_208 : decode cL_factor 208 = .ok (.goto 45, 3) := by decide +kernel
theorem dL_factor_211 : decode cL_factor 211 = .ok (.aload_n 1, 1) := by decide +kernel
theorem dL_factor_212 : decode cL_factor 212 = .ok (.aload_n 2, 1) := by decide +kernel
theorem dL_factor_213 : decode cL_factor 213 = .ok (.iload 6, 2) := by decide +kernel
theorem dL_factor_215 : decode cL_factor 215 = .ok (.iconst 5, 1) := by decide +kernel
theorem dL_factor_216 : decode cL_factor 216 = .ok (.if_icmp .ne 13, 3) := by decide +kernel
theorem dL_factor_219 : decode cL_factor 219 = .ok (.lload 7, 2) := by decide +kernel
theorem dL_factor_221 : decode cL_factor 221 = .ok (.lload 7, 2) := by decide +kernel
theorem dL_factor_223 : decode cL_factor 223 = .ok (.invokestatic 52, 3) := by decide +kernel
theorem dL_factor_226 : decode cL_factor 226 = .ok (.goto 24, 3) := by decide +kernel
theorem dL_factor_229 : decode cL_factor 229 = .ok (.lload 7, 2) := by decide +kernel
theorem dL_factor_231 : decode cL_factor 231 = .ok (.iload 6, 2) := by decide +kernel
theorem dL_factor_233 : decode cL_factor 233 = .ok (.iconst 3, 1) := by decide +kernel
theorem dL_factor_234 : decode cL_factor 234 = .ok (.if_icmp .ne 7, 3) := by decide +kernel
theorem dL_factor_237 : decode cL_factor 237 = .ok (.iconst 2, 1) := by decide +kernel
theorem dL_factor_238 : decode cL_factor 238 = .ok (.goto 4, 3) := by decide +kernel
theorem dL_factor_241 : decode cL_factor 241 = .ok (.iconst 3, 1) := by decide +kernel
theorem dL_factor_242 : decode cL_factor 242 = .ok (.aload_n 0, 1) := by decide +kernel
theorem dL_factor_243 : decode cL_factor 243 = .ok (.iconst 3, 1) := by decide +kernel
theorem dL_factor_244 : decode cL_factor 244 = .ok (.invokevirtual 74, 3) := by decide +kernel
theorem dL_factor_247 : decode cL_factor 247 = .ok (.invokestatic 78, 3) := by decide +kernel
theorem dL_factor_250 : decode cL_factor 250 = .ok (.invokestatic 37, 3) := by decide +kernel
theorem dL_factor_253 : decode cL_factor 253 = .ok (.lreturn, 1) := by decide +kernel
theorem dL_isLoaded_0 : decode cL_isLoaded 0 = .ok (.aload 5, 2) := by decide +kernel
theorem dL_isLoaded_2 : decode cL_isLoaded 2 = .ok (.iconst 0, 1) := by decide +kernel
theorem dL_isLoaded_3 : decode cL_isLoaded 3 = .ok (.iconst 0, 1) := by decide +kernel
theorem dL_isLoaded_4 : decode cL_isLoaded 4 = .ok (.iastore, 1) := by decide +kernel
theorem dL_isLoaded_5 : decode cL_isLoaded 5 = .ok (.aload 5, 2) := by decide +kernel
theorem dL_isLoaded_7 : decode cL_isLoaded 7 = .ok (.iconst 1, 1) := by decide +kernel
theorem dL_isLoaded_8 : decode cL_isLoaded 8 = .ok (.bipush (-6), 2) := by decide +kernel
theorem dL_isLoaded_10 : decode cL_isLoaded 10 = .ok (.iastore, 1) := by decide +kernel
theorem dL_isLoaded_11 : decode cL_isLoaded 11 = .ok (.aload 5, 2) := by decide +kernel
theorem dL_isLoaded_13 : decode cL_isLoaded 13 = .ok (.iconst 2, 1) := by decide +kernel
theorem dL_isLoaded_14 : decode cL_isLoaded 14 = .ok (.iconst 0, 1) := by decide +kernel
theorem dL_isLoaded_15 : decode cL_isLoaded 15 = .ok (.iastore, 1) := by decide +kernel
theorem dL_isLoaded_16 : decode cL_isLoaded 16 = .ok (.aload 5, 2) := by decide +kernel
theorem dL_isLoaded_18 : decode cL_isLoaded 18 = .ok (.iconst 3, 1) := by decide +kernel
theorem dL_isLoaded_19 : decode cL_isLoaded 19 = .ok (.iconst 0, 1) := by decide +kernel
theorem dL_isLoaded_20 : decode cL_isLoaded 20 = .ok (.iastore, 1) := by decide +kernel
theorem dL_isLoaded_21 : decode cL_isLoaded 21 = .ok (.aload 5, 2) := by decide +kernel
theorem dL_isLoaded_23 : decode cL_isLoaded 23 = .ok (.iconst 4, 1) := by decide +kernel
theorem dL_isLoaded_24 : decode cL_isLoaded 24 = .ok (.iconst 0, 1) := by decide +kernel
theorem dL_isLoaded_25 : decode cL_isLoaded 25 = .ok (.iastore, 1) := by decide +kernel
theorem dL_isLoaded_26 : decode cL_isLoaded 26 = .ok (.aload_n 0, 1) := by decide +kernel
theorem dL_isLoaded_27 : decode cL_isLoaded 27 = .ok (.invokevirtual 82, 3) := by decide +kernel
theorem dL_isLoaded_30 : decode cL_isLoaded 30 = .ok (.pop, 1) := by decide +kernel
theorem dL_isLoaded_31 : decode cL_isLoaded 31 = .ok (.lconst 0, 1) := by decide +kernel
theorem dL_isLoaded_32 : decode cL_isLoaded 32 = .ok (.lstore 6, 2) := by decide +kernel
theorem dL_isLoaded_34 : decode cL_isLoaded 34 = .ok (.iconst 1, 1) := by decide +kernel
theorem dL_isLoaded_35 : decode cL_isLoaded 35 = .ok (.aload_n 2, 1) := by decide +kernel
theorem dL_isLoaded_36 : decode cL_isLoaded 36 = .ok (.iload_n 3, 1) := by decide +kernel
theorem dL_isLoaded_37 : decode cL_isLoaded 37 = .ok (.iconst 3, 1) := by decide +kernel
theorem dL_isLoaded_38 : decode cL_isLoaded 38 = .ok (.invokestatic 41, 3) := by decide +kernel
theorem dL_isLoaded_41 : decode cL_isLoaded 41 = .ok (.iadd, 1) := by decide +kernel
theorem dL_isLoaded_42 : decode cL_isLoaded 42 = .ok (.istore 8, 2) := by decide +kernel
theorem dL_isLoaded_44 : decode cL_isLoaded 44 = .ok (.iconst 0, 1) := by decide +kernel
theorem dL_isLoaded_45 : decode cL_isLoaded 45 = .ok (.istore 9, 2) := by decide +kernel
theorem dL_isLoaded_47 : decode cL_isLoaded 47 = .ok (.iload 9, 2) := by decide +kernel
theorem dL_isLoaded_49 : decode cL_isLoaded 49 = .ok (.iload 8, 2) := by decide +kernel
theorem dL_isLoaded_51 : decode cL_isLoaded 51 = .ok (.if_icmp .ge 163, 3) := by decide +kernel
theorem dL_isLoaded_54 : decode cL_isLoaded 54 = .ok (.aload_n 2, 1) := by decide +kernel
theorem dL_isLoaded_55 : decode cL_isLoaded 55 = .ok (.iload_n 3, 1) := by decide +kernel
theorem dL_isLoaded_56 : decode cL_isLoaded 56 = .ok (.iconst 1, 1) := by decide +kernel
theorem dL_isLoaded_57 : decode cL_isLoaded 57 = .ok (.iadd, 1) := by decide +kernel
theorem dL_isLoaded_58 : decode cL_isLoaded 58 = .ok (.iload 9, 2) := by decide +kernel
theorem dL_isLoaded_60 : decode cL_isLoaded 60 = .ok (.iadd, 1) := by decide +kernel
theorem dL_isLoaded_61 : decode cL_isLoaded 61 = .ok (.iconst 2, 1) := by decide +kernel
theorem dL_isLoaded_62 : decode cL_isLoaded 62 = .ok (.invokestatic 41, 3) := by decide +kernel
theorem dL_isLoaded_65 : decode cL_isLoaded 65 = .ok (.ifCond .ne 8, 3) := by decide +kernel
theorem dL_isLoaded_68 : decode cL_isLoaded 68 = .ok (.bipush 43, 2) := by decide +kernel
theorem dL_isLoaded_70 : decode cL_isLoaded 70 = .ok (.goto 5, 3) := by decide +kernel
theorem dL_isLoaded_73 : decode cL_isLoaded 73 = .ok (.bipush 45, 2) := by decide +kernel
theorem dL_isLoaded_75 : decode cL_isLoaded 75 = .ok (.istore 10, 2) := by decide +kernel
theorem dL_isLoaded_77 : decode cL_isLoaded 77 = .ok (.iload 9, 2) := by decide +kernel
theorem dL_isLoaded_79 : decode cL_isLoaded 79 = .ok (.ifCond .le 11, 3) := by decide +kernel
theorem dL_isLoaded_82 : decode cL_isLoaded 82 = .ok (.aload_n 0, 1) := by decide +kernel
theorem dL_isLoaded_83 : decode cL_isLoaded 83 = .ok (.iload 10, 2) := by decide +kernel
theorem dL_isLoaded_85 : decode cL_isLoaded 85 = .ok (.i2l, 1) := by decide +kernel
theorem dL_isLoaded_86 : decode cL_isLoaded 86 = .ok (.invokevirtual 31, 3) := by decide +kernel
theorem dL_isLoaded_89 : decode cL_isLoaded 89 = .ok (.pop, 1) := by decide +kernel
theorem dL_isLoaded_90 : decode cL_isLoaded 90 = .ok (.aload_n 0, 1) := by decide +kernel
theorem dL_isLoaded_91 : decode cL_isLoaded 91 = .ok (.aload 4, 2) := by decide +kernel
theorem dL_isLoaded_93 : decode cL_isLoaded 93 = .ok (.aload 5, 2) := by decide +kernel
theorem dL_isLoaded_95 : decode cL_isLoaded 95 = .ok (.aload_n 2, 1) := by decide +kernel
theorem dL_isLoaded_96 : decode cL_isLoaded 96 = .ok (.iload_n 3, 1) := by decide +kernel
theorem dL_isLoaded_97 : decode cL_isLoaded 97 = .ok (.iconst 5, 1) := by decide +kernel
theorem dL_isLoaded_98 : decode cL_isLoaded 98 = .ok (.iadd, 1) := by decide +kernel
theorem dL_isLoaded_99 : decode cL_isLoaded 99 = .ok (.bipush 16, 2) := by decide +kernel
theorem dL_isLoaded_101 : decode cL_isLoaded 101 = .ok (.iload 9, 2) := by decide +kernel
theorem dL_isLoaded_103 : decode cL_isLoaded 103 = .ok (.imul, 1) := by decide +kernel
theorem dL_isLoaded_104 : decode cL_isLoaded 104 = .ok (.iadd, 1) := by decide +kernel
theorem dL_isLoaded_105 : decode cL_isLoaded 105 = .ok (.iload 9, 2) := by decide +kernel
theorem dL_isLoaded_107 : decode cL_isLoaded 107 = .ok (.ifCond .ne 9, 3) := by decide +kernel
theorem dL_isLoaded_110 : decode cL_isLoaded 110 = .ok (.sipush 10000, 3) := by decide +kernel
theorem dL_isLoaded_113 : decode cL_isLoaded 113 = .ok (.goto 5, 3) := by decide +kernel
theorem dL_isLoaded_116 : decode cL_isLoaded 116 = .ok (.bipush 100, 2) := by decide +kernel
theorem dL_isLoaded_118 : decode cL_isLoaded 118 = .ok (.invokestatic 86, 3) := by decide +kernel
theorem dL_isLoaded_121 : decode cL_isLoaded 121 = .ok (.lstore 11, 2) := by decide +kernel
theorem dL_isLoaded_123 : decode cL_isLoaded 123 = .ok (.aload_n 2, 1) := by decide +kernel
theorem dL_isLoaded_124 : decode cL_isLoaded 124 = .ok (.iload_n 3, 1) := by decide +kernel
theorem dL_isLoaded_125 : decode cL_isLoaded 125 = .ok (.iconst 1, 1) := by decide +kernel
theorem dL_isLoaded_126 : decode cL_isLoaded 126 = .ok (.iadd, 1) := by decide +kernel
theorem dL_isLoaded_127 : decode cL_isLoaded 127 = .ok (.iload 9, 2) := by decide +kernel
theorem dL_isLoaded_129 : decode cL_isLoaded 129 = .ok (.iadd, 1) := by decide +kernel
theorem dL_isLoaded_130 : decode cL_isLoaded 130 = .ok (.iconst 3, 1) := by decide +kernel
theorem dL_isLoaded_131 : decode cL_isLoaded 131 = .ok (.invokestatic 41, 3) := by decide +kernel
theorem dL_isLoaded_134 : decode cL_isLoaded 134 = .ok (.ifCond .ne 49, 3) := by decide +kernel
theorem dL_isLoaded_137 : decode cL_isLoaded 137 = .ok (.aload_n 0, 1) := by decide +kernel
theorem dL_isLoaded_138 : decode cL_isLoaded 138 = .ok (.ldc2_w 89, 3) := by decide +kernel
theorem dL_isLoaded_141 : decode cL_isLoaded 141 = .ok (.invokevirtual 31, 3) := by decide +kernel
theorem dL_isLoaded_144 : decode cL_isLoaded 144 = .ok (.pop, 1) := by decide +kernel
theorem dL_isLoaded_145 : decode cL_isLoaded 145 = .ok (.aload_n 0, 1) := by decide +kernel
theorem dL_isLoaded_146 : decode cL_isLoaded 146 = .ok (.aload 4, 2) := by decide +kernel
theorem dL_isLoaded_148 : decode cL_isLoaded 148 = .ok (.aload 5, 2) := by decide +kernel
theorem dL_isLoaded_150 : decode cL_isLoaded 150 = .ok (.aload_n 2, 1) := by decide +kernel
theorem dL_isLoaded_151 : decode cL_isLoaded 151 = .ok (.iload_n 3, 1) := by decide +kernel
theorem dL_isLoaded_152 : decode cL_isLoaded 152 = .ok (.bipush 12, 2) := by decide +kernel
theorem dL_isLoaded_154 : decode cL_isLoaded 154 = .ok (.iadd, 1) := by decide +kernel
theorem dL_isLoaded_155 : decode cL_isLoaded 155 = .ok (.bipush 16, 2) := by decide +kernel
theorem dL_isLoaded_157 : decode cL_isLoaded 157 = .ok (.iload 9, 2) := by decide +kernel
theorem dL_isLoaded_159 : decode cL_isLoaded 159 = .ok (.imul, 1) := by decide +kernel
theorem dL_isLoaded_160 : decode cL_isLoaded 160 = .ok (.iadd, 1) := by decide +kernel
theorem dL_isLoaded_161 : decode cL_isLoaded 161 = .ok (.bipush 100, 2) := by decide +kernel
theorem dL_isLoaded_163 : decode cL_isLoaded 163 = .ok (.invokestatic 86, 3) := by decide +kernel
theorem dL_isLoaded_166 : decode cL_isLoaded 166 = .ok (.lstore 13, 2) := by decide +kernel
theorem dL_isLoaded_168 : decode cL_isLoaded 168 = .ok (.aload 4, 2) := by decide +kernel
theorem dL_isLoaded_170 : decode cL_isLoaded 170 = .ok (.aload 5, 2) := by decide +kernel
theorem dL_isLoaded_172 : decode cL_isLoaded 172 = .ok (.bipush 42, 2) := by decide +kernel
theorem dL_isLoaded_174 : decode cL_isLoaded 174 = .ok (.lload 11, 2) := by decide +kernel
theorem dL_isLoaded_176 : decode cL_isLoaded 176 = .ok (.lload 13, 2) := by decide +kernel
theorem dL_isLoaded_178 : decode cL_isLoaded 178 = .ok (.invokestatic 68, 3) := by decide +kernel
theorem dL_isLoaded_181 : decode cL_isLoaded 181 = .ok (.lstore 11, 2) := by decide +kernel
theorem dL_isLoaded_183 : decode cL_isLoaded 183 = .ok (.iload 9, 2) := by decide +kernel
theorem dL_isLoaded_185 : decode cL_isLoaded 185 = .ok (.ifCond .ne 8, 3) := by decide +kernel
theorem dL_isLoaded_188 : decode cL_isLoaded 188 = .ok (.lload 11, 2) := by decide +kernel
theorem dL_isLoaded_190 : decode cL_isLoaded 190 = .ok (.goto 16, 3) := by decide +kernel
theorem dL_isLoaded_193 : decode cL_isLoaded 193 = .ok (.aload 4, 2) := by decide +kernel
theorem dL_isLoaded_195 : decode cL_isLoaded 195 = .ok (.aload 5, 2) := by decide +kernel
theorem dL_isLoaded_197 : decode cL_isLoaded 197 = .ok (.iload 10, 2) := by decide +kernel
theorem dL_isLoaded_199 : decode cL_isLoaded 199 = .ok (.lload 6, 2) := by decide +kernel
theorem dL_isLoaded_201 : decode cL_isLoaded 201 = .ok (.lload 11, 2) := by decide +kernel
theorem dL_isLoaded_203 : decode cL_isLoaded 203 = .ok (.invokestatic 68, 3) := by decide +kernel
theorem dL_isLoaded_206 : decode cL_isLoaded 206 = .ok (.lstore 6, 2) := by decide +kernel
theorem dL_isLoaded_208 : decode cL_isLoaded 208 = .ok (.iinc 9 1, 3) := by decide +kernel
theorem dL_isLoaded_211 : decode cL_isLoaded 211 = .ok (.goto (-164), 3) := by decide +kernel
theorem dL_isLoaded_214 : decode cL_isLoaded 214 = .ok (.aload_n 0, 1) := by decide +kernel
theorem dL_isLoaded_215 : decode cL_isLoaded 215 = .ok (.iconst 0, 1) := by decide +kernel
theorem dL_isLoaded_216 : decode cL_isLoaded 216 = .ok (.invokevirtual 74, 3) := by decide +kernel
theorem dL_isLoaded_219 : decode cL_isLoaded 219 = .ok (.istore 9, 2) := by decide +kernel
theorem dL_isLoaded_221 : decode cL_isLoaded 221 = .ok (.aload_n 0, 1) := by decide +kernel
theorem dL_isLoaded_222 : decode cL_isLoaded 222 = .ok (.invokevirtual 91, 3) := by decide +kernel
theorem dL_isLoaded_225 : decode cL_isLoaded 225 = .ok (.bipush (-6), 2) := by decide +kernel
theorem dL_isLoaded_227 : decode cL_isLoaded 227 = .ok (.if_icmp .ne 41, 3) := by decide +kernel
theorem dL_isLoaded_230 : decode cL_isLoaded 230 = .ok (.aload_n 0, 1) := by decide +kernel
theorem dL_isLoaded_231 : decode cL_isLoaded 231 = .ok (.iload_n 1, 1) := by decide +kernel
theorem dL_isLoaded_232 : decode cL_isLoaded 232 = .ok (.invokevirtual 94, 3) := by decide +kernel
theorem dL_isLoaded_235 : decode cL_isLoaded 235 = .ok (.aload 5, 2) := by decide +kernel
theorem dL_isLoaded_237 : decode cL_isLoaded 237 = .ok (.iconst 0, 1) := by decide +kernel
theorem dL_isLoaded_238 : decode cL_isLoaded 238 = .ok (.iaload, 1) := by decide +kernel
theorem dL_isLoaded_239 : decode cL_isLoaded 239 = .ok (.if_icmp .ne 29, 3) := by decide +kernel
theorem dL_isLoaded_242 : decode cL_isLoaded 242 = .ok (.aload_n 0, 1) := by decide +kernel
theorem dL_isLoaded_243 : decode cL_isLoaded 243 = .ok (.iconst 1, 1) := by decide +kernel
theorem dL_isLoaded_244 : decode cL_isLoaded 244 = .ok (.invokevirtual 74, 3) := by decide +kernel
theorem dL_isLoaded_247 : decode cL_isLoaded 247 = .ok (.ifCond .ne 21, 3) := by decide +kernel
theorem dL_isLoaded_250 : decode cL_isLoaded 250 = .ok (.aload_n 0, 1) := by decide +kernel
theorem dL_isLoaded_251 : decode cL_isLoaded 251 = .ok (.iconst 0, 1) := by decide +kernel
theorem dL_isLoaded_252 : decode cL_isLoaded 252 = .ok (.invokevirtual 74, 3) := by decide +kernel
theorem dL_isLoaded_255 : decode cL_isLoaded 255 = .ok (.iload 9, 2) := by decide +kernel
theorem dL_isLoaded_257 : decode cL_isLoaded 257 = .ok (.iconst 1, 1) := by decide +kernel
theorem dL_isLoaded_258 : decode cL_isLoaded 258 = .ok (.iload_n 1, 1) := by decide +kernel
theorem dL_isLoaded_259 : decode cL_isLoaded 259 = .ok (.ishl, 1) := by decide +kernel
theorem dL_isLoaded_260 : decode cL_isLoaded 260 = .ok (.ior, 1) := by decide +kernel
theorem dL_isLoaded_261 : decode cL_isLoaded 261 = .ok (.if_icmp .ne 7, 3) := by decide +kernel
theorem dL_isLoaded_264 : decode cL_isLoaded 264 = .ok (.iconst 1, 1) := by decide +kernel
theorem dL_isLoaded_265 : decode cL_isLoaded 265 = .ok (.goto 4, 3) := by decide +kernel
theorem dL_isLoaded_268 : decode cL_isLoaded 268 = .ok (.iconst 0, 1) := by decide +kernel
theorem dL_isLoaded_269 : decode cL_isLoaded 269 = .ok (.ireturn, 1) := by decide +kernel
theorem dL_isFormula_0 : decode cL_isFormula 0 = .ok (.aload_n 3, 1) := by decide +kernel
theorem dL_isFormula_1 : decode cL_isFormula 1 = .ok (.iconst 1, 1) := by decide +kernel
theorem dL_isFormula_2 : decode cL_isFormula 2 = .ok (.iaload, 1) := by decide +kernel
theorem dL_isFormula_3 : decode cL_isFormula 3 = .ok (.ifCond .ge 9, 3) := by decide +kernel
theorem dL_isFormula_6 : decode cL_isFormula 6 = .ok (.aload_n 3, 1) := by decide +kernel
theorem dL_isFormula_7 : decode cL_isFormula 7 = .ok (.iconst 0, 1) := by decide +kernel
theorem dL_isFormula_8 : decode cL_isFormula 8 = .ok (.iaload, 1) := by decide +kernel
theorem dL_isFormula_9 : decode cL_isFormula 9 = .ok (.goto 6, 3) := by decide +kernel
theorem dL_isFormula_12 : decode cL_isFormula 12 = .ok (.aload_n 3, 1) := by decide +kernel
theorem dL_isFormula_13 : decode cL_isFormula 13 = .ok (.iconst 1, 1) := by decide +kernel
theorem dL_isFormula_14 : decode cL_isFormula 14 = .ok (.iaload, 1) := by decide +kernel
theorem dL_isFormula_15 : decode cL_isFormula 15 = .ok (.istore 4, 2) := by decide +kernel
theorem dL_isFormula_17 : decode cL_isFormula 17 = .ok (.iconst 0, 1) := by decide +kernel
theorem dL_isFormula_18 : decode cL_isFormula 18 = .ok (.istore 5, 2) := by decide +kernel
theorem dL_isFormula_20 : decode cL_isFormula 20 = .ok (.iload 5, 2) := by decide +kernel
theorem dL_isFormula_22 : decode cL_isFormula 22 = .ok (.aload_n 3, 1) := by decide +kernel
theorem dL_isFormula_23 : decode cL_isFormula 23 = .ok (.iconst 0, 1) := by decide +kernel
theorem dL_isFormula_24 : decode cL_isFormula 24 = .ok (.iaload, 1) := by decide +kernel
theorem dL_isFormula_25 : decode cL_isFormula 25 = .ok (.if_icmp .ge 39, 3) := by decide +kernel
theorem dL_isFormula_28 : decode cL_isFormula 28 = .ok (.aload_n 0, 1) := by decide +kernel
theorem dL_isFormula_29 : decode cL_isFormula 29 = .ok (.iload_n 1, 1) := by decide +kernel
theorem dL_isFormula_30 : decode cL_isFormula 30 = .ok (.iload 5, 2) := by decide +kernel
theorem dL_isFormula_32 : decode cL_isFormula 32 = .ok (.invokevirtual 97, 3) := by decide +kernel
theorem dL_isFormula_35 : decode cL_isFormula 35 = .ok (.iload 5, 2) := by decide +kernel
theorem dL_isFormula_37 : decode cL_isFormula 37 = .ok (.iload 4, 2) := by decide +kernel
theorem dL_isFormula_39 : decode cL_isFormula 39 = .ok (.if_icmp .ge 10, 3) := by decide +kernel
theorem dL_isFormula_42 : decode cL_isFormula 42 = .ok (.aload_n 2, 1) := by decide +kernel
theorem dL_isFormula_43 : decode cL_isFormula 43 = .ok (.iload 5, 2) := by decide +kernel
theorem dL_isFormula_45 : decode cL_isFormula 45 = .ok (.laload, 1) := by decide +kernel
theorem dL_isFormula_46 : decode cL_isFormula 46 = .ok (.goto 6, 3) := by decide +kernel
theorem dL_isFormula_49 : decode cL_isFormula 49 = .ok (.ldc2_w 101, 3) := by decide +kernel
theorem dL_isFormula_52 : decode cL_isFormula 52 = .ok (.lcmp, 1) := by decide +kernel
theorem dL_isFormula_53 : decode cL_isFormula 53 = .ok (.ifCond .eq 5, 3) := by decide +kernel
theorem dL_isFormula_56 : decode cL_isFormula 56 = .ok (.iconst 0, 1) := by decide +kernel
theorem dL_isFormula_57 : decode cL_isFormula 57 = .ok (.ireturn, 1) := by decide +kernel
theorem dL_isFormula_58 : decode cL_isFormula 58 = .ok (.iinc 5 1, 3) := by decide +kernel
theorem dL_isFormula_61 : decode cL_isFormula 61 = .ok (.goto (-41), 3) := by decide +kernel
theorem dL_isFormula_64 : decode cL_isFormula 64 = .ok (.aload_n 0, 1) := by decide +kernel
theorem dL_isFormula_65 : decode cL_isFormula 65 = .ok (.iload_n 1, 1) := by decide +kernel
