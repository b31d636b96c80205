theorem dX5_init_0 : decode cX5_init 0 = .ok (.aload_n 0, 1) := by decide +kernel
theorem dX5_init_1 : decode cX5_init 1 = .ok (.invokespecial 1, 3) := by decide +kernel
theorem dX5_init_4 : decode cX5_init 4 = .ok (.aload_n 0, 1) := by decide +kernel
theorem dX5_init_5 : decode cX5_init 5 = .ok (.new 7, 3) := by decide +kernel
theorem dX5_init_8 : decode cX5_init 8 = .ok (.dup, 1) := by decide +kernel
theorem dX5_init_9 : decode cX5_init 9 = .ok (.invokespecial 9, 3) := by decide +kernel
theorem dX5_init_12 : decode cX5_init 12 = .ok (.putfield 10, 3) := by decide +kernel
theorem dX5_init_15 : decode cX5_init 15 = .ok (.aload_n 0, 1) := by decide +kernel
theorem dX5_init_16 : decode cX5_init 16 = .ok (.bipush 6, 2) := by decide +kernel
theorem dX5_init_18 : decode cX5_init 18 = .ok (.anewarray 7, 3) := by decide +kernel
theorem dX5_init_21 : decode cX5_init 21 = .ok (.putfield 16, 3) := by decide +kernel
theorem dX5_init_24 : decode cX5_init 24 = .ok (.aload_n 0, 1) := by decide +kernel
theorem dX5_init_25 : decode cX5_init 25 = .ok (.iconst 2, 1) := by decide +kernel
theorem dX5_init_26 : decode cX5_init 26 = .ok (.anewarray 7, 3) := by decide +kernel
theorem dX5_init_29 : decode cX5_init 29 = .ok (.putfield 20, 3) := by decide +kernel
theorem dX5_init_32 : decode cX5_init 32 = .ok (.aload_n 0, 1) := by decide +kernel
theorem dX5_init_33 : decode cX5_init 33 = .ok (.bipush 60, 2) := by decide +kernel
theorem dX5_init_35 : decode cX5_init 35 = .ok (.newarray .char, 2) := by decide +kernel
theorem dX5_init_37 : decode cX5_init 37 = .ok (.putfield 23, 3) := by decide +kernel
theorem dX5_init_40 : decode cX5_init 40 = .ok (.aload_n 0, 1) := by decide +kernel
theorem dX5_init_41 : decode cX5_init 41 = .ok (.new 27, 3) := by decide +kernel
theorem dX5_init_44 : decode cX5_init 44 = .ok (.dup, 1) := by decide +kernel
theorem dX5_init_45 : decode cX5_init 45 = .ok (.invokespecial 29, 3) := by decide +kernel
theorem dX5_init_48 : decode cX5_init 48 = .ok (.putfield 30, 3) := by decide +kernel
theorem dX5_init_51 : decode cX5_init 51 = .ok (.aload_n 0, 1) := by decide +kernel
theorem dX5_init_52 : decode cX5_init 52 = .ok (.new 34, 3) := by decide +kernel
theorem dX5_init_55 : decode cX5_init 55 = .ok (.dup, 1) := by decide +kernel
theorem dX5_init_56 : decode cX5_init 56 = .ok (.invokespecial 36, 3) := by decide +kernel
theorem dX5_init_59 : decode cX5_init 59 = .ok (.putfield 37, 3) := by decide +kernel
theorem dX5_init_62 : decode cX5_init 62 = .ok (.aload_n 0, 1) := by decide +kernel
theorem dX5_init_63 : decode cX5_init 63 = .ok (.new 41, 3) := by decide +kernel
theorem dX5_init_66 : decode cX5_init 66 = .ok (.dup, 1) := by decide +kernel
theorem dX5_init_67 : decode cX5_init 67 = .ok (.invokespecial 43, 3) := by decide +kernel
theorem dX5_init_70 : decode cX5_init 70 = .ok (.putfield 44, 3) := by decide +kernel
theorem dX5_init_73 : decode cX5_init 73 = .ok (.iconst 0, 1) := by decide +kernel
theorem dX5_init_74 : decode cX5_init 74 = .ok (.istore_n 1, 1) := by decide +kernel
theorem dX5_init_75 : decode cX5_init 75 = .ok (.iload_n 1, 1) := by decide +kernel
theorem dX5_init_76 : decode cX5_init 76 = .ok (.aload_n 0, 1) := by decide +kernel
theorem dX5_init_77 : decode cX5_init 77 = .ok (.getfield 16, 3) := by decide +kernel
theorem dX5_init_80 : decode cX5_init 80 = .ok (.arraylength, 1) := by decide +kernel
theorem dX5_init_81 : decode cX5_init 81 = .ok (.if_icmp .ge 22, 3) := by decide +kernel
theorem dX5_init_84 : decode cX5_init 84 = .ok (.aload_n 0, 1) := by decide +kernel
theorem dX5_init_85 : decode cX5_init 85 = .ok (.getfield 16, 3) := by decide +kernel
theorem dX5_init_88 : decode cX5_init 88 = .ok (.iload_n 1, 1) := by decide +kernel
theorem dX5_init_89 : decode cX5_init 89 = .ok (.new 7, 3) := by decide +kernel
theorem dX5_init_92 : decode cX5_init 92 = .ok (.dup, 1) := by decide +kernel
theorem dX5_init_93 : decode cX5_init 93 = .ok (.invokespecial 9, 3) := by decide +kernel
theorem dX5_init_96 : decode cX5_init 96 = .ok (.aastore, 1) := by decide +kernel
theorem dX5_init_97 : decode cX5_init 97 = .ok (.iinc 1 1, 3) := by decide +kernel
theorem dX5_init_100 : decode cX5_init 100 = .ok (.goto (-25), 3) := by decide +kernel
theorem dX5_init_103 : decode cX5_init 103 = .ok (.return_, 1) := by decide +kernel
theorem dX5_set_0 : decode cX5_set 0 = .ok (.iload_n 1, 1) := by decide +kernel
theorem dX5_set_1 : decode cX5_set 1 = .ok (.i2l, 1) := by decide +kernel
theorem dX5_set_2 : decode cX5_set 2 = .ok (.lconst 0, 1) := by decide +kernel
theorem dX5_set_3 : decode cX5_set 3 = .ok (.lconst 1, 1) := by decide +kernel
theorem dX5_set_4 : decode cX5_set 4 = .ok (.invokestatic 48, 3) := by decide +kernel
theorem dX5_set_7 : decode cX5_set 7 = .ok (.ifCond .eq 25, 3) := by decide +kernel
theorem dX5_set_10 : decode cX5_set 10 = .ok (.iload_n 2, 1) := by decide +kernel
theorem dX5_set_11 : decode cX5_set 11 = .ok (.i2l, 1) := by decide +kernel
theorem dX5_set_12 : decode cX5_set 12 = .ok (.lconst 0, 1) := by decide +kernel
theorem dX5_set_13 : decode cX5_set 13 = .ok (.iload_n 1, 1) := by decide +kernel
theorem dX5_set_14 : decode cX5_set 14 = .ok (.ifCond .ne 9, 3) := by decide +kernel
theorem dX5_set_17 : decode cX5_set 17 = .ok (.ldc2_w 52, 3) := by decide +kernel
theorem dX5_set_20 : decode cX5_set 20 = .ok (.goto 6, 3) := by decide +kernel
theorem dX5_set_23 : decode cX5_set 23 = .ok (.ldc2_w 54, 3) := by decide +kernel
theorem dX5_set_26 : decode cX5_set 26 = .ok (.invokestatic 48, 3) := by decide +kernel
theorem dX5_set_29 : decode cX5_set 29 = .ok (.ifCond .ne 6, 3) := by decide +kernel
theorem dX5_set_32 : decode cX5_set 32 = .ok (.bipush (-2), 2) := by decide +kernel
theorem dX5_set_34 : decode cX5_set 34 = .ok (.ireturn, 1) := by decide +kernel
theorem dX5_set_35 : decode cX5_set 35 = .ok (.aload_n 0, 1) := by decide +kernel
theorem dX5_set_36 : decode cX5_set 36 = .ok (.invokevirtual 56, 3) := by decide +kernel
theorem dX5_set_39 : decode cX5_set 39 = .ok (.aload_n 0, 1) := by decide +kernel
theorem dX5_set_40 : decode cX5_set 40 = .ok (.getfield 10, 3) := by decide +kernel
theorem dX5_set_43 : decode cX5_set 43 = .ok (.iload_n 1, 1) := by decide +kernel
theorem dX5_set_44 : decode cX5_set 44 = .ok (.invokevirtual 59, 3) := by decide +kernel
theorem dX5_set_47 : decode cX5_set 47 = .ok (.istore_n 3, 1) := by decide +kernel
theorem dX5_set_48 : decode cX5_set 48 = .ok (.aload_n 0, 1) := by decide +kernel
theorem dX5_set_49 : decode cX5_set 49 = .ok (.getfield 10, 3) := by decide +kernel
theorem dX5_set_52 : decode cX5_set 52 = .ok (.iload_n 1, 1) := by decide +kernel
theorem dX5_set_53 : decode cX5_set 53 = .ok (.iload_n 2, 1) := by decide +kernel
theorem dX5_set_54 : decode cX5_set 54 = .ok (.invokevirtual 63, 3) := by decide +kernel
theorem dX5_set_57 : decode cX5_set 57 = .ok (.iload_n 3, 1) := by decide +kernel
theorem dX5_set_58 : decode cX5_set 58 = .ok (.ireturn, 1) := by decide +kernel
theorem dX5_setCell_0 : decode cX5_setCell 0 = .ok (.iload_n 1, 1) := by decide +kernel
theorem dX5_setCell_1 : decode cX5_setCell 1 = .ok (.i2l, 1) := by decide +kernel
theorem dX5_setCell_2 : decode cX5_setCell 2 = .ok (.lconst 0, 1) := by decide +kernel
theorem dX5_setCell_3 : decode cX5_setCell 3 = .ok (.ldc2_w 67, 3) := by decide +kernel
theorem dX5_setCell_6 : decode cX5_setCell 6 = .ok (.invokestatic 48, 3) := by decide +kernel
theorem dX5_setCell_9 : decode cX5_setCell 9 = .ok (.ifCond .ne 7, 3) := by decide +kernel
theorem dX5_setCell_12 : decode cX5_setCell 12 = .ok (.ldc2_w 69, 3) := by decide +kernel
theorem dX5_setCell_15 : decode cX5_setCell 15 = .ok (.lreturn, 1) := by decide +kernel
theorem dX5_setCell_16 : decode cX5_setCell 16 = .ok (.lload_n 2, 1) := by decide +kernel
theorem dX5_setCell_17 : decode cX5_setCell 17 = .ok (.lconst 0, 1) := by decide +kernel
theorem dX5_setCell_18 : decode cX5_setCell 18 = .ok (.ldc2_w 71, 3) := by decide +kernel
theorem dX5_setCell_21 : decode cX5_setCell 21 = .ok (.invokestatic 48, 3) := by decide +kernel
theorem dX5_setCell_24 : decode cX5_setCell 24 = .ok (.ifCond .ne 7, 3) := by decide +kernel
theorem dX5_setCell_27 : decode cX5_setCell 27 = .ok (.ldc2_w 73, 3) := by decide +kernel
theorem dX5_setCell_30 : decode cX5_setCell 30 = .ok (.lreturn, 1) := by decide +kernel
theorem dX5_setCell_31 : decode cX5_setCell 31 = .ok (.aload_n 0, 1) := by decide +kernel
theorem dX5_setCell_32 : decode cX5_setCell 32 = .ok (.invokevirtual 56, 3) := by decide +kernel
theorem dX5_setCell_35 : decode cX5_setCell 35 = .ok (.aload_n 0, 1) := by decide +kernel
theorem dX5_setCell_36 : decode cX5_setCell 36 = .ok (.getfield 10, 3) := by decide +kernel
theorem dX5_setCell_39 : decode cX5_setCell 39 = .ok (.iload_n 1, 1) := by decide +kernel
theorem dX5_setCell_40 : decode cX5_setCell 40 = .ok (.invokevirtual 75, 3) := by decide +kernel
theorem dX5_setCell_43 : decode cX5_setCell 43 = .ok (.lstore 4, 2) := by decide +kernel
theorem dX5_setCell_45 : decode cX5_setCell 45 = .ok (.aload_n 0, 1) := by decide +kernel
theorem dX5_setCell_46 : decode cX5_setCell 46 = .ok (.getfield 10, 3) := by decide +kernel
theorem dX5_setCell_49 : decode cX5_setCell 49 = .ok (.iload_n 1, 1) := by decide +kernel
theorem dX5_setCell_50 : decode cX5_setCell 50 = .ok (.lload_n 2, 1) := by decide +kernel
theorem dX5_setCell_51 : decode cX5_setCell 51 = .ok (.invokevirtual 79, 3) := by decide +kernel
theorem dX5_setCell_54 : decode cX5_setCell 54 = .ok (.lload 4, 2) := by decide +kernel
theorem dX5_setCell_56 : decode cX5_setCell 56 = .ok (.lreturn, 1) := by decide +kernel
theorem dX5_cell_0 : decode cX5_cell 0 = .ok (.iload_n 1, 1) := by decide +kernel
theorem dX5_cell_1 : decode cX5_cell 1 = .ok (.i2l, 1) := by decide +kernel
theorem dX5_cell_2 : decode cX5_cell 2 = .ok (.lconst 0, 1) := by decide +kernel
theorem dX5_cell_3 : decode cX5_cell 3 = .ok (.ldc2_w 67, 3) := by decide +kernel
theorem dX5_cell_6 : decode cX5_cell 6 = .ok (.invokestatic 48, 3) := by decide +kernel
theorem dX5_cell_9 : decode cX5_cell 9 = .ok (.ifCond .eq 14, 3) := by decide +kernel
theorem dX5_cell_12 : decode cX5_cell 12 = .ok (.aload_n 0, 1) := by decide +kernel
theorem dX5_cell_13 : decode cX5_cell 13 = .ok (.getfield 10, 3) := by decide +kernel
theorem dX5_cell_16 : decode cX5_cell 16 = .ok (.iload_n 1, 1) := by decide +kernel
theorem dX5_cell_17 : decode cX5_cell 17 = .ok (.invokevirtual 75, 3) := by decide +kernel
theorem dX5_cell_20 : decode cX5_cell 20 = .ok (.goto 6, 3) := by decide +kernel
theorem dX5_cell_23 : decode cX5_cell 23 = .ok (.ldc2_w 69, 3) := by decide +kernel
theorem dX5_cell_26 : decode cX5_cell 26 = .ok (.lreturn, 1) := by decide +kernel
theorem dX5_put_0 : decode cX5_put 0 = .ok (.lload_n 1, 1) := by decide +kernel
theorem dX5_put_1 : decode cX5_put 1 = .ok (.invokestatic 83, 3) := by decide +kernel
theorem dX5_put_4 : decode cX5_put 4 = .ok (.istore_n 3, 1) := by decide +kernel
theorem dX5_put_5 : decode cX5_put 5 = .ok (.iload_n 3, 1) := by decide +kernel
theorem dX5_put_6 : decode cX5_put 6 = .ok (.ifCond .ne 6, 3) := by decide +kernel
theorem dX5_put_9 : decode cX5_put 9 = .ok (.bipush (-2), 2) := by decide +kernel
theorem dX5_put_11 : decode cX5_put 11 = .ok (.ireturn, 1) := by decide +kernel
theorem dX5_put_12 : decode cX5_put 12 = .ok (.aload_n 0, 1) := by decide +kernel
theorem dX5_put_13 : decode cX5_put 13 = .ok (.getfield 87, 3) := by decide +kernel
theorem dX5_put_16 : decode cX5_put 16 = .ok (.iload_n 3, 1) := by decide +kernel
theorem dX5_put_17 : decode cX5_put 17 = .ok (.iadd, 1) := by decide +kernel
theorem dX5_put_18 : decode cX5_put 18 = .ok (.bipush 60, 2) := by decide +kernel
theorem dX5_put_20 : decode cX5_put 20 = .ok (.if_icmp .le 6, 3) := by decide +kernel
theorem dX5_put_23 : decode cX5_put 23 = .ok (.bipush (-4), 2) := by decide +kernel
theorem dX5_put_25 : decode cX5_put 25 = .ok (.ireturn, 1) := by decide +kernel
theorem dX5_put_26 : decode cX5_put 26 = .ok (.iload_n 3, 1) := by decide +kernel
theorem dX5_put_27 : decode cX5_put 27 = .ok (.iconst 1, 1) := by decide +kernel
theorem dX5_put_28 : decode cX5_put 28 = .ok (.isub, 1) := by decide +kernel
theorem dX5_put_29 : decode cX5_put 29 = .ok (.istore 4, 2) := by decide +kernel
theorem dX5_put_31 : decode cX5_put 31 = .ok (.iload 4, 2) := by decide +kernel
theorem dX5_put_33 : decode cX5_put 33 = .ok (.ifCond .lt 26, 3) := by decide +kernel
theorem dX5_put_36 : decode cX5_put 36 = .ok (.aload_n 0, 1) := by decide +kernel
theorem dX5_put_37 : decode cX5_put 37 = .ok (.lload_n 1, 1) := by decide +kernel
theorem dX5_put_38 : decode cX5_put 38 = .ok (.bipush 8, 2) := by decide +kernel
theorem dX5_put_40 : decode cX5_put 40 = .ok (.iload 4, 2) := by decide +kernel
theorem dX5_put_42 : decode cX5_put 42 = .ok (.imul, 1) := by decide +kernel
theorem dX5_put_43 : decode cX5_put 43 = .ok (.lushr, 1) := by decide +kernel
theorem dX5_put_44 : decode cX5_put 44 = .ok (.ldc2_w 91, 3) := by decide +kernel
theorem dX5_put_47 : decode cX5_put 47 = .ok (.land, 1) := by decide +kernel
theorem dX5_put_48 : decode cX5_put 48 = .ok (.l2i, 1) := by decide +kernel
theorem dX5_put_49 : decode cX5_put 49 = .ok (.i2c, 1) := by decide +kernel
theorem dX5_put_50 : decode cX5_put 50 = .ok (.invokevirtual 93, 3) := by decide +kernel
theorem dX5_put_53 : decode cX5_put 53 = .ok (.iinc 4 (-1), 3) := by decide +kernel
theorem dX5_put_56 : decode cX5_put 56 = .ok (.goto (-25), 3) := by decide +kernel
theorem dX5_put_59 : decode cX5_put 59 = .ok (.aload_n 0, 1) := by decide +kernel
theorem dX5_put_60 : decode cX5_put 60 = .ok (.getfield 87, 3) := by decide +kernel
theorem dX5_put_63 : decode cX5_put 63 = .ok (.ireturn, 1) := by decide +kernel
theorem dX5_wipe_0 : decode cX5_wipe 0 = .ok (.aload_n 0, 1) := by decide +kernel
theorem dX5_wipe_1 : decode cX5_wipe 1 = .ok (.getfield 87, 3) := by decide +kernel
theorem dX5_wipe_4 : decode cX5_wipe 4 = .ok (.istore_n 1, 1) := by decide +kernel
theorem dX5_wipe_5 : decode cX5_wipe 5 = .ok (.aload_n 0, 1) := by decide +kernel
theorem dX5_wipe_6 : decode cX5_wipe 6 = .ok (.iconst 0, 1) := by decide +kernel
theorem dX5_wipe_7 : decode cX5_wipe 7 = .ok (.putfield 87, 3) := by decide +kernel
theorem dX5_wipe_10 : decode cX5_wipe 10 = .ok (.iload_n 1, 1) := by decide +kernel
theorem dX5_wipe_11 : decode cX5_wipe 11 = .ok (.ireturn, 1) := by decide +kernel
theorem dX5_fault_0 : decode cX5_fault 0 = .ok (.aload_n 0, 1) := by decide +kernel
theorem dX5_fault_1 : decode cX5_fault 1 = .ok (.getfield 30, 3) := by decide +kernel
theorem dX5_fault_4 : decode cX5_fault 4 = .ok (.aload_n 0, 1) := by decide +kernel
theorem dX5_fault_5 : decode cX5_fault 5 = .ok (.getfield 23, 3) := by decide +kernel
theorem dX5_fault_8 : decode cX5_fault 8 = .ok (.aload_n 0, 1) := by decide +kernel
theorem dX5_fault_9 : decode cX5_fault 9 = .ok (.getfield 87, 3) := by decide +kernel
theorem dX5_fault_12 : decode cX5_fault 12 = .ok (.invokevirtual 97, 3) := by decide +kernel
theorem dX5_fault_15 : decode cX5_fault 15 = .ok (.ireturn, 1) := by decide +kernel
theorem dX5_load_0 : decode cX5_load 0 = .ok (.iload_n 1, 1) := by decide +kernel
theorem dX5_load_1 : decode cX5_load 1 = .ok (.i2l, 1) := by decide +kernel
theorem dX5_load_2 : decode cX5_load 2 = .ok (.lconst 0, 1) := by decide +kernel
theorem dX5_load_3 : decode cX5_load 3 = .ok (.ldc2_w 101, 3) := by decide +kernel
theorem dX5_load_6 : decode cX5_load 6 = .ok (.invokestatic 48, 3) := by decide +kernel
theorem dX5_load_9 : decode cX5_load 9 = .ok (.ifCond .ne 5, 3) := by decide +kernel
theorem dX5_load_12 : decode cX5_load 12 = .ok (.iconst (-1), 1) := by decide +kernel
theorem dX5_load_13 : decode cX5_load 13 = .ok (.ireturn, 1) := by decide +kernel
theorem dX5_load_14 : decode cX5_load 14 = .ok (.aload_n 0, 1) := by decide +kernel
theorem dX5_load_15 : decode cX5_load 15 = .ok (.getfield 30, 3) := by decide +kernel
theorem dX5_load_18 : decode cX5_load 18 = .ok (.aload_n 0, 1) := by decide +kernel
theorem dX5_load_19 : decode cX5_load 19 = .ok (.getfield 23, 3) := by decide +kernel
theorem dX5_load_22 : decode cX5_load 22 = .ok (.aload_n 0, 1) := by decide +kernel
theorem dX5_load_23 : decode cX5_load 23 = .ok (.getfield 87, 3) := by decide +kernel
theorem dX5_load_26 : decode cX5_load 26 = .ok (.invokevirtual 97, 3) := by decide +kernel
theorem dX5_load_29 : decode cX5_load 29 = .ok (.bipush (-6), 2) := by decide +kernel
theorem dX5_load_31 : decode cX5_load 31 = .ok (.if_icmp .eq 6, 3) := by decide +kernel
theorem dX5_load_34 : decode cX5_load 34 = .ok (.bipush (-3), 2) := by decide +kernel
theorem dX5_load_36 : decode cX5_load 36 = .ok (.ireturn, 1) := by decide +kernel
theorem dX5_load_37 : decode cX5_load 37 = .ok (.aload_n 0, 1) := by decide +kernel
theorem dX5_load_38 : decode cX5_load 38 = .ok (.invokevirtual 56, 3) := by decide +kernel
theorem dX5_load_41 : decode cX5_load 41 = .ok (.new 103, 3) := by decide +kernel
theorem dX5_load_44 : decode cX5_load 44 = .ok (.dup, 1) := by decide +kernel
theorem dX5_load_45 : decode cX5_load 45 = .ok (.aload_n 0, 1) := by decide +kernel
theorem dX5_load_46 : decode cX5_load 46 = .ok (.getfield 30, 3) := by decide +kernel
theorem dX5_load_49 : decode cX5_load 49 = .ok (.getfield 105, 3) := by decide +kernel
theorem dX5_load_52 : decode cX5_load 52 = .ok (.aload_n 0, 1) := by decide +kernel
theorem dX5_load_53 : decode cX5_load 53 = .ok (.getfield 30, 3) := by decide +kernel
theorem dX5_load_56 : decode cX5_load 56 = .ok (.getfield 109, 3) := by decide +kernel
theorem dX5_load_59 : decode cX5_load 59 = .ok (.invokespecial 112, 3) := by decide +kernel
theorem dX5_load_62 : decode cX5_load 62 = .ok (.astore_n 2, 1) := by decide +kernel
theorem dX5_load_63 : decode cX5_load 63 = .ok (.aload_n 0, 1) := by decide +kernel
theorem dX5_load_64 : decode cX5_load 64 = .ok (.getfield 10, 3) := by decide +kernel
theorem dX5_load_67 : decode cX5_load 67 = .ok (.iload_n 1, 1) := by decide +kernel
theorem dX5_load_68 : decode cX5_load 68 = .ok (.aload_n 2, 1) := by decide +kernel
theorem dX5_load_69 : decode cX5_load 69 = .ok (.invokevirtual 115, 3) := by decide +kernel
theorem dX5_load_72 : decode cX5_load 72 = .ok (.aload_n 0, 1) := by decide +kernel
theorem dX5_load_73 : decode cX5_load 73 = .ok (.iconst 0, 1) := by decide +kernel
theorem dX5_load_74 : decode cX5_load 74 = .ok (.putfield 87, 3) := by decide +kernel
theorem dX5_load_77 : decode cX5_load 77 = .ok (.aload_n 2, 1) := by decide +kernel
theorem dX5_load_78 : decode cX5_load 78 = .ok (.getfield 119, 3) := by decide +kernel
theorem dX5_load_81 : decode cX5_load 81 = .ok (.arraylength, 1) := by decide +kernel
theorem dX5_load_82 : decode cX5_load 82 = .ok (.ireturn, 1) := by decide +kernel
theorem dX5_assign_0 : decode cX5_assign 0 = .ok (.aload_n 0, 1) := by decide +kernel
theorem dX5_assign_1 : decode cX5_assign 1 = .ok (.getfield 10, 3) := by decide +kernel
theorem dX5_assign_4 : decode cX5_assign 4 = .ok (.iload_n 2, 1) := by decide +kernel
theorem dX5_assign_5 : decode cX5_assign 5 = .ok (.invokevirtual 120, 3) := by decide +kernel
theorem dX5_assign_8 : decode cX5_assign 8 = .ok (.astore_n 3, 1) := by decide +kernel
theorem dX5_assign_9 : decode cX5_assign 9 = .ok (.iload_n 1, 1) := by decide +kernel
theorem dX5_assign_10 : decode cX5_assign 10 = .ok (.i2l, 1) := by decide +kernel
theorem dX5_assign_11 : decode cX5_assign 11 = .ok (.lconst 0, 1) := by decide +kernel
theorem dX5_assign_12 : decode cX5_assign 12 = .ok (.ldc2_w 67, 3) := by decide +kernel
theorem dX5_assign_15 : decode cX5_assign 15 = .ok (.invokestatic 48, 3) := by decide +kernel
theorem dX5_assign_18 : decode cX5_assign 18 = .ok (.ifCond .eq 7, 3) := by decide +kernel
theorem dX5_assign_21 : decode cX5_assign 21 = .ok (.aload_n 3, 1) := by decide +kernel
theorem dX5_assign_22 : decode cX5_assign 22 = .ok (.ifnonnull 7, 3) := by decide +kernel
theorem dX5_assign_25 : decode cX5_assign 25 = .ok (.ldc2_w 69, 3) := by decide +kernel
theorem dX5_assign_28 : decode cX5_assign 28 = .ok (.lreturn, 1) := by decide +kernel
theorem dX5_assign_29 : decode cX5_assign 29 = .ok (.aload_n 0, 1) := by decide +kernel
theorem dX5_assign_30 : decode cX5_assign 30 = .ok (.getfield 37, 3) := by decide +kernel
theorem dX5_assign_33 : decode cX5_assign 33 = .ok (.aload_n 3, 1) := by decide +kernel
theorem dX5_assign_34 : decode cX5_assign 34 = .ok (.aload_n 0, 1) := by decide +kernel
theorem dX5_assign_35 : decode cX5_assign 35 = .ok (.getfield 10, 3) := by decide +kernel
theorem dX5_assign_38 : decode cX5_assign 38 = .ok (.invokevirtual 124, 3) := by decide +kernel
theorem dX5_assign_41 : decode cX5_assign 41 = .ok (.aload_n 0, 1) := by decide +kernel
theorem dX5_assign_42 : decode cX5_assign 42 = .ok (.getfield 37, 3) := by decide +kernel
theorem dX5_assign_45 : decode cX5_assign 45 = .ok (.getfield 128, 3) := by decide +kernel
theorem dX5_assign_48 : decode cX5_assign 48 = .ok (.ifCond .eq 7, 3) := by decide +kernel
theorem dX5_assign_51 : decode cX5_assign 51 = .ok (.ldc2_w 131, 3) := by decide +kernel
theorem dX5_assign_54 : decode cX5_assign 54 = .ok (.lreturn, 1) := by decide +kernel
theorem dX5_assign_55 : decode cX5_assign 55 = .ok (.aload_n 0, 1) := by decide +kernel
theorem dX5_assign_56 : decode cX5_assign 56 = .ok (.invokevirtual 56, 3) := by decide +kernel
theorem dX5_assign_59 : decode cX5_assign 59 = .ok (.aload_n 0, 1) := by decide +kernel
theorem dX5_assign_60 : decode cX5_assign 60 = .ok (.getfield 10, 3) := by decide +kernel
theorem dX5_assign_63 : decode cX5_assign 63 = .ok (.iload_n 1, 1) := by decide +kernel
theorem dX5_assign_64 : decode cX5_assign 64 = .ok (.aload_n 0, 1) := by decide +kernel
theorem dX5_assign_65 : decode cX5_assign 65 = .ok (.getfield 37, 3) := by decide +kernel
theorem dX5_assign_68 : decode cX5_assign 68 = .ok (.invokevirtual 133, 3) := by decide +kernel
theorem dX5_assign_71 : decode cX5_assign 71 = .ok (.invokevirtual 79, 3) := by decide +kernel
theorem dX5_assign_74 : decode cX5_assign 74 = .ok (.aload_n 0, 1) := by decide +kernel
theorem dX5_assign_75 : decode cX5_assign 75 = .ok (.getfield 37, 3) := by decide +kernel
theorem dX5_assign_78 : decode cX5_assign 78 = .ok (.invokevirtual 133, 3) := by decide +kernel
theorem dX5_assign_81 : decode cX5_assign 81 = .ok (.lreturn, 1) := by decide +kernel
theorem dX5_settle_0 : decode cX5_settle 0 = .ok (.aload_n 0, 1) := by decide +kernel
theorem dX5_settle_1 : decode cX5_settle 1 = .ok (.getfield 10, 3) := by decide +kernel
theorem dX5_settle_4 : decode cX5_settle 4 = .ok (.iload_n 2, 1) := by decide +kernel
theorem dX5_settle_5 : decode cX5_settle 5 = .ok (.invokevirtual 120, 3) := by decide +kernel
theorem dX5_settle_8 : decode cX5_settle 8 = .ok (.astore 4, 2) := by decide +kernel
theorem dX5_settle_10 : decode cX5_settle 10 = .ok (.iload_n 1, 1) := by decide +kernel
theorem dX5_settle_11 : decode cX5_settle 11 = .ok (.i2l, 1) := by decide +kernel
theorem dX5_settle_12 : decode cX5_settle 12 = .ok (.lconst 0, 1) := by decide +kernel
theorem dX5_settle_13 : decode cX5_settle 13 = .ok (.ldc2_w 67, 3) := by decide +kernel
theorem dX5_settle_16 : decode cX5_settle 16 = .ok (.invokestatic 48, 3) := by decide +kernel
theorem dX5_settle_19 : decode cX5_settle 19 = .ok (.ifCond .eq 8, 3) := by decide +kernel
theorem dX5_settle_22 : decode cX5_settle 22 = .ok (.aload 4, 2) := by decide +kernel
theorem dX5_settle_24 : decode cX5_settle 24 = .ok (.ifnonnull 5, 3) := by decide +kernel
theorem dX5_settle_27 : decode cX5_settle 27 = .ok (.iconst (-1), 1) := by decide +kernel
theorem dX5_settle_28 : decode cX5_settle 28 = .ok (.ireturn, 1) := by decide +kernel
theorem dX5_settle_29 : decode cX5_settle 29 = .ok (.iload_n 3, 1) := by decide +kernel
theorem dX5_settle_30 : decode cX5_settle 30 = .ok (.i2l, 1) := by decide +kernel
theorem dX5_settle_31 : decode cX5_settle 31 = .ok (.lconst 1, 1) := by decide +kernel
theorem dX5_settle_32 : decode cX5_settle 32 = .ok (.ldc2_w 137, 3) := by decide +kernel
theorem dX5_settle_35 : decode cX5_settle 35 = .ok (.invokestatic 48, 3) := by decide +kernel
theorem dX5_settle_38 : decode cX5_settle 38 = .ok (.ifCond .ne 6, 3) := by decide +kernel
theorem dX5_settle_41 : decode cX5_settle 41 = .ok (.bipush (-2), 2) := by decide +kernel
theorem dX5_settle_43 : decode cX5_settle 43 = .ok (.ireturn, 1) := by decide +kernel
theorem dX5_settle_44 : decode cX5_settle 44 = .ok (.aload_n 0, 1) := by decide +kernel
theorem dX5_settle_45 : decode cX5_settle 45 = .ok (.invokevirtual 56, 3) := by decide +kernel
theorem dX5_settle_48 : decode cX5_settle 48 = .ok (.iconst 0, 1) := by decide +kernel
theorem dX5_settle_49 : decode cX5_settle 49 = .ok (.istore 5, 2) := by decide +kernel
theorem dX5_settle_51 : decode cX5_settle 51 = .ok (.iload 5, 2) := by decide +kernel
theorem dX5_settle_53 : decode cX5_settle 53 = .ok (.iload_n 3, 1) := by decide +kernel
theorem dX5_settle_54 : decode cX5_settle 54 = .ok (.if_icmp .ge 74, 3) := by decide +kernel
theorem dX5_settle_57 : decode cX5_settle 57 = .ok (.aload_n 0, 1) := by decide +kernel
theorem dX5_settle_58 : decode cX5_settle 58 = .ok (.getfield 37, 3) := by decide +kernel
theorem dX5_settle_61 : decode cX5_settle 61 = .ok (.aload 4, 2) := by decide +kernel
theorem dX5_settle_63 : decode cX5_settle 63 = .ok (.aload_n 0, 1) := by decide +kernel
theorem dX5_settle_64 : decode cX5_settle 64 = .ok (.getfield 10, 3) := by decide +kernel
theorem dX5_settle_67 : decode cX5_settle 67 = .ok (.invokevirtual 124, 3) := by decide +kernel
theorem dX5_settle_70 : decode cX5_settle 70 = .ok (.aload_n 0, 1) := by decide +kernel
theorem dX5_settle_71 : decode cX5_settle 71 = .ok (.getfield 37, 3) := by decide +kernel
theorem dX5_settle_74 : decode cX5_settle 74 = .ok (.getfield 128, 3) := by decide +kernel
theorem dX5_settle_77 : decode cX5_settle 77 = .ok (.ifCond .eq 6, 3) := by decide +kernel
theorem dX5_settle_80 : decode cX5_settle 80 = .ok (.iload 5, 2) := by decide +kernel
theorem dX5_settle_82 : decode cX5_settle 82 = .ok (.ireturn, 1) := by decide +kernel
theorem dX5_settle_83 : decode cX5_settle 83 = .ok (.aload_n 0, 1) := by decide +kernel
theorem dX5_settle_84 : decode cX5_settle 84 = .ok (.getfield 37, 3) := by decide +kernel
theorem dX5_settle_87 : decode cX5_settle 87 = .ok (.invokevirtual 133, 3) := by decide +kernel
theorem dX5_settle_90 : decode cX5_settle 90 = .ok (.aload_n 0, 1) := by decide +kernel
theorem dX5_settle_91 : decode cX5_settle 91 = .ok (.getfield 10, 3) := by decide +kernel
theorem dX5_settle_94 : decode cX5_settle 94 = .ok (.iload_n 1, 1) := by decide +kernel
theorem dX5_settle_95 : decode cX5_settle 95 = .ok (.invokevirtual 75, 3) := by decide +kernel
theorem dX5_settle_98 : decode cX5_settle 98 = .ok (.lcmp, 1) := by decide +kernel
theorem dX5_settle_99 : decode cX5_settle 99 = .ok (.ifCond .ne 8, 3) := by decide +kernel
theorem dX5_settle_102 : decode cX5_settle 102 = .ok (.iload 5, 2) := by decide +kernel
theorem dX5_settle_104 : decode cX5_settle 104 = .ok (.iconst 1, 1) := by decide +kernel
theorem dX5_settle_105 : decode cX5_settle 105 = .ok (.iadd, 1) := by decide +kernel
theorem dX5_settle_106 : decode cX5_settle 106 = .ok (.ireturn, 1) := by decide +kernel
theorem dX5_settle_107 : decode cX5_settle 107 = .ok (.aload_n 0, 1) := by decide +kernel
theorem dX5_settle_108 : decode cX5_settle 108 = .ok (.getfield 10, 3) := by decide +kernel
theorem dX5_settle_111 : decode cX5_settle 111 = .ok (.iload_n 1, 1) := by decide +kernel
theorem dX5_settle_112 : decode cX5_settle 112 = .ok (.aload_n 0, 1) := by decide +kernel
theorem dX5_settle_113 : decode cX5_settle 113 = .ok (.getfield 37, 3) := by decide +kernel
theorem dX5_settle_116 : decode cX5_settle 116 = .ok (.invokevirtual 133, 3) := by decide +kernel
theorem dX5_settle_119 : decode cX5_settle 119 = .ok (.invokevirtual 79, 3) := by decide +kernel
theorem dX5_settle_122 : decode cX5_settle 122 = .ok (.iinc 5 1, 3) := by decide +kernel
theorem dX5_settle_125 : decode cX5_settle 125 = .ok (.goto (-74), 3) := by decide +kernel
theorem dX5_settle_128 : decode cX5_settle 128 = .ok (.iload_n 3, 1) := by decide +kernel
theorem dX5_settle_129 : decode cX5_settle 129 = .ok (.ireturn, 1) := by decide +kernel
theorem dX5_value_0 : decode cX5_value 0 = .ok (.aload_n 0, 1) := by decide +kernel
theorem dX5_value_1 : decode cX5_value 1 = .ok (.getfield 10, 3) := by decide +kernel
theorem dX5_value_4 : decode cX5_value 4 = .ok (.iload_n 1, 1) := by decide +kernel
theorem dX5_value_5 : decode cX5_value 5 = .ok (.invokevirtual 120, 3) := by decide +kernel
theorem dX5_value_8 : decode cX5_value 8 = .ok (.astore_n 2, 1) := by decide +kernel
theorem dX5_value_9 : decode cX5_value 9 = .ok (.aload_n 2, 1) := by decide +kernel
theorem dX5_value_10 : decode cX5_value 10 = .ok (.ifnonnull 7, 3) := by decide +kernel
theorem dX5_value_13 : decode cX5_value 13 = .ok (.ldc2_w 69, 3) := by decide +kernel
theorem dX5_value_16 : decode cX5_value 16 = .ok (.lreturn, 1) := by decide +kernel
theorem dX5_value_17 : decode cX5_value 17 = .ok (.aload_n 0, 1) := by decide +kernel
theorem dX5_value_18 : decode cX5_value 18 = .ok (.getfield 37, 3) := by decide +kernel
theorem dX5_value_21 : decode cX5_value 21 = .ok (.aload_n 2, 1) := by decide +kernel
theorem dX5_value_22 : decode cX5_value 22 = .ok (.aload_n 0, 1) := by decide +kernel
theorem dX5_value_23 : decode cX5_value 23 = .ok (.getfield 10, 3) := by decide +kernel
theorem dX5_value_26 : decode cX5_value 26 = .ok (.invokevirtual 124, 3) := by decide +kernel
theorem dX5_value_29 : decode cX5_value 29 = .ok (.aload_n 0, 1) := by decide +kernel
theorem dX5_value_30 : decode cX5_value 30 = .ok (.getfield 37, 3) := by decide +kernel
theorem dX5_value_33 : decode cX5_value 33 = .ok (.getfield 128, 3) := by decide +kernel
theorem dX5_value_36 : decode cX5_value 36 = .ok (.ifCond .ne 13, 3) := by decide +kernel
theorem dX5_value_39 : decode cX5_value 39 = .ok (.aload_n 0, 1) := by decide +kernel
theorem dX5_value_40 : decode cX5_value 40 = .ok (.getfield 37, 3) := by decide +kernel
theorem dX5_value_43 : decode cX5_value 43 = .ok (.invokevirtual 133, 3) := by decide +kernel
theorem dX5_value_46 : decode cX5_value 46 = .ok (.goto 6, 3) := by decide +kernel
theorem dX5_value_49 : decode cX5_value 49 = .ok (.ldc2_w 131, 3) := by decide +kernel
theorem dX5_value_52 : decode cX5_value 52 = .ok (.lreturn, 1) := by decide +kernel
theorem dX5_ofFormula_0 : decode cX5_ofFormula 0 = .ok (.aload_n 0, 1) := by decide +kernel
theorem dX5_ofFormula_1 : decode cX5_ofFormula 1 = .ok (.getfield 10, 3) := by decide +kernel
theorem dX5_ofFormula_4 : decode cX5_ofFormula 4 = .ok (.iload_n 1, 1) := by decide +kernel
theorem dX5_ofFormula_5 : decode cX5_ofFormula 5 = .ok (.invokevirtual 120, 3) := by decide +kernel
theorem dX5_ofFormula_8 : decode cX5_ofFormula 8 = .ok (.astore_n 3, 1) := by decide +kernel
theorem dX5_ofFormula_9 : decode cX5_ofFormula 9 = .ok (.aload_n 3, 1) := by decide +kernel
theorem dX5_ofFormula_10 : decode cX5_ofFormula 10 = .ok (.ifnonnull 5, 3) := by decide +kernel
theorem dX5_ofFormula_13 : decode cX5_ofFormula 13 = .ok (.iconst (-1), 1) := by decide +kernel
theorem dX5_ofFormula_14 : decode cX5_ofFormula 14 = .ok (.ireturn, 1) := by decide +kernel
theorem dX5_ofFormula_15 : decode cX5_ofFormula 15 = .ok (.aload_n 0, 1) := by decide +kernel
theorem dX5_ofFormula_16 : decode cX5_ofFormula 16 = .ok (.getfield 37, 3) := by decide +kernel
theorem dX5_ofFormula_19 : decode cX5_ofFormula 19 = .ok (.aload_n 3, 1) := by decide +kernel
theorem dX5_ofFormula_20 : decode cX5_ofFormula 20 = .ok (.aload_n 0, 1) := by decide +kernel
theorem dX5_ofFormula_21 : decode cX5_ofFormula 21 = .ok (.getfield 10, 3) := by decide +kernel
theorem dX5_ofFormula_24 : decode cX5_ofFormula 24 = .ok (.invokevirtual 124, 3) := by decide +kernel
theorem dX5_ofFormula_27 : decode cX5_ofFormula 27 = .ok (.iload_n 2, 1) := by decide +kernel
theorem dX5_ofFormula_28 : decode cX5_ofFormula 28 = .ok (.tableswitch 83 0 4 #[36, 42, 47, 55, 78], 36) := by decide +kernel
theorem dX5_ofFormula_64 : decode cX5_ofFormula 64 = .ok (.aload_n 3, 1) := by decide +kernel
theorem dX5_ofFormula_65 : decode cX5_ofFormula 65 = .ok (.getfield 119, 3) := by decide +kernel
theorem dX5_ofFormula_68 : decode cX5_ofFormula 68 = .ok (.arraylength, 1) := by decide +kernel
theorem dX5_ofFormula_69 : decode cX5_ofFormula 69 = .ok (.ireturn, 1) := by decide +kernel
theorem dX5_ofFormula_70 : decode cX5_ofFormula 70 = .ok (.aload_n 3, 1) := by decide +kernel
theorem dX5_ofFormula_71 : decode cX5_ofFormula 71 = .ok (.invokevirtual 139, 3) := by decide +kernel
theorem dX5_ofFormula_74 : decode cX5_ofFormula 74 = .ok (.ireturn, 1) := by decide +kernel
theorem dX5_ofFormula_75 : decode cX5_ofFormula 75 = .ok (.aload_n 0, 1) := by decide +kernel
theorem dX5_ofFormula_76 : decode cX5_ofFormula 76 = .ok (.getfield 37, 3) := by decide +kernel
theorem dX5_ofFormula_79 : decode cX5_ofFormula 79 = .ok (.getfield 128, 3) := by decide +kernel
theorem dX5_ofFormula_82 : decode cX5_ofFormula 82 = .ok (.ireturn, 1) := by decide +kernel
theorem dX5_ofFormula_83 : decode cX5_ofFormula 83 = .ok (.aload_n 0, 1) := by decide +kernel
theorem dX5_ofFormula_84 : decode cX5_ofFormula 84 = .ok (.getfield 37, 3) := by decide +kernel
theorem dX5_ofFormula_87 : decode cX5_ofFormula 87 = .ok (.getfield 128, 3) := by decide +kernel
theorem dX5_ofFormula_90 : decode cX5_ofFormula 90 = .ok (.ifCond .ne 8, 3) := by decide +kernel
theorem dX5_ofFormula_93 : decode cX5_ofFormula 93 = .ok (.bipush (-6), 2) := by decide +kernel
theorem dX5_ofFormula_95 : decode cX5_ofFormula 95 = .ok (.goto 10, 3) := by decide +kernel
theorem dX5_ofFormula_98 : decode cX5_ofFormula 98 = .ok (.aload_n 0, 1) := by decide +kernel
theorem dX5_ofFormula_99 : decode cX5_ofFormula 99 = .ok (.getfield 37, 3) := by decide +kernel
theorem dX5_ofFormula_102 : decode cX5_ofFormula 102 = .ok (.getfield 143, 3) := by decide +kernel
theorem dX5_ofFormula_105 : decode cX5_ofFormula 105 = .ok (.ireturn, 1) := by decide +kernel
theorem dX5_ofFormula_106 : decode cX5_ofFormula 106 = .ok (.aload_n 3, 1) := by decide +kernel
theorem dX5_ofFormula_107 : decode cX5_ofFormula 107 = .ok (.invokevirtual 146, 3) := by decide +kernel
theorem dX5_ofFormula_110 : decode cX5_ofFormula 110 = .ok (.ireturn, 1) := by decide +kernel
theorem dX5_ofFormula_111 : decode cX5_ofFormula 111 = .ok (.bipush (-2), 2) := by decide +kernel
theorem dX5_ofFormula_113 : decode cX5_ofFormula 113 = .ok (.ireturn, 1) := by decide +kernel
theorem dX5_stepValue_0 : decode cX5_stepValue 0 = .ok (.aload_n 0, 1) := by decide +kernel
theorem dX5_stepValue_1 : decode cX5_stepValue 1 = .ok (.getfield 10, 3) := by decide +kernel
theorem dX5_stepValue_4 : decode cX5_stepValue 4 = .ok (.iload_n 1, 1) := by decide +kernel
theorem dX5_stepValue_5 : decode cX5_stepValue 5 = .ok (.invokevirtual 120, 3) := by decide +kernel
theorem dX5_stepValue_8 : decode cX5_stepValue 8 = .ok (.astore_n 3, 1) := by decide +kernel
theorem dX5_stepValue_9 : decode cX5_stepValue 9 = .ok (.aload_n 3, 1) := by decide +kernel
theorem dX5_stepValue_10 : decode cX5_stepValue 10 = .ok (.ifnull 20, 3) := by decide +kernel
theorem dX5_stepValue_13 : decode cX5_stepValue 13 = .ok (.iload_n 2, 1) := by decide +kernel
theorem dX5_stepValue_14 : decode cX5_stepValue 14 = .ok (.i2l, 1) := by decide +kernel
theorem dX5_stepValue_15 : decode cX5_stepValue 15 = .ok (.lconst 0, 1) := by decide +kernel
theorem dX5_stepValue_16 : decode cX5_stepValue 16 = .ok (.aload_n 3, 1) := by decide +kernel
theorem dX5_stepValue_17 : decode cX5_stepValue 17 = .ok (.getfield 119, 3) := by decide +kernel
theorem dX5_stepValue_20 : decode cX5_stepValue 20 = .ok (.arraylength, 1) := by decide +kernel
theorem dX5_stepValue_21 : decode cX5_stepValue 21 = .ok (.iconst 1, 1) := by decide +kernel
theorem dX5_stepValue_22 : decode cX5_stepValue 22 = .ok (.isub, 1) := by decide +kernel
theorem dX5_stepValue_23 : decode cX5_stepValue 23 = .ok (.i2l, 1) := by decide +kernel
theorem dX5_stepValue_24 : decode cX5_stepValue 24 = .ok (.invokestatic 48, 3) := by decide +kernel
theorem dX5_stepValue_27 : decode cX5_stepValue 27 = .ok (.ifCond .ne 7, 3) := by decide +kernel
theorem dX5_stepValue_30 : decode cX5_stepValue 30 = .ok (.ldc2_w 69, 3) := by decide +kernel
theorem dX5_stepValue_33 : decode cX5_stepValue 33 = .ok (.lreturn, 1) := by decide +kernel
theorem dX5_stepValue_34 : decode cX5_stepValue 34 = .ok (.aload_n 0, 1) := by decide +kernel
theorem dX5_stepValue_35 : decode cX5_stepValue 35 = .ok (.getfield 37, 3) := by decide +kernel
theorem dX5_stepValue_38 : decode cX5_stepValue 38 = .ok (.aload_n 3, 1) := by decide +kernel
theorem dX5_stepValue_39 : decode cX5_stepValue 39 = .ok (.aload_n 0, 1) := by decide +kernel
theorem dX5_stepValue_40 : decode cX5_stepValue 40 = .ok (.getfield 10, 3) := by decide +kernel
theorem dX5_stepValue_43 : decode cX5_stepValue 43 = .ok (.invokevirtual 124, 3) := by decide +kernel
theorem dX5_stepValue_46 : decode cX5_stepValue 46 = .ok (.iload_n 2, 1) := by decide +kernel
theorem dX5_stepValue_47 : decode cX5_stepValue 47 = .ok (.aload_n 0, 1) := by decide +kernel
theorem dX5_stepValue_48 : decode cX5_stepValue 48 = .ok (.getfield 37, 3) := by decide +kernel
theorem dX5_stepValue_51 : decode cX5_stepValue 51 = .ok (.getfield 143, 3) := by decide +kernel
theorem dX5_stepValue_54 : decode cX5_stepValue 54 = .ok (.if_icmp .ge 14, 3) := by decide +kernel
theorem dX5_stepValue_57 : decode cX5_stepValue 57 = .ok (.aload_n 0, 1) := by decide +kernel
theorem dX5_stepValue_58 : decode cX5_stepValue 58 = .ok (.getfield 37, 3) := by decide +kernel
theorem dX5_stepValue_61 : decode cX5_stepValue 61 = .ok (.iload_n 2, 1) := by decide +kernel
theorem dX5_stepValue_62 : decode cX5_stepValue 62 = .ok (.invokevirtual 149, 3) := by decide +kernel
theorem dX5_stepValue_65 : decode cX5_stepValue 65 = .ok (.goto 6, 3) := by decide +kernel
theorem dX5_stepValue_68 : decode cX5_stepValue 68 = .ok (.ldc2_w 131, 3) := by decide +kernel
theorem dX5_stepValue_71 : decode cX5_stepValue 71 = .ok (.lreturn, 1) := by decide +kernel
theorem dX5_count_0 : decode cX5_count 0 = .ok (.iload_n 1, 1) := by decide +kernel
theorem dX5_count_1 : decode cX5_count 1 = .ok (.tableswitch 83 0 5 #[39, 47, 52, 57, 66, 75], 39) := by decide +kernel
theorem dX5_count_40 : decode cX5_count 40 = .ok (.aload_n 0, 1) := by decide +kernel
theorem dX5_count_41 : decode cX5_count 41 = .ok (.getfield 10, 3) := by decide +kernel
theorem dX5_count_44 : decode cX5_count 44 = .ok (.invokevirtual 152, 3) := by decide +kernel
theorem dX5_count_47 : decode cX5_count 47 = .ok (.ireturn, 1) := by decide +kernel
theorem dX5_count_48 : decode cX5_count 48 = .ok (.aload_n 0, 1) := by decide +kernel
theorem dX5_count_49 : decode cX5_count 49 = .ok (.getfield 87, 3) := by decide +kernel
theorem dX5_count_52 : decode cX5_count 52 = .ok (.ireturn, 1) := by decide +kernel
theorem dX5_count_53 : decode cX5_count 53 = .ok (.aload_n 0, 1) := by decide +kernel
theorem dX5_count_54 : decode cX5_count 54 = .ok (.getfield 155, 3) := by decide +kernel
theorem dX5_count_57 : decode cX5_count 57 = .ok (.ireturn, 1) := by decide +kernel
theorem dX5_count_58 : decode cX5_count 58 = .ok (.aload_n 0, 1) := by decide +kernel
theorem dX5_count_59 : decode cX5_count 59 = .ok (.getfield 10, 3) := by decide +kernel
theorem dX5_count_62 : decode cX5_count 62 = .ok (.iconst 0, 1) := by decide +kernel
theorem dX5_count_63 : decode cX5_count 63 = .ok (.invokevirtual 59, 3) := by decide +kernel
theorem dX5_count_66 : decode cX5_count 66 = .ok (.ireturn, 1) := by decide +kernel
theorem dX5_count_67 : decode cX5_count 67 = .ok (.aload_n 0, 1) := by decide +kernel
theorem dX5_count_68 : decode cX5_count 68 = .ok (.getfield 10, 3) := by decide +kernel
theorem dX5_count_71 : decode cX5_count 71 = .ok (.iconst 1, 1) := by decide +kernel
theorem dX5_count_72 : decode cX5_count 72 = .ok (.invokevirtual 59, 3) := by decide +kernel
theorem dX5_count_75 : decode cX5_count 75 = .ok (.ireturn, 1) := by decide +kernel
theorem dX5_count_76 : decode cX5_count 76 = .ok (.aload_n 0, 1) := by decide +kernel
theorem dX5_count_77 : decode cX5_count 77 = .ok (.getfield 10, 3) := by decide +kernel
theorem dX5_count_80 : decode cX5_count 80 = .ok (.invokevirtual 158, 3) := by decide +kernel
theorem dX5_count_83 : decode cX5_count 83 = .ok (.ireturn, 1) := by decide +kernel
theorem dX5_count_84 : decode cX5_count 84 = .ok (.bipush (-2), 2) := by decide +kernel
theorem dX5_count_86 : decode cX5_count 86 = .ok (.ireturn, 1) := by decide +kernel
theorem dX5_root_0 : decode cX5_root 0 = .ok (.lload_n 1, 1) := by decide +kernel
theorem dX5_root_1 : decode cX5_root 1 = .ok (.lconst 0, 1) := by decide +kernel
theorem dX5_root_2 : decode cX5_root 2 = .ok (.ldc2_w 71, 3) := by decide +kernel
theorem dX5_root_5 : decode cX5_root 5 = .ok (.invokestatic 48, 3) := by decide +kernel
theorem dX5_root_8 : decode cX5_root 8 = .ok (.ifCond .eq 17, 3) := by decide +kernel
theorem dX5_root_11 : decode cX5_root 11 = .ok (.iload_n 3, 1) := by decide +kernel
theorem dX5_root_12 : decode cX5_root 12 = .ok (.i2l, 1) := by decide +kernel
theorem dX5_root_13 : decode cX5_root 13 = .ok (.ldc2_w 52, 3) := by decide +kernel
theorem dX5_root_16 : decode cX5_root 16 = .ok (.ldc2_w 161, 3) := by decide +kernel
theorem dX5_root_19 : decode cX5_root 19 = .ok (.invokestatic 48, 3) := by decide +kernel
theorem dX5_root_22 : decode cX5_root 22 = .ok (.ifCond .ne 6, 3) := by decide +kernel
theorem dX5_root_25 : decode cX5_root 25 = .ok (.bipush (-2), 2) := by decide +kernel
theorem dX5_root_27 : decode cX5_root 27 = .ok (.ireturn, 1) := by decide +kernel
theorem dX5_root_28 : decode cX5_root 28 = .ok (.lload_n 1, 1) := by decide +kernel
theorem dX5_root_29 : decode cX5_root 29 = .ok (.iload_n 3, 1) := by decide +kernel
theorem dX5_root_30 : decode cX5_root 30 = .ok (.aload_n 0, 1) := by decide +kernel
theorem dX5_root_31 : decode cX5_root 31 = .ok (.getfield 10, 3) := by decide +kernel
theorem dX5_root_34 : decode cX5_root 34 = .ok (.iconst 0, 1) := by decide +kernel
theorem dX5_root_35 : decode cX5_root 35 = .ok (.invokevirtual 59, 3) := by decide +kernel
theorem dX5_root_38 : decode cX5_root 38 = .ok (.invokestatic 163, 3) := by decide +kernel
theorem dX5_root_41 : decode cX5_root 41 = .ok (.l2i, 1) := by decide +kernel
theorem dX5_root_42 : decode cX5_root 42 = .ok (.ireturn, 1) := by decide +kernel
theorem dX5_remainder_0 : decode cX5_remainder 0 = .ok (.lload_n 1, 1) := by decide +kernel
theorem dX5_remainder_1 : decode cX5_remainder 1 = .ok (.lconst 0, 1) := by decide +kernel
theorem dX5_remainder_2 : decode cX5_remainder 2 = .ok (.ldc2_w 71, 3) := by decide +kernel
theorem dX5_remainder_5 : decode cX5_remainder 5 = .ok (.invokestatic 48, 3) := by decide +kernel
theorem dX5_remainder_8 : decode cX5_remainder 8 = .ok (.ifCond .eq 17, 3) := by decide +kernel
theorem dX5_remainder_11 : decode cX5_remainder 11 = .ok (.iload_n 3, 1) := by decide +kernel
theorem dX5_remainder_12 : decode cX5_remainder 12 = .ok (.i2l, 1) := by decide +kernel
theorem dX5_remainder_13 : decode cX5_remainder 13 = .ok (.ldc2_w 52, 3) := by decide +kernel
theorem dX5_remainder_16 : decode cX5_remainder 16 = .ok (.ldc2_w 161, 3) := by decide +kernel
theorem dX5_remainder_19 : decode cX5_remainder 19 = .ok (.invokestatic 48, 3) := by decide +kernel
theorem dX5_remainder_22 : decode cX5_remainder 22 = .ok (.ifCond .ne 7, 3) := by decide +kernel
theorem dX5_remainder_25 : decode cX5_remainder 25 = .ok (.ldc2_w 73, 3) := by decide +kernel
theorem dX5_remainder_28 : decode cX5_remainder 28 = .ok (.lreturn, 1) := by decide +kernel
theorem dX5_remainder_29 : decode cX5_remainder 29 = .ok (.lload_n 1, 1) := by decide +kernel
theorem dX5_remainder_30 : decode cX5_remainder 30 = .ok (.lload_n 1, 1) := by decide +kernel
theorem dX5_remainder_31 : decode cX5_remainder 31 = .ok (.iload_n 3, 1) := by decide +kernel
theorem dX5_remainder_32 : decode cX5_remainder 32 = .ok (.invokestatic 167, 3) := by decide +kernel
theorem dX5_remainder_35 : decode cX5_remainder 35 = .ok (.iload_n 3, 1) := by decide +kernel
theorem dX5_remainder_36 : decode cX5_remainder 36 = .ok (.invokestatic 171, 3) := by decide +kernel
theorem dX5_remainder_39 : decode cX5_remainder 39 = .ok (.lsub, 1) := by decide +kernel
theorem dX5_remainder_40 : decode cX5_remainder 40 = .ok (.lreturn, 1) := by decide +kernel
theorem dX5_bit_0 : decode cX5_bit 0 = .ok (.lload_n 1, 1) := by decide +kernel
theorem dX5_bit_1 : decode cX5_bit 1 = .ok (.lconst 0, 1) := by decide +kernel
theorem dX5_bit_2 : decode cX5_bit 2 = .ok (.ldc2_w 71, 3) := by decide +kernel
theorem dX5_bit_5 : decode cX5_bit 5 = .ok (.invokestatic 48, 3) := by decide +kernel
theorem dX5_bit_8 : decode cX5_bit 8 = .ok (.ifCond .eq 36, 3) := by decide +kernel
theorem dX5_bit_11 : decode cX5_bit 11 = .ok (.iload_n 3, 1) := by decide +kernel
theorem dX5_bit_12 : decode cX5_bit 12 = .ok (.i2l, 1) := by decide +kernel
theorem dX5_bit_13 : decode cX5_bit 13 = .ok (.ldc2_w 52, 3) := by decide +kernel
theorem dX5_bit_16 : decode cX5_bit 16 = .ok (.ldc2_w 161, 3) := by decide +kernel
theorem dX5_bit_19 : decode cX5_bit 19 = .ok (.invokestatic 48, 3) := by decide +kernel
theorem dX5_bit_22 : decode cX5_bit 22 = .ok (.ifCond .eq 22, 3) := by decide +kernel
theorem dX5_bit_25 : decode cX5_bit 25 = .ok (.iload 5, 2) := by decide +kernel
theorem dX5_bit_27 : decode cX5_bit 27 = .ok (.i2l, 1) := by decide +kernel
theorem dX5_bit_28 : decode cX5_bit 28 = .ok (.lconst 0, 1) := by decide +kernel
theorem dX5_bit_29 : decode cX5_bit 29 = .ok (.ldc2_w 161, 3) := by decide +kernel
theorem dX5_bit_32 : decode cX5_bit 32 = .ok (.invokestatic 48, 3) := by decide +kernel
theorem dX5_bit_35 : decode cX5_bit 35 = .ok (.ifCond .eq 9, 3) := by decide +kernel
theorem dX5_bit_38 : decode cX5_bit 38 = .ok (.iload 4, 2) := by decide +kernel
theorem dX5_bit_40 : decode cX5_bit 40 = .ok (.iconst (-1), 1) := by decide +kernel
theorem dX5_bit_41 : decode cX5_bit 41 = .ok (.if_icmp .ge 7, 3) := by decide +kernel
theorem dX5_bit_44 : decode cX5_bit 44 = .ok (.ldc2_w 73, 3) := by decide +kernel
theorem dX5_bit_47 : decode cX5_bit 47 = .ok (.lreturn, 1) := by decide +kernel
theorem dX5_bit_48 : decode cX5_bit 48 = .ok (.iload 4, 2) := by decide +kernel
theorem dX5_bit_50 : decode cX5_bit 50 = .ok (.iconst (-1), 1) := by decide +kernel
theorem dX5_bit_51 : decode cX5_bit 51 = .ok (.if_icmp .ne 12, 3) := by decide +kernel
theorem dX5_bit_54 : decode cX5_bit 54 = .ok (.lload_n 1, 1) := by decide +kernel
theorem dX5_bit_55 : decode cX5_bit 55 = .ok (.iload_n 3, 1) := by decide +kernel
theorem dX5_bit_56 : decode cX5_bit 56 = .ok (.invokestatic 174, 3) := by decide +kernel
theorem dX5_bit_59 : decode cX5_bit 59 = .ok (.i2l, 1) := by decide +kernel
theorem dX5_bit_60 : decode cX5_bit 60 = .ok (.goto 12, 3) := by decide +kernel
theorem dX5_bit_63 : decode cX5_bit 63 = .ok (.lload_n 1, 1) := by decide +kernel
theorem dX5_bit_64 : decode cX5_bit 64 = .ok (.iload_n 3, 1) := by decide +kernel
theorem dX5_bit_65 : decode cX5_bit 65 = .ok (.iload 4, 2) := by decide +kernel
theorem dX5_bit_67 : decode cX5_bit 67 = .ok (.iload 5, 2) := by decide +kernel
theorem dX5_bit_69 : decode cX5_bit 69 = .ok (.invokestatic 178, 3) := by decide +kernel
theorem dX5_bit_72 : decode cX5_bit 72 = .ok (.lreturn, 1) := by decide +kernel
theorem dX5_save_0 : decode cX5_save 0 = .ok (.iload_n 1, 1) := by decide +kernel
theorem dX5_save_1 : decode cX5_save 1 = .ok (.i2l, 1) := by decide +kernel
theorem dX5_save_2 : decode cX5_save 2 = .ok (.lconst 0, 1) := by decide +kernel
theorem dX5_save_3 : decode cX5_save 3 = .ok (.aload_n 0, 1) := by decide +kernel
theorem dX5_save_4 : decode cX5_save 4 = .ok (.getfield 20, 3) := by decide +kernel
theorem dX5_save_7 : decode cX5_save 7 = .ok (.arraylength, 1) := by decide +kernel
theorem dX5_save_8 : decode cX5_save 8 = .ok (.iconst 1, 1) := by decide +kernel
theorem dX5_save_9 : decode cX5_save 9 = .ok (.isub, 1) := by decide +kernel
theorem dX5_save_10 : decode cX5_save 10 = .ok (.i2l, 1) := by decide +kernel
theorem dX5_save_11 : decode cX5_save 11 = .ok (.invokestatic 48, 3) := by decide +kernel
theorem dX5_save_14 : decode cX5_save 14 = .ok (.ifCond .ne 6, 3) := by decide +kernel
theorem dX5_save_17 : decode cX5_save 17 = .ok (.bipush (-2), 2) := by decide +kernel
theorem dX5_save_19 : decode cX5_save 19 = .ok (.ireturn, 1) := by decide +kernel
theorem dX5_save_20 : decode cX5_save 20 = .ok (.aload_n 0, 1) := by decide +kernel
theorem dX5_save_21 : decode cX5_save 21 = .ok (.getfield 20, 3) := by decide +kernel
theorem dX5_save_24 : decode cX5_save 24 = .ok (.iload_n 1, 1) := by decide +kernel
theorem dX5_save_25 : decode cX5_save 25 = .ok (.aaload, 1) := by decide +kernel
theorem dX5_save_26 : decode cX5_save 26 = .ok (.ifnonnull 16, 3) := by decide +kernel
theorem dX5_save_29 : decode cX5_save 29 = .ok (.aload_n 0, 1) := by decide +kernel
theorem dX5_save_30 : decode cX5_save 30 = .ok (.getfield 20, 3) := by decide +kernel
theorem dX5_save_33 : decode cX5_save 33 = .ok (.iload_n 1, 1) := by decide +kernel
theorem dX5_save_34 : decode cX5_save 34 = .ok (.new 7, 3) := by decide +kernel
theorem dX5_save_37 : decode cX5_save 37 = .ok (.dup, 1) := by decide +kernel
theorem dX5_save_38 : decode cX5_save 38 = .ok (.invokespecial 9, 3) := by decide +kernel
theorem dX5_save_41 : decode cX5_save 41 = .ok (.aastore, 1) := by decide +kernel
theorem dX5_save_42 : decode cX5_save 42 = .ok (.aload_n 0, 1) := by decide +kernel
theorem dX5_save_43 : decode cX5_save 43 = .ok (.getfield 20, 3) := by decide +kernel
theorem dX5_save_46 : decode cX5_save 46 = .ok (.iload_n 1, 1) := by decide +kernel
theorem dX5_save_47 : decode cX5_save 47 = .ok (.aaload, 1) := by decide +kernel
theorem dX5_save_48 : decode cX5_save 48 = .ok (.aload_n 0, 1) := by decide +kernel
theorem dX5_save_49 : decode cX5_save 49 = .ok (.getfield 10, 3) := by decide +kernel
theorem dX5_save_52 : decode cX5_save 52 = .ok (.invokevirtual 238, 3) := by decide +kernel
theorem dX5_save_55 : decode cX5_save 55 = .ok (.aload_n 0, 1) := by decide +kernel
theorem dX5_save_56 : decode cX5_save 56 = .ok (.getfield 10, 3) := by decide +kernel
theorem dX5_save_59 : decode cX5_save 59 = .ok (.invokevirtual 152, 3) := by decide +kernel
theorem dX5_save_62 : decode cX5_save 62 = .ok (.ireturn, 1) := by decide +kernel
theorem dX5_restore_0 : decode cX5_restore 0 = .ok (.iload_n 1, 1) := by decide +kernel
theorem dX5_restore_1 : decode cX5_restore 1 = .ok (.i2l, 1) := by decide +kernel
theorem dX5_restore_2 : decode cX5_restore 2 = .ok (.lconst 0, 1) := by decide +kernel
theorem dX5_restore_3 : decode cX5_restore 3 = .ok (.aload_n 0, 1) := by decide +kernel
theorem dX5_restore_4 : decode cX5_restore 4 = .ok (.getfield 20, 3) := by decide +kernel
theorem dX5_restore_7 : decode cX5_restore 7 = .ok (.arraylength, 1) := by decide +kernel
theorem dX5_restore_8 : decode cX5_restore 8 = .ok (.iconst 1, 1) := by decide +kernel
theorem dX5_restore_9 : decode cX5_restore 9 = .ok (.isub, 1) := by decide +kernel
theorem dX5_restore_10 : decode cX5_restore 10 = .ok (.i2l, 1) := by decide +kernel
theorem dX5_restore_11 : decode cX5_restore 11 = .ok (.invokestatic 48, 3) := by decide +kernel
theorem dX5_restore_14 : decode cX5_restore 14 = .ok (.ifCond .ne 6, 3) := by decide +kernel
theorem dX5_restore_17 : decode cX5_restore 17 = .ok (.bipush (-2), 2) := by decide +kernel
theorem dX5_restore_19 : decode cX5_restore 19 = .ok (.ireturn, 1) := by decide +kernel
theorem dX5_restore_20 : decode cX5_restore 20 = .ok (.aload_n 0, 1) := by decide +kernel
theorem dX5_restore_21 : decode cX5_restore 21 = .ok (.getfield 20, 3) := by decide +kernel
theorem dX5_restore_24 : decode cX5_restore 24 = .ok (.iload_n 1, 1) := by decide +kernel
theorem dX5_restore_25 : decode cX5_restore 25 = .ok (.aaload, 1) := by decide +kernel
theorem dX5_restore_26 : decode cX5_restore 26 = .ok (.astore_n 2, 1) := by decide +kernel
theorem dX5_restore_27 : decode cX5_restore 27 = .ok (.aload_n 2, 1) := by decide +kernel
theorem dX5_restore_28 : decode cX5_restore 28 = .ok (.ifnonnull 6, 3) := by decide +kernel
theorem dX5_restore_31 : decode cX5_restore 31 = .ok (.bipush (-5), 2) := by decide +kernel
theorem dX5_restore_33 : decode cX5_restore 33 = .ok (.ireturn, 1) := by decide +kernel
theorem dX5_restore_34 : decode cX5_restore 34 = .ok (.aload_n 0, 1) := by decide +kernel
theorem dX5_restore_35 : decode cX5_restore 35 = .ok (.invokevirtual 56, 3) := by decide +kernel
theorem dX5_restore_38 : decode cX5_restore 38 = .ok (.aload_n 0, 1) := by decide +kernel
theorem dX5_restore_39 : decode cX5_restore 39 = .ok (.getfield 10, 3) := by decide +kernel
theorem dX5_restore_42 : decode cX5_restore 42 = .ok (.aload_n 2, 1) := by decide +kernel
theorem dX5_restore_43 : decode cX5_restore 43 = .ok (.invokevirtual 238, 3) := by decide +kernel
theorem dX5_restore_46 : decode cX5_restore 46 = .ok (.aload_n 0, 1) := by decide +kernel
theorem dX5_restore_47 : decode cX5_restore 47 = .ok (.getfield 10, 3) := by decide +kernel
theorem dX5_restore_50 : decode cX5_restore 50 = .ok (.invokevirtual 152, 3) := by decide +kernel
theorem dX5_restore_53 : decode cX5_restore 53 = .ok (.ireturn, 1) := by decide +kernel
theorem dX5_keepState_0 : decode cX5_keepState 0 = .ok (.aload_n 0, 1) := by decide +kernel
theorem dX5_keepState_1 : decode cX5_keepState 1 = .ok (.getfield 155, 3) := by decide +kernel
theorem dX5_keepState_4 : decode cX5_keepState 4 = .ok (.bipush 6, 2) := by decide +kernel
theorem dX5_keepState_6 : decode cX5_keepState 6 = .ok (.if_icmp .ne 26, 3) := by decide +kernel
theorem dX5_keepState_9 : decode cX5_keepState 9 = .ok (.aload_n 0, 1) := by decide +kernel
theorem dX5_keepState_10 : decode cX5_keepState 10 = .ok (.aload_n 0, 1) := by decide +kernel
theorem dX5_keepState_11 : decode cX5_keepState 11 = .ok (.getfield 231, 3) := by decide +kernel
theorem dX5_keepState_14 : decode cX5_keepState 14 = .ok (.iconst 1, 1) := by decide +kernel
theorem dX5_keepState_15 : decode cX5_keepState 15 = .ok (.iadd, 1) := by decide +kernel
theorem dX5_keepState_16 : decode cX5_keepState 16 = .ok (.bipush 6, 2) := by decide +kernel
theorem dX5_keepState_18 : decode cX5_keepState 18 = .ok (.irem, 1) := by decide +kernel
theorem dX5_keepState_19 : decode cX5_keepState 19 = .ok (.putfield 231, 3) := by decide +kernel
theorem dX5_keepState_22 : decode cX5_keepState 22 = .ok (.aload_n 0, 1) := by decide +kernel
theorem dX5_keepState_23 : decode cX5_keepState 23 = .ok (.dup, 1) := by decide +kernel
theorem dX5_keepState_24 : decode cX5_keepState 24 = .ok (.getfield 155, 3) := by decide +kernel
theorem dX5_keepState_27 : decode cX5_keepState 27 = .ok (.iconst 1, 1) := by decide +kernel
theorem dX5_keepState_28 : decode cX5_keepState 28 = .ok (.isub, 1) := by decide +kernel
theorem dX5_keepState_29 : decode cX5_keepState 29 = .ok (.putfield 155, 3) := by decide +kernel
theorem dX5_keepState_32 : decode cX5_keepState 32 = .ok (.aload_n 0, 1) := by decide +kernel
theorem dX5_keepState_33 : decode cX5_keepState 33 = .ok (.getfield 16, 3) := by decide +kernel
theorem dX5_keepState_36 : decode cX5_keepState 36 = .ok (.aload_n 0, 1) := by decide +kernel
theorem dX5_keepState_37 : decode cX5_keepState 37 = .ok (.getfield 231, 3) := by decide +kernel
theorem dX5_keepState_40 : decode cX5_keepState 40 = .ok (.aload_n 0, 1) := by decide +kernel
theorem dX5_keepState_41 : decode cX5_keepState 41 = .ok (.getfield 155, 3) := by decide +kernel
theorem dX5_keepState_44 : decode cX5_keepState 44 = .ok (.iadd, 1) := by decide +kernel
theorem dX5_keepState_45 : decode cX5_keepState 45 = .ok (.bipush 6, 2) := by decide +kernel
theorem dX5_keepState_47 : decode cX5_keepState 47 = .ok (.irem, 1) := by decide +kernel
theorem dX5_keepState_48 : decode cX5_keepState 48 = .ok (.invokestatic 234, 3) := by decide +kernel
theorem dX5_keepState_51 : decode cX5_keepState 51 = .ok (.astore_n 1, 1) := by decide +kernel
theorem dX5_keepState_52 : decode cX5_keepState 52 = .ok (.aload_n 1, 1) := by decide +kernel
theorem dX5_keepState_53 : decode cX5_keepState 53 = .ok (.ifnull 21, 3) := by decide +kernel
theorem dX5_keepState_56 : decode cX5_keepState 56 = .ok (.aload_n 1, 1) := by decide +kernel
theorem dX5_keepState_57 : decode cX5_keepState 57 = .ok (.aload_n 0, 1) := by decide +kernel
theorem dX5_keepState_58 : decode cX5_keepState 58 = .ok (.getfield 10, 3) := by decide +kernel
theorem dX5_keepState_61 : decode cX5_keepState 61 = .ok (.invokevirtual 238, 3) := by decide +kernel
theorem dX5_keepState_64 : decode cX5_keepState 64 = .ok (.aload_n 0, 1) := by decide +kernel
theorem dX5_keepState_65 : decode cX5_keepState 65 = .ok (.dup, 1) := by decide +kernel
theorem dX5_keepState_66 : decode cX5_keepState 66 = .ok (.getfield 155, 3) := by decide +kernel
theorem dX5_keepState_69 : decode cX5_keepState 69 = .ok (.iconst 1, 1) := by decide +kernel
theorem dX5_keepState_70 : decode cX5_keepState 70 = .ok (.iadd, 1) := by decide +kernel
theorem dX5_keepState_71 : decode cX5_keepState 71 = .ok (.putfield 155, 3) := by decide +kernel
theorem dX5_keepState_74 : decode cX5_keepState 74 = .ok (.return_, 1) := by decide +kernel
theorem dX5_stateIn_0 : decode cX5_stateIn 0 = .ok (.iload_n 1, 1) := by decide +kernel
theorem dX5_stateIn_1 : decode cX5_stateIn 1 = .ok (.ifCond .lt 15, 3) := by decide +kernel
theorem dX5_stateIn_4 : decode cX5_stateIn 4 = .ok (.iload_n 1, 1) := by decide +kernel
theorem dX5_stateIn_5 : decode cX5_stateIn 5 = .ok (.aload_n 0, 1) := by decide +kernel
theorem dX5_stateIn_6 : decode cX5_stateIn 6 = .ok (.arraylength, 1) := by decide +kernel
theorem dX5_stateIn_7 : decode cX5_stateIn 7 = .ok (.if_icmp .ge 9, 3) := by decide +kernel
theorem dX5_stateIn_10 : decode cX5_stateIn 10 = .ok (.aload_n 0, 1) := by decide +kernel
theorem dX5_stateIn_11 : decode cX5_stateIn 11 = .ok (.iload_n 1, 1) := by decide +kernel
theorem dX5_stateIn_12 : decode cX5_stateIn 12 = .ok (.aaload, 1) := by decide +kernel
theorem dX5_stateIn_13 : decode cX5_stateIn 13 = .ok (.goto 4, 3) := by decide +kernel
theorem dX5_stateIn_16 : decode cX5_stateIn 16 = .ok (.aconst_null, 1) := by decide +kernel
theorem dX5_stateIn_17 : decode cX5_stateIn 17 = .ok (.areturn, 1) := by decide +kernel
theorem dX5_sizeOf_0 : decode cX5_sizeOf 0 = .ok (.lload_n 0, 1) := by decide +kernel
theorem dX5_sizeOf_1 : decode cX5_sizeOf 1 = .ok (.lstore_n 2, 1) := by decide +kernel
theorem dX5_sizeOf_2 : decode cX5_sizeOf 2 = .ok (.iconst 0, 1) := by decide +kernel
theorem dX5_sizeOf_3 : decode cX5_sizeOf 3 = .ok (.istore 4, 2) := by decide +kernel
theorem dX5_sizeOf_5 : decode cX5_sizeOf 5 = .ok (.lload_n 2, 1) := by decide +kernel
theorem dX5_sizeOf_6 : decode cX5_sizeOf 6 = .ok (.lconst 0, 1) := by decide +kernel
theorem dX5_sizeOf_7 : decode cX5_sizeOf 7 = .ok (.lcmp, 1) := by decide +kernel
theorem dX5_sizeOf_8 : decode cX5_sizeOf 8 = .ok (.ifCond .eq 40, 3) := by decide +kernel
theorem dX5_sizeOf_11 : decode cX5_sizeOf 11 = .ok (.iload 4, 2) := by decide +kernel
theorem dX5_sizeOf_13 : decode cX5_sizeOf 13 = .ok (.bipush 8, 2) := by decide +kernel
theorem dX5_sizeOf_15 : decode cX5_sizeOf 15 = .ok (.if_icmp .ge 33, 3) := by decide +kernel
theorem dX5_sizeOf_18 : decode cX5_sizeOf 18 = .ok (.lload_n 2, 1) := by decide +kernel
theorem dX5_sizeOf_19 : decode cX5_sizeOf 19 = .ok (.ldc2_w 91, 3) := by decide +kernel
theorem dX5_sizeOf_22 : decode cX5_sizeOf 22 = .ok (.land, 1) := by decide +kernel
theorem dX5_sizeOf_23 : decode cX5_sizeOf 23 = .ok (.ldc2_w 242, 3) := by decide +kernel
theorem dX5_sizeOf_26 : decode cX5_sizeOf 26 = .ok (.ldc2_w 244, 3) := by decide +kernel
theorem dX5_sizeOf_29 : decode cX5_sizeOf 29 = .ok (.invokestatic 48, 3) := by decide +kernel
theorem dX5_sizeOf_32 : decode cX5_sizeOf 32 = .ok (.ifCond .ne 5, 3) := by decide +kernel
theorem dX5_sizeOf_35 : decode cX5_sizeOf 35 = .ok (.iconst 0, 1) := by decide +kernel
theorem dX5_sizeOf_36 : decode cX5_sizeOf 36 = .ok (.ireturn, 1) := by decide +kernel
theorem dX5_sizeOf_37 : decode cX5_sizeOf 37 = .ok (.lload_n 2, 1) := by decide +kernel
theorem dX5_sizeOf_38 : decode cX5_sizeOf 38 = .ok (.bipush 8, 2) := by decide +kernel
theorem dX5_sizeOf_40 : decode cX5_sizeOf 40 = .ok (.lushr, 1) := by decide +kernel
theorem dX5_sizeOf_41 : decode cX5_sizeOf 41 = .ok (.lstore_n 2, 1) := by decide +kernel
theorem dX5_sizeOf_42 : decode cX5_sizeOf 42 = .ok (.iinc 4 1, 3) := by decide +kernel
theorem dX5_sizeOf_45 : decode cX5_sizeOf 45 = .ok (.goto (-40), 3) := by decide +kernel
theorem dX5_sizeOf_48 : decode cX5_sizeOf 48 = .ok (.iload 4, 2) := by decide +kernel
theorem dX5_sizeOf_50 : decode cX5_sizeOf 50 = .ok (.ireturn, 1) := by decide +kernel
theorem dX5_addToPad_0 : decode cX5_addToPad 0 = .ok (.aload_n 0, 1) := by decide +kernel
theorem dX5_addToPad_1 : decode cX5_addToPad 1 = .ok (.getfield 87, 3) := by decide +kernel
theorem dX5_addToPad_4 : decode cX5_addToPad 4 = .ok (.ifCond .lt 35, 3) := by decide +kernel
theorem dX5_addToPad_7 : decode cX5_addToPad 7 = .ok (.aload_n 0, 1) := by decide +kernel
theorem dX5_addToPad_8 : decode cX5_addToPad 8 = .ok (.getfield 87, 3) := by decide +kernel
theorem dX5_addToPad_11 : decode cX5_addToPad 11 = .ok (.aload_n 0, 1) := by decide +kernel
theorem dX5_addToPad_12 : decode cX5_addToPad 12 = .ok (.getfield 23, 3) := by decide +kernel
theorem dX5_addToPad_15 : decode cX5_addToPad 15 = .ok (.arraylength, 1) := by decide +kernel
theorem dX5_addToPad_16 : decode cX5_addToPad 16 = .ok (.if_icmp .ge 23, 3) := by decide +kernel
theorem dX5_addToPad_19 : decode cX5_addToPad 19 = .ok (.aload_n 0, 1) := by decide +kernel
theorem dX5_addToPad_20 : decode cX5_addToPad 20 = .ok (.getfield 23, 3) := by decide +kernel
theorem dX5_addToPad_23 : decode cX5_addToPad 23 = .ok (.aload_n 0, 1) := by decide +kernel
theorem dX5_addToPad_24 : decode cX5_addToPad 24 = .ok (.getfield 87, 3) := by decide +kernel
theorem dX5_addToPad_27 : decode cX5_addToPad 27 = .ok (.iload_n 1, 1) := by decide +kernel
theorem dX5_addToPad_28 : decode cX5_addToPad 28 = .ok (.castore, 1) := by decide +kernel
theorem dX5_addToPad_29 : decode cX5_addToPad 29 = .ok (.aload_n 0, 1) := by decide +kernel
theorem dX5_addToPad_30 : decode cX5_addToPad 30 = .ok (.dup, 1) := by decide +kernel
theorem dX5_addToPad_31 : decode cX5_addToPad 31 = .ok (.getfield 87, 3) := by decide +kernel
theorem dX5_addToPad_34 : decode cX5_addToPad 34 = .ok (.iconst 1, 1) := by decide +kernel
theorem dX5_addToPad_35 : decode cX5_addToPad 35 = .ok (.iadd, 1) := by decide +kernel
theorem dX5_addToPad_36 : decode cX5_addToPad 36 = .ok (.putfield 87, 3) := by decide +kernel
theorem dX5_addToPad_39 : decode cX5_addToPad 39 = .ok (.return_, 1) := by decide +kernel
theorem dX5_within_0 : decode cX5_within 0 = .ok (.lload_n 0, 1) := by decide +kernel
theorem dX5_within_1 : decode cX5_within 1 = .ok (.lload_n 2, 1) := by decide +kernel
theorem dX5_within_2 : decode cX5_within 2 = .ok (.lcmp, 1) := by decide +kernel
theorem dX5_within_3 : decode cX5_within 3 = .ok (.ifCond .lt 14, 3) := by decide +kernel
theorem dX5_within_6 : decode cX5_within 6 = .ok (.lload_n 0, 1) := by decide +kernel
theorem dX5_within_7 : decode cX5_within 7 = .ok (.lload 4, 2) := by decide +kernel
theorem dX5_within_9 : decode cX5_within 9 = .ok (.lcmp, 1) := by decide +kernel
theorem dX5_within_10 : decode cX5_within 10 = .ok (.ifCond .gt 7, 3) := by decide +kernel
theorem dX5_within_13 : decode cX5_within 13 = .ok (.iconst 1, 1) := by decide +kernel
theorem dX5_within_14 : decode cX5_within 14 = .ok (.goto 4, 3) := by decide +kernel
theorem dX5_within_17 : decode cX5_within 17 = .ok (.iconst 0, 1) := by decide +kernel
theorem dX5_within_18 : decode cX5_within 18 = .ok (.ireturn, 1) := by decide +kernel
theorem dX5_power_0 : decode cX5_power 0 = .ok (.iload_n 2, 1) := by decide +kernel
theorem dX5_power_1 : decode cX5_power 1 = .ok (.iconst 3, 1) := by decide +kernel
theorem dX5_power_2 : decode cX5_power 2 = .ok (.if_icmp .ne 11, 3) := by decide +kernel
theorem dX5_power_5 : decode cX5_power 5 = .ok (.lload_n 0, 1) := by decide +kernel
theorem dX5_power_6 : decode cX5_power 6 = .ok (.lload_n 0, 1) := by decide +kernel
theorem dX5_power_7 : decode cX5_power 7 = .ok (.lmul, 1) := by decide +kernel
theorem dX5_power_8 : decode cX5_power 8 = .ok (.lload_n 0, 1) := by decide +kernel
theorem dX5_power_9 : decode cX5_power 9 = .ok (.lmul, 1) := by decide +kernel
theorem dX5_power_10 : decode cX5_power 10 = .ok (.goto 6, 3) := by decide +kernel
theorem dX5_power_13 : decode cX5_power 13 = .ok (.lload_n 0, 1) := by decide +kernel
theorem dX5_power_14 : decode cX5_power 14 = .ok (.lload_n 0, 1) := by decide +kernel
theorem dX5_power_15 : decode cX5_power 15 = .ok (.lmul, 1) := by decide +kernel
theorem dX5_power_16 : decode cX5_power 16 = .ok (.lreturn, 1) := by decide +kernel
theorem dX5_firstBit_0 : decode cX5_firstBit 0 = .ok (.lload_n 0, 1) := by decide +kernel
theorem dX5_firstBit_1 : decode cX5_firstBit 1 = .ok (.lconst 1, 1) := by decide +kernel
theorem dX5_firstBit_2 : decode cX5_firstBit 2 = .ok (.lcmp, 1) := by decide +kernel
theorem dX5_firstBit_3 : decode cX5_firstBit 3 = .ok (.ifCond .ge 5, 3) := by decide +kernel
theorem dX5_firstBit_6 : decode cX5_firstBit 6 = .ok (.lconst 0, 1) := by decide +kernel
theorem dX5_firstBit_7 : decode cX5_firstBit 7 = .ok (.lreturn, 1) := by decide +kernel
theorem dX5_firstBit_8 : decode cX5_firstBit 8 = .ok (.lconst 1, 1) := by decide +kernel
theorem dX5_firstBit_9 : decode cX5_firstBit 9 = .ok (.lstore_n 3, 1) := by decide +kernel
theorem dX5_firstBit_10 : decode cX5_firstBit 10 = .ok (.lload_n 3, 1) := by decide +kernel
theorem dX5_firstBit_11 : decode cX5_firstBit 11 = .ok (.ldc2_w 248, 3) := by decide +kernel
theorem dX5_firstBit_14 : decode cX5_firstBit 14 = .ok (.lcmp, 1) := by decide +kernel
theorem dX5_firstBit_15 : decode cX5_firstBit 15 = .ok (.ifCond .ge 26, 3) := by decide +kernel
theorem dX5_firstBit_18 : decode cX5_firstBit 18 = .ok (.ldc2_w 52, 3) := by decide +kernel
theorem dX5_firstBit_21 : decode cX5_firstBit 21 = .ok (.lload_n 3, 1) := by decide +kernel
theorem dX5_firstBit_22 : decode cX5_firstBit 22 = .ok (.lmul, 1) := by decide +kernel
theorem dX5_firstBit_23 : decode cX5_firstBit 23 = .ok (.iload_n 2, 1) := by decide +kernel
theorem dX5_firstBit_24 : decode cX5_firstBit 24 = .ok (.invokestatic 171, 3) := by decide +kernel
theorem dX5_firstBit_27 : decode cX5_firstBit 27 = .ok (.lload_n 0, 1) := by decide +kernel
theorem dX5_firstBit_28 : decode cX5_firstBit 28 = .ok (.lcmp, 1) := by decide +kernel
theorem dX5_firstBit_29 : decode cX5_firstBit 29 = .ok (.ifCond .gt 12, 3) := by decide +kernel
theorem dX5_firstBit_32 : decode cX5_firstBit 32 = .ok (.lload_n 3, 1) := by decide +kernel
theorem dX5_firstBit_33 : decode cX5_firstBit 33 = .ok (.ldc2_w 52, 3) := by decide +kernel
theorem dX5_firstBit_36 : decode cX5_firstBit 36 = .ok (.lmul, 1) := by decide +kernel
theorem dX5_firstBit_37 : decode cX5_firstBit 37 = .ok (.lstore_n 3, 1) := by decide +kernel
theorem dX5_firstBit_38 : decode cX5_firstBit 38 = .ok (.goto (-28), 3) := by decide +kernel
theorem dX5_firstBit_41 : decode cX5_firstBit 41 = .ok (.lload_n 3, 1) := by decide +kernel
theorem dX5_firstBit_42 : decode cX5_firstBit 42 = .ok (.lreturn, 1) := by decide +kernel
theorem dX5_rootDown_0 : decode cX5_rootDown 0 = .ok (.lconst 0, 1) := by decide +kernel
theorem dX5_rootDown_1 : decode cX5_rootDown 1 = .ok (.lstore_n 3, 1) := by decide +kernel
theorem dX5_rootDown_2 : decode cX5_rootDown 2 = .ok (.lload_n 0, 1) := by decide +kernel
theorem dX5_rootDown_3 : decode cX5_rootDown 3 = .ok (.iload_n 2, 1) := by decide +kernel
theorem dX5_rootDown_4 : decode cX5_rootDown 4 = .ok (.invokestatic 250, 3) := by decide +kernel
theorem dX5_rootDown_7 : decode cX5_rootDown 7 = .ok (.lstore 5, 2) := by decide +kernel
theorem dX5_rootDown_9 : decode cX5_rootDown 9 = .ok (.lload 5, 2) := by decide +kernel
theorem dX5_rootDown_11 : decode cX5_rootDown 11 = .ok (.lconst 0, 1) := by decide +kernel
theorem dX5_rootDown_12 : decode cX5_rootDown 12 = .ok (.lcmp, 1) := by decide +kernel
theorem dX5_rootDown_13 : decode cX5_rootDown 13 = .ok (.ifCond .le 32, 3) := by decide +kernel
theorem dX5_rootDown_16 : decode cX5_rootDown 16 = .ok (.lload_n 3, 1) := by decide +kernel
theorem dX5_rootDown_17 : decode cX5_rootDown 17 = .ok (.lload 5, 2) := by decide +kernel
theorem dX5_rootDown_19 : decode cX5_rootDown 19 = .ok (.ladd, 1) := by decide +kernel
theorem dX5_rootDown_20 : decode cX5_rootDown 20 = .ok (.iload_n 2, 1) := by decide +kernel
theorem dX5_rootDown_21 : decode cX5_rootDown 21 = .ok (.invokestatic 171, 3) := by decide +kernel
theorem dX5_rootDown_24 : decode cX5_rootDown 24 = .ok (.lload_n 0, 1) := by decide +kernel
theorem dX5_rootDown_25 : decode cX5_rootDown 25 = .ok (.lcmp, 1) := by decide +kernel
theorem dX5_rootDown_26 : decode cX5_rootDown 26 = .ok (.ifCond .gt 8, 3) := by decide +kernel
theorem dX5_rootDown_29 : decode cX5_rootDown 29 = .ok (.lload_n 3, 1) := by decide +kernel
theorem dX5_rootDown_30 : decode cX5_rootDown 30 = .ok (.lload 5, 2) := by decide +kernel
theorem dX5_rootDown_32 : decode cX5_rootDown 32 = .ok (.ladd, 1) := by decide +kernel
theorem dX5_rootDown_33 : decode cX5_rootDown 33 = .ok (.lstore_n 3, 1) := by decide +kernel
theorem dX5_rootDown_34 : decode cX5_rootDown 34 = .ok (.lload 5, 2) := by decide +kernel
theorem dX5_rootDown_36 : decode cX5_rootDown 36 = .ok (.ldc2_w 52, 3) := by decide +kernel
theorem dX5_rootDown_39 : decode cX5_rootDown 39 = .ok (.ldiv, 1) := by decide +kernel
theorem dX5_rootDown_40 : decode cX5_rootDown 40 = .ok (.lstore 5, 2) := by decide +kernel
theorem dX5_rootDown_42 : decode cX5_rootDown 42 = .ok (.goto (-33), 3) := by decide +kernel
theorem dX5_rootDown_45 : decode cX5_rootDown 45 = .ok (.lload_n 3, 1) := by decide +kernel
theorem dX5_rootDown_46 : decode cX5_rootDown 46 = .ok (.lreturn, 1) := by decide +kernel
theorem dX5_rootRounded_0 : decode cX5_rootRounded 0 = .ok (.lload_n 0, 1) := by decide +kernel
theorem dX5_rootRounded_1 : decode cX5_rootRounded 1 = .ok (.iload_n 2, 1) := by decide +kernel
theorem dX5_rootRounded_2 : decode cX5_rootRounded 2 = .ok (.invokestatic 167, 3) := by decide +kernel
theorem dX5_rootRounded_5 : decode cX5_rootRounded 5 = .ok (.lstore 4, 2) := by decide +kernel
theorem dX5_rootRounded_7 : decode cX5_rootRounded 7 = .ok (.lload_n 0, 1) := by decide +kernel
theorem dX5_rootRounded_8 : decode cX5_rootRounded 8 = .ok (.lload 4, 2) := by decide +kernel
theorem dX5_rootRounded_10 : decode cX5_rootRounded 10 = .ok (.iload_n 2, 1) := by decide +kernel
theorem dX5_rootRounded_11 : decode cX5_rootRounded 11 = .ok (.invokestatic 171, 3) := by decide +kernel
theorem dX5_rootRounded_14 : decode cX5_rootRounded 14 = .ok (.lsub, 1) := by decide +kernel
theorem dX5_rootRounded_15 : decode cX5_rootRounded 15 = .ok (.lstore 6, 2) := by decide +kernel
theorem dX5_rootRounded_17 : decode cX5_rootRounded 17 = .ok (.iload_n 3, 1) := by decide +kernel
theorem dX5_rootRounded_18 : decode cX5_rootRounded 18 = .ok (.iconst 2, 1) := by decide +kernel
theorem dX5_rootRounded_19 : decode cX5_rootRounded 19 = .ok (.if_icmp .ne 20, 3) := by decide +kernel
theorem dX5_rootRounded_22 : decode cX5_rootRounded 22 = .ok (.lload 6, 2) := by decide +kernel
theorem dX5_rootRounded_24 : decode cX5_rootRounded 24 = .ok (.lconst 0, 1) := by decide +kernel
theorem dX5_rootRounded_25 : decode cX5_rootRounded 25 = .ok (.lcmp, 1) := by decide +kernel
theorem dX5_rootRounded_26 : decode cX5_rootRounded 26 = .ok (.ifCond .le 10, 3) := by decide +kernel
theorem dX5_rootRounded_29 : decode cX5_rootRounded 29 = .ok (.lload 4, 2) := by decide +kernel
theorem dX5_rootRounded_31 : decode cX5_rootRounded 31 = .ok (.lconst 1, 1) := by decide +kernel
theorem dX5_rootRounded_32 : decode cX5_rootRounded 32 = .ok (.ladd, 1) := by decide +kernel
theorem dX5_rootRounded_33 : decode cX5_rootRounded 33 = .ok (.goto 5, 3) := by decide +kernel
theorem dX5_rootRounded_36 : decode cX5_rootRounded 36 = .ok (.lload 4, 2) := by decide +kernel
theorem dX5_rootRounded_38 : decode cX5_rootRounded 38 = .ok (.lreturn, 1) := by decide +kernel
theorem dX5_rootRounded_39 : decode cX5_rootRounded 39 = .ok (.iload_n 3, 1) := by decide +kernel
theorem dX5_rootRounded_40 : decode cX5_rootRounded 40 = .ok (.iconst 1, 1) := by decide +kernel
theorem dX5_rootRounded_41 : decode cX5_rootRounded 41 = .ok (.if_icmp .ne 67, 3) := by decide +kernel
theorem dX5_rootRounded_44 : decode cX5_rootRounded 44 = .ok (.iload_n 2, 1) := by decide +kernel
theorem dX5_rootRounded_45 : decode cX5_rootRounded 45 = .ok (.iconst 3, 1) := by decide +kernel
theorem dX5_rootRounded_46 : decode cX5_rootRounded 46 = .ok (.if_icmp .ne 32, 3) := by decide +kernel
theorem dX5_rootRounded_49 : decode cX5_rootRounded 49 = .ok (.ldc2_w 253, 3) := by decide +kernel
theorem dX5_rootRounded_52 : decode cX5_rootRounded 52 = .ok (.lload_n 0, 1) := by decide +kernel
theorem dX5_rootRounded_53 : decode cX5_rootRounded 53 = .ok (.lmul, 1) := by decide +kernel
theorem dX5_rootRounded_54 : decode cX5_rootRounded 54 = .ok (.ldc2_w 52, 3) := by decide +kernel
theorem dX5_rootRounded_57 : decode cX5_rootRounded 57 = .ok (.lload 4, 2) := by decide +kernel
theorem dX5_rootRounded_59 : decode cX5_rootRounded 59 = .ok (.lmul, 1) := by decide +kernel
theorem dX5_rootRounded_60 : decode cX5_rootRounded 60 = .ok (.lconst 1, 1) := by decide +kernel
theorem dX5_rootRounded_61 : decode cX5_rootRounded 61 = .ok (.ladd, 1) := by decide +kernel
theorem dX5_rootRounded_62 : decode cX5_rootRounded 62 = .ok (.iconst 3, 1) := by decide +kernel
theorem dX5_rootRounded_63 : decode cX5_rootRounded 63 = .ok (.invokestatic 171, 3) := by decide +kernel
theorem dX5_rootRounded_66 : decode cX5_rootRounded 66 = .ok (.lcmp, 1) := by decide +kernel
theorem dX5_rootRounded_67 : decode cX5_rootRounded 67 = .ok (.ifCond .le 7, 3) := by decide +kernel
theorem dX5_rootRounded_70 : decode cX5_rootRounded 70 = .ok (.iconst 1, 1) := by decide +kernel
theorem dX5_rootRounded_71 : decode cX5_rootRounded 71 = .ok (.goto 20, 3) := by decide +kernel
theorem dX5_rootRounded_74 : decode cX5_rootRounded 74 = .ok (.iconst 0, 1) := by decide +kernel
theorem dX5_rootRounded_75 : decode cX5_rootRounded 75 = .ok (.goto 16, 3) := by decide +kernel
theorem dX5_rootRounded_78 : decode cX5_rootRounded 78 = .ok (.lload 6, 2) := by decide +kernel
theorem dX5_rootRounded_80 : decode cX5_rootRounded 80 = .ok (.lload 4, 2) := by decide +kernel
theorem dX5_rootRounded_82 : decode cX5_rootRounded 82 = .ok (.lcmp, 1) := by decide +kernel
theorem dX5_rootRounded_83 : decode cX5_rootRounded 83 = .ok (.ifCond .le 7, 3) := by decide +kernel
theorem dX5_rootRounded_86 : decode cX5_rootRounded 86 = .ok (.iconst 1, 1) := by decide +kernel
theorem dX5_rootRounded_87 : decode cX5_rootRounded 87 = .ok (.goto 4, 3) := by decide +kernel
theorem dX5_rootRounded_90 : decode cX5_rootRounded 90 = .ok (.iconst 0, 1) := by decide +kernel
theorem dX5_rootRounded_91 : decode cX5_rootRounded 91 = .ok (.istore 8, 2) := by decide +kernel
theorem dX5_rootRounded_93 : decode cX5_rootRounded 93 = .ok (.iload 8, 2) := by decide +kernel
theorem dX5_rootRounded_95 : decode cX5_rootRounded 95 = .ok (.ifCond .eq 10, 3) := by decide +kernel
theorem dX5_rootRounded_98 : decode cX5_rootRounded 98 = .ok (.lload 4, 2) := by decide +kernel
theorem dX5_rootRounded_100 : decode cX5_rootRounded 100 = .ok (.lconst 1, 1) := by decide +kernel
theorem dX5_rootRounded_101 : decode cX5_rootRounded 101 = .ok (.ladd, 1) := by decide +kernel
theorem dX5_rootRounded_102 : decode cX5_rootRounded 102 = .ok (.goto 5, 3) := by decide +kernel
theorem dX5_rootRounded_105 : decode cX5_rootRounded 105 = .ok (.lload 4, 2) := by decide +kernel
theorem dX5_rootRounded_107 : decode cX5_rootRounded 107 = .ok (.lreturn, 1) := by decide +kernel
theorem dX5_rootRounded_108 : decode cX5_rootRounded 108 = .ok (.lload 4, 2) := by decide +kernel
theorem dX5_rootRounded_110 : decode cX5_rootRounded 110 = .ok (.lreturn, 1) := by decide +kernel
theorem dX5_bitsOfRoot_0 : decode cX5_bitsOfRoot 0 = .ok (.iconst 0, 1) := by decide +kernel
theorem dX5_bitsOfRoot_1 : decode cX5_bitsOfRoot 1 = .ok (.istore_n 3, 1) := by decide +kernel
theorem dX5_bitsOfRoot_2 : decode cX5_bitsOfRoot 2 = .ok (.lload_n 0, 1) := by decide +kernel
theorem dX5_bitsOfRoot_3 : decode cX5_bitsOfRoot 3 = .ok (.iload_n 2, 1) := by decide +kernel
theorem dX5_bitsOfRoot_4 : decode cX5_bitsOfRoot 4 = .ok (.invokestatic 250, 3) := by decide +kernel
theorem dX5_bitsOfRoot_7 : decode cX5_bitsOfRoot 7 = .ok (.lstore 4, 2) := by decide +kernel
theorem dX5_bitsOfRoot_9 : decode cX5_bitsOfRoot 9 = .ok (.lload 4, 2) := by decide +kernel
theorem dX5_bitsOfRoot_11 : decode cX5_bitsOfRoot 11 = .ok (.lconst 0, 1) := by decide +kernel
theorem dX5_bitsOfRoot_12 : decode cX5_bitsOfRoot 12 = .ok (.lcmp, 1) := by decide +kernel
theorem dX5_bitsOfRoot_13 : decode cX5_bitsOfRoot 13 = .ok (.ifCond .le 17, 3) := by decide +kernel
theorem dX5_bitsOfRoot_16 : decode cX5_bitsOfRoot 16 = .ok (.iinc 3 1, 3) := by decide +kernel
theorem dX5_bitsOfRoot_19 : decode cX5_bitsOfRoot 19 = .ok (.lload 4, 2) := by decide +kernel
theorem dX5_bitsOfRoot_21 : decode cX5_bitsOfRoot 21 = .ok (.ldc2_w 52, 3) := by decide +kernel
theorem dX5_bitsOfRoot_24 : decode cX5_bitsOfRoot 24 = .ok (.ldiv, 1) := by decide +kernel
theorem dX5_bitsOfRoot_25 : decode cX5_bitsOfRoot 25 = .ok (.lstore 4, 2) := by decide +kernel
theorem dX5_bitsOfRoot_27 : decode cX5_bitsOfRoot 27 = .ok (.goto (-18), 3) := by decide +kernel
theorem dX5_bitsOfRoot_30 : decode cX5_bitsOfRoot 30 = .ok (.iload_n 3, 1) := by decide +kernel
theorem dX5_bitsOfRoot_31 : decode cX5_bitsOfRoot 31 = .ok (.ireturn, 1) := by decide +kernel
theorem dX5_behindBit_0 : decode cX5_behindBit 0 = .ok (.lconst 0, 1) := by decide +kernel
theorem dX5_behindBit_1 : decode cX5_behindBit 1 = .ok (.lstore 5, 2) := by decide +kernel
theorem dX5_behindBit_3 : decode cX5_behindBit 3 = .ok (.iconst 0, 1) := by decide +kernel
theorem dX5_behindBit_4 : decode cX5_behindBit 4 = .ok (.istore 7, 2) := by decide +kernel
theorem dX5_behindBit_6 : decode cX5_behindBit 6 = .ok (.lload_n 0, 1) := by decide +kernel
theorem dX5_behindBit_7 : decode cX5_behindBit 7 = .ok (.iload_n 2, 1) := by decide +kernel
theorem dX5_behindBit_8 : decode cX5_behindBit 8 = .ok (.invokestatic 250, 3) := by decide +kernel
theorem dX5_behindBit_11 : decode cX5_behindBit 11 = .ok (.lstore 8, 2) := by decide +kernel
theorem dX5_behindBit_13 : decode cX5_behindBit 13 = .ok (.lload 8, 2) := by decide +kernel
theorem dX5_behindBit_15 : decode cX5_behindBit 15 = .ok (.lconst 0, 1) := by decide +kernel
theorem dX5_behindBit_16 : decode cX5_behindBit 16 = .ok (.lcmp, 1) := by decide +kernel
theorem dX5_behindBit_17 : decode cX5_behindBit 17 = .ok (.ifCond .le 111, 3) := by decide +kernel
theorem dX5_behindBit_20 : decode cX5_behindBit 20 = .ok (.lload 5, 2) := by decide +kernel
theorem dX5_behindBit_22 : decode cX5_behindBit 22 = .ok (.lload 8, 2) := by decide +kernel
theorem dX5_behindBit_24 : decode cX5_behindBit 24 = .ok (.ladd, 1) := by decide +kernel
theorem dX5_behindBit_25 : decode cX5_behindBit 25 = .ok (.iload_n 2, 1) := by decide +kernel
theorem dX5_behindBit_26 : decode cX5_behindBit 26 = .ok (.invokestatic 171, 3) := by decide +kernel
theorem dX5_behindBit_29 : decode cX5_behindBit 29 = .ok (.lload_n 0, 1) := by decide +kernel
theorem dX5_behindBit_30 : decode cX5_behindBit 30 = .ok (.lcmp, 1) := by decide +kernel
theorem dX5_behindBit_31 : decode cX5_behindBit 31 = .ok (.ifCond .gt 7, 3) := by decide +kernel
theorem dX5_behindBit_34 : decode cX5_behindBit 34 = .ok (.iconst 1, 1) := by decide +kernel
theorem dX5_behindBit_35 : decode cX5_behindBit 35 = .ok (.goto 4, 3) := by decide +kernel
theorem dX5_behindBit_38 : decode cX5_behindBit 38 = .ok (.iconst 0, 1) := by decide +kernel
theorem dX5_behindBit_39 : decode cX5_behindBit 39 = .ok (.istore 10, 2) := by decide +kernel
theorem dX5_behindBit_41 : decode cX5_behindBit 41 = .ok (.iload 10, 2) := by decide +kernel
theorem dX5_behindBit_43 : decode cX5_behindBit 43 = .ok (.ifCond .eq 10, 3) := by decide +kernel
theorem dX5_behindBit_46 : decode cX5_behindBit 46 = .ok (.lload 5, 2) := by decide +kernel
theorem dX5_behindBit_48 : decode cX5_behindBit 48 = .ok (.lload 8, 2) := by decide +kernel
theorem dX5_behindBit_50 : decode cX5_behindBit 50 = .ok (.ladd, 1) := by decide +kernel
theorem dX5_behindBit_51 : decode cX5_behindBit 51 = .ok (.lstore 5, 2) := by decide +kernel
theorem dX5_behindBit_53 : decode cX5_behindBit 53 = .ok (.iload 7, 2) := by decide +kernel
theorem dX5_behindBit_55 : decode cX5_behindBit 55 = .ok (.iload_n 3, 1) := by decide +kernel
theorem dX5_behindBit_56 : decode cX5_behindBit 56 = .ok (.if_icmp .ne 58, 3) := by decide +kernel
theorem dX5_behindBit_59 : decode cX5_behindBit 59 = .ok (.iload 4, 2) := by decide +kernel
theorem dX5_behindBit_61 : decode cX5_behindBit 61 = .ok (.tableswitch 44 0 2 #[27, 30, 41], 27) := by decide +kernel
theorem dX5_behindBit_88 : decode cX5_behindBit 88 = .ok (.lload 8, 2) := by decide +kernel
theorem dX5_behindBit_90 : decode cX5_behindBit 90 = .ok (.lreturn, 1) := by decide +kernel
theorem dX5_behindBit_91 : decode cX5_behindBit 91 = .ok (.iload 10, 2) := by decide +kernel
theorem dX5_behindBit_93 : decode cX5_behindBit 93 = .ok (.ifCond .eq 7, 3) := by decide +kernel
theorem dX5_behindBit_96 : decode cX5_behindBit 96 = .ok (.lconst 1, 1) := by decide +kernel
theorem dX5_behindBit_97 : decode cX5_behindBit 97 = .ok (.goto 4, 3) := by decide +kernel
theorem dX5_behindBit_100 : decode cX5_behindBit 100 = .ok (.lconst 0, 1) := by decide +kernel
theorem dX5_behindBit_101 : decode cX5_behindBit 101 = .ok (.lreturn, 1) := by decide +kernel
theorem dX5_behindBit_102 : decode cX5_behindBit 102 = .ok (.lload 5, 2) := by decide +kernel
theorem dX5_behindBit_104 : decode cX5_behindBit 104 = .ok (.lreturn, 1) := by decide +kernel
theorem dX5_behindBit_105 : decode cX5_behindBit 105 = .ok (.lload_n 0, 1) := by decide +kernel
theorem dX5_behindBit_106 : decode cX5_behindBit 106 = .ok (.lload 5, 2) := by decide +kernel
theorem dX5_behindBit_108 : decode cX5_behindBit 108 = .ok (.iload_n 2, 1) := by decide +kernel
theorem dX5_behindBit_109 : decode cX5_behindBit 109 = .ok (.invokestatic 171, 3) := by decide +kernel
theorem dX5_behindBit_112 : decode cX5_behindBit 112 = .ok (.lsub, 1) := by decide +kernel
theorem dX5_behindBit_113 : decode cX5_behindBit 113 = .ok (.lreturn, 1) := by decide +kernel
theorem dX5_behindBit_114 : decode cX5_behindBit 114 = .ok (.iinc 7 1, 3) := by decide +kernel
theorem dX5_behindBit_117 : decode cX5_behindBit 117 = .ok (.lload 8, 2) := by decide +kernel
theorem dX5_behindBit_119 : decode cX5_behindBit 119 = .ok (.ldc2_w 52, 3) := by decide +kernel
theorem dX5_behindBit_122 : decode cX5_behindBit 122 = .ok (.ldiv, 1) := by decide +kernel
theorem dX5_behindBit_123 : decode cX5_behindBit 123 = .ok (.lstore 8, 2) := by decide +kernel
theorem dX5_behindBit_125 : decode cX5_behindBit 125 = .ok (.goto (-112), 3) := by decide +kernel
theorem dX5_behindBit_128 : decode cX5_behindBit 128 = .ok (.ldc2_w 213, 3) := by decide +kernel
theorem dX5_behindBit_131 : decode cX5_behindBit 131 = .ok (.lreturn, 1) := by decide +kernel
