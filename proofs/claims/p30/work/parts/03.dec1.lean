theorem dX0_init_0 : decode cX0_init 0 = .ok (.aload_n 0, 1) := by decide +kernel
theorem dX0_init_1 : decode cX0_init 1 = .ok (.invokespecial 3, 3) := by decide +kernel
theorem dX0_init_4 : decode cX0_init 4 = .ok (.aload_n 0, 1) := by decide +kernel
theorem dX0_init_5 : decode cX0_init 5 = .ok (.iconst 0, 1) := by decide +kernel
theorem dX0_init_6 : decode cX0_init 6 = .ok (.iload_n 2, 1) := by decide +kernel
theorem dX0_init_7 : decode cX0_init 7 = .ok (.invokestatic 9, 3) := by decide +kernel
theorem dX0_init_10 : decode cX0_init 10 = .ok (.newarray .int, 2) := by decide +kernel
theorem dX0_init_12 : decode cX0_init 12 = .ok (.putfield 15, 3) := by decide +kernel
theorem dX0_init_15 : decode cX0_init 15 = .ok (.iconst 0, 1) := by decide +kernel
theorem dX0_init_16 : decode cX0_init 16 = .ok (.istore_n 3, 1) := by decide +kernel
theorem dX0_init_17 : decode cX0_init 17 = .ok (.iload_n 3, 1) := by decide +kernel
theorem dX0_init_18 : decode cX0_init 18 = .ok (.aload_n 0, 1) := by decide +kernel
theorem dX0_init_19 : decode cX0_init 19 = .ok (.getfield 15, 3) := by decide +kernel
theorem dX0_init_22 : decode cX0_init 22 = .ok (.arraylength, 1) := by decide +kernel
theorem dX0_init_23 : decode cX0_init 23 = .ok (.if_icmp .ge 24, 3) := by decide +kernel
theorem dX0_init_26 : decode cX0_init 26 = .ok (.iload_n 3, 1) := by decide +kernel
theorem dX0_init_27 : decode cX0_init 27 = .ok (.aload_n 1, 1) := by decide +kernel
theorem dX0_init_28 : decode cX0_init 28 = .ok (.arraylength, 1) := by decide +kernel
theorem dX0_init_29 : decode cX0_init 29 = .ok (.if_icmp .ge 18, 3) := by decide +kernel
theorem dX0_init_32 : decode cX0_init 32 = .ok (.aload_n 0, 1) := by decide +kernel
theorem dX0_init_33 : decode cX0_init 33 = .ok (.getfield 15, 3) := by decide +kernel
theorem dX0_init_36 : decode cX0_init 36 = .ok (.iload_n 3, 1) := by decide +kernel
theorem dX0_init_37 : decode cX0_init 37 = .ok (.aload_n 1, 1) := by decide +kernel
theorem dX0_init_38 : decode cX0_init 38 = .ok (.iload_n 3, 1) := by decide +kernel
theorem dX0_init_39 : decode cX0_init 39 = .ok (.iaload, 1) := by decide +kernel
theorem dX0_init_40 : decode cX0_init 40 = .ok (.iastore, 1) := by decide +kernel
theorem dX0_init_41 : decode cX0_init 41 = .ok (.iinc 3 1, 3) := by decide +kernel
theorem dX0_init_44 : decode cX0_init 44 = .ok (.goto (-27), 3) := by decide +kernel
theorem dX0_init_47 : decode cX0_init 47 = .ok (.return_, 1) := by decide +kernel
theorem dX0_cellsNamed_0 : decode cX0_cellsNamed 0 = .ok (.iconst 0, 1) := by decide +kernel
theorem dX0_cellsNamed_1 : decode cX0_cellsNamed 1 = .ok (.istore_n 1, 1) := by decide +kernel
theorem dX0_cellsNamed_2 : decode cX0_cellsNamed 2 = .ok (.iconst 0, 1) := by decide +kernel
theorem dX0_cellsNamed_3 : decode cX0_cellsNamed 3 = .ok (.istore_n 2, 1) := by decide +kernel
theorem dX0_cellsNamed_4 : decode cX0_cellsNamed 4 = .ok (.iload_n 2, 1) := by decide +kernel
theorem dX0_cellsNamed_5 : decode cX0_cellsNamed 5 = .ok (.aload_n 0, 1) := by decide +kernel
theorem dX0_cellsNamed_6 : decode cX0_cellsNamed 6 = .ok (.getfield 15, 3) := by decide +kernel
theorem dX0_cellsNamed_9 : decode cX0_cellsNamed 9 = .ok (.arraylength, 1) := by decide +kernel
theorem dX0_cellsNamed_10 : decode cX0_cellsNamed 10 = .ok (.if_icmp .ge 41, 3) := by decide +kernel
theorem dX0_cellsNamed_13 : decode cX0_cellsNamed 13 = .ok (.aload_n 0, 1) := by decide +kernel
theorem dX0_cellsNamed_14 : decode cX0_cellsNamed 14 = .ok (.getfield 15, 3) := by decide +kernel
theorem dX0_cellsNamed_17 : decode cX0_cellsNamed 17 = .ok (.iload_n 2, 1) := by decide +kernel
theorem dX0_cellsNamed_18 : decode cX0_cellsNamed 18 = .ok (.iaload, 1) := by decide +kernel
theorem dX0_cellsNamed_19 : decode cX0_cellsNamed 19 = .ok (.sipush 10000, 3) := by decide +kernel
theorem dX0_cellsNamed_22 : decode cX0_cellsNamed 22 = .ok (.isub, 1) := by decide +kernel
theorem dX0_cellsNamed_23 : decode cX0_cellsNamed 23 = .ok (.bipush 65, 2) := by decide +kernel
theorem dX0_cellsNamed_25 : decode cX0_cellsNamed 25 = .ok (.isub, 1) := by decide +kernel
theorem dX0_cellsNamed_26 : decode cX0_cellsNamed 26 = .ok (.istore_n 3, 1) := by decide +kernel
theorem dX0_cellsNamed_27 : decode cX0_cellsNamed 27 = .ok (.iload_n 3, 1) := by decide +kernel
theorem dX0_cellsNamed_28 : decode cX0_cellsNamed 28 = .ok (.i2l, 1) := by decide +kernel
theorem dX0_cellsNamed_29 : decode cX0_cellsNamed 29 = .ok (.lconst 0, 1) := by decide +kernel
theorem dX0_cellsNamed_30 : decode cX0_cellsNamed 30 = .ok (.ldc2_w 21, 3) := by decide +kernel
theorem dX0_cellsNamed_33 : decode cX0_cellsNamed 33 = .ok (.invokestatic 23, 3) := by decide +kernel
theorem dX0_cellsNamed_36 : decode cX0_cellsNamed 36 = .ok (.ifCond .eq 9, 3) := by decide +kernel
theorem dX0_cellsNamed_39 : decode cX0_cellsNamed 39 = .ok (.iload_n 1, 1) := by decide +kernel
theorem dX0_cellsNamed_40 : decode cX0_cellsNamed 40 = .ok (.iconst 1, 1) := by decide +kernel
theorem dX0_cellsNamed_41 : decode cX0_cellsNamed 41 = .ok (.iload_n 3, 1) := by decide +kernel
theorem dX0_cellsNamed_42 : decode cX0_cellsNamed 42 = .ok (.ishl, 1) := by decide +kernel
theorem dX0_cellsNamed_43 : decode cX0_cellsNamed 43 = .ok (.ior, 1) := by decide +kernel
theorem dX0_cellsNamed_44 : decode cX0_cellsNamed 44 = .ok (.istore_n 1, 1) := by decide +kernel
theorem dX0_cellsNamed_45 : decode cX0_cellsNamed 45 = .ok (.iinc 2 1, 3) := by decide +kernel
theorem dX0_cellsNamed_48 : decode cX0_cellsNamed 48 = .ok (.goto (-44), 3) := by decide +kernel
theorem dX0_cellsNamed_51 : decode cX0_cellsNamed 51 = .ok (.iload_n 1, 1) := by decide +kernel
theorem dX0_cellsNamed_52 : decode cX0_cellsNamed 52 = .ok (.ireturn, 1) := by decide +kernel
theorem dX0_rootsInside_0 : decode cX0_rootsInside 0 = .ok (.iconst 0, 1) := by decide +kernel
theorem dX0_rootsInside_1 : decode cX0_rootsInside 1 = .ok (.istore_n 1, 1) := by decide +kernel
theorem dX0_rootsInside_2 : decode cX0_rootsInside 2 = .ok (.iconst 0, 1) := by decide +kernel
theorem dX0_rootsInside_3 : decode cX0_rootsInside 3 = .ok (.istore_n 2, 1) := by decide +kernel
theorem dX0_rootsInside_4 : decode cX0_rootsInside 4 = .ok (.iload_n 2, 1) := by decide +kernel
theorem dX0_rootsInside_5 : decode cX0_rootsInside 5 = .ok (.aload_n 0, 1) := by decide +kernel
theorem dX0_rootsInside_6 : decode cX0_rootsInside 6 = .ok (.getfield 15, 3) := by decide +kernel
theorem dX0_rootsInside_9 : decode cX0_rootsInside 9 = .ok (.arraylength, 1) := by decide +kernel
theorem dX0_rootsInside_10 : decode cX0_rootsInside 10 = .ok (.if_icmp .ge 36, 3) := by decide +kernel
theorem dX0_rootsInside_13 : decode cX0_rootsInside 13 = .ok (.aload_n 0, 1) := by decide +kernel
theorem dX0_rootsInside_14 : decode cX0_rootsInside 14 = .ok (.getfield 15, 3) := by decide +kernel
theorem dX0_rootsInside_17 : decode cX0_rootsInside 17 = .ok (.iload_n 2, 1) := by decide +kernel
theorem dX0_rootsInside_18 : decode cX0_rootsInside 18 = .ok (.iaload, 1) := by decide +kernel
theorem dX0_rootsInside_19 : decode cX0_rootsInside 19 = .ok (.sipush 10113, 3) := by decide +kernel
theorem dX0_rootsInside_22 : decode cX0_rootsInside 22 = .ok (.if_icmp .eq 15, 3) := by decide +kernel
theorem dX0_rootsInside_25 : decode cX0_rootsInside 25 = .ok (.aload_n 0, 1) := by decide +kernel
theorem dX0_rootsInside_26 : decode cX0_rootsInside 26 = .ok (.getfield 15, 3) := by decide +kernel
theorem dX0_rootsInside_29 : decode cX0_rootsInside 29 = .ok (.iload_n 2, 1) := by decide +kernel
theorem dX0_rootsInside_30 : decode cX0_rootsInside 30 = .ok (.iaload, 1) := by decide +kernel
theorem dX0_rootsInside_31 : decode cX0_rootsInside 31 = .ok (.sipush 10107, 3) := by decide +kernel
theorem dX0_rootsInside_34 : decode cX0_rootsInside 34 = .ok (.if_icmp .ne 6, 3) := by decide +kernel
theorem dX0_rootsInside_37 : decode cX0_rootsInside 37 = .ok (.iinc 1 1, 3) := by decide +kernel
theorem dX0_rootsInside_40 : decode cX0_rootsInside 40 = .ok (.iinc 2 1, 3) := by decide +kernel
theorem dX0_rootsInside_43 : decode cX0_rootsInside 43 = .ok (.goto (-39), 3) := by decide +kernel
theorem dX0_rootsInside_46 : decode cX0_rootsInside 46 = .ok (.iload_n 1, 1) := by decide +kernel
theorem dX0_rootsInside_47 : decode cX0_rootsInside 47 = .ok (.ireturn, 1) := by decide +kernel
theorem dX1_init_0 : decode cX1_init 0 = .ok (.aload_n 0, 1) := by decide +kernel
theorem dX1_init_1 : decode cX1_init 1 = .ok (.invokespecial 3, 3) := by decide +kernel
theorem dX1_init_4 : decode cX1_init 4 = .ok (.return_, 1) := by decide +kernel
theorem dX2_init_0 : decode cX2_init 0 = .ok (.aload_n 0, 1) := by decide +kernel
theorem dX2_init_1 : decode cX2_init 1 = .ok (.invokespecial 3, 3) := by decide +kernel
theorem dX2_init_4 : decode cX2_init 4 = .ok (.aload_n 0, 1) := by decide +kernel
theorem dX2_init_5 : decode cX2_init 5 = .ok (.bipush 60, 2) := by decide +kernel
theorem dX2_init_7 : decode cX2_init 7 = .ok (.newarray .int, 2) := by decide +kernel
theorem dX2_init_9 : decode cX2_init 9 = .ok (.putfield 9, 3) := by decide +kernel
theorem dX2_init_12 : decode cX2_init 12 = .ok (.aload_n 0, 1) := by decide +kernel
theorem dX2_init_13 : decode cX2_init 13 = .ok (.bipush 60, 2) := by decide +kernel
theorem dX2_init_15 : decode cX2_init 15 = .ok (.newarray .char, 2) := by decide +kernel
theorem dX2_init_17 : decode cX2_init 17 = .ok (.putfield 15, 3) := by decide +kernel
theorem dX2_init_20 : decode cX2_init 20 = .ok (.return_, 1) := by decide +kernel
theorem dX2_faultOf_0 : decode cX2_faultOf 0 = .ok (.aload_n 0, 1) := by decide +kernel
theorem dX2_faultOf_1 : decode cX2_faultOf 1 = .ok (.iconst 0, 1) := by decide +kernel
theorem dX2_faultOf_2 : decode cX2_faultOf 2 = .ok (.putfield 19, 3) := by decide +kernel
theorem dX2_faultOf_5 : decode cX2_faultOf 5 = .ok (.aload_n 0, 1) := by decide +kernel
theorem dX2_faultOf_6 : decode cX2_faultOf 6 = .ok (.iconst 0, 1) := by decide +kernel
theorem dX2_faultOf_7 : decode cX2_faultOf 7 = .ok (.putfield 23, 3) := by decide +kernel
theorem dX2_faultOf_10 : decode cX2_faultOf 10 = .ok (.aload_n 0, 1) := by decide +kernel
theorem dX2_faultOf_11 : decode cX2_faultOf 11 = .ok (.iconst 0, 1) := by decide +kernel
theorem dX2_faultOf_12 : decode cX2_faultOf 12 = .ok (.putfield 26, 3) := by decide +kernel
theorem dX2_faultOf_15 : decode cX2_faultOf 15 = .ok (.aload_n 0, 1) := by decide +kernel
theorem dX2_faultOf_16 : decode cX2_faultOf 16 = .ok (.iconst 0, 1) := by decide +kernel
theorem dX2_faultOf_17 : decode cX2_faultOf 17 = .ok (.putfield 29, 3) := by decide +kernel
theorem dX2_faultOf_20 : decode cX2_faultOf 20 = .ok (.iconst 0, 1) := by decide +kernel
theorem dX2_faultOf_21 : decode cX2_faultOf 21 = .ok (.istore_n 3, 1) := by decide +kernel
theorem dX2_faultOf_22 : decode cX2_faultOf 22 = .ok (.iload_n 3, 1) := by decide +kernel
theorem dX2_faultOf_23 : decode cX2_faultOf 23 = .ok (.iload_n 2, 1) := by decide +kernel
theorem dX2_faultOf_24 : decode cX2_faultOf 24 = .ok (.if_icmp .ge 27, 3) := by decide +kernel
theorem dX2_faultOf_27 : decode cX2_faultOf 27 = .ok (.iload_n 3, 1) := by decide +kernel
theorem dX2_faultOf_28 : decode cX2_faultOf 28 = .ok (.aload_n 1, 1) := by decide +kernel
theorem dX2_faultOf_29 : decode cX2_faultOf 29 = .ok (.arraylength, 1) := by decide +kernel
theorem dX2_faultOf_30 : decode cX2_faultOf 30 = .ok (.if_icmp .ge 21, 3) := by decide +kernel
theorem dX2_faultOf_33 : decode cX2_faultOf 33 = .ok (.aload_n 0, 1) := by decide +kernel
theorem dX2_faultOf_34 : decode cX2_faultOf 34 = .ok (.aload_n 1, 1) := by decide +kernel
theorem dX2_faultOf_35 : decode cX2_faultOf 35 = .ok (.iload_n 3, 1) := by decide +kernel
theorem dX2_faultOf_36 : decode cX2_faultOf 36 = .ok (.caload, 1) := by decide +kernel
theorem dX2_faultOf_37 : decode cX2_faultOf 37 = .ok (.invokevirtual 32, 3) := by decide +kernel
theorem dX2_faultOf_40 : decode cX2_faultOf 40 = .ok (.ifCond .ne 5, 3) := by decide +kernel
theorem dX2_faultOf_43 : decode cX2_faultOf 43 = .ok (.iload_n 3, 1) := by decide +kernel
theorem dX2_faultOf_44 : decode cX2_faultOf 44 = .ok (.ireturn, 1) := by decide +kernel
theorem dX2_faultOf_45 : decode cX2_faultOf 45 = .ok (.iinc 3 1, 3) := by decide +kernel
theorem dX2_faultOf_48 : decode cX2_faultOf 48 = .ok (.goto (-26), 3) := by decide +kernel
theorem dX2_faultOf_51 : decode cX2_faultOf 51 = .ok (.aload_n 0, 1) := by decide +kernel
theorem dX2_faultOf_52 : decode cX2_faultOf 52 = .ok (.getfield 29, 3) := by decide +kernel
theorem dX2_faultOf_55 : decode cX2_faultOf 55 = .ok (.ifCond .eq 18, 3) := by decide +kernel
theorem dX2_faultOf_58 : decode cX2_faultOf 58 = .ok (.aload_n 0, 1) := by decide +kernel
theorem dX2_faultOf_59 : decode cX2_faultOf 59 = .ok (.getfield 29, 3) := by decide +kernel
theorem dX2_faultOf_62 : decode cX2_faultOf 62 = .ok (.iconst 1, 1) := by decide +kernel
theorem dX2_faultOf_63 : decode cX2_faultOf 63 = .ok (.if_icmp .eq 10, 3) := by decide +kernel
theorem dX2_faultOf_66 : decode cX2_faultOf 66 = .ok (.aload_n 0, 1) := by decide +kernel
theorem dX2_faultOf_67 : decode cX2_faultOf 67 = .ok (.getfield 26, 3) := by decide +kernel
theorem dX2_faultOf_70 : decode cX2_faultOf 70 = .ok (.ifCond .le 5, 3) := by decide +kernel
theorem dX2_faultOf_73 : decode cX2_faultOf 73 = .ok (.iload_n 2, 1) := by decide +kernel
theorem dX2_faultOf_74 : decode cX2_faultOf 74 = .ok (.ireturn, 1) := by decide +kernel
theorem dX2_faultOf_75 : decode cX2_faultOf 75 = .ok (.aload_n 0, 1) := by decide +kernel
theorem dX2_faultOf_76 : decode cX2_faultOf 76 = .ok (.iconst 1, 1) := by decide +kernel
theorem dX2_faultOf_77 : decode cX2_faultOf 77 = .ok (.invokevirtual 36, 3) := by decide +kernel
theorem dX2_faultOf_80 : decode cX2_faultOf 80 = .ok (.bipush (-6), 2) := by decide +kernel
theorem dX2_faultOf_82 : decode cX2_faultOf 82 = .ok (.ireturn, 1) := by decide +kernel
theorem dX2_takes_0 : decode cX2_takes 0 = .ok (.aload_n 0, 1) := by decide +kernel
theorem dX2_takes_1 : decode cX2_takes 1 = .ok (.getfield 29, 3) := by decide +kernel
theorem dX2_takes_4 : decode cX2_takes 4 = .ok (.tableswitch 72 0 2 #[28, 34, 51], 28) := by decide +kernel
theorem dX2_takes_32 : decode cX2_takes 32 = .ok (.aload_n 0, 1) := by decide +kernel
theorem dX2_takes_33 : decode cX2_takes 33 = .ok (.iload_n 1, 1) := by decide +kernel
theorem dX2_takes_34 : decode cX2_takes 34 = .ok (.invokevirtual 40, 3) := by decide +kernel
theorem dX2_takes_37 : decode cX2_takes 37 = .ok (.ireturn, 1) := by decide +kernel
theorem dX2_takes_38 : decode cX2_takes 38 = .ok (.aload_n 0, 1) := by decide +kernel
theorem dX2_takes_39 : decode cX2_takes 39 = .ok (.iconst 0, 1) := by decide +kernel
theorem dX2_takes_40 : decode cX2_takes 40 = .ok (.putfield 29, 3) := by decide +kernel
theorem dX2_takes_43 : decode cX2_takes 43 = .ok (.iload_n 1, 1) := by decide +kernel
theorem dX2_takes_44 : decode cX2_takes 44 = .ok (.bipush 40, 2) := by decide +kernel
theorem dX2_takes_46 : decode cX2_takes 46 = .ok (.if_icmp .ne 7, 3) := by decide +kernel
theorem dX2_takes_49 : decode cX2_takes 49 = .ok (.iconst 1, 1) := by decide +kernel
theorem dX2_takes_50 : decode cX2_takes 50 = .ok (.goto 4, 3) := by decide +kernel
theorem dX2_takes_53 : decode cX2_takes 53 = .ok (.iconst 0, 1) := by decide +kernel
theorem dX2_takes_54 : decode cX2_takes 54 = .ok (.ireturn, 1) := by decide +kernel
theorem dX2_takes_55 : decode cX2_takes 55 = .ok (.iload_n 1, 1) := by decide +kernel
theorem dX2_takes_56 : decode cX2_takes 56 = .ok (.invokestatic 43, 3) := by decide +kernel
theorem dX2_takes_59 : decode cX2_takes 59 = .ok (.ifCond .eq 11, 3) := by decide +kernel
theorem dX2_takes_62 : decode cX2_takes 62 = .ok (.aload_n 0, 1) := by decide +kernel
theorem dX2_takes_63 : decode cX2_takes 63 = .ok (.iload_n 1, 1) := by decide +kernel
theorem dX2_takes_64 : decode cX2_takes 64 = .ok (.invokevirtual 46, 3) := by decide +kernel
theorem dX2_takes_67 : decode cX2_takes 67 = .ok (.goto 8, 3) := by decide +kernel
theorem dX2_takes_70 : decode cX2_takes 70 = .ok (.aload_n 0, 1) := by decide +kernel
theorem dX2_takes_71 : decode cX2_takes 71 = .ok (.iload_n 1, 1) := by decide +kernel
theorem dX2_takes_72 : decode cX2_takes 72 = .ok (.invokevirtual 49, 3) := by decide +kernel
theorem dX2_takes_75 : decode cX2_takes 75 = .ok (.ireturn, 1) := by decide +kernel
theorem dX2_takes_76 : decode cX2_takes 76 = .ok (.aload_n 0, 1) := by decide +kernel
theorem dX2_takes_77 : decode cX2_takes 77 = .ok (.iload_n 1, 1) := by decide +kernel
theorem dX2_takes_78 : decode cX2_takes 78 = .ok (.invokevirtual 49, 3) := by decide +kernel
theorem dX2_takes_81 : decode cX2_takes 81 = .ok (.ireturn, 1) := by decide +kernel
theorem dX2_takesFactor_0 : decode cX2_takesFactor 0 = .ok (.iload_n 1, 1) := by decide +kernel
theorem dX2_takesFactor_1 : decode cX2_takesFactor 1 = .ok (.invokestatic 43, 3) := by decide +kernel
theorem dX2_takesFactor_4 : decode cX2_takesFactor 4 = .ok (.ifCond .eq 18, 3) := by decide +kernel
theorem dX2_takesFactor_7 : decode cX2_takesFactor 7 = .ok (.aload_n 0, 1) := by decide +kernel
theorem dX2_takesFactor_8 : decode cX2_takesFactor 8 = .ok (.iload_n 1, 1) := by decide +kernel
theorem dX2_takesFactor_9 : decode cX2_takesFactor 9 = .ok (.bipush 48, 2) := by decide +kernel
theorem dX2_takesFactor_11 : decode cX2_takesFactor 11 = .ok (.isub, 1) := by decide +kernel
theorem dX2_takesFactor_12 : decode cX2_takesFactor 12 = .ok (.invokevirtual 52, 3) := by decide +kernel
theorem dX2_takesFactor_15 : decode cX2_takesFactor 15 = .ok (.aload_n 0, 1) := by decide +kernel
theorem dX2_takesFactor_16 : decode cX2_takesFactor 16 = .ok (.iconst 2, 1) := by decide +kernel
theorem dX2_takesFactor_17 : decode cX2_takesFactor 17 = .ok (.putfield 29, 3) := by decide +kernel
theorem dX2_takesFactor_20 : decode cX2_takesFactor 20 = .ok (.iconst 1, 1) := by decide +kernel
theorem dX2_takesFactor_21 : decode cX2_takesFactor 21 = .ok (.ireturn, 1) := by decide +kernel
theorem dX2_takesFactor_22 : decode cX2_takesFactor 22 = .ok (.iload_n 1, 1) := by decide +kernel
theorem dX2_takesFactor_23 : decode cX2_takesFactor 23 = .ok (.i2l, 1) := by decide +kernel
theorem dX2_takesFactor_24 : decode cX2_takesFactor 24 = .ok (.ldc2_w 55, 3) := by decide +kernel
theorem dX2_takesFactor_27 : decode cX2_takesFactor 27 = .ok (.ldc2_w 57, 3) := by decide +kernel
theorem dX2_takesFactor_30 : decode cX2_takesFactor 30 = .ok (.invokestatic 59, 3) := by decide +kernel
theorem dX2_takesFactor_33 : decode cX2_takesFactor 33 = .ok (.ifCond .eq 19, 3) := by decide +kernel
theorem dX2_takesFactor_36 : decode cX2_takesFactor 36 = .ok (.aload_n 0, 1) := by decide +kernel
theorem dX2_takesFactor_37 : decode cX2_takesFactor 37 = .ok (.sipush 10000, 3) := by decide +kernel
theorem dX2_takesFactor_40 : decode cX2_takesFactor 40 = .ok (.iload_n 1, 1) := by decide +kernel
theorem dX2_takesFactor_41 : decode cX2_takesFactor 41 = .ok (.iadd, 1) := by decide +kernel
theorem dX2_takesFactor_42 : decode cX2_takesFactor 42 = .ok (.invokevirtual 52, 3) := by decide +kernel
theorem dX2_takesFactor_45 : decode cX2_takesFactor 45 = .ok (.aload_n 0, 1) := by decide +kernel
theorem dX2_takesFactor_46 : decode cX2_takesFactor 46 = .ok (.iconst 3, 1) := by decide +kernel
theorem dX2_takesFactor_47 : decode cX2_takesFactor 47 = .ok (.putfield 29, 3) := by decide +kernel
theorem dX2_takesFactor_50 : decode cX2_takesFactor 50 = .ok (.iconst 1, 1) := by decide +kernel
theorem dX2_takesFactor_51 : decode cX2_takesFactor 51 = .ok (.ireturn, 1) := by decide +kernel
theorem dX2_takesFactor_52 : decode cX2_takesFactor 52 = .ok (.iload_n 1, 1) := by decide +kernel
theorem dX2_takesFactor_53 : decode cX2_takesFactor 53 = .ok (.bipush 40, 2) := by decide +kernel
theorem dX2_takesFactor_55 : decode cX2_takesFactor 55 = .ok (.if_icmp .eq 21, 3) := by decide +kernel
theorem dX2_takesFactor_58 : decode cX2_takesFactor 58 = .ok (.iload_n 1, 1) := by decide +kernel
theorem dX2_takesFactor_59 : decode cX2_takesFactor 59 = .ok (.bipush 113, 2) := by decide +kernel
theorem dX2_takesFactor_61 : decode cX2_takesFactor 61 = .ok (.if_icmp .eq 15, 3) := by decide +kernel
theorem dX2_takesFactor_64 : decode cX2_takesFactor 64 = .ok (.iload_n 1, 1) := by decide +kernel
theorem dX2_takesFactor_65 : decode cX2_takesFactor 65 = .ok (.bipush 107, 2) := by decide +kernel
theorem dX2_takesFactor_67 : decode cX2_takesFactor 67 = .ok (.if_icmp .eq 9, 3) := by decide +kernel
theorem dX2_takesFactor_70 : decode cX2_takesFactor 70 = .ok (.iload_n 1, 1) := by decide +kernel
theorem dX2_takesFactor_71 : decode cX2_takesFactor 71 = .ok (.bipush 115, 2) := by decide +kernel
theorem dX2_takesFactor_73 : decode cX2_takesFactor 73 = .ok (.if_icmp .ne 35, 3) := by decide +kernel
theorem dX2_takesFactor_76 : decode cX2_takesFactor 76 = .ok (.aload_n 0, 1) := by decide +kernel
theorem dX2_takesFactor_77 : decode cX2_takesFactor 77 = .ok (.iload_n 1, 1) := by decide +kernel
theorem dX2_takesFactor_78 : decode cX2_takesFactor 78 = .ok (.invokevirtual 63, 3) := by decide +kernel
theorem dX2_takesFactor_81 : decode cX2_takesFactor 81 = .ok (.aload_n 0, 1) := by decide +kernel
theorem dX2_takesFactor_82 : decode cX2_takesFactor 82 = .ok (.dup, 1) := by decide +kernel
theorem dX2_takesFactor_83 : decode cX2_takesFactor 83 = .ok (.getfield 26, 3) := by decide +kernel
theorem dX2_takesFactor_86 : decode cX2_takesFactor 86 = .ok (.iconst 1, 1) := by decide +kernel
theorem dX2_takesFactor_87 : decode cX2_takesFactor 87 = .ok (.iadd, 1) := by decide +kernel
theorem dX2_takesFactor_88 : decode cX2_takesFactor 88 = .ok (.putfield 26, 3) := by decide +kernel
theorem dX2_takesFactor_91 : decode cX2_takesFactor 91 = .ok (.aload_n 0, 1) := by decide +kernel
theorem dX2_takesFactor_92 : decode cX2_takesFactor 92 = .ok (.iload_n 1, 1) := by decide +kernel
theorem dX2_takesFactor_93 : decode cX2_takesFactor 93 = .ok (.bipush 40, 2) := by decide +kernel
theorem dX2_takesFactor_95 : decode cX2_takesFactor 95 = .ok (.if_icmp .ne 7, 3) := by decide +kernel
theorem dX2_takesFactor_98 : decode cX2_takesFactor 98 = .ok (.iconst 0, 1) := by decide +kernel
theorem dX2_takesFactor_99 : decode cX2_takesFactor 99 = .ok (.goto 4, 3) := by decide +kernel
theorem dX2_takesFactor_102 : decode cX2_takesFactor 102 = .ok (.iconst 1, 1) := by decide +kernel
theorem dX2_takesFactor_103 : decode cX2_takesFactor 103 = .ok (.putfield 29, 3) := by decide +kernel
theorem dX2_takesFactor_106 : decode cX2_takesFactor 106 = .ok (.iconst 1, 1) := by decide +kernel
theorem dX2_takesFactor_107 : decode cX2_takesFactor 107 = .ok (.ireturn, 1) := by decide +kernel
theorem dX2_takesFactor_108 : decode cX2_takesFactor 108 = .ok (.iconst 0, 1) := by decide +kernel
theorem dX2_takesFactor_109 : decode cX2_takesFactor 109 = .ok (.ireturn, 1) := by decide +kernel
theorem dX2_takesDigit_0 : decode cX2_takesDigit 0 = .ok (.aload_n 0, 1) := by decide +kernel
theorem dX2_takesDigit_1 : decode cX2_takesDigit 1 = .ok (.getfield 19, 3) := by decide +kernel
theorem dX2_takesDigit_4 : decode cX2_takesDigit 4 = .ok (.iconst 1, 1) := by decide +kernel
theorem dX2_takesDigit_5 : decode cX2_takesDigit 5 = .ok (.isub, 1) := by decide +kernel
theorem dX2_takesDigit_6 : decode cX2_takesDigit 6 = .ok (.istore_n 2, 1) := by decide +kernel
theorem dX2_takesDigit_7 : decode cX2_takesDigit 7 = .ok (.iload_n 2, 1) := by decide +kernel
theorem dX2_takesDigit_8 : decode cX2_takesDigit 8 = .ok (.ifCond .lt 21, 3) := by decide +kernel
theorem dX2_takesDigit_11 : decode cX2_takesDigit 11 = .ok (.iload_n 2, 1) := by decide +kernel
theorem dX2_takesDigit_12 : decode cX2_takesDigit 12 = .ok (.aload_n 0, 1) := by decide +kernel
theorem dX2_takesDigit_13 : decode cX2_takesDigit 13 = .ok (.getfield 9, 3) := by decide +kernel
theorem dX2_takesDigit_16 : decode cX2_takesDigit 16 = .ok (.arraylength, 1) := by decide +kernel
theorem dX2_takesDigit_17 : decode cX2_takesDigit 17 = .ok (.if_icmp .ge 12, 3) := by decide +kernel
theorem dX2_takesDigit_20 : decode cX2_takesDigit 20 = .ok (.aload_n 0, 1) := by decide +kernel
theorem dX2_takesDigit_21 : decode cX2_takesDigit 21 = .ok (.getfield 9, 3) := by decide +kernel
theorem dX2_takesDigit_24 : decode cX2_takesDigit 24 = .ok (.iload_n 2, 1) := by decide +kernel
theorem dX2_takesDigit_25 : decode cX2_takesDigit 25 = .ok (.iaload, 1) := by decide +kernel
theorem dX2_takesDigit_26 : decode cX2_takesDigit 26 = .ok (.ifCond .ne 5, 3) := by decide +kernel
theorem dX2_takesDigit_29 : decode cX2_takesDigit 29 = .ok (.iconst 0, 1) := by decide +kernel
theorem dX2_takesDigit_30 : decode cX2_takesDigit 30 = .ok (.ireturn, 1) := by decide +kernel
theorem dX2_takesDigit_31 : decode cX2_takesDigit 31 = .ok (.aload_n 0, 1) := by decide +kernel
theorem dX2_takesDigit_32 : decode cX2_takesDigit 32 = .ok (.getfield 9, 3) := by decide +kernel
theorem dX2_takesDigit_35 : decode cX2_takesDigit 35 = .ok (.iload_n 2, 1) := by decide +kernel
theorem dX2_takesDigit_36 : decode cX2_takesDigit 36 = .ok (.iaload, 1) := by decide +kernel
theorem dX2_takesDigit_37 : decode cX2_takesDigit 37 = .ok (.bipush 10, 2) := by decide +kernel
theorem dX2_takesDigit_39 : decode cX2_takesDigit 39 = .ok (.imul, 1) := by decide +kernel
theorem dX2_takesDigit_40 : decode cX2_takesDigit 40 = .ok (.iload_n 1, 1) := by decide +kernel
theorem dX2_takesDigit_41 : decode cX2_takesDigit 41 = .ok (.iadd, 1) := by decide +kernel
theorem dX2_takesDigit_42 : decode cX2_takesDigit 42 = .ok (.bipush 48, 2) := by decide +kernel
theorem dX2_takesDigit_44 : decode cX2_takesDigit 44 = .ok (.isub, 1) := by decide +kernel
theorem dX2_takesDigit_45 : decode cX2_takesDigit 45 = .ok (.istore_n 3, 1) := by decide +kernel
theorem dX2_takesDigit_46 : decode cX2_takesDigit 46 = .ok (.iload_n 3, 1) := by decide +kernel
theorem dX2_takesDigit_47 : decode cX2_takesDigit 47 = .ok (.sipush 9999, 3) := by decide +kernel
theorem dX2_takesDigit_50 : decode cX2_takesDigit 50 = .ok (.if_icmp .le 5, 3) := by decide +kernel
theorem dX2_takesDigit_53 : decode cX2_takesDigit 53 = .ok (.iconst 0, 1) := by decide +kernel
theorem dX2_takesDigit_54 : decode cX2_takesDigit 54 = .ok (.ireturn, 1) := by decide +kernel
theorem dX2_takesDigit_55 : decode cX2_takesDigit 55 = .ok (.aload_n 0, 1) := by decide +kernel
theorem dX2_takesDigit_56 : decode cX2_takesDigit 56 = .ok (.getfield 9, 3) := by decide +kernel
theorem dX2_takesDigit_59 : decode cX2_takesDigit 59 = .ok (.iload_n 2, 1) := by decide +kernel
theorem dX2_takesDigit_60 : decode cX2_takesDigit 60 = .ok (.iload_n 3, 1) := by decide +kernel
theorem dX2_takesDigit_61 : decode cX2_takesDigit 61 = .ok (.iastore, 1) := by decide +kernel
theorem dX2_takesDigit_62 : decode cX2_takesDigit 62 = .ok (.iconst 1, 1) := by decide +kernel
theorem dX2_takesDigit_63 : decode cX2_takesDigit 63 = .ok (.ireturn, 1) := by decide +kernel
theorem dX2_takesBehind_0 : decode cX2_takesBehind 0 = .ok (.iload_n 1, 1) := by decide +kernel
theorem dX2_takesBehind_1 : decode cX2_takesBehind 1 = .ok (.bipush 41, 2) := by decide +kernel
theorem dX2_takesBehind_3 : decode cX2_takesBehind 3 = .ok (.if_icmp .ne 16, 3) := by decide +kernel
theorem dX2_takesBehind_6 : decode cX2_takesBehind 6 = .ok (.aload_n 0, 1) := by decide +kernel
theorem dX2_takesBehind_7 : decode cX2_takesBehind 7 = .ok (.getfield 26, 3) := by decide +kernel
theorem dX2_takesBehind_10 : decode cX2_takesBehind 10 = .ok (.ifCond .le 9, 3) := by decide +kernel
theorem dX2_takesBehind_13 : decode cX2_takesBehind 13 = .ok (.aload_n 0, 1) := by decide +kernel
theorem dX2_takesBehind_14 : decode cX2_takesBehind 14 = .ok (.invokevirtual 67, 3) := by decide +kernel
theorem dX2_takesBehind_17 : decode cX2_takesBehind 17 = .ok (.iconst 1, 1) := by decide +kernel
theorem dX2_takesBehind_18 : decode cX2_takesBehind 18 = .ok (.ireturn, 1) := by decide +kernel
theorem dX2_takesBehind_19 : decode cX2_takesBehind 19 = .ok (.iload_n 1, 1) := by decide +kernel
theorem dX2_takesBehind_20 : decode cX2_takesBehind 20 = .ok (.invokestatic 70, 3) := by decide +kernel
theorem dX2_takesBehind_23 : decode cX2_takesBehind 23 = .ok (.istore_n 2, 1) := by decide +kernel
theorem dX2_takesBehind_24 : decode cX2_takesBehind 24 = .ok (.iload_n 2, 1) := by decide +kernel
theorem dX2_takesBehind_25 : decode cX2_takesBehind 25 = .ok (.ifCond .ne 5, 3) := by decide +kernel
theorem dX2_takesBehind_28 : decode cX2_takesBehind 28 = .ok (.iconst 0, 1) := by decide +kernel
theorem dX2_takesBehind_29 : decode cX2_takesBehind 29 = .ok (.ireturn, 1) := by decide +kernel
theorem dX2_takesBehind_30 : decode cX2_takesBehind 30 = .ok (.aload_n 0, 1) := by decide +kernel
theorem dX2_takesBehind_31 : decode cX2_takesBehind 31 = .ok (.iload_n 2, 1) := by decide +kernel
theorem dX2_takesBehind_32 : decode cX2_takesBehind 32 = .ok (.invokevirtual 36, 3) := by decide +kernel
theorem dX2_takesBehind_35 : decode cX2_takesBehind 35 = .ok (.aload_n 0, 1) := by decide +kernel
theorem dX2_takesBehind_36 : decode cX2_takesBehind 36 = .ok (.iload_n 1, 1) := by decide +kernel
theorem dX2_takesBehind_37 : decode cX2_takesBehind 37 = .ok (.invokevirtual 63, 3) := by decide +kernel
theorem dX2_takesBehind_40 : decode cX2_takesBehind 40 = .ok (.aload_n 0, 1) := by decide +kernel
theorem dX2_takesBehind_41 : decode cX2_takesBehind 41 = .ok (.iconst 0, 1) := by decide +kernel
theorem dX2_takesBehind_42 : decode cX2_takesBehind 42 = .ok (.putfield 29, 3) := by decide +kernel
theorem dX2_takesBehind_45 : decode cX2_takesBehind 45 = .ok (.iconst 1, 1) := by decide +kernel
theorem dX2_takesBehind_46 : decode cX2_takesBehind 46 = .ok (.ireturn, 1) := by decide +kernel
theorem dX2_closeBracket_0 : decode cX2_closeBracket 0 = .ok (.aload_n 0, 1) := by decide +kernel
theorem dX2_closeBracket_1 : decode cX2_closeBracket 1 = .ok (.iconst 1, 1) := by decide +kernel
theorem dX2_closeBracket_2 : decode cX2_closeBracket 2 = .ok (.invokevirtual 36, 3) := by decide +kernel
theorem dX2_closeBracket_5 : decode cX2_closeBracket 5 = .ok (.aload_n 0, 1) := by decide +kernel
theorem dX2_closeBracket_6 : decode cX2_closeBracket 6 = .ok (.invokevirtual 74, 3) := by decide +kernel
theorem dX2_closeBracket_9 : decode cX2_closeBracket 9 = .ok (.istore_n 1, 1) := by decide +kernel
theorem dX2_closeBracket_10 : decode cX2_closeBracket 10 = .ok (.aload_n 0, 1) := by decide +kernel
theorem dX2_closeBracket_11 : decode cX2_closeBracket 11 = .ok (.dup, 1) := by decide +kernel
theorem dX2_closeBracket_12 : decode cX2_closeBracket 12 = .ok (.getfield 23, 3) := by decide +kernel
theorem dX2_closeBracket_15 : decode cX2_closeBracket 15 = .ok (.iconst 1, 1) := by decide +kernel
theorem dX2_closeBracket_16 : decode cX2_closeBracket 16 = .ok (.isub, 1) := by decide +kernel
theorem dX2_closeBracket_17 : decode cX2_closeBracket 17 = .ok (.putfield 23, 3) := by decide +kernel
theorem dX2_closeBracket_20 : decode cX2_closeBracket 20 = .ok (.aload_n 0, 1) := by decide +kernel
theorem dX2_closeBracket_21 : decode cX2_closeBracket 21 = .ok (.dup, 1) := by decide +kernel
theorem dX2_closeBracket_22 : decode cX2_closeBracket 22 = .ok (.getfield 26, 3) := by decide +kernel
theorem dX2_closeBracket_25 : decode cX2_closeBracket 25 = .ok (.iconst 1, 1) := by decide +kernel
theorem dX2_closeBracket_26 : decode cX2_closeBracket 26 = .ok (.isub, 1) := by decide +kernel
theorem dX2_closeBracket_27 : decode cX2_closeBracket 27 = .ok (.putfield 26, 3) := by decide +kernel
theorem dX2_closeBracket_30 : decode cX2_closeBracket 30 = .ok (.iload_n 1, 1) := by decide +kernel
theorem dX2_closeBracket_31 : decode cX2_closeBracket 31 = .ok (.bipush 40, 2) := by decide +kernel
theorem dX2_closeBracket_33 : decode cX2_closeBracket 33 = .ok (.if_icmp .eq 12, 3) := by decide +kernel
theorem dX2_closeBracket_36 : decode cX2_closeBracket 36 = .ok (.aload_n 0, 1) := by decide +kernel
theorem dX2_closeBracket_37 : decode cX2_closeBracket 37 = .ok (.sipush 10000, 3) := by decide +kernel
theorem dX2_closeBracket_40 : decode cX2_closeBracket 40 = .ok (.iload_n 1, 1) := by decide +kernel
theorem dX2_closeBracket_41 : decode cX2_closeBracket 41 = .ok (.iadd, 1) := by decide +kernel
theorem dX2_closeBracket_42 : decode cX2_closeBracket 42 = .ok (.invokevirtual 52, 3) := by decide +kernel
theorem dX2_closeBracket_45 : decode cX2_closeBracket 45 = .ok (.aload_n 0, 1) := by decide +kernel
theorem dX2_closeBracket_46 : decode cX2_closeBracket 46 = .ok (.iconst 3, 1) := by decide +kernel
theorem dX2_closeBracket_47 : decode cX2_closeBracket 47 = .ok (.putfield 29, 3) := by decide +kernel
theorem dX2_closeBracket_50 : decode cX2_closeBracket 50 = .ok (.return_, 1) := by decide +kernel
theorem dX2_release_0 : decode cX2_release 0 = .ok (.aload_n 0, 1) := by decide +kernel
theorem dX2_release_1 : decode cX2_release 1 = .ok (.getfield 23, 3) := by decide +kernel
theorem dX2_release_4 : decode cX2_release 4 = .ok (.ifCond .le 39, 3) := by decide +kernel
theorem dX2_release_7 : decode cX2_release 7 = .ok (.aload_n 0, 1) := by decide +kernel
theorem dX2_release_8 : decode cX2_release 8 = .ok (.invokevirtual 74, 3) := by decide +kernel
theorem dX2_release_11 : decode cX2_release 11 = .ok (.invokestatic 70, 3) := by decide +kernel
theorem dX2_release_14 : decode cX2_release 14 = .ok (.iload_n 1, 1) := by decide +kernel
theorem dX2_release_15 : decode cX2_release 15 = .ok (.if_icmp .lt 28, 3) := by decide +kernel
theorem dX2_release_18 : decode cX2_release 18 = .ok (.aload_n 0, 1) := by decide +kernel
theorem dX2_release_19 : decode cX2_release 19 = .ok (.sipush 10000, 3) := by decide +kernel
theorem dX2_release_22 : decode cX2_release 22 = .ok (.aload_n 0, 1) := by decide +kernel
theorem dX2_release_23 : decode cX2_release 23 = .ok (.invokevirtual 74, 3) := by decide +kernel
theorem dX2_release_26 : decode cX2_release 26 = .ok (.iadd, 1) := by decide +kernel
theorem dX2_release_27 : decode cX2_release 27 = .ok (.invokevirtual 52, 3) := by decide +kernel
theorem dX2_release_30 : decode cX2_release 30 = .ok (.aload_n 0, 1) := by decide +kernel
theorem dX2_release_31 : decode cX2_release 31 = .ok (.dup, 1) := by decide +kernel
theorem dX2_release_32 : decode cX2_release 32 = .ok (.getfield 23, 3) := by decide +kernel
theorem dX2_release_35 : decode cX2_release 35 = .ok (.iconst 1, 1) := by decide +kernel
theorem dX2_release_36 : decode cX2_release 36 = .ok (.isub, 1) := by decide +kernel
theorem dX2_release_37 : decode cX2_release 37 = .ok (.putfield 23, 3) := by decide +kernel
theorem dX2_release_40 : decode cX2_release 40 = .ok (.goto (-40), 3) := by decide +kernel
theorem dX2_release_43 : decode cX2_release 43 = .ok (.return_, 1) := by decide +kernel
theorem dX2_strengthOf_0 : decode cX2_strengthOf 0 = .ok (.iload_n 0, 1) := by decide +kernel
theorem dX2_strengthOf_1 : decode cX2_strengthOf 1 = .ok (.bipush 42, 2) := by decide +kernel
theorem dX2_strengthOf_3 : decode cX2_strengthOf 3 = .ok (.if_icmp .ne 5, 3) := by decide +kernel
theorem dX2_strengthOf_6 : decode cX2_strengthOf 6 = .ok (.iconst 2, 1) := by decide +kernel
theorem dX2_strengthOf_7 : decode cX2_strengthOf 7 = .ok (.ireturn, 1) := by decide +kernel
theorem dX2_strengthOf_8 : decode cX2_strengthOf 8 = .ok (.iload_n 0, 1) := by decide +kernel
theorem dX2_strengthOf_9 : decode cX2_strengthOf 9 = .ok (.bipush 43, 2) := by decide +kernel
theorem dX2_strengthOf_11 : decode cX2_strengthOf 11 = .ok (.if_icmp .eq 9, 3) := by decide +kernel
theorem dX2_strengthOf_14 : decode cX2_strengthOf 14 = .ok (.iload_n 0, 1) := by decide +kernel
theorem dX2_strengthOf_15 : decode cX2_strengthOf 15 = .ok (.bipush 45, 2) := by decide +kernel
theorem dX2_strengthOf_17 : decode cX2_strengthOf 17 = .ok (.if_icmp .ne 7, 3) := by decide +kernel
theorem dX2_strengthOf_20 : decode cX2_strengthOf 20 = .ok (.iconst 1, 1) := by decide +kernel
theorem dX2_strengthOf_21 : decode cX2_strengthOf 21 = .ok (.goto 4, 3) := by decide +kernel
theorem dX2_strengthOf_24 : decode cX2_strengthOf 24 = .ok (.iconst 0, 1) := by decide +kernel
theorem dX2_strengthOf_25 : decode cX2_strengthOf 25 = .ok (.ireturn, 1) := by decide +kernel
theorem dX2_isDigit_0 : decode cX2_isDigit 0 = .ok (.iload_n 0, 1) := by decide +kernel
theorem dX2_isDigit_1 : decode cX2_isDigit 1 = .ok (.bipush 48, 2) := by decide +kernel
theorem dX2_isDigit_3 : decode cX2_isDigit 3 = .ok (.if_icmp .lt 13, 3) := by decide +kernel
theorem dX2_isDigit_6 : decode cX2_isDigit 6 = .ok (.iload_n 0, 1) := by decide +kernel
theorem dX2_isDigit_7 : decode cX2_isDigit 7 = .ok (.bipush 57, 2) := by decide +kernel
theorem dX2_isDigit_9 : decode cX2_isDigit 9 = .ok (.if_icmp .gt 7, 3) := by decide +kernel
theorem dX2_isDigit_12 : decode cX2_isDigit 12 = .ok (.iconst 1, 1) := by decide +kernel
theorem dX2_isDigit_13 : decode cX2_isDigit 13 = .ok (.goto 4, 3) := by decide +kernel
theorem dX2_isDigit_16 : decode cX2_isDigit 16 = .ok (.iconst 0, 1) := by decide +kernel
theorem dX2_isDigit_17 : decode cX2_isDigit 17 = .ok (.ireturn, 1) := by decide +kernel
theorem dX2_addStep_0 : decode cX2_addStep 0 = .ok (.aload_n 0, 1) := by decide +kernel
theorem dX2_addStep_1 : decode cX2_addStep 1 = .ok (.getfield 19, 3) := by decide +kernel
theorem dX2_addStep_4 : decode cX2_addStep 4 = .ok (.ifCond .lt 35, 3) := by decide +kernel
theorem dX2_addStep_7 : decode cX2_addStep 7 = .ok (.aload_n 0, 1) := by decide +kernel
theorem dX2_addStep_8 : decode cX2_addStep 8 = .ok (.getfield 19, 3) := by decide +kernel
theorem dX2_addStep_11 : decode cX2_addStep 11 = .ok (.aload_n 0, 1) := by decide +kernel
theorem dX2_addStep_12 : decode cX2_addStep 12 = .ok (.getfield 9, 3) := by decide +kernel
theorem dX2_addStep_15 : decode cX2_addStep 15 = .ok (.arraylength, 1) := by decide +kernel
theorem dX2_addStep_16 : decode cX2_addStep 16 = .ok (.if_icmp .ge 23, 3) := by decide +kernel
theorem dX2_addStep_19 : decode cX2_addStep 19 = .ok (.aload_n 0, 1) := by decide +kernel
theorem dX2_addStep_20 : decode cX2_addStep 20 = .ok (.getfield 9, 3) := by decide +kernel
theorem dX2_addStep_23 : decode cX2_addStep 23 = .ok (.aload_n 0, 1) := by decide +kernel
theorem dX2_addStep_24 : decode cX2_addStep 24 = .ok (.getfield 19, 3) := by decide +kernel
theorem dX2_addStep_27 : decode cX2_addStep 27 = .ok (.iload_n 1, 1) := by decide +kernel
theorem dX2_addStep_28 : decode cX2_addStep 28 = .ok (.iastore, 1) := by decide +kernel
theorem dX2_addStep_29 : decode cX2_addStep 29 = .ok (.aload_n 0, 1) := by decide +kernel
theorem dX2_addStep_30 : decode cX2_addStep 30 = .ok (.dup, 1) := by decide +kernel
theorem dX2_addStep_31 : decode cX2_addStep 31 = .ok (.getfield 19, 3) := by decide +kernel
theorem dX2_addStep_34 : decode cX2_addStep 34 = .ok (.iconst 1, 1) := by decide +kernel
theorem dX2_addStep_35 : decode cX2_addStep 35 = .ok (.iadd, 1) := by decide +kernel
theorem dX2_addStep_36 : decode cX2_addStep 36 = .ok (.putfield 19, 3) := by decide +kernel
theorem dX2_addStep_39 : decode cX2_addStep 39 = .ok (.return_, 1) := by decide +kernel
theorem dX2_push_0 : decode cX2_push 0 = .ok (.aload_n 0, 1) := by decide +kernel
theorem dX2_push_1 : decode cX2_push 1 = .ok (.getfield 23, 3) := by decide +kernel
theorem dX2_push_4 : decode cX2_push 4 = .ok (.ifCond .lt 35, 3) := by decide +kernel
theorem dX2_push_7 : decode cX2_push 7 = .ok (.aload_n 0, 1) := by decide +kernel
theorem dX2_push_8 : decode cX2_push 8 = .ok (.getfield 23, 3) := by decide +kernel
theorem dX2_push_11 : decode cX2_push 11 = .ok (.aload_n 0, 1) := by decide +kernel
theorem dX2_push_12 : decode cX2_push 12 = .ok (.getfield 15, 3) := by decide +kernel
theorem dX2_push_15 : decode cX2_push 15 = .ok (.arraylength, 1) := by decide +kernel
theorem dX2_push_16 : decode cX2_push 16 = .ok (.if_icmp .ge 23, 3) := by decide +kernel
theorem dX2_push_19 : decode cX2_push 19 = .ok (.aload_n 0, 1) := by decide +kernel
theorem dX2_push_20 : decode cX2_push 20 = .ok (.getfield 15, 3) := by decide +kernel
theorem dX2_push_23 : decode cX2_push 23 = .ok (.aload_n 0, 1) := by decide +kernel
theorem dX2_push_24 : decode cX2_push 24 = .ok (.getfield 23, 3) := by decide +kernel
theorem dX2_push_27 : decode cX2_push 27 = .ok (.iload_n 1, 1) := by decide +kernel
theorem dX2_push_28 : decode cX2_push 28 = .ok (.castore, 1) := by decide +kernel
theorem dX2_push_29 : decode cX2_push 29 = .ok (.aload_n 0, 1) := by decide +kernel
theorem dX2_push_30 : decode cX2_push 30 = .ok (.dup, 1) := by decide +kernel
theorem dX2_push_31 : decode cX2_push 31 = .ok (.getfield 23, 3) := by decide +kernel
theorem dX2_push_34 : decode cX2_push 34 = .ok (.iconst 1, 1) := by decide +kernel
theorem dX2_push_35 : decode cX2_push 35 = .ok (.iadd, 1) := by decide +kernel
theorem dX2_push_36 : decode cX2_push 36 = .ok (.putfield 23, 3) := by decide +kernel
theorem dX2_push_39 : decode cX2_push 39 = .ok (.return_, 1) := by decide +kernel
theorem dX2_top_0 : decode cX2_top 0 = .ok (.aload_n 0, 1) := by decide +kernel
theorem dX2_top_1 : decode cX2_top 1 = .ok (.getfield 23, 3) := by decide +kernel
theorem dX2_top_4 : decode cX2_top 4 = .ok (.iconst 1, 1) := by decide +kernel
theorem dX2_top_5 : decode cX2_top 5 = .ok (.isub, 1) := by decide +kernel
theorem dX2_top_6 : decode cX2_top 6 = .ok (.istore_n 1, 1) := by decide +kernel
theorem dX2_top_7 : decode cX2_top 7 = .ok (.iload_n 1, 1) := by decide +kernel
theorem dX2_top_8 : decode cX2_top 8 = .ok (.ifCond .lt 21, 3) := by decide +kernel
theorem dX2_top_11 : decode cX2_top 11 = .ok (.iload_n 1, 1) := by decide +kernel
theorem dX2_top_12 : decode cX2_top 12 = .ok (.aload_n 0, 1) := by decide +kernel
theorem dX2_top_13 : decode cX2_top 13 = .ok (.getfield 15, 3) := by decide +kernel
theorem dX2_top_16 : decode cX2_top 16 = .ok (.arraylength, 1) := by decide +kernel
theorem dX2_top_17 : decode cX2_top 17 = .ok (.if_icmp .ge 12, 3) := by decide +kernel
theorem dX2_top_20 : decode cX2_top 20 = .ok (.aload_n 0, 1) := by decide +kernel
theorem dX2_top_21 : decode cX2_top 21 = .ok (.getfield 15, 3) := by decide +kernel
theorem dX2_top_24 : decode cX2_top 24 = .ok (.iload_n 1, 1) := by decide +kernel
theorem dX2_top_25 : decode cX2_top 25 = .ok (.caload, 1) := by decide +kernel
theorem dX2_top_26 : decode cX2_top 26 = .ok (.goto 5, 3) := by decide +kernel
theorem dX2_top_29 : decode cX2_top 29 = .ok (.bipush 40, 2) := by decide +kernel
theorem dX2_top_31 : decode cX2_top 31 = .ok (.ireturn, 1) := by decide +kernel
theorem dX3_init_0 : decode cX3_init 0 = .ok (.aload_n 0, 1) := by decide +kernel
theorem dX3_init_1 : decode cX3_init 1 = .ok (.invokespecial 3, 3) := by decide +kernel
theorem dX3_init_4 : decode cX3_init 4 = .ok (.aload_n 0, 1) := by decide +kernel
theorem dX3_init_5 : decode cX3_init 5 = .ok (.bipush 60, 2) := by decide +kernel
theorem dX3_init_7 : decode cX3_init 7 = .ok (.newarray .long, 2) := by decide +kernel
theorem dX3_init_9 : decode cX3_init 9 = .ok (.putfield 9, 3) := by decide +kernel
theorem dX3_init_12 : decode cX3_init 12 = .ok (.aload_n 0, 1) := by decide +kernel
theorem dX3_init_13 : decode cX3_init 13 = .ok (.bipush 60, 2) := by decide +kernel
theorem dX3_init_15 : decode cX3_init 15 = .ok (.newarray .long, 2) := by decide +kernel
theorem dX3_init_17 : decode cX3_init 17 = .ok (.putfield 15, 3) := by decide +kernel
theorem dX3_init_20 : decode cX3_init 20 = .ok (.return_, 1) := by decide +kernel
theorem dX3_reckon_0 : decode cX3_reckon 0 = .ok (.aload_n 0, 1) := by decide +kernel
theorem dX3_reckon_1 : decode cX3_reckon 1 = .ok (.iconst 0, 1) := by decide +kernel
theorem dX3_reckon_2 : decode cX3_reckon 2 = .ok (.putfield 18, 3) := by decide +kernel
theorem dX3_reckon_5 : decode cX3_reckon 5 = .ok (.aload_n 0, 1) := by decide +kernel
theorem dX3_reckon_6 : decode cX3_reckon 6 = .ok (.iconst 0, 1) := by decide +kernel
theorem dX3_reckon_7 : decode cX3_reckon 7 = .ok (.putfield 22, 3) := by decide +kernel
theorem dX3_reckon_10 : decode cX3_reckon 10 = .ok (.aload_n 0, 1) := by decide +kernel
theorem dX3_reckon_11 : decode cX3_reckon 11 = .ok (.iconst 0, 1) := by decide +kernel
theorem dX3_reckon_12 : decode cX3_reckon 12 = .ok (.putfield 25, 3) := by decide +kernel
theorem dX3_reckon_15 : decode cX3_reckon 15 = .ok (.iconst 0, 1) := by decide +kernel
theorem dX3_reckon_16 : decode cX3_reckon 16 = .ok (.istore_n 3, 1) := by decide +kernel
theorem dX3_reckon_17 : decode cX3_reckon 17 = .ok (.iload_n 3, 1) := by decide +kernel
theorem dX3_reckon_18 : decode cX3_reckon 18 = .ok (.aload_n 1, 1) := by decide +kernel
theorem dX3_reckon_19 : decode cX3_reckon 19 = .ok (.getfield 28, 3) := by decide +kernel
theorem dX3_reckon_22 : decode cX3_reckon 22 = .ok (.arraylength, 1) := by decide +kernel
theorem dX3_reckon_23 : decode cX3_reckon 23 = .ok (.if_icmp .ge 83, 3) := by decide +kernel
theorem dX3_reckon_26 : decode cX3_reckon 26 = .ok (.iload_n 3, 1) := by decide +kernel
theorem dX3_reckon_27 : decode cX3_reckon 27 = .ok (.aload_n 0, 1) := by decide +kernel
theorem dX3_reckon_28 : decode cX3_reckon 28 = .ok (.getfield 9, 3) := by decide +kernel
theorem dX3_reckon_31 : decode cX3_reckon 31 = .ok (.arraylength, 1) := by decide +kernel
theorem dX3_reckon_32 : decode cX3_reckon 32 = .ok (.if_icmp .ge 74, 3) := by decide +kernel
theorem dX3_reckon_35 : decode cX3_reckon 35 = .ok (.aload_n 0, 1) := by decide +kernel
theorem dX3_reckon_36 : decode cX3_reckon 36 = .ok (.aload_n 1, 1) := by decide +kernel
theorem dX3_reckon_37 : decode cX3_reckon 37 = .ok (.getfield 28, 3) := by decide +kernel
theorem dX3_reckon_40 : decode cX3_reckon 40 = .ok (.iload_n 3, 1) := by decide +kernel
theorem dX3_reckon_41 : decode cX3_reckon 41 = .ok (.iaload, 1) := by decide +kernel
theorem dX3_reckon_42 : decode cX3_reckon 42 = .ok (.aload_n 2, 1) := by decide +kernel
theorem dX3_reckon_43 : decode cX3_reckon 43 = .ok (.invokevirtual 34, 3) := by decide +kernel
theorem dX3_reckon_46 : decode cX3_reckon 46 = .ok (.lstore 4, 2) := by decide +kernel
theorem dX3_reckon_48 : decode cX3_reckon 48 = .ok (.lload 4, 2) := by decide +kernel
theorem dX3_reckon_50 : decode cX3_reckon 50 = .ok (.ldc2_w 38, 3) := by decide +kernel
theorem dX3_reckon_53 : decode cX3_reckon 53 = .ok (.lcmp, 1) := by decide +kernel
theorem dX3_reckon_54 : decode cX3_reckon 54 = .ok (.ifCond .le 9, 3) := by decide +kernel
theorem dX3_reckon_57 : decode cX3_reckon 57 = .ok (.aload_n 0, 1) := by decide +kernel
theorem dX3_reckon_58 : decode cX3_reckon 58 = .ok (.iconst 1, 1) := by decide +kernel
theorem dX3_reckon_59 : decode cX3_reckon 59 = .ok (.putfield 25, 3) := by decide +kernel
theorem dX3_reckon_62 : decode cX3_reckon 62 = .ok (.return_, 1) := by decide +kernel
theorem dX3_reckon_63 : decode cX3_reckon 63 = .ok (.lload 4, 2) := by decide +kernel
theorem dX3_reckon_65 : decode cX3_reckon 65 = .ok (.lconst 0, 1) := by decide +kernel
theorem dX3_reckon_66 : decode cX3_reckon 66 = .ok (.lcmp, 1) := by decide +kernel
theorem dX3_reckon_67 : decode cX3_reckon 67 = .ok (.ifCond .ge 9, 3) := by decide +kernel
theorem dX3_reckon_70 : decode cX3_reckon 70 = .ok (.aload_n 0, 1) := by decide +kernel
theorem dX3_reckon_71 : decode cX3_reckon 71 = .ok (.iconst 2, 1) := by decide +kernel
theorem dX3_reckon_72 : decode cX3_reckon 72 = .ok (.putfield 25, 3) := by decide +kernel
theorem dX3_reckon_75 : decode cX3_reckon 75 = .ok (.return_, 1) := by decide +kernel
theorem dX3_reckon_76 : decode cX3_reckon 76 = .ok (.aload_n 0, 1) := by decide +kernel
theorem dX3_reckon_77 : decode cX3_reckon 77 = .ok (.getfield 9, 3) := by decide +kernel
theorem dX3_reckon_80 : decode cX3_reckon 80 = .ok (.iload_n 3, 1) := by decide +kernel
theorem dX3_reckon_81 : decode cX3_reckon 81 = .ok (.lload 4, 2) := by decide +kernel
theorem dX3_reckon_83 : decode cX3_reckon 83 = .ok (.lastore, 1) := by decide +kernel
theorem dX3_reckon_84 : decode cX3_reckon 84 = .ok (.aload_n 0, 1) := by decide +kernel
theorem dX3_reckon_85 : decode cX3_reckon 85 = .ok (.dup, 1) := by decide +kernel
theorem dX3_reckon_86 : decode cX3_reckon 86 = .ok (.getfield 22, 3) := by decide +kernel
theorem dX3_reckon_89 : decode cX3_reckon 89 = .ok (.iconst 1, 1) := by decide +kernel
theorem dX3_reckon_90 : decode cX3_reckon 90 = .ok (.iadd, 1) := by decide +kernel
theorem dX3_reckon_91 : decode cX3_reckon 91 = .ok (.putfield 22, 3) := by decide +kernel
theorem dX3_reckon_94 : decode cX3_reckon 94 = .ok (.aload_n 0, 1) := by decide +kernel
theorem dX3_reckon_95 : decode cX3_reckon 95 = .ok (.lload 4, 2) := by decide +kernel
theorem dX3_reckon_97 : decode cX3_reckon 97 = .ok (.invokevirtual 40, 3) := by decide +kernel
theorem dX3_reckon_100 : decode cX3_reckon 100 = .ok (.iinc 3 1, 3) := by decide +kernel
theorem dX3_reckon_103 : decode cX3_reckon 103 = .ok (.goto (-86), 3) := by decide +kernel
theorem dX3_reckon_106 : decode cX3_reckon 106 = .ok (.return_, 1) := by decide +kernel
theorem dX3_numberOf_0 : decode cX3_numberOf 0 = .ok (.iload_n 1, 1) := by decide +kernel
theorem dX3_numberOf_1 : decode cX3_numberOf 1 = .ok (.sipush 10000, 3) := by decide +kernel
theorem dX3_numberOf_4 : decode cX3_numberOf 4 = .ok (.if_icmp .ge 6, 3) := by decide +kernel
theorem dX3_numberOf_7 : decode cX3_numberOf 7 = .ok (.iload_n 1, 1) := by decide +kernel
theorem dX3_numberOf_8 : decode cX3_numberOf 8 = .ok (.i2l, 1) := by decide +kernel
theorem dX3_numberOf_9 : decode cX3_numberOf 9 = .ok (.lreturn, 1) := by decide +kernel
theorem dX3_numberOf_10 : decode cX3_numberOf 10 = .ok (.iload_n 1, 1) := by decide +kernel
theorem dX3_numberOf_11 : decode cX3_numberOf 11 = .ok (.sipush 10000, 3) := by decide +kernel
theorem dX3_numberOf_14 : decode cX3_numberOf 14 = .ok (.isub, 1) := by decide +kernel
theorem dX3_numberOf_15 : decode cX3_numberOf 15 = .ok (.bipush 65, 2) := by decide +kernel
theorem dX3_numberOf_17 : decode cX3_numberOf 17 = .ok (.isub, 1) := by decide +kernel
theorem dX3_numberOf_18 : decode cX3_numberOf 18 = .ok (.istore_n 3, 1) := by decide +kernel
theorem dX3_numberOf_19 : decode cX3_numberOf 19 = .ok (.iload_n 3, 1) := by decide +kernel
theorem dX3_numberOf_20 : decode cX3_numberOf 20 = .ok (.i2l, 1) := by decide +kernel
theorem dX3_numberOf_21 : decode cX3_numberOf 21 = .ok (.lconst 0, 1) := by decide +kernel
theorem dX3_numberOf_22 : decode cX3_numberOf 22 = .ok (.ldc2_w 44, 3) := by decide +kernel
theorem dX3_numberOf_25 : decode cX3_numberOf 25 = .ok (.invokestatic 46, 3) := by decide +kernel
theorem dX3_numberOf_28 : decode cX3_numberOf 28 = .ok (.ifCond .eq 9, 3) := by decide +kernel
theorem dX3_numberOf_31 : decode cX3_numberOf 31 = .ok (.aload_n 2, 1) := by decide +kernel
theorem dX3_numberOf_32 : decode cX3_numberOf 32 = .ok (.iload_n 3, 1) := by decide +kernel
theorem dX3_numberOf_33 : decode cX3_numberOf 33 = .ok (.invokevirtual 50, 3) := by decide +kernel
theorem dX3_numberOf_36 : decode cX3_numberOf 36 = .ok (.lreturn, 1) := by decide +kernel
theorem dX3_numberOf_37 : decode cX3_numberOf 37 = .ok (.aload_n 0, 1) := by decide +kernel
theorem dX3_numberOf_38 : decode cX3_numberOf 38 = .ok (.invokevirtual 56, 3) := by decide +kernel
theorem dX3_numberOf_41 : decode cX3_numberOf 41 = .ok (.lstore 4, 2) := by decide +kernel
theorem dX3_numberOf_43 : decode cX3_numberOf 43 = .ok (.iload_n 1, 1) := by decide +kernel
theorem dX3_numberOf_44 : decode cX3_numberOf 44 = .ok (.sipush 10000, 3) := by decide +kernel
theorem dX3_numberOf_47 : decode cX3_numberOf 47 = .ok (.isub, 1) := by decide +kernel
theorem dX3_numberOf_48 : decode cX3_numberOf 48 = .ok (.lookupswitch 102 #[(42, 84), (43, 94), (107, 64), (113, 52), (115, 76)], 52) := by decide +kernel
theorem dX3_numberOf_100 : decode cX3_numberOf 100 = .ok (.lload 4, 2) := by decide +kernel
theorem dX3_numberOf_102 : decode cX3_numberOf 102 = .ok (.iconst 2, 1) := by decide +kernel
theorem dX3_numberOf_103 : decode cX3_numberOf 103 = .ok (.aload_n 2, 1) := by decide +kernel
theorem dX3_numberOf_104 : decode cX3_numberOf 104 = .ok (.iconst 0, 1) := by decide +kernel
theorem dX3_numberOf_105 : decode cX3_numberOf 105 = .ok (.invokevirtual 60, 3) := by decide +kernel
theorem dX3_numberOf_108 : decode cX3_numberOf 108 = .ok (.invokestatic 64, 3) := by decide +kernel
theorem dX3_numberOf_111 : decode cX3_numberOf 111 = .ok (.lreturn, 1) := by decide +kernel
theorem dX3_numberOf_112 : decode cX3_numberOf 112 = .ok (.lload 4, 2) := by decide +kernel
theorem dX3_numberOf_114 : decode cX3_numberOf 114 = .ok (.iconst 3, 1) := by decide +kernel
theorem dX3_numberOf_115 : decode cX3_numberOf 115 = .ok (.aload_n 2, 1) := by decide +kernel
theorem dX3_numberOf_116 : decode cX3_numberOf 116 = .ok (.iconst 0, 1) := by decide +kernel
theorem dX3_numberOf_117 : decode cX3_numberOf 117 = .ok (.invokevirtual 60, 3) := by decide +kernel
theorem dX3_numberOf_120 : decode cX3_numberOf 120 = .ok (.invokestatic 64, 3) := by decide +kernel
theorem dX3_numberOf_123 : decode cX3_numberOf 123 = .ok (.lreturn, 1) := by decide +kernel
theorem dX3_numberOf_124 : decode cX3_numberOf 124 = .ok (.lload 4, 2) := by decide +kernel
theorem dX3_numberOf_126 : decode cX3_numberOf 126 = .ok (.lload 4, 2) := by decide +kernel
theorem dX3_numberOf_128 : decode cX3_numberOf 128 = .ok (.invokestatic 68, 3) := by decide +kernel
theorem dX3_numberOf_131 : decode cX3_numberOf 131 = .ok (.lreturn, 1) := by decide +kernel
theorem dX3_numberOf_132 : decode cX3_numberOf 132 = .ok (.aload_n 0, 1) := by decide +kernel
theorem dX3_numberOf_133 : decode cX3_numberOf 133 = .ok (.invokevirtual 56, 3) := by decide +kernel
theorem dX3_numberOf_136 : decode cX3_numberOf 136 = .ok (.lload 4, 2) := by decide +kernel
theorem dX3_numberOf_138 : decode cX3_numberOf 138 = .ok (.invokestatic 68, 3) := by decide +kernel
theorem dX3_numberOf_141 : decode cX3_numberOf 141 = .ok (.lreturn, 1) := by decide +kernel
theorem dX3_numberOf_142 : decode cX3_numberOf 142 = .ok (.aload_n 0, 1) := by decide +kernel
theorem dX3_numberOf_143 : decode cX3_numberOf 143 = .ok (.invokevirtual 56, 3) := by decide +kernel
theorem dX3_numberOf_146 : decode cX3_numberOf 146 = .ok (.lload 4, 2) := by decide +kernel
theorem dX3_numberOf_148 : decode cX3_numberOf 148 = .ok (.ladd, 1) := by decide +kernel
theorem dX3_numberOf_149 : decode cX3_numberOf 149 = .ok (.lreturn, 1) := by decide +kernel
theorem dX3_numberOf_150 : decode cX3_numberOf 150 = .ok (.aload_n 0, 1) := by decide +kernel
theorem dX3_numberOf_151 : decode cX3_numberOf 151 = .ok (.invokevirtual 56, 3) := by decide +kernel
theorem dX3_numberOf_154 : decode cX3_numberOf 154 = .ok (.lload 4, 2) := by decide +kernel
theorem dX3_numberOf_156 : decode cX3_numberOf 156 = .ok (.lsub, 1) := by decide +kernel
theorem dX3_numberOf_157 : decode cX3_numberOf 157 = .ok (.lreturn, 1) := by decide +kernel
theorem dX3_product_0 : decode cX3_product 0 = .ok (.lload_n 0, 1) := by decide +kernel
theorem dX3_product_1 : decode cX3_product 1 = .ok (.lconst 0, 1) := by decide +kernel
theorem dX3_product_2 : decode cX3_product 2 = .ok (.lcmp, 1) := by decide +kernel
theorem dX3_product_3 : decode cX3_product 3 = .ok (.ifCond .le 19, 3) := by decide +kernel
theorem dX3_product_6 : decode cX3_product 6 = .ok (.lload_n 2, 1) := by decide +kernel
theorem dX3_product_7 : decode cX3_product 7 = .ok (.ldc2_w 38, 3) := by decide +kernel
theorem dX3_product_10 : decode cX3_product 10 = .ok (.lload_n 0, 1) := by decide +kernel
theorem dX3_product_11 : decode cX3_product 11 = .ok (.ldiv, 1) := by decide +kernel
theorem dX3_product_12 : decode cX3_product 12 = .ok (.lcmp, 1) := by decide +kernel
theorem dX3_product_13 : decode cX3_product 13 = .ok (.ifCond .le 9, 3) := by decide +kernel
theorem dX3_product_16 : decode cX3_product 16 = .ok (.ldc2_w 72, 3) := by decide +kernel
theorem dX3_product_19 : decode cX3_product 19 = .ok (.goto 6, 3) := by decide +kernel
theorem dX3_product_22 : decode cX3_product 22 = .ok (.lload_n 0, 1) := by decide +kernel
theorem dX3_product_23 : decode cX3_product 23 = .ok (.lload_n 2, 1) := by decide +kernel
theorem dX3_product_24 : decode cX3_product 24 = .ok (.lmul, 1) := by decide +kernel
theorem dX3_product_25 : decode cX3_product 25 = .ok (.lreturn, 1) := by decide +kernel
theorem dX3_result_0 : decode cX3_result 0 = .ok (.aload_n 0, 1) := by decide +kernel
theorem dX3_result_1 : decode cX3_result 1 = .ok (.aload_n 0, 1) := by decide +kernel
theorem dX3_result_2 : decode cX3_result 2 = .ok (.getfield 22, 3) := by decide +kernel
theorem dX3_result_5 : decode cX3_result 5 = .ok (.iconst 1, 1) := by decide +kernel
theorem dX3_result_6 : decode cX3_result 6 = .ok (.isub, 1) := by decide +kernel
theorem dX3_result_7 : decode cX3_result 7 = .ok (.invokevirtual 74, 3) := by decide +kernel
theorem dX3_result_10 : decode cX3_result 10 = .ok (.lreturn, 1) := by decide +kernel
theorem dX3_valueOf_0 : decode cX3_valueOf 0 = .ok (.iload_n 1, 1) := by decide +kernel
theorem dX3_valueOf_1 : decode cX3_valueOf 1 = .ok (.ifCond .lt 21, 3) := by decide +kernel
theorem dX3_valueOf_4 : decode cX3_valueOf 4 = .ok (.iload_n 1, 1) := by decide +kernel
theorem dX3_valueOf_5 : decode cX3_valueOf 5 = .ok (.aload_n 0, 1) := by decide +kernel
theorem dX3_valueOf_6 : decode cX3_valueOf 6 = .ok (.getfield 9, 3) := by decide +kernel
theorem dX3_valueOf_9 : decode cX3_valueOf 9 = .ok (.arraylength, 1) := by decide +kernel
theorem dX3_valueOf_10 : decode cX3_valueOf 10 = .ok (.if_icmp .ge 12, 3) := by decide +kernel
theorem dX3_valueOf_13 : decode cX3_valueOf 13 = .ok (.aload_n 0, 1) := by decide +kernel
theorem dX3_valueOf_14 : decode cX3_valueOf 14 = .ok (.getfield 9, 3) := by decide +kernel
theorem dX3_valueOf_17 : decode cX3_valueOf 17 = .ok (.iload_n 1, 1) := by decide +kernel
theorem dX3_valueOf_18 : decode cX3_valueOf 18 = .ok (.laload, 1) := by decide +kernel
theorem dX3_valueOf_19 : decode cX3_valueOf 19 = .ok (.goto 4, 3) := by decide +kernel
theorem dX3_valueOf_22 : decode cX3_valueOf 22 = .ok (.lconst 0, 1) := by decide +kernel
theorem dX3_valueOf_23 : decode cX3_valueOf 23 = .ok (.lreturn, 1) := by decide +kernel
theorem dX3_push_0 : decode cX3_push 0 = .ok (.aload_n 0, 1) := by decide +kernel
theorem dX3_push_1 : decode cX3_push 1 = .ok (.getfield 18, 3) := by decide +kernel
theorem dX3_push_4 : decode cX3_push 4 = .ok (.ifCond .lt 35, 3) := by decide +kernel
theorem dX3_push_7 : decode cX3_push 7 = .ok (.aload_n 0, 1) := by decide +kernel
theorem dX3_push_8 : decode cX3_push 8 = .ok (.getfield 18, 3) := by decide +kernel
theorem dX3_push_11 : decode cX3_push 11 = .ok (.aload_n 0, 1) := by decide +kernel
theorem dX3_push_12 : decode cX3_push 12 = .ok (.getfield 15, 3) := by decide +kernel
theorem dX3_push_15 : decode cX3_push 15 = .ok (.arraylength, 1) := by decide +kernel
theorem dX3_push_16 : decode cX3_push 16 = .ok (.if_icmp .ge 23, 3) := by decide +kernel
theorem dX3_push_19 : decode cX3_push 19 = .ok (.aload_n 0, 1) := by decide +kernel
theorem dX3_push_20 : decode cX3_push 20 = .ok (.getfield 15, 3) := by decide +kernel
theorem dX3_push_23 : decode cX3_push 23 = .ok (.aload_n 0, 1) := by decide +kernel
theorem dX3_push_24 : decode cX3_push 24 = .ok (.getfield 18, 3) := by decide +kernel
theorem dX3_push_27 : decode cX3_push 27 = .ok (.lload_n 1, 1) := by decide +kernel
theorem dX3_push_28 : decode cX3_push 28 = .ok (.lastore, 1) := by decide +kernel
theorem dX3_push_29 : decode cX3_push 29 = .ok (.aload_n 0, 1) := by decide +kernel
theorem dX3_push_30 : decode cX3_push 30 = .ok (.dup, 1) := by decide +kernel
theorem dX3_push_31 : decode cX3_push 31 = .ok (.getfield 18, 3) := by decide +kernel
theorem dX3_push_34 : decode cX3_push 34 = .ok (.iconst 1, 1) := by decide +kernel
theorem dX3_push_35 : decode cX3_push 35 = .ok (.iadd, 1) := by decide +kernel
theorem dX3_push_36 : decode cX3_push 36 = .ok (.putfield 18, 3) := by decide +kernel
theorem dX3_push_39 : decode cX3_push 39 = .ok (.return_, 1) := by decide +kernel
theorem dX3_pop_0 : decode cX3_pop 0 = .ok (.aload_n 0, 1) := by decide +kernel
theorem dX3_pop_1 : decode cX3_pop 1 = .ok (.getfield 18, 3) := by decide +kernel
theorem dX3_pop_4 : decode cX3_pop 4 = .ok (.iconst 1, 1) := by decide +kernel
theorem dX3_pop_5 : decode cX3_pop 5 = .ok (.if_icmp .lt 15, 3) := by decide +kernel
theorem dX3_pop_8 : decode cX3_pop 8 = .ok (.aload_n 0, 1) := by decide +kernel
theorem dX3_pop_9 : decode cX3_pop 9 = .ok (.getfield 18, 3) := by decide +kernel
theorem dX3_pop_12 : decode cX3_pop 12 = .ok (.aload_n 0, 1) := by decide +kernel
theorem dX3_pop_13 : decode cX3_pop 13 = .ok (.getfield 15, 3) := by decide +kernel
theorem dX3_pop_16 : decode cX3_pop 16 = .ok (.arraylength, 1) := by decide +kernel
theorem dX3_pop_17 : decode cX3_pop 17 = .ok (.if_icmp .le 5, 3) := by decide +kernel
theorem dX3_pop_20 : decode cX3_pop 20 = .ok (.lconst 0, 1) := by decide +kernel
theorem dX3_pop_21 : decode cX3_pop 21 = .ok (.lreturn, 1) := by decide +kernel
theorem dX3_pop_22 : decode cX3_pop 22 = .ok (.aload_n 0, 1) := by decide +kernel
theorem dX3_pop_23 : decode cX3_pop 23 = .ok (.dup, 1) := by decide +kernel
theorem dX3_pop_24 : decode cX3_pop 24 = .ok (.getfield 18, 3) := by decide +kernel
theorem dX3_pop_27 : decode cX3_pop 27 = .ok (.iconst 1, 1) := by decide +kernel
theorem dX3_pop_28 : decode cX3_pop 28 = .ok (.isub, 1) := by decide +kernel
theorem dX3_pop_29 : decode cX3_pop 29 = .ok (.putfield 18, 3) := by decide +kernel
theorem dX3_pop_32 : decode cX3_pop 32 = .ok (.aload_n 0, 1) := by decide +kernel
theorem dX3_pop_33 : decode cX3_pop 33 = .ok (.getfield 15, 3) := by decide +kernel
theorem dX3_pop_36 : decode cX3_pop 36 = .ok (.aload_n 0, 1) := by decide +kernel
theorem dX3_pop_37 : decode cX3_pop 37 = .ok (.getfield 18, 3) := by decide +kernel
theorem dX3_pop_40 : decode cX3_pop 40 = .ok (.laload, 1) := by decide +kernel
theorem dX3_pop_41 : decode cX3_pop 41 = .ok (.lreturn, 1) := by decide +kernel
theorem dX4_init_0 : decode cX4_init 0 = .ok (.aload_n 0, 1) := by decide +kernel
theorem dX4_init_1 : decode cX4_init 1 = .ok (.invokespecial 3, 3) := by decide +kernel
theorem dX4_init_4 : decode cX4_init 4 = .ok (.aload_n 0, 1) := by decide +kernel
theorem dX4_init_5 : decode cX4_init 5 = .ok (.iconst 2, 1) := by decide +kernel
theorem dX4_init_6 : decode cX4_init 6 = .ok (.newarray .int, 2) := by decide +kernel
theorem dX4_init_8 : decode cX4_init 8 = .ok (.dup, 1) := by decide +kernel
theorem dX4_init_9 : decode cX4_init 9 = .ok (.iconst 0, 1) := by decide +kernel
theorem dX4_init_10 : decode cX4_init 10 = .ok (.iconst 0, 1) := by decide +kernel
theorem dX4_init_11 : decode cX4_init 11 = .ok (.iastore, 1) := by decide +kernel
theorem dX4_init_12 : decode cX4_init 12 = .ok (.dup, 1) := by decide +kernel
theorem dX4_init_13 : decode cX4_init 13 = .ok (.iconst 1, 1) := by decide +kernel
theorem dX4_init_14 : decode cX4_init 14 = .ok (.iconst 3, 1) := by decide +kernel
theorem dX4_init_15 : decode cX4_init 15 = .ok (.iastore, 1) := by decide +kernel
theorem dX4_init_16 : decode cX4_init 16 = .ok (.putfield 9, 3) := by decide +kernel
theorem dX4_init_19 : decode cX4_init 19 = .ok (.aload_n 0, 1) := by decide +kernel
theorem dX4_init_20 : decode cX4_init 20 = .ok (.bipush 8, 2) := by decide +kernel
theorem dX4_init_22 : decode cX4_init 22 = .ok (.newarray .long, 2) := by decide +kernel
theorem dX4_init_24 : decode cX4_init 24 = .ok (.putfield 15, 3) := by decide +kernel
theorem dX4_init_27 : decode cX4_init 27 = .ok (.aload_n 0, 1) := by decide +kernel
theorem dX4_init_28 : decode cX4_init 28 = .ok (.bipush 6, 2) := by decide +kernel
theorem dX4_init_30 : decode cX4_init 30 = .ok (.anewarray 19, 3) := by decide +kernel
theorem dX4_init_33 : decode cX4_init 33 = .ok (.putfield 21, 3) := by decide +kernel
theorem dX4_init_36 : decode cX4_init 36 = .ok (.return_, 1) := by decide +kernel
theorem dX4_become_0 : decode cX4_become 0 = .ok (.aload_n 1, 1) := by decide +kernel
theorem dX4_become_1 : decode cX4_become 1 = .ok (.ifnonnull 4, 3) := by decide +kernel
theorem dX4_become_4 : decode cX4_become 4 = .ok (.return_, 1) := by decide +kernel
theorem dX4_become_5 : decode cX4_become 5 = .ok (.iconst 0, 1) := by decide +kernel
theorem dX4_become_6 : decode cX4_become 6 = .ok (.istore_n 2, 1) := by decide +kernel
theorem dX4_become_7 : decode cX4_become 7 = .ok (.iload_n 2, 1) := by decide +kernel
theorem dX4_become_8 : decode cX4_become 8 = .ok (.aload_n 0, 1) := by decide +kernel
theorem dX4_become_9 : decode cX4_become 9 = .ok (.getfield 9, 3) := by decide +kernel
theorem dX4_become_12 : decode cX4_become 12 = .ok (.arraylength, 1) := by decide +kernel
theorem dX4_become_13 : decode cX4_become 13 = .ok (.if_icmp .ge 20, 3) := by decide +kernel
theorem dX4_become_16 : decode cX4_become 16 = .ok (.aload_n 0, 1) := by decide +kernel
theorem dX4_become_17 : decode cX4_become 17 = .ok (.getfield 9, 3) := by decide +kernel
theorem dX4_become_20 : decode cX4_become 20 = .ok (.iload_n 2, 1) := by decide +kernel
theorem dX4_become_21 : decode cX4_become 21 = .ok (.aload_n 1, 1) := by decide +kernel
theorem dX4_become_22 : decode cX4_become 22 = .ok (.iload_n 2, 1) := by decide +kernel
theorem dX4_become_23 : decode cX4_become 23 = .ok (.invokevirtual 25, 3) := by decide +kernel
theorem dX4_become_26 : decode cX4_become 26 = .ok (.iastore, 1) := by decide +kernel
theorem dX4_become_27 : decode cX4_become 27 = .ok (.iinc 2 1, 3) := by decide +kernel
theorem dX4_become_30 : decode cX4_become 30 = .ok (.goto (-23), 3) := by decide +kernel
theorem dX4_become_33 : decode cX4_become 33 = .ok (.iconst 0, 1) := by decide +kernel
theorem dX4_become_34 : decode cX4_become 34 = .ok (.istore_n 2, 1) := by decide +kernel
theorem dX4_become_35 : decode cX4_become 35 = .ok (.iload_n 2, 1) := by decide +kernel
theorem dX4_become_36 : decode cX4_become 36 = .ok (.aload_n 0, 1) := by decide +kernel
theorem dX4_become_37 : decode cX4_become 37 = .ok (.getfield 15, 3) := by decide +kernel
theorem dX4_become_40 : decode cX4_become 40 = .ok (.arraylength, 1) := by decide +kernel
theorem dX4_become_41 : decode cX4_become 41 = .ok (.if_icmp .ge 20, 3) := by decide +kernel
theorem dX4_become_44 : decode cX4_become 44 = .ok (.aload_n 0, 1) := by decide +kernel
theorem dX4_become_45 : decode cX4_become 45 = .ok (.getfield 15, 3) := by decide +kernel
theorem dX4_become_48 : decode cX4_become 48 = .ok (.iload_n 2, 1) := by decide +kernel
theorem dX4_become_49 : decode cX4_become 49 = .ok (.aload_n 1, 1) := by decide +kernel
theorem dX4_become_50 : decode cX4_become 50 = .ok (.iload_n 2, 1) := by decide +kernel
theorem dX4_become_51 : decode cX4_become 51 = .ok (.invokevirtual 29, 3) := by decide +kernel
theorem dX4_become_54 : decode cX4_become 54 = .ok (.lastore, 1) := by decide +kernel
theorem dX4_become_55 : decode cX4_become 55 = .ok (.iinc 2 1, 3) := by decide +kernel
theorem dX4_become_58 : decode cX4_become 58 = .ok (.goto (-23), 3) := by decide +kernel
theorem dX4_become_61 : decode cX4_become 61 = .ok (.iconst 0, 1) := by decide +kernel
theorem dX4_become_62 : decode cX4_become 62 = .ok (.istore_n 2, 1) := by decide +kernel
theorem dX4_become_63 : decode cX4_become 63 = .ok (.iload_n 2, 1) := by decide +kernel
theorem dX4_become_64 : decode cX4_become 64 = .ok (.aload_n 0, 1) := by decide +kernel
theorem dX4_become_65 : decode cX4_become 65 = .ok (.getfield 21, 3) := by decide +kernel
theorem dX4_become_68 : decode cX4_become 68 = .ok (.arraylength, 1) := by decide +kernel
theorem dX4_become_69 : decode cX4_become 69 = .ok (.if_icmp .ge 20, 3) := by decide +kernel
theorem dX4_become_72 : decode cX4_become 72 = .ok (.aload_n 0, 1) := by decide +kernel
theorem dX4_become_73 : decode cX4_become 73 = .ok (.getfield 21, 3) := by decide +kernel
theorem dX4_become_76 : decode cX4_become 76 = .ok (.iload_n 2, 1) := by decide +kernel
theorem dX4_become_77 : decode cX4_become 77 = .ok (.aload_n 1, 1) := by decide +kernel
theorem dX4_become_78 : decode cX4_become 78 = .ok (.iload_n 2, 1) := by decide +kernel
theorem dX4_become_79 : decode cX4_become 79 = .ok (.invokevirtual 33, 3) := by decide +kernel
theorem dX4_become_82 : decode cX4_become 82 = .ok (.aastore, 1) := by decide +kernel
theorem dX4_become_83 : decode cX4_become 83 = .ok (.iinc 2 1, 3) := by decide +kernel
theorem dX4_become_86 : decode cX4_become 86 = .ok (.goto (-23), 3) := by decide +kernel
theorem dX4_become_89 : decode cX4_become 89 = .ok (.return_, 1) := by decide +kernel
theorem dX4_setting_0 : decode cX4_setting 0 = .ok (.iload_n 1, 1) := by decide +kernel
theorem dX4_setting_1 : decode cX4_setting 1 = .ok (.ifCond .lt 21, 3) := by decide +kernel
theorem dX4_setting_4 : decode cX4_setting 4 = .ok (.iload_n 1, 1) := by decide +kernel
theorem dX4_setting_5 : decode cX4_setting 5 = .ok (.aload_n 0, 1) := by decide +kernel
theorem dX4_setting_6 : decode cX4_setting 6 = .ok (.getfield 9, 3) := by decide +kernel
theorem dX4_setting_9 : decode cX4_setting 9 = .ok (.arraylength, 1) := by decide +kernel
theorem dX4_setting_10 : decode cX4_setting 10 = .ok (.if_icmp .ge 12, 3) := by decide +kernel
theorem dX4_setting_13 : decode cX4_setting 13 = .ok (.aload_n 0, 1) := by decide +kernel
theorem dX4_setting_14 : decode cX4_setting 14 = .ok (.getfield 9, 3) := by decide +kernel
theorem dX4_setting_17 : decode cX4_setting 17 = .ok (.iload_n 1, 1) := by decide +kernel
theorem dX4_setting_18 : decode cX4_setting 18 = .ok (.iaload, 1) := by decide +kernel
theorem dX4_setting_19 : decode cX4_setting 19 = .ok (.goto 4, 3) := by decide +kernel
theorem dX4_setting_22 : decode cX4_setting 22 = .ok (.iconst 0, 1) := by decide +kernel
theorem dX4_setting_23 : decode cX4_setting 23 = .ok (.ireturn, 1) := by decide +kernel
theorem dX4_changeSetting_0 : decode cX4_changeSetting 0 = .ok (.iload_n 1, 1) := by decide +kernel
theorem dX4_changeSetting_1 : decode cX4_changeSetting 1 = .ok (.ifCond .lt 19, 3) := by decide +kernel
theorem dX4_changeSetting_4 : decode cX4_changeSetting 4 = .ok (.iload_n 1, 1) := by decide +kernel
theorem dX4_changeSetting_5 : decode cX4_changeSetting 5 = .ok (.aload_n 0, 1) := by decide +kernel
theorem dX4_changeSetting_6 : decode cX4_changeSetting 6 = .ok (.getfield 9, 3) := by decide +kernel
theorem dX4_changeSetting_9 : decode cX4_changeSetting 9 = .ok (.arraylength, 1) := by decide +kernel
theorem dX4_changeSetting_10 : decode cX4_changeSetting 10 = .ok (.if_icmp .ge 10, 3) := by decide +kernel
theorem dX4_changeSetting_13 : decode cX4_changeSetting 13 = .ok (.aload_n 0, 1) := by decide +kernel
theorem dX4_changeSetting_14 : decode cX4_changeSetting 14 = .ok (.getfield 9, 3) := by decide +kernel
theorem dX4_changeSetting_17 : decode cX4_changeSetting 17 = .ok (.iload_n 1, 1) := by decide +kernel
theorem dX4_changeSetting_18 : decode cX4_changeSetting 18 = .ok (.iload_n 2, 1) := by decide +kernel
theorem dX4_changeSetting_19 : decode cX4_changeSetting 19 = .ok (.iastore, 1) := by decide +kernel
theorem dX4_changeSetting_20 : decode cX4_changeSetting 20 = .ok (.return_, 1) := by decide +kernel
theorem dX4_cellValue_0 : decode cX4_cellValue 0 = .ok (.iload_n 1, 1) := by decide +kernel
theorem dX4_cellValue_1 : decode cX4_cellValue 1 = .ok (.ifCond .lt 21, 3) := by decide +kernel
theorem dX4_cellValue_4 : decode cX4_cellValue 4 = .ok (.iload_n 1, 1) := by decide +kernel
theorem dX4_cellValue_5 : decode cX4_cellValue 5 = .ok (.aload_n 0, 1) := by decide +kernel
theorem dX4_cellValue_6 : decode cX4_cellValue 6 = .ok (.getfield 15, 3) := by decide +kernel
theorem dX4_cellValue_9 : decode cX4_cellValue 9 = .ok (.arraylength, 1) := by decide +kernel
theorem dX4_cellValue_10 : decode cX4_cellValue 10 = .ok (.if_icmp .ge 12, 3) := by decide +kernel
theorem dX4_cellValue_13 : decode cX4_cellValue 13 = .ok (.aload_n 0, 1) := by decide +kernel
theorem dX4_cellValue_14 : decode cX4_cellValue 14 = .ok (.getfield 15, 3) := by decide +kernel
theorem dX4_cellValue_17 : decode cX4_cellValue 17 = .ok (.iload_n 1, 1) := by decide +kernel
theorem dX4_cellValue_18 : decode cX4_cellValue 18 = .ok (.laload, 1) := by decide +kernel
theorem dX4_cellValue_19 : decode cX4_cellValue 19 = .ok (.goto 4, 3) := by decide +kernel
theorem dX4_cellValue_22 : decode cX4_cellValue 22 = .ok (.lconst 0, 1) := by decide +kernel
theorem dX4_cellValue_23 : decode cX4_cellValue 23 = .ok (.lreturn, 1) := by decide +kernel
theorem dX4_changeCell_0 : decode cX4_changeCell 0 = .ok (.iload_n 1, 1) := by decide +kernel
theorem dX4_changeCell_1 : decode cX4_changeCell 1 = .ok (.ifCond .lt 19, 3) := by decide +kernel
theorem dX4_changeCell_4 : decode cX4_changeCell 4 = .ok (.iload_n 1, 1) := by decide +kernel
theorem dX4_changeCell_5 : decode cX4_changeCell 5 = .ok (.aload_n 0, 1) := by decide +kernel
theorem dX4_changeCell_6 : decode cX4_changeCell 6 = .ok (.getfield 15, 3) := by decide +kernel
theorem dX4_changeCell_9 : decode cX4_changeCell 9 = .ok (.arraylength, 1) := by decide +kernel
theorem dX4_changeCell_10 : decode cX4_changeCell 10 = .ok (.if_icmp .ge 10, 3) := by decide +kernel
theorem dX4_changeCell_13 : decode cX4_changeCell 13 = .ok (.aload_n 0, 1) := by decide +kernel
theorem dX4_changeCell_14 : decode cX4_changeCell 14 = .ok (.getfield 15, 3) := by decide +kernel
theorem dX4_changeCell_17 : decode cX4_changeCell 17 = .ok (.iload_n 1, 1) := by decide +kernel
theorem dX4_changeCell_18 : decode cX4_changeCell 18 = .ok (.lload_n 2, 1) := by decide +kernel
theorem dX4_changeCell_19 : decode cX4_changeCell 19 = .ok (.lastore, 1) := by decide +kernel
theorem dX4_changeCell_20 : decode cX4_changeCell 20 = .ok (.return_, 1) := by decide +kernel
theorem dX4_formula_0 : decode cX4_formula 0 = .ok (.iload_n 1, 1) := by decide +kernel
theorem dX4_formula_1 : decode cX4_formula 1 = .ok (.ifCond .lt 21, 3) := by decide +kernel
theorem dX4_formula_4 : decode cX4_formula 4 = .ok (.iload_n 1, 1) := by decide +kernel
theorem dX4_formula_5 : decode cX4_formula 5 = .ok (.aload_n 0, 1) := by decide +kernel
theorem dX4_formula_6 : decode cX4_formula 6 = .ok (.getfield 21, 3) := by decide +kernel
theorem dX4_formula_9 : decode cX4_formula 9 = .ok (.arraylength, 1) := by decide +kernel
theorem dX4_formula_10 : decode cX4_formula 10 = .ok (.if_icmp .ge 12, 3) := by decide +kernel
theorem dX4_formula_13 : decode cX4_formula 13 = .ok (.aload_n 0, 1) := by decide +kernel
theorem dX4_formula_14 : decode cX4_formula 14 = .ok (.getfield 21, 3) := by decide +kernel
theorem dX4_formula_17 : decode cX4_formula 17 = .ok (.iload_n 1, 1) := by decide +kernel
theorem dX4_formula_18 : decode cX4_formula 18 = .ok (.aaload, 1) := by decide +kernel
theorem dX4_formula_19 : decode cX4_formula 19 = .ok (.goto 4, 3) := by decide +kernel
theorem dX4_formula_22 : decode cX4_formula 22 = .ok (.aconst_null, 1) := by decide +kernel
theorem dX4_formula_23 : decode cX4_formula 23 = .ok (.areturn, 1) := by decide +kernel
theorem dX4_changeFormula_0 : decode cX4_changeFormula 0 = .ok (.iload_n 1, 1) := by decide +kernel
theorem dX4_changeFormula_1 : decode cX4_changeFormula 1 = .ok (.ifCond .lt 19, 3) := by decide +kernel
theorem dX4_changeFormula_4 : decode cX4_changeFormula 4 = .ok (.iload_n 1, 1) := by decide +kernel
theorem dX4_changeFormula_5 : decode cX4_changeFormula 5 = .ok (.aload_n 0, 1) := by decide +kernel
theorem dX4_changeFormula_6 : decode cX4_changeFormula 6 = .ok (.getfield 21, 3) := by decide +kernel
theorem dX4_changeFormula_9 : decode cX4_changeFormula 9 = .ok (.arraylength, 1) := by decide +kernel
theorem dX4_changeFormula_10 : decode cX4_changeFormula 10 = .ok (.if_icmp .ge 10, 3) := by decide +kernel
theorem dX4_changeFormula_13 : decode cX4_changeFormula 13 = .ok (.aload_n 0, 1) := by decide +kernel
theorem dX4_changeFormula_14 : decode cX4_changeFormula 14 = .ok (.getfield 21, 3) := by decide +kernel
theorem dX4_changeFormula_17 : decode cX4_changeFormula 17 = .ok (.iload_n 1, 1) := by decide +kernel
theorem dX4_changeFormula_18 : decode cX4_changeFormula 18 = .ok (.aload_n 2, 1) := by decide +kernel
theorem dX4_changeFormula_19 : decode cX4_changeFormula 19 = .ok (.aastore, 1) := by decide +kernel
theorem dX4_changeFormula_20 : decode cX4_changeFormula 20 = .ok (.return_, 1) := by decide +kernel
theorem dX4_formulasThere_0 : decode cX4_formulasThere 0 = .ok (.iconst 0, 1) := by decide +kernel
theorem dX4_formulasThere_1 : decode cX4_formulasThere 1 = .ok (.istore_n 1, 1) := by decide +kernel
theorem dX4_formulasThere_2 : decode cX4_formulasThere 2 = .ok (.iconst 0, 1) := by decide +kernel
theorem dX4_formulasThere_3 : decode cX4_formulasThere 3 = .ok (.istore_n 2, 1) := by decide +kernel
theorem dX4_formulasThere_4 : decode cX4_formulasThere 4 = .ok (.iload_n 2, 1) := by decide +kernel
theorem dX4_formulasThere_5 : decode cX4_formulasThere 5 = .ok (.aload_n 0, 1) := by decide +kernel
theorem dX4_formulasThere_6 : decode cX4_formulasThere 6 = .ok (.getfield 21, 3) := by decide +kernel
theorem dX4_formulasThere_9 : decode cX4_formulasThere 9 = .ok (.arraylength, 1) := by decide +kernel
theorem dX4_formulasThere_10 : decode cX4_formulasThere 10 = .ok (.if_icmp .ge 24, 3) := by decide +kernel
theorem dX4_formulasThere_13 : decode cX4_formulasThere 13 = .ok (.aload_n 0, 1) := by decide +kernel
theorem dX4_formulasThere_14 : decode cX4_formulasThere 14 = .ok (.getfield 21, 3) := by decide +kernel
theorem dX4_formulasThere_17 : decode cX4_formulasThere 17 = .ok (.iload_n 2, 1) := by decide +kernel
theorem dX4_formulasThere_18 : decode cX4_formulasThere 18 = .ok (.aaload, 1) := by decide +kernel
theorem dX4_formulasThere_19 : decode cX4_formulasThere 19 = .ok (.ifnull 9, 3) := by decide +kernel
theorem dX4_formulasThere_22 : decode cX4_formulasThere 22 = .ok (.iload_n 1, 1) := by decide +kernel
theorem dX4_formulasThere_23 : decode cX4_formulasThere 23 = .ok (.iconst 1, 1) := by decide +kernel
theorem dX4_formulasThere_24 : decode cX4_formulasThere 24 = .ok (.iload_n 2, 1) := by decide +kernel
theorem dX4_formulasThere_25 : decode cX4_formulasThere 25 = .ok (.ishl, 1) := by decide +kernel
theorem dX4_formulasThere_26 : decode cX4_formulasThere 26 = .ok (.ior, 1) := by decide +kernel
theorem dX4_formulasThere_27 : decode cX4_formulasThere 27 = .ok (.istore_n 1, 1) := by decide +kernel
theorem dX4_formulasThere_28 : decode cX4_formulasThere 28 = .ok (.iinc 2 1, 3) := by decide +kernel
theorem dX4_formulasThere_31 : decode cX4_formulasThere 31 = .ok (.goto (-27), 3) := by decide +kernel
theorem dX4_formulasThere_34 : decode cX4_formulasThere 34 = .ok (.iload_n 1, 1) := by decide +kernel
theorem dX4_formulasThere_35 : decode cX4_formulasThere 35 = .ok (.ireturn, 1) := by decide +kernel
theorem dX4_cellsNotZero_0 : decode cX4_cellsNotZero 0 = .ok (.iconst 0, 1) := by decide +kernel
theorem dX4_cellsNotZero_1 : decode cX4_cellsNotZero 1 = .ok (.istore_n 1, 1) := by decide +kernel
theorem dX4_cellsNotZero_2 : decode cX4_cellsNotZero 2 = .ok (.iconst 0, 1) := by decide +kernel
theorem dX4_cellsNotZero_3 : decode cX4_cellsNotZero 3 = .ok (.istore_n 2, 1) := by decide +kernel
theorem dX4_cellsNotZero_4 : decode cX4_cellsNotZero 4 = .ok (.iload_n 2, 1) := by decide +kernel
theorem dX4_cellsNotZero_5 : decode cX4_cellsNotZero 5 = .ok (.aload_n 0, 1) := by decide +kernel
theorem dX4_cellsNotZero_6 : decode cX4_cellsNotZero 6 = .ok (.getfield 15, 3) := by decide +kernel
theorem dX4_cellsNotZero_9 : decode cX4_cellsNotZero 9 = .ok (.arraylength, 1) := by decide +kernel
theorem dX4_cellsNotZero_10 : decode cX4_cellsNotZero 10 = .ok (.if_icmp .ge 23, 3) := by decide +kernel
theorem dX4_cellsNotZero_13 : decode cX4_cellsNotZero 13 = .ok (.aload_n 0, 1) := by decide +kernel
theorem dX4_cellsNotZero_14 : decode cX4_cellsNotZero 14 = .ok (.getfield 15, 3) := by decide +kernel
theorem dX4_cellsNotZero_17 : decode cX4_cellsNotZero 17 = .ok (.iload_n 2, 1) := by decide +kernel
theorem dX4_cellsNotZero_18 : decode cX4_cellsNotZero 18 = .ok (.laload, 1) := by decide +kernel
theorem dX4_cellsNotZero_19 : decode cX4_cellsNotZero 19 = .ok (.lconst 0, 1) := by decide +kernel
theorem dX4_cellsNotZero_20 : decode cX4_cellsNotZero 20 = .ok (.lcmp, 1) := by decide +kernel
theorem dX4_cellsNotZero_21 : decode cX4_cellsNotZero 21 = .ok (.ifCond .eq 6, 3) := by decide +kernel
theorem dX4_cellsNotZero_24 : decode cX4_cellsNotZero 24 = .ok (.iinc 1 1, 3) := by decide +kernel
theorem dX4_cellsNotZero_27 : decode cX4_cellsNotZero 27 = .ok (.iinc 2 1, 3) := by decide +kernel
theorem dX4_cellsNotZero_30 : decode cX4_cellsNotZero 30 = .ok (.goto (-26), 3) := by decide +kernel
theorem dX4_cellsNotZero_33 : decode cX4_cellsNotZero 33 = .ok (.iload_n 1, 1) := by decide +kernel
theorem dX4_cellsNotZero_34 : decode cX4_cellsNotZero 34 = .ok (.ireturn, 1) := by decide +kernel
