theorem dX6_init_0 : decode cX6_init 0 = .ok (.aload_n 0, 1) := by decide +kernel
theorem dX6_init_1 : decode cX6_init 1 = .ok (.invokespecial 1, 3) := by decide +kernel
theorem dX6_init_4 : decode cX6_init 4 = .ok (.aload_n 0, 1) := by decide +kernel
theorem dX6_init_5 : decode cX6_init 5 = .ok (.sipush 728, 3) := by decide +kernel
theorem dX6_init_8 : decode cX6_init 8 = .ok (.newarray .int, 2) := by decide +kernel
theorem dX6_init_10 : decode cX6_init 10 = .ok (.putfield 7, 3) := by decide +kernel
theorem dX6_init_13 : decode cX6_init 13 = .ok (.aload_n 0, 1) := by decide +kernel
theorem dX6_init_14 : decode cX6_init 14 = .ok (.bipush 8, 2) := by decide +kernel
theorem dX6_init_16 : decode cX6_init 16 = .ok (.newarray .long, 2) := by decide +kernel
theorem dX6_init_18 : decode cX6_init 18 = .ok (.putfield 13, 3) := by decide +kernel
theorem dX6_init_21 : decode cX6_init 21 = .ok (.aload_n 0, 1) := by decide +kernel
theorem dX6_init_22 : decode cX6_init 22 = .ok (.sipush 4368, 3) := by decide +kernel
theorem dX6_init_25 : decode cX6_init 25 = .ok (.newarray .int, 2) := by decide +kernel
theorem dX6_init_27 : decode cX6_init 27 = .ok (.putfield 17, 3) := by decide +kernel
theorem dX6_init_30 : decode cX6_init 30 = .ok (.aload_n 0, 1) := by decide +kernel
theorem dX6_init_31 : decode cX6_init 31 = .ok (.bipush 48, 2) := by decide +kernel
theorem dX6_init_33 : decode cX6_init 33 = .ok (.newarray .long, 2) := by decide +kernel
theorem dX6_init_35 : decode cX6_init 35 = .ok (.putfield 20, 3) := by decide +kernel
theorem dX6_init_38 : decode cX6_init 38 = .ok (.aload_n 0, 1) := by decide +kernel
theorem dX6_init_39 : decode cX6_init 39 = .ok (.sipush 1456, 3) := by decide +kernel
theorem dX6_init_42 : decode cX6_init 42 = .ok (.newarray .int, 2) := by decide +kernel
theorem dX6_init_44 : decode cX6_init 44 = .ok (.putfield 23, 3) := by decide +kernel
theorem dX6_init_47 : decode cX6_init 47 = .ok (.aload_n 0, 1) := by decide +kernel
theorem dX6_init_48 : decode cX6_init 48 = .ok (.bipush 16, 2) := by decide +kernel
theorem dX6_init_50 : decode cX6_init 50 = .ok (.newarray .long, 2) := by decide +kernel
theorem dX6_init_52 : decode cX6_init 52 = .ok (.putfield 26, 3) := by decide +kernel
theorem dX6_init_55 : decode cX6_init 55 = .ok (.aload_n 0, 1) := by decide +kernel
theorem dX6_init_56 : decode cX6_init 56 = .ok (.iconst 2, 1) := by decide +kernel
theorem dX6_init_57 : decode cX6_init 57 = .ok (.newarray .boolean, 2) := by decide +kernel
theorem dX6_init_59 : decode cX6_init 59 = .ok (.putfield 29, 3) := by decide +kernel
theorem dX6_init_62 : decode cX6_init 62 = .ok (.aload_n 0, 1) := by decide +kernel
theorem dX6_init_63 : decode cX6_init 63 = .ok (.bipush 60, 2) := by decide +kernel
theorem dX6_init_65 : decode cX6_init 65 = .ok (.newarray .int, 2) := by decide +kernel
theorem dX6_init_67 : decode cX6_init 67 = .ok (.putfield 33, 3) := by decide +kernel
theorem dX6_init_70 : decode cX6_init 70 = .ok (.aload_n 0, 1) := by decide +kernel
theorem dX6_init_71 : decode cX6_init 71 = .ok (.bipush 60, 2) := by decide +kernel
theorem dX6_init_73 : decode cX6_init 73 = .ok (.newarray .int, 2) := by decide +kernel
theorem dX6_init_75 : decode cX6_init 75 = .ok (.putfield 36, 3) := by decide +kernel
theorem dX6_init_78 : decode cX6_init 78 = .ok (.aload_n 0, 1) := by decide +kernel
theorem dX6_init_79 : decode cX6_init 79 = .ok (.bipush 60, 2) := by decide +kernel
theorem dX6_init_81 : decode cX6_init 81 = .ok (.newarray .int, 2) := by decide +kernel
theorem dX6_init_83 : decode cX6_init 83 = .ok (.putfield 39, 3) := by decide +kernel
theorem dX6_init_86 : decode cX6_init 86 = .ok (.aload_n 0, 1) := by decide +kernel
theorem dX6_init_87 : decode cX6_init 87 = .ok (.bipush 61, 2) := by decide +kernel
theorem dX6_init_89 : decode cX6_init 89 = .ok (.newarray .int, 2) := by decide +kernel
theorem dX6_init_91 : decode cX6_init 91 = .ok (.putfield 42, 3) := by decide +kernel
theorem dX6_init_94 : decode cX6_init 94 = .ok (.aload_n 0, 1) := by decide +kernel
theorem dX6_init_95 : decode cX6_init 95 = .ok (.bipush 60, 2) := by decide +kernel
theorem dX6_init_97 : decode cX6_init 97 = .ok (.newarray .long, 2) := by decide +kernel
theorem dX6_init_99 : decode cX6_init 99 = .ok (.putfield 45, 3) := by decide +kernel
theorem dX6_init_102 : decode cX6_init 102 = .ok (.aload_n 0, 1) := by decide +kernel
theorem dX6_init_103 : decode cX6_init 103 = .ok (.bipush 60, 2) := by decide +kernel
theorem dX6_init_105 : decode cX6_init 105 = .ok (.newarray .long, 2) := by decide +kernel
theorem dX6_init_107 : decode cX6_init 107 = .ok (.putfield 48, 3) := by decide +kernel
theorem dX6_init_110 : decode cX6_init 110 = .ok (.aload_n 0, 1) := by decide +kernel
theorem dX6_init_111 : decode cX6_init 111 = .ok (.getfield 7, 3) := by decide +kernel
theorem dX6_init_114 : decode cX6_init 114 = .ok (.iconst 1, 1) := by decide +kernel
theorem dX6_init_115 : decode cX6_init 115 = .ok (.iconst 3, 1) := by decide +kernel
theorem dX6_init_116 : decode cX6_init 116 = .ok (.iastore, 1) := by decide +kernel
theorem dX6_init_117 : decode cX6_init 117 = .ok (.return_, 1) := by decide +kernel
theorem dX6_in_0 : decode cX6_in 0 = .ok (.iload_n 0, 1) := by decide +kernel
theorem dX6_in_1 : decode cX6_in 1 = .ok (.iload_n 1, 1) := by decide +kernel
theorem dX6_in_2 : decode cX6_in 2 = .ok (.if_icmp .lt 12, 3) := by decide +kernel
theorem dX6_in_5 : decode cX6_in 5 = .ok (.iload_n 0, 1) := by decide +kernel
theorem dX6_in_6 : decode cX6_in 6 = .ok (.iload_n 2, 1) := by decide +kernel
theorem dX6_in_7 : decode cX6_in 7 = .ok (.if_icmp .gt 7, 3) := by decide +kernel
theorem dX6_in_10 : decode cX6_in 10 = .ok (.iconst 1, 1) := by decide +kernel
theorem dX6_in_11 : decode cX6_in 11 = .ok (.goto 4, 3) := by decide +kernel
theorem dX6_in_14 : decode cX6_in 14 = .ok (.iconst 0, 1) := by decide +kernel
theorem dX6_in_15 : decode cX6_in 15 = .ok (.ireturn, 1) := by decide +kernel
theorem dX6_isValue_0 : decode cX6_isValue 0 = .ok (.lload_n 0, 1) := by decide +kernel
theorem dX6_isValue_1 : decode cX6_isValue 1 = .ok (.lconst 0, 1) := by decide +kernel
theorem dX6_isValue_2 : decode cX6_isValue 2 = .ok (.lcmp, 1) := by decide +kernel
theorem dX6_isValue_3 : decode cX6_isValue 3 = .ok (.ifCond .lt 15, 3) := by decide +kernel
theorem dX6_isValue_6 : decode cX6_isValue 6 = .ok (.lload_n 0, 1) := by decide +kernel
theorem dX6_isValue_7 : decode cX6_isValue 7 = .ok (.ldc2_w 51, 3) := by decide +kernel
theorem dX6_isValue_10 : decode cX6_isValue 10 = .ok (.lcmp, 1) := by decide +kernel
theorem dX6_isValue_11 : decode cX6_isValue 11 = .ok (.ifCond .gt 7, 3) := by decide +kernel
theorem dX6_isValue_14 : decode cX6_isValue 14 = .ok (.iconst 1, 1) := by decide +kernel
theorem dX6_isValue_15 : decode cX6_isValue 15 = .ok (.goto 4, 3) := by decide +kernel
theorem dX6_isValue_18 : decode cX6_isValue 18 = .ok (.iconst 0, 1) := by decide +kernel
theorem dX6_isValue_19 : decode cX6_isValue 19 = .ok (.ireturn, 1) := by decide +kernel
theorem dX6_record_0 : decode cX6_record 0 = .ok (.aload_n 0, 1) := by decide +kernel
theorem dX6_record_1 : decode cX6_record 1 = .ok (.getfield 53, 3) := by decide +kernel
theorem dX6_record_4 : decode cX6_record 4 = .ok (.bipush 6, 2) := by decide +kernel
theorem dX6_record_6 : decode cX6_record 6 = .ok (.if_icmp .ne 68, 3) := by decide +kernel
theorem dX6_record_9 : decode cX6_record 9 = .ok (.iconst 0, 1) := by decide +kernel
theorem dX6_record_10 : decode cX6_record 10 = .ok (.istore_n 1, 1) := by decide +kernel
theorem dX6_record_11 : decode cX6_record 11 = .ok (.iload_n 1, 1) := by decide +kernel
theorem dX6_record_12 : decode cX6_record 12 = .ok (.sipush 3640, 3) := by decide +kernel
theorem dX6_record_15 : decode cX6_record 15 = .ok (.if_icmp .ge 25, 3) := by decide +kernel
theorem dX6_record_18 : decode cX6_record 18 = .ok (.aload_n 0, 1) := by decide +kernel
theorem dX6_record_19 : decode cX6_record 19 = .ok (.getfield 17, 3) := by decide +kernel
theorem dX6_record_22 : decode cX6_record 22 = .ok (.iload_n 1, 1) := by decide +kernel
theorem dX6_record_23 : decode cX6_record 23 = .ok (.aload_n 0, 1) := by decide +kernel
theorem dX6_record_24 : decode cX6_record 24 = .ok (.getfield 17, 3) := by decide +kernel
theorem dX6_record_27 : decode cX6_record 27 = .ok (.iload_n 1, 1) := by decide +kernel
theorem dX6_record_28 : decode cX6_record 28 = .ok (.sipush 728, 3) := by decide +kernel
theorem dX6_record_31 : decode cX6_record 31 = .ok (.iadd, 1) := by decide +kernel
theorem dX6_record_32 : decode cX6_record 32 = .ok (.iaload, 1) := by decide +kernel
theorem dX6_record_33 : decode cX6_record 33 = .ok (.iastore, 1) := by decide +kernel
theorem dX6_record_34 : decode cX6_record 34 = .ok (.iinc 1 1, 3) := by decide +kernel
theorem dX6_record_37 : decode cX6_record 37 = .ok (.goto (-26), 3) := by decide +kernel
theorem dX6_record_40 : decode cX6_record 40 = .ok (.iconst 0, 1) := by decide +kernel
theorem dX6_record_41 : decode cX6_record 41 = .ok (.istore_n 1, 1) := by decide +kernel
theorem dX6_record_42 : decode cX6_record 42 = .ok (.iload_n 1, 1) := by decide +kernel
theorem dX6_record_43 : decode cX6_record 43 = .ok (.bipush 40, 2) := by decide +kernel
theorem dX6_record_45 : decode cX6_record 45 = .ok (.if_icmp .ge 24, 3) := by decide +kernel
theorem dX6_record_48 : decode cX6_record 48 = .ok (.aload_n 0, 1) := by decide +kernel
theorem dX6_record_49 : decode cX6_record 49 = .ok (.getfield 20, 3) := by decide +kernel
theorem dX6_record_52 : decode cX6_record 52 = .ok (.iload_n 1, 1) := by decide +kernel
theorem dX6_record_53 : decode cX6_record 53 = .ok (.aload_n 0, 1) := by decide +kernel
theorem dX6_record_54 : decode cX6_record 54 = .ok (.getfield 20, 3) := by decide +kernel
theorem dX6_record_57 : decode cX6_record 57 = .ok (.iload_n 1, 1) := by decide +kernel
theorem dX6_record_58 : decode cX6_record 58 = .ok (.bipush 8, 2) := by decide +kernel
theorem dX6_record_60 : decode cX6_record 60 = .ok (.iadd, 1) := by decide +kernel
theorem dX6_record_61 : decode cX6_record 61 = .ok (.laload, 1) := by decide +kernel
theorem dX6_record_62 : decode cX6_record 62 = .ok (.lastore, 1) := by decide +kernel
theorem dX6_record_63 : decode cX6_record 63 = .ok (.iinc 1 1, 3) := by decide +kernel
theorem dX6_record_66 : decode cX6_record 66 = .ok (.goto (-24), 3) := by decide +kernel
theorem dX6_record_69 : decode cX6_record 69 = .ok (.aload_n 0, 1) := by decide +kernel
theorem dX6_record_70 : decode cX6_record 70 = .ok (.iconst 5, 1) := by decide +kernel
theorem dX6_record_71 : decode cX6_record 71 = .ok (.putfield 53, 3) := by decide +kernel
theorem dX6_record_74 : decode cX6_record 74 = .ok (.iconst 0, 1) := by decide +kernel
theorem dX6_record_75 : decode cX6_record 75 = .ok (.istore_n 1, 1) := by decide +kernel
theorem dX6_record_76 : decode cX6_record 76 = .ok (.iload_n 1, 1) := by decide +kernel
theorem dX6_record_77 : decode cX6_record 77 = .ok (.sipush 728, 3) := by decide +kernel
theorem dX6_record_80 : decode cX6_record 80 = .ok (.if_icmp .ge 30, 3) := by decide +kernel
theorem dX6_record_83 : decode cX6_record 83 = .ok (.aload_n 0, 1) := by decide +kernel
theorem dX6_record_84 : decode cX6_record 84 = .ok (.getfield 17, 3) := by decide +kernel
theorem dX6_record_87 : decode cX6_record 87 = .ok (.aload_n 0, 1) := by decide +kernel
theorem dX6_record_88 : decode cX6_record 88 = .ok (.getfield 53, 3) := by decide +kernel
theorem dX6_record_91 : decode cX6_record 91 = .ok (.sipush 728, 3) := by decide +kernel
theorem dX6_record_94 : decode cX6_record 94 = .ok (.imul, 1) := by decide +kernel
theorem dX6_record_95 : decode cX6_record 95 = .ok (.iload_n 1, 1) := by decide +kernel
theorem dX6_record_96 : decode cX6_record 96 = .ok (.iadd, 1) := by decide +kernel
theorem dX6_record_97 : decode cX6_record 97 = .ok (.aload_n 0, 1) := by decide +kernel
theorem dX6_record_98 : decode cX6_record 98 = .ok (.getfield 7, 3) := by decide +kernel
theorem dX6_record_101 : decode cX6_record 101 = .ok (.iload_n 1, 1) := by decide +kernel
theorem dX6_record_102 : decode cX6_record 102 = .ok (.iaload, 1) := by decide +kernel
theorem dX6_record_103 : decode cX6_record 103 = .ok (.iastore, 1) := by decide +kernel
theorem dX6_record_104 : decode cX6_record 104 = .ok (.iinc 1 1, 3) := by decide +kernel
theorem dX6_record_107 : decode cX6_record 107 = .ok (.goto (-31), 3) := by decide +kernel
theorem dX6_record_110 : decode cX6_record 110 = .ok (.iconst 0, 1) := by decide +kernel
theorem dX6_record_111 : decode cX6_record 111 = .ok (.istore_n 1, 1) := by decide +kernel
theorem dX6_record_112 : decode cX6_record 112 = .ok (.iload_n 1, 1) := by decide +kernel
theorem dX6_record_113 : decode cX6_record 113 = .ok (.bipush 8, 2) := by decide +kernel
theorem dX6_record_115 : decode cX6_record 115 = .ok (.if_icmp .ge 29, 3) := by decide +kernel
theorem dX6_record_118 : decode cX6_record 118 = .ok (.aload_n 0, 1) := by decide +kernel
theorem dX6_record_119 : decode cX6_record 119 = .ok (.getfield 20, 3) := by decide +kernel
theorem dX6_record_122 : decode cX6_record 122 = .ok (.aload_n 0, 1) := by decide +kernel
theorem dX6_record_123 : decode cX6_record 123 = .ok (.getfield 53, 3) := by decide +kernel
theorem dX6_record_126 : decode cX6_record 126 = .ok (.bipush 8, 2) := by decide +kernel
theorem dX6_record_128 : decode cX6_record 128 = .ok (.imul, 1) := by decide +kernel
theorem dX6_record_129 : decode cX6_record 129 = .ok (.iload_n 1, 1) := by decide +kernel
theorem dX6_record_130 : decode cX6_record 130 = .ok (.iadd, 1) := by decide +kernel
theorem dX6_record_131 : decode cX6_record 131 = .ok (.aload_n 0, 1) := by decide +kernel
theorem dX6_record_132 : decode cX6_record 132 = .ok (.getfield 13, 3) := by decide +kernel
theorem dX6_record_135 : decode cX6_record 135 = .ok (.iload_n 1, 1) := by decide +kernel
theorem dX6_record_136 : decode cX6_record 136 = .ok (.laload, 1) := by decide +kernel
theorem dX6_record_137 : decode cX6_record 137 = .ok (.lastore, 1) := by decide +kernel
theorem dX6_record_138 : decode cX6_record 138 = .ok (.iinc 1 1, 3) := by decide +kernel
theorem dX6_record_141 : decode cX6_record 141 = .ok (.goto (-29), 3) := by decide +kernel
theorem dX6_record_144 : decode cX6_record 144 = .ok (.aload_n 0, 1) := by decide +kernel
theorem dX6_record_145 : decode cX6_record 145 = .ok (.dup, 1) := by decide +kernel
theorem dX6_record_146 : decode cX6_record 146 = .ok (.getfield 53, 3) := by decide +kernel
theorem dX6_record_149 : decode cX6_record 149 = .ok (.iconst 1, 1) := by decide +kernel
theorem dX6_record_150 : decode cX6_record 150 = .ok (.iadd, 1) := by decide +kernel
theorem dX6_record_151 : decode cX6_record 151 = .ok (.putfield 53, 3) := by decide +kernel
theorem dX6_record_154 : decode cX6_record 154 = .ok (.return_, 1) := by decide +kernel
theorem dX6_set_0 : decode cX6_set 0 = .ok (.iload_n 1, 1) := by decide +kernel
theorem dX6_set_1 : decode cX6_set 1 = .ok (.iconst 0, 1) := by decide +kernel
theorem dX6_set_2 : decode cX6_set 2 = .ok (.iconst 1, 1) := by decide +kernel
theorem dX6_set_3 : decode cX6_set 3 = .ok (.invokestatic 57, 3) := by decide +kernel
theorem dX6_set_6 : decode cX6_set 6 = .ok (.ifCond .eq 21, 3) := by decide +kernel
theorem dX6_set_9 : decode cX6_set 9 = .ok (.iload_n 2, 1) := by decide +kernel
theorem dX6_set_10 : decode cX6_set 10 = .ok (.iconst 0, 1) := by decide +kernel
theorem dX6_set_11 : decode cX6_set 11 = .ok (.iload_n 1, 1) := by decide +kernel
theorem dX6_set_12 : decode cX6_set 12 = .ok (.ifCond .ne 7, 3) := by decide +kernel
theorem dX6_set_15 : decode cX6_set 15 = .ok (.iconst 2, 1) := by decide +kernel
theorem dX6_set_16 : decode cX6_set 16 = .ok (.goto 5, 3) := by decide +kernel
theorem dX6_set_19 : decode cX6_set 19 = .ok (.bipush 6, 2) := by decide +kernel
theorem dX6_set_21 : decode cX6_set 21 = .ok (.invokestatic 57, 3) := by decide +kernel
theorem dX6_set_24 : decode cX6_set 24 = .ok (.ifCond .ne 6, 3) := by decide +kernel
theorem dX6_set_27 : decode cX6_set 27 = .ok (.bipush (-2), 2) := by decide +kernel
theorem dX6_set_29 : decode cX6_set 29 = .ok (.ireturn, 1) := by decide +kernel
theorem dX6_set_30 : decode cX6_set 30 = .ok (.aload_n 0, 1) := by decide +kernel
theorem dX6_set_31 : decode cX6_set 31 = .ok (.invokevirtual 61, 3) := by decide +kernel
theorem dX6_set_34 : decode cX6_set 34 = .ok (.aload_n 0, 1) := by decide +kernel
theorem dX6_set_35 : decode cX6_set 35 = .ok (.getfield 7, 3) := by decide +kernel
theorem dX6_set_38 : decode cX6_set 38 = .ok (.iload_n 1, 1) := by decide +kernel
theorem dX6_set_39 : decode cX6_set 39 = .ok (.iaload, 1) := by decide +kernel
theorem dX6_set_40 : decode cX6_set 40 = .ok (.istore_n 3, 1) := by decide +kernel
theorem dX6_set_41 : decode cX6_set 41 = .ok (.aload_n 0, 1) := by decide +kernel
theorem dX6_set_42 : decode cX6_set 42 = .ok (.getfield 7, 3) := by decide +kernel
theorem dX6_set_45 : decode cX6_set 45 = .ok (.iload_n 1, 1) := by decide +kernel
theorem dX6_set_46 : decode cX6_set 46 = .ok (.iload_n 2, 1) := by decide +kernel
theorem dX6_set_47 : decode cX6_set 47 = .ok (.iastore, 1) := by decide +kernel
theorem dX6_set_48 : decode cX6_set 48 = .ok (.iload_n 3, 1) := by decide +kernel
theorem dX6_set_49 : decode cX6_set 49 = .ok (.ireturn, 1) := by decide +kernel
theorem dX6_setCell_0 : decode cX6_setCell 0 = .ok (.iload_n 1, 1) := by decide +kernel
theorem dX6_setCell_1 : decode cX6_setCell 1 = .ok (.iconst 0, 1) := by decide +kernel
theorem dX6_setCell_2 : decode cX6_setCell 2 = .ok (.bipush 7, 2) := by decide +kernel
theorem dX6_setCell_4 : decode cX6_setCell 4 = .ok (.invokestatic 57, 3) := by decide +kernel
theorem dX6_setCell_7 : decode cX6_setCell 7 = .ok (.ifCond .ne 7, 3) := by decide +kernel
theorem dX6_setCell_10 : decode cX6_setCell 10 = .ok (.ldc2_w 64, 3) := by decide +kernel
theorem dX6_setCell_13 : decode cX6_setCell 13 = .ok (.lreturn, 1) := by decide +kernel
theorem dX6_setCell_14 : decode cX6_setCell 14 = .ok (.lload_n 2, 1) := by decide +kernel
theorem dX6_setCell_15 : decode cX6_setCell 15 = .ok (.invokestatic 66, 3) := by decide +kernel
theorem dX6_setCell_18 : decode cX6_setCell 18 = .ok (.ifCond .ne 7, 3) := by decide +kernel
theorem dX6_setCell_21 : decode cX6_setCell 21 = .ok (.ldc2_w 70, 3) := by decide +kernel
theorem dX6_setCell_24 : decode cX6_setCell 24 = .ok (.lreturn, 1) := by decide +kernel
theorem dX6_setCell_25 : decode cX6_setCell 25 = .ok (.aload_n 0, 1) := by decide +kernel
theorem dX6_setCell_26 : decode cX6_setCell 26 = .ok (.invokevirtual 61, 3) := by decide +kernel
theorem dX6_setCell_29 : decode cX6_setCell 29 = .ok (.aload_n 0, 1) := by decide +kernel
theorem dX6_setCell_30 : decode cX6_setCell 30 = .ok (.getfield 13, 3) := by decide +kernel
theorem dX6_setCell_33 : decode cX6_setCell 33 = .ok (.iload_n 1, 1) := by decide +kernel
theorem dX6_setCell_34 : decode cX6_setCell 34 = .ok (.laload, 1) := by decide +kernel
theorem dX6_setCell_35 : decode cX6_setCell 35 = .ok (.lstore 4, 2) := by decide +kernel
theorem dX6_setCell_37 : decode cX6_setCell 37 = .ok (.aload_n 0, 1) := by decide +kernel
theorem dX6_setCell_38 : decode cX6_setCell 38 = .ok (.getfield 13, 3) := by decide +kernel
theorem dX6_setCell_41 : decode cX6_setCell 41 = .ok (.iload_n 1, 1) := by decide +kernel
theorem dX6_setCell_42 : decode cX6_setCell 42 = .ok (.lload_n 2, 1) := by decide +kernel
theorem dX6_setCell_43 : decode cX6_setCell 43 = .ok (.lastore, 1) := by decide +kernel
theorem dX6_setCell_44 : decode cX6_setCell 44 = .ok (.lload 4, 2) := by decide +kernel
theorem dX6_setCell_46 : decode cX6_setCell 46 = .ok (.lreturn, 1) := by decide +kernel
theorem dX6_cell_0 : decode cX6_cell 0 = .ok (.iload_n 1, 1) := by decide +kernel
theorem dX6_cell_1 : decode cX6_cell 1 = .ok (.iconst 0, 1) := by decide +kernel
theorem dX6_cell_2 : decode cX6_cell 2 = .ok (.bipush 7, 2) := by decide +kernel
theorem dX6_cell_4 : decode cX6_cell 4 = .ok (.invokestatic 57, 3) := by decide +kernel
theorem dX6_cell_7 : decode cX6_cell 7 = .ok (.ifCond .eq 12, 3) := by decide +kernel
theorem dX6_cell_10 : decode cX6_cell 10 = .ok (.aload_n 0, 1) := by decide +kernel
theorem dX6_cell_11 : decode cX6_cell 11 = .ok (.getfield 13, 3) := by decide +kernel
theorem dX6_cell_14 : decode cX6_cell 14 = .ok (.iload_n 1, 1) := by decide +kernel
theorem dX6_cell_15 : decode cX6_cell 15 = .ok (.laload, 1) := by decide +kernel
theorem dX6_cell_16 : decode cX6_cell 16 = .ok (.goto 6, 3) := by decide +kernel
theorem dX6_cell_19 : decode cX6_cell 19 = .ok (.ldc2_w 64, 3) := by decide +kernel
theorem dX6_cell_22 : decode cX6_cell 22 = .ok (.lreturn, 1) := by decide +kernel
theorem dX6_put_0 : decode cX6_put 0 = .ok (.iconst 0, 1) := by decide +kernel
theorem dX6_put_1 : decode cX6_put 1 = .ok (.istore_n 3, 1) := by decide +kernel
theorem dX6_put_2 : decode cX6_put 2 = .ok (.lload_n 1, 1) := by decide +kernel
theorem dX6_put_3 : decode cX6_put 3 = .ok (.lstore 4, 2) := by decide +kernel
theorem dX6_put_5 : decode cX6_put 5 = .ok (.lload 4, 2) := by decide +kernel
theorem dX6_put_7 : decode cX6_put 7 = .ok (.ldc2_w 72, 3) := by decide +kernel
theorem dX6_put_10 : decode cX6_put 10 = .ok (.land, 1) := by decide +kernel
theorem dX6_put_11 : decode cX6_put 11 = .ok (.lconst 0, 1) := by decide +kernel
theorem dX6_put_12 : decode cX6_put 12 = .ok (.lcmp, 1) := by decide +kernel
theorem dX6_put_13 : decode cX6_put 13 = .ok (.ifCond .eq 36, 3) := by decide +kernel
theorem dX6_put_16 : decode cX6_put 16 = .ok (.lload 4, 2) := by decide +kernel
theorem dX6_put_18 : decode cX6_put 18 = .ok (.ldc2_w 72, 3) := by decide +kernel
theorem dX6_put_21 : decode cX6_put 21 = .ok (.land, 1) := by decide +kernel
theorem dX6_put_22 : decode cX6_put 22 = .ok (.l2i, 1) := by decide +kernel
theorem dX6_put_23 : decode cX6_put 23 = .ok (.bipush 33, 2) := by decide +kernel
theorem dX6_put_25 : decode cX6_put 25 = .ok (.bipush 126, 2) := by decide +kernel
theorem dX6_put_27 : decode cX6_put 27 = .ok (.invokestatic 57, 3) := by decide +kernel
theorem dX6_put_30 : decode cX6_put 30 = .ok (.ifCond .ne 6, 3) := by decide +kernel
theorem dX6_put_33 : decode cX6_put 33 = .ok (.bipush (-2), 2) := by decide +kernel
theorem dX6_put_35 : decode cX6_put 35 = .ok (.ireturn, 1) := by decide +kernel
theorem dX6_put_36 : decode cX6_put 36 = .ok (.iinc 3 1, 3) := by decide +kernel
theorem dX6_put_39 : decode cX6_put 39 = .ok (.lload 4, 2) := by decide +kernel
theorem dX6_put_41 : decode cX6_put 41 = .ok (.bipush 8, 2) := by decide +kernel
theorem dX6_put_43 : decode cX6_put 43 = .ok (.lushr, 1) := by decide +kernel
theorem dX6_put_44 : decode cX6_put 44 = .ok (.lstore 4, 2) := by decide +kernel
theorem dX6_put_46 : decode cX6_put 46 = .ok (.goto (-41), 3) := by decide +kernel
theorem dX6_put_49 : decode cX6_put 49 = .ok (.lload 4, 2) := by decide +kernel
theorem dX6_put_51 : decode cX6_put 51 = .ok (.lconst 0, 1) := by decide +kernel
theorem dX6_put_52 : decode cX6_put 52 = .ok (.lcmp, 1) := by decide +kernel
theorem dX6_put_53 : decode cX6_put 53 = .ok (.ifCond .ne 7, 3) := by decide +kernel
theorem dX6_put_56 : decode cX6_put 56 = .ok (.iload_n 3, 1) := by decide +kernel
theorem dX6_put_57 : decode cX6_put 57 = .ok (.ifCond .ne 6, 3) := by decide +kernel
theorem dX6_put_60 : decode cX6_put 60 = .ok (.bipush (-2), 2) := by decide +kernel
theorem dX6_put_62 : decode cX6_put 62 = .ok (.ireturn, 1) := by decide +kernel
theorem dX6_put_63 : decode cX6_put 63 = .ok (.aload_n 0, 1) := by decide +kernel
theorem dX6_put_64 : decode cX6_put 64 = .ok (.getfield 74, 3) := by decide +kernel
theorem dX6_put_67 : decode cX6_put 67 = .ok (.iload_n 3, 1) := by decide +kernel
theorem dX6_put_68 : decode cX6_put 68 = .ok (.iadd, 1) := by decide +kernel
theorem dX6_put_69 : decode cX6_put 69 = .ok (.bipush 60, 2) := by decide +kernel
theorem dX6_put_71 : decode cX6_put 71 = .ok (.if_icmp .le 6, 3) := by decide +kernel
theorem dX6_put_74 : decode cX6_put 74 = .ok (.bipush (-4), 2) := by decide +kernel
theorem dX6_put_76 : decode cX6_put 76 = .ok (.ireturn, 1) := by decide +kernel
theorem dX6_put_77 : decode cX6_put 77 = .ok (.lload_n 1, 1) := by decide +kernel
theorem dX6_put_78 : decode cX6_put 78 = .ok (.lstore 4, 2) := by decide +kernel
theorem dX6_put_80 : decode cX6_put 80 = .ok (.iload_n 3, 1) := by decide +kernel
theorem dX6_put_81 : decode cX6_put 81 = .ok (.iconst 1, 1) := by decide +kernel
theorem dX6_put_82 : decode cX6_put 82 = .ok (.isub, 1) := by decide +kernel
theorem dX6_put_83 : decode cX6_put 83 = .ok (.istore 6, 2) := by decide +kernel
theorem dX6_put_85 : decode cX6_put 85 = .ok (.iload 6, 2) := by decide +kernel
theorem dX6_put_87 : decode cX6_put 87 = .ok (.ifCond .lt 35, 3) := by decide +kernel
theorem dX6_put_90 : decode cX6_put 90 = .ok (.aload_n 0, 1) := by decide +kernel
theorem dX6_put_91 : decode cX6_put 91 = .ok (.getfield 33, 3) := by decide +kernel
theorem dX6_put_94 : decode cX6_put 94 = .ok (.aload_n 0, 1) := by decide +kernel
theorem dX6_put_95 : decode cX6_put 95 = .ok (.getfield 74, 3) := by decide +kernel
theorem dX6_put_98 : decode cX6_put 98 = .ok (.iload 6, 2) := by decide +kernel
theorem dX6_put_100 : decode cX6_put 100 = .ok (.iadd, 1) := by decide +kernel
theorem dX6_put_101 : decode cX6_put 101 = .ok (.lload 4, 2) := by decide +kernel
theorem dX6_put_103 : decode cX6_put 103 = .ok (.ldc2_w 72, 3) := by decide +kernel
theorem dX6_put_106 : decode cX6_put 106 = .ok (.land, 1) := by decide +kernel
theorem dX6_put_107 : decode cX6_put 107 = .ok (.l2i, 1) := by decide +kernel
theorem dX6_put_108 : decode cX6_put 108 = .ok (.iastore, 1) := by decide +kernel
theorem dX6_put_109 : decode cX6_put 109 = .ok (.lload 4, 2) := by decide +kernel
theorem dX6_put_111 : decode cX6_put 111 = .ok (.bipush 8, 2) := by decide +kernel
theorem dX6_put_113 : decode cX6_put 113 = .ok (.lushr, 1) := by decide +kernel
theorem dX6_put_114 : decode cX6_put 114 = .ok (.lstore 4, 2) := by decide +kernel
theorem dX6_put_116 : decode cX6_put 116 = .ok (.iinc 6 (-1), 3) := by decide +kernel
theorem dX6_put_119 : decode cX6_put 119 = .ok (.goto (-34), 3) := by decide +kernel
theorem dX6_put_122 : decode cX6_put 122 = .ok (.aload_n 0, 1) := by decide +kernel
theorem dX6_put_123 : decode cX6_put 123 = .ok (.dup, 1) := by decide +kernel
theorem dX6_put_124 : decode cX6_put 124 = .ok (.getfield 74, 3) := by decide +kernel
theorem dX6_put_127 : decode cX6_put 127 = .ok (.iload_n 3, 1) := by decide +kernel
theorem dX6_put_128 : decode cX6_put 128 = .ok (.iadd, 1) := by decide +kernel
theorem dX6_put_129 : decode cX6_put 129 = .ok (.putfield 74, 3) := by decide +kernel
theorem dX6_put_132 : decode cX6_put 132 = .ok (.aload_n 0, 1) := by decide +kernel
theorem dX6_put_133 : decode cX6_put 133 = .ok (.getfield 74, 3) := by decide +kernel
theorem dX6_put_136 : decode cX6_put 136 = .ok (.ireturn, 1) := by decide +kernel
theorem dX6_wipe_0 : decode cX6_wipe 0 = .ok (.aload_n 0, 1) := by decide +kernel
theorem dX6_wipe_1 : decode cX6_wipe 1 = .ok (.getfield 74, 3) := by decide +kernel
theorem dX6_wipe_4 : decode cX6_wipe 4 = .ok (.istore_n 1, 1) := by decide +kernel
theorem dX6_wipe_5 : decode cX6_wipe 5 = .ok (.aload_n 0, 1) := by decide +kernel
theorem dX6_wipe_6 : decode cX6_wipe 6 = .ok (.iconst 0, 1) := by decide +kernel
theorem dX6_wipe_7 : decode cX6_wipe 7 = .ok (.putfield 74, 3) := by decide +kernel
theorem dX6_wipe_10 : decode cX6_wipe 10 = .ok (.iload_n 1, 1) := by decide +kernel
theorem dX6_wipe_11 : decode cX6_wipe 11 = .ok (.ireturn, 1) := by decide +kernel
theorem dX6_sign_0 : decode cX6_sign 0 = .ok (.aload_n 0, 1) := by decide +kernel
theorem dX6_sign_1 : decode cX6_sign 1 = .ok (.getfield 77, 3) := by decide +kernel
theorem dX6_sign_4 : decode cX6_sign 4 = .ok (.aload_n 0, 1) := by decide +kernel
theorem dX6_sign_5 : decode cX6_sign 5 = .ok (.getfield 74, 3) := by decide +kernel
theorem dX6_sign_8 : decode cX6_sign 8 = .ok (.if_icmp .ge 15, 3) := by decide +kernel
theorem dX6_sign_11 : decode cX6_sign 11 = .ok (.aload_n 0, 1) := by decide +kernel
theorem dX6_sign_12 : decode cX6_sign 12 = .ok (.getfield 33, 3) := by decide +kernel
theorem dX6_sign_15 : decode cX6_sign 15 = .ok (.aload_n 0, 1) := by decide +kernel
theorem dX6_sign_16 : decode cX6_sign 16 = .ok (.getfield 77, 3) := by decide +kernel
theorem dX6_sign_19 : decode cX6_sign 19 = .ok (.iaload, 1) := by decide +kernel
theorem dX6_sign_20 : decode cX6_sign 20 = .ok (.goto 4, 3) := by decide +kernel
theorem dX6_sign_23 : decode cX6_sign 23 = .ok (.iconst 0, 1) := by decide +kernel
theorem dX6_sign_24 : decode cX6_sign 24 = .ok (.ireturn, 1) := by decide +kernel
theorem dX6_emit_0 : decode cX6_emit 0 = .ok (.aload_n 0, 1) := by decide +kernel
theorem dX6_emit_1 : decode cX6_emit 1 = .ok (.getfield 36, 3) := by decide +kernel
theorem dX6_emit_4 : decode cX6_emit 4 = .ok (.aload_n 0, 1) := by decide +kernel
theorem dX6_emit_5 : decode cX6_emit 5 = .ok (.getfield 80, 3) := by decide +kernel
theorem dX6_emit_8 : decode cX6_emit 8 = .ok (.iload_n 1, 1) := by decide +kernel
theorem dX6_emit_9 : decode cX6_emit 9 = .ok (.iastore, 1) := by decide +kernel
theorem dX6_emit_10 : decode cX6_emit 10 = .ok (.aload_n 0, 1) := by decide +kernel
theorem dX6_emit_11 : decode cX6_emit 11 = .ok (.getfield 39, 3) := by decide +kernel
theorem dX6_emit_14 : decode cX6_emit 14 = .ok (.aload_n 0, 1) := by decide +kernel
theorem dX6_emit_15 : decode cX6_emit 15 = .ok (.getfield 80, 3) := by decide +kernel
theorem dX6_emit_18 : decode cX6_emit 18 = .ok (.iload_n 2, 1) := by decide +kernel
theorem dX6_emit_19 : decode cX6_emit 19 = .ok (.iastore, 1) := by decide +kernel
theorem dX6_emit_20 : decode cX6_emit 20 = .ok (.aload_n 0, 1) := by decide +kernel
theorem dX6_emit_21 : decode cX6_emit 21 = .ok (.dup, 1) := by decide +kernel
theorem dX6_emit_22 : decode cX6_emit 22 = .ok (.getfield 80, 3) := by decide +kernel
theorem dX6_emit_25 : decode cX6_emit 25 = .ok (.iconst 1, 1) := by decide +kernel
theorem dX6_emit_26 : decode cX6_emit 26 = .ok (.iadd, 1) := by decide +kernel
theorem dX6_emit_27 : decode cX6_emit 27 = .ok (.putfield 80, 3) := by decide +kernel
theorem dX6_emit_30 : decode cX6_emit 30 = .ok (.return_, 1) := by decide +kernel
theorem dX6_push_0 : decode cX6_push 0 = .ok (.aload_n 0, 1) := by decide +kernel
theorem dX6_push_1 : decode cX6_push 1 = .ok (.getfield 42, 3) := by decide +kernel
theorem dX6_push_4 : decode cX6_push 4 = .ok (.aload_n 0, 1) := by decide +kernel
theorem dX6_push_5 : decode cX6_push 5 = .ok (.getfield 83, 3) := by decide +kernel
theorem dX6_push_8 : decode cX6_push 8 = .ok (.iload_n 1, 1) := by decide +kernel
theorem dX6_push_9 : decode cX6_push 9 = .ok (.iastore, 1) := by decide +kernel
theorem dX6_push_10 : decode cX6_push 10 = .ok (.aload_n 0, 1) := by decide +kernel
theorem dX6_push_11 : decode cX6_push 11 = .ok (.dup, 1) := by decide +kernel
theorem dX6_push_12 : decode cX6_push 12 = .ok (.getfield 83, 3) := by decide +kernel
theorem dX6_push_15 : decode cX6_push 15 = .ok (.iconst 1, 1) := by decide +kernel
theorem dX6_push_16 : decode cX6_push 16 = .ok (.iadd, 1) := by decide +kernel
theorem dX6_push_17 : decode cX6_push 17 = .ok (.putfield 83, 3) := by decide +kernel
theorem dX6_push_20 : decode cX6_push 20 = .ok (.return_, 1) := by decide +kernel
theorem dX6_binds_0 : decode cX6_binds 0 = .ok (.aload_n 0, 1) := by decide +kernel
theorem dX6_binds_1 : decode cX6_binds 1 = .ok (.getfield 83, 3) := by decide +kernel
theorem dX6_binds_4 : decode cX6_binds 4 = .ok (.ifCond .ne 7, 3) := by decide +kernel
theorem dX6_binds_7 : decode cX6_binds 7 = .ok (.iconst 0, 1) := by decide +kernel
theorem dX6_binds_8 : decode cX6_binds 8 = .ok (.goto 14, 3) := by decide +kernel
theorem dX6_binds_11 : decode cX6_binds 11 = .ok (.aload_n 0, 1) := by decide +kernel
theorem dX6_binds_12 : decode cX6_binds 12 = .ok (.getfield 42, 3) := by decide +kernel
theorem dX6_binds_15 : decode cX6_binds 15 = .ok (.aload_n 0, 1) := by decide +kernel
theorem dX6_binds_16 : decode cX6_binds 16 = .ok (.getfield 83, 3) := by decide +kernel
theorem dX6_binds_19 : decode cX6_binds 19 = .ok (.iconst 1, 1) := by decide +kernel
theorem dX6_binds_20 : decode cX6_binds 20 = .ok (.isub, 1) := by decide +kernel
theorem dX6_binds_21 : decode cX6_binds 21 = .ok (.iaload, 1) := by decide +kernel
theorem dX6_binds_22 : decode cX6_binds 22 = .ok (.istore_n 2, 1) := by decide +kernel
theorem dX6_binds_23 : decode cX6_binds 23 = .ok (.iload_n 2, 1) := by decide +kernel
theorem dX6_binds_24 : decode cX6_binds 24 = .ok (.bipush 42, 2) := by decide +kernel
theorem dX6_binds_26 : decode cX6_binds 26 = .ok (.if_icmp .eq 21, 3) := by decide +kernel
theorem dX6_binds_29 : decode cX6_binds 29 = .ok (.iload_n 1, 1) := by decide +kernel
theorem dX6_binds_30 : decode cX6_binds 30 = .ok (.bipush 42, 2) := by decide +kernel
theorem dX6_binds_32 : decode cX6_binds 32 = .ok (.if_icmp .eq 19, 3) := by decide +kernel
theorem dX6_binds_35 : decode cX6_binds 35 = .ok (.iload_n 2, 1) := by decide +kernel
theorem dX6_binds_36 : decode cX6_binds 36 = .ok (.bipush 43, 2) := by decide +kernel
theorem dX6_binds_38 : decode cX6_binds 38 = .ok (.if_icmp .eq 9, 3) := by decide +kernel
theorem dX6_binds_41 : decode cX6_binds 41 = .ok (.iload_n 2, 1) := by decide +kernel
theorem dX6_binds_42 : decode cX6_binds 42 = .ok (.bipush 45, 2) := by decide +kernel
theorem dX6_binds_44 : decode cX6_binds 44 = .ok (.if_icmp .ne 7, 3) := by decide +kernel
theorem dX6_binds_47 : decode cX6_binds 47 = .ok (.iconst 1, 1) := by decide +kernel
theorem dX6_binds_48 : decode cX6_binds 48 = .ok (.goto 4, 3) := by decide +kernel
theorem dX6_binds_51 : decode cX6_binds 51 = .ok (.iconst 0, 1) := by decide +kernel
theorem dX6_binds_52 : decode cX6_binds 52 = .ok (.ireturn, 1) := by decide +kernel
theorem dX6_close_0 : decode cX6_close 0 = .ok (.aload_n 0, 1) := by decide +kernel
theorem dX6_close_1 : decode cX6_close 1 = .ok (.iload_n 1, 1) := by decide +kernel
theorem dX6_close_2 : decode cX6_close 2 = .ok (.invokevirtual 86, 3) := by decide +kernel
theorem dX6_close_5 : decode cX6_close 5 = .ok (.ifCond .eq 30, 3) := by decide +kernel
theorem dX6_close_8 : decode cX6_close 8 = .ok (.aload_n 0, 1) := by decide +kernel
theorem dX6_close_9 : decode cX6_close 9 = .ok (.dup, 1) := by decide +kernel
theorem dX6_close_10 : decode cX6_close 10 = .ok (.getfield 83, 3) := by decide +kernel
theorem dX6_close_13 : decode cX6_close 13 = .ok (.iconst 1, 1) := by decide +kernel
theorem dX6_close_14 : decode cX6_close 14 = .ok (.isub, 1) := by decide +kernel
theorem dX6_close_15 : decode cX6_close 15 = .ok (.putfield 83, 3) := by decide +kernel
theorem dX6_close_18 : decode cX6_close 18 = .ok (.aload_n 0, 1) := by decide +kernel
theorem dX6_close_19 : decode cX6_close 19 = .ok (.aload_n 0, 1) := by decide +kernel
theorem dX6_close_20 : decode cX6_close 20 = .ok (.getfield 42, 3) := by decide +kernel
theorem dX6_close_23 : decode cX6_close 23 = .ok (.aload_n 0, 1) := by decide +kernel
theorem dX6_close_24 : decode cX6_close 24 = .ok (.getfield 83, 3) := by decide +kernel
theorem dX6_close_27 : decode cX6_close 27 = .ok (.iaload, 1) := by decide +kernel
theorem dX6_close_28 : decode cX6_close 28 = .ok (.iconst 0, 1) := by decide +kernel
theorem dX6_close_29 : decode cX6_close 29 = .ok (.invokevirtual 90, 3) := by decide +kernel
theorem dX6_close_32 : decode cX6_close 32 = .ok (.goto (-32), 3) := by decide +kernel
theorem dX6_close_35 : decode cX6_close 35 = .ok (.return_, 1) := by decide +kernel
theorem dX6_readNumber_0 : decode cX6_readNumber 0 = .ok (.aload_n 0, 1) := by decide +kernel
theorem dX6_readNumber_1 : decode cX6_readNumber 1 = .ok (.invokevirtual 94, 3) := by decide +kernel
theorem dX6_readNumber_4 : decode cX6_readNumber 4 = .ok (.bipush 48, 2) := by decide +kernel
theorem dX6_readNumber_6 : decode cX6_readNumber 6 = .ok (.isub, 1) := by decide +kernel
theorem dX6_readNumber_7 : decode cX6_readNumber 7 = .ok (.istore_n 1, 1) := by decide +kernel
theorem dX6_readNumber_8 : decode cX6_readNumber 8 = .ok (.aload_n 0, 1) := by decide +kernel
theorem dX6_readNumber_9 : decode cX6_readNumber 9 = .ok (.dup, 1) := by decide +kernel
theorem dX6_readNumber_10 : decode cX6_readNumber 10 = .ok (.getfield 77, 3) := by decide +kernel
theorem dX6_readNumber_13 : decode cX6_readNumber 13 = .ok (.iconst 1, 1) := by decide +kernel
theorem dX6_readNumber_14 : decode cX6_readNumber 14 = .ok (.iadd, 1) := by decide +kernel
theorem dX6_readNumber_15 : decode cX6_readNumber 15 = .ok (.putfield 77, 3) := by decide +kernel
theorem dX6_readNumber_18 : decode cX6_readNumber 18 = .ok (.iload_n 1, 1) := by decide +kernel
theorem dX6_readNumber_19 : decode cX6_readNumber 19 = .ok (.ifCond .le 61, 3) := by decide +kernel
theorem dX6_readNumber_22 : decode cX6_readNumber 22 = .ok (.aload_n 0, 1) := by decide +kernel
theorem dX6_readNumber_23 : decode cX6_readNumber 23 = .ok (.invokevirtual 94, 3) := by decide +kernel
theorem dX6_readNumber_26 : decode cX6_readNumber 26 = .ok (.bipush 48, 2) := by decide +kernel
theorem dX6_readNumber_28 : decode cX6_readNumber 28 = .ok (.bipush 57, 2) := by decide +kernel
theorem dX6_readNumber_30 : decode cX6_readNumber 30 = .ok (.invokestatic 57, 3) := by decide +kernel
theorem dX6_readNumber_33 : decode cX6_readNumber 33 = .ok (.ifCond .eq 47, 3) := by decide +kernel
theorem dX6_readNumber_36 : decode cX6_readNumber 36 = .ok (.bipush 10, 2) := by decide +kernel
theorem dX6_readNumber_38 : decode cX6_readNumber 38 = .ok (.iload_n 1, 1) := by decide +kernel
theorem dX6_readNumber_39 : decode cX6_readNumber 39 = .ok (.imul, 1) := by decide +kernel
theorem dX6_readNumber_40 : decode cX6_readNumber 40 = .ok (.aload_n 0, 1) := by decide +kernel
theorem dX6_readNumber_41 : decode cX6_readNumber 41 = .ok (.invokevirtual 94, 3) := by decide +kernel
theorem dX6_readNumber_44 : decode cX6_readNumber 44 = .ok (.iadd, 1) := by decide +kernel
theorem dX6_readNumber_45 : decode cX6_readNumber 45 = .ok (.bipush 48, 2) := by decide +kernel
theorem dX6_readNumber_47 : decode cX6_readNumber 47 = .ok (.isub, 1) := by decide +kernel
theorem dX6_readNumber_48 : decode cX6_readNumber 48 = .ok (.sipush 9999, 3) := by decide +kernel
theorem dX6_readNumber_51 : decode cX6_readNumber 51 = .ok (.if_icmp .gt 29, 3) := by decide +kernel
theorem dX6_readNumber_54 : decode cX6_readNumber 54 = .ok (.bipush 10, 2) := by decide +kernel
theorem dX6_readNumber_56 : decode cX6_readNumber 56 = .ok (.iload_n 1, 1) := by decide +kernel
theorem dX6_readNumber_57 : decode cX6_readNumber 57 = .ok (.imul, 1) := by decide +kernel
theorem dX6_readNumber_58 : decode cX6_readNumber 58 = .ok (.aload_n 0, 1) := by decide +kernel
theorem dX6_readNumber_59 : decode cX6_readNumber 59 = .ok (.invokevirtual 94, 3) := by decide +kernel
theorem dX6_readNumber_62 : decode cX6_readNumber 62 = .ok (.iadd, 1) := by decide +kernel
theorem dX6_readNumber_63 : decode cX6_readNumber 63 = .ok (.bipush 48, 2) := by decide +kernel
theorem dX6_readNumber_65 : decode cX6_readNumber 65 = .ok (.isub, 1) := by decide +kernel
theorem dX6_readNumber_66 : decode cX6_readNumber 66 = .ok (.istore_n 1, 1) := by decide +kernel
theorem dX6_readNumber_67 : decode cX6_readNumber 67 = .ok (.aload_n 0, 1) := by decide +kernel
theorem dX6_readNumber_68 : decode cX6_readNumber 68 = .ok (.dup, 1) := by decide +kernel
theorem dX6_readNumber_69 : decode cX6_readNumber 69 = .ok (.getfield 77, 3) := by decide +kernel
theorem dX6_readNumber_72 : decode cX6_readNumber 72 = .ok (.iconst 1, 1) := by decide +kernel
theorem dX6_readNumber_73 : decode cX6_readNumber 73 = .ok (.iadd, 1) := by decide +kernel
theorem dX6_readNumber_74 : decode cX6_readNumber 74 = .ok (.putfield 77, 3) := by decide +kernel
theorem dX6_readNumber_77 : decode cX6_readNumber 77 = .ok (.goto (-59), 3) := by decide +kernel
theorem dX6_readNumber_80 : decode cX6_readNumber 80 = .ok (.aload_n 0, 1) := by decide +kernel
theorem dX6_readNumber_81 : decode cX6_readNumber 81 = .ok (.iconst 0, 1) := by decide +kernel
theorem dX6_readNumber_82 : decode cX6_readNumber 82 = .ok (.iload_n 1, 1) := by decide +kernel
theorem dX6_readNumber_83 : decode cX6_readNumber 83 = .ok (.invokevirtual 90, 3) := by decide +kernel
theorem dX6_readNumber_86 : decode cX6_readNumber 86 = .ok (.return_, 1) := by decide +kernel
theorem dX6_readOperand_0 : decode cX6_readOperand 0 = .ok (.aload_n 0, 1) := by decide +kernel
theorem dX6_readOperand_1 : decode cX6_readOperand 1 = .ok (.invokevirtual 94, 3) := by decide +kernel
theorem dX6_readOperand_4 : decode cX6_readOperand 4 = .ok (.istore_n 1, 1) := by decide +kernel
theorem dX6_readOperand_5 : decode cX6_readOperand 5 = .ok (.iload_n 1, 1) := by decide +kernel
theorem dX6_readOperand_6 : decode cX6_readOperand 6 = .ok (.bipush 48, 2) := by decide +kernel
theorem dX6_readOperand_8 : decode cX6_readOperand 8 = .ok (.bipush 57, 2) := by decide +kernel
theorem dX6_readOperand_10 : decode cX6_readOperand 10 = .ok (.invokestatic 57, 3) := by decide +kernel
theorem dX6_readOperand_13 : decode cX6_readOperand 13 = .ok (.ifCond .eq 9, 3) := by decide +kernel
theorem dX6_readOperand_16 : decode cX6_readOperand 16 = .ok (.aload_n 0, 1) := by decide +kernel
theorem dX6_readOperand_17 : decode cX6_readOperand 17 = .ok (.invokevirtual 98, 3) := by decide +kernel
theorem dX6_readOperand_20 : decode cX6_readOperand 20 = .ok (.iconst 1, 1) := by decide +kernel
theorem dX6_readOperand_21 : decode cX6_readOperand 21 = .ok (.ireturn, 1) := by decide +kernel
theorem dX6_readOperand_22 : decode cX6_readOperand 22 = .ok (.iload_n 1, 1) := by decide +kernel
theorem dX6_readOperand_23 : decode cX6_readOperand 23 = .ok (.bipush 65, 2) := by decide +kernel
theorem dX6_readOperand_25 : decode cX6_readOperand 25 = .ok (.bipush 72, 2) := by decide +kernel
theorem dX6_readOperand_27 : decode cX6_readOperand 27 = .ok (.invokestatic 57, 3) := by decide +kernel
theorem dX6_readOperand_30 : decode cX6_readOperand 30 = .ok (.ifCond .eq 24, 3) := by decide +kernel
theorem dX6_readOperand_33 : decode cX6_readOperand 33 = .ok (.aload_n 0, 1) := by decide +kernel
theorem dX6_readOperand_34 : decode cX6_readOperand 34 = .ok (.iconst 1, 1) := by decide +kernel
theorem dX6_readOperand_35 : decode cX6_readOperand 35 = .ok (.iload_n 1, 1) := by decide +kernel
theorem dX6_readOperand_36 : decode cX6_readOperand 36 = .ok (.bipush 65, 2) := by decide +kernel
theorem dX6_readOperand_38 : decode cX6_readOperand 38 = .ok (.isub, 1) := by decide +kernel
theorem dX6_readOperand_39 : decode cX6_readOperand 39 = .ok (.invokevirtual 90, 3) := by decide +kernel
theorem dX6_readOperand_42 : decode cX6_readOperand 42 = .ok (.aload_n 0, 1) := by decide +kernel
theorem dX6_readOperand_43 : decode cX6_readOperand 43 = .ok (.dup, 1) := by decide +kernel
theorem dX6_readOperand_44 : decode cX6_readOperand 44 = .ok (.getfield 77, 3) := by decide +kernel
theorem dX6_readOperand_47 : decode cX6_readOperand 47 = .ok (.iconst 1, 1) := by decide +kernel
theorem dX6_readOperand_48 : decode cX6_readOperand 48 = .ok (.iadd, 1) := by decide +kernel
theorem dX6_readOperand_49 : decode cX6_readOperand 49 = .ok (.putfield 77, 3) := by decide +kernel
theorem dX6_readOperand_52 : decode cX6_readOperand 52 = .ok (.iconst 1, 1) := by decide +kernel
theorem dX6_readOperand_53 : decode cX6_readOperand 53 = .ok (.ireturn, 1) := by decide +kernel
theorem dX6_readOperand_54 : decode cX6_readOperand 54 = .ok (.iconst 0, 1) := by decide +kernel
theorem dX6_readOperand_55 : decode cX6_readOperand 55 = .ok (.ireturn, 1) := by decide +kernel
theorem dX6_readOpening_0 : decode cX6_readOpening 0 = .ok (.aload_n 0, 1) := by decide +kernel
theorem dX6_readOpening_1 : decode cX6_readOpening 1 = .ok (.invokevirtual 94, 3) := by decide +kernel
theorem dX6_readOpening_4 : decode cX6_readOpening 4 = .ok (.istore_n 1, 1) := by decide +kernel
theorem dX6_readOpening_5 : decode cX6_readOpening 5 = .ok (.iload_n 1, 1) := by decide +kernel
theorem dX6_readOpening_6 : decode cX6_readOpening 6 = .ok (.bipush 40, 2) := by decide +kernel
theorem dX6_readOpening_8 : decode cX6_readOpening 8 = .ok (.if_icmp .eq 23, 3) := by decide +kernel
theorem dX6_readOpening_11 : decode cX6_readOpening 11 = .ok (.iload_n 1, 1) := by decide +kernel
theorem dX6_readOpening_12 : decode cX6_readOpening 12 = .ok (.bipush 113, 2) := by decide +kernel
theorem dX6_readOpening_14 : decode cX6_readOpening 14 = .ok (.if_icmp .eq 17, 3) := by decide +kernel
theorem dX6_readOpening_17 : decode cX6_readOpening 17 = .ok (.iload_n 1, 1) := by decide +kernel
theorem dX6_readOpening_18 : decode cX6_readOpening 18 = .ok (.bipush 107, 2) := by decide +kernel
theorem dX6_readOpening_20 : decode cX6_readOpening 20 = .ok (.if_icmp .eq 11, 3) := by decide +kernel
theorem dX6_readOpening_23 : decode cX6_readOpening 23 = .ok (.iload_n 1, 1) := by decide +kernel
theorem dX6_readOpening_24 : decode cX6_readOpening 24 = .ok (.bipush 115, 2) := by decide +kernel
theorem dX6_readOpening_26 : decode cX6_readOpening 26 = .ok (.if_icmp .eq 5, 3) := by decide +kernel
theorem dX6_readOpening_29 : decode cX6_readOpening 29 = .ok (.iconst 0, 1) := by decide +kernel
theorem dX6_readOpening_30 : decode cX6_readOpening 30 = .ok (.ireturn, 1) := by decide +kernel
theorem dX6_readOpening_31 : decode cX6_readOpening 31 = .ok (.iload_n 1, 1) := by decide +kernel
theorem dX6_readOpening_32 : decode cX6_readOpening 32 = .ok (.bipush 40, 2) := by decide +kernel
theorem dX6_readOpening_34 : decode cX6_readOpening 34 = .ok (.if_icmp .eq 24, 3) := by decide +kernel
theorem dX6_readOpening_37 : decode cX6_readOpening 37 = .ok (.aload_n 0, 1) := by decide +kernel
theorem dX6_readOpening_38 : decode cX6_readOpening 38 = .ok (.dup, 1) := by decide +kernel
theorem dX6_readOpening_39 : decode cX6_readOpening 39 = .ok (.getfield 77, 3) := by decide +kernel
theorem dX6_readOpening_42 : decode cX6_readOpening 42 = .ok (.iconst 1, 1) := by decide +kernel
theorem dX6_readOpening_43 : decode cX6_readOpening 43 = .ok (.iadd, 1) := by decide +kernel
theorem dX6_readOpening_44 : decode cX6_readOpening 44 = .ok (.putfield 77, 3) := by decide +kernel
theorem dX6_readOpening_47 : decode cX6_readOpening 47 = .ok (.aload_n 0, 1) := by decide +kernel
theorem dX6_readOpening_48 : decode cX6_readOpening 48 = .ok (.invokevirtual 94, 3) := by decide +kernel
theorem dX6_readOpening_51 : decode cX6_readOpening 51 = .ok (.bipush 40, 2) := by decide +kernel
theorem dX6_readOpening_53 : decode cX6_readOpening 53 = .ok (.if_icmp .eq 5, 3) := by decide +kernel
theorem dX6_readOpening_56 : decode cX6_readOpening 56 = .ok (.iconst 0, 1) := by decide +kernel
theorem dX6_readOpening_57 : decode cX6_readOpening 57 = .ok (.ireturn, 1) := by decide +kernel
theorem dX6_readOpening_58 : decode cX6_readOpening 58 = .ok (.aload_n 0, 1) := by decide +kernel
theorem dX6_readOpening_59 : decode cX6_readOpening 59 = .ok (.dup, 1) := by decide +kernel
theorem dX6_readOpening_60 : decode cX6_readOpening 60 = .ok (.getfield 77, 3) := by decide +kernel
theorem dX6_readOpening_63 : decode cX6_readOpening 63 = .ok (.iconst 1, 1) := by decide +kernel
theorem dX6_readOpening_64 : decode cX6_readOpening 64 = .ok (.iadd, 1) := by decide +kernel
theorem dX6_readOpening_65 : decode cX6_readOpening 65 = .ok (.putfield 77, 3) := by decide +kernel
theorem dX6_readOpening_68 : decode cX6_readOpening 68 = .ok (.aload_n 0, 1) := by decide +kernel
theorem dX6_readOpening_69 : decode cX6_readOpening 69 = .ok (.iload_n 1, 1) := by decide +kernel
theorem dX6_readOpening_70 : decode cX6_readOpening 70 = .ok (.invokevirtual 101, 3) := by decide +kernel
theorem dX6_readOpening_73 : decode cX6_readOpening 73 = .ok (.aload_n 0, 1) := by decide +kernel
theorem dX6_readOpening_74 : decode cX6_readOpening 74 = .ok (.dup, 1) := by decide +kernel
theorem dX6_readOpening_75 : decode cX6_readOpening 75 = .ok (.getfield 105, 3) := by decide +kernel
theorem dX6_readOpening_78 : decode cX6_readOpening 78 = .ok (.iconst 1, 1) := by decide +kernel
theorem dX6_readOpening_79 : decode cX6_readOpening 79 = .ok (.iadd, 1) := by decide +kernel
theorem dX6_readOpening_80 : decode cX6_readOpening 80 = .ok (.putfield 105, 3) := by decide +kernel
theorem dX6_readOpening_83 : decode cX6_readOpening 83 = .ok (.iconst 1, 1) := by decide +kernel
theorem dX6_readOpening_84 : decode cX6_readOpening 84 = .ok (.ireturn, 1) := by decide +kernel
theorem dX6_readBehind_0 : decode cX6_readBehind 0 = .ok (.aload_n 0, 1) := by decide +kernel
theorem dX6_readBehind_1 : decode cX6_readBehind 1 = .ok (.invokevirtual 94, 3) := by decide +kernel
theorem dX6_readBehind_4 : decode cX6_readBehind 4 = .ok (.istore_n 1, 1) := by decide +kernel
theorem dX6_readBehind_5 : decode cX6_readBehind 5 = .ok (.iload_n 1, 1) := by decide +kernel
theorem dX6_readBehind_6 : decode cX6_readBehind 6 = .ok (.bipush 43, 2) := by decide +kernel
theorem dX6_readBehind_8 : decode cX6_readBehind 8 = .ok (.if_icmp .eq 15, 3) := by decide +kernel
theorem dX6_readBehind_11 : decode cX6_readBehind 11 = .ok (.iload_n 1, 1) := by decide +kernel
theorem dX6_readBehind_12 : decode cX6_readBehind 12 = .ok (.bipush 45, 2) := by decide +kernel
theorem dX6_readBehind_14 : decode cX6_readBehind 14 = .ok (.if_icmp .eq 9, 3) := by decide +kernel
theorem dX6_readBehind_17 : decode cX6_readBehind 17 = .ok (.iload_n 1, 1) := by decide +kernel
theorem dX6_readBehind_18 : decode cX6_readBehind 18 = .ok (.bipush 42, 2) := by decide +kernel
theorem dX6_readBehind_20 : decode cX6_readBehind 20 = .ok (.if_icmp .ne 25, 3) := by decide +kernel
theorem dX6_readBehind_23 : decode cX6_readBehind 23 = .ok (.aload_n 0, 1) := by decide +kernel
theorem dX6_readBehind_24 : decode cX6_readBehind 24 = .ok (.iload_n 1, 1) := by decide +kernel
theorem dX6_readBehind_25 : decode cX6_readBehind 25 = .ok (.invokevirtual 108, 3) := by decide +kernel
theorem dX6_readBehind_28 : decode cX6_readBehind 28 = .ok (.aload_n 0, 1) := by decide +kernel
theorem dX6_readBehind_29 : decode cX6_readBehind 29 = .ok (.iload_n 1, 1) := by decide +kernel
theorem dX6_readBehind_30 : decode cX6_readBehind 30 = .ok (.invokevirtual 101, 3) := by decide +kernel
theorem dX6_readBehind_33 : decode cX6_readBehind 33 = .ok (.aload_n 0, 1) := by decide +kernel
theorem dX6_readBehind_34 : decode cX6_readBehind 34 = .ok (.dup, 1) := by decide +kernel
theorem dX6_readBehind_35 : decode cX6_readBehind 35 = .ok (.getfield 77, 3) := by decide +kernel
theorem dX6_readBehind_38 : decode cX6_readBehind 38 = .ok (.iconst 1, 1) := by decide +kernel
theorem dX6_readBehind_39 : decode cX6_readBehind 39 = .ok (.iadd, 1) := by decide +kernel
theorem dX6_readBehind_40 : decode cX6_readBehind 40 = .ok (.putfield 77, 3) := by decide +kernel
theorem dX6_readBehind_43 : decode cX6_readBehind 43 = .ok (.iconst 1, 1) := by decide +kernel
theorem dX6_readBehind_44 : decode cX6_readBehind 44 = .ok (.ireturn, 1) := by decide +kernel
theorem dX6_readBehind_45 : decode cX6_readBehind 45 = .ok (.iload_n 1, 1) := by decide +kernel
theorem dX6_readBehind_46 : decode cX6_readBehind 46 = .ok (.bipush 41, 2) := by decide +kernel
theorem dX6_readBehind_48 : decode cX6_readBehind 48 = .ok (.if_icmp .ne 76, 3) := by decide +kernel
theorem dX6_readBehind_51 : decode cX6_readBehind 51 = .ok (.aload_n 0, 1) := by decide +kernel
theorem dX6_readBehind_52 : decode cX6_readBehind 52 = .ok (.getfield 105, 3) := by decide +kernel
theorem dX6_readBehind_55 : decode cX6_readBehind 55 = .ok (.ifCond .le 69, 3) := by decide +kernel
theorem dX6_readBehind_58 : decode cX6_readBehind 58 = .ok (.aload_n 0, 1) := by decide +kernel
theorem dX6_readBehind_59 : decode cX6_readBehind 59 = .ok (.bipush 43, 2) := by decide +kernel
theorem dX6_readBehind_61 : decode cX6_readBehind 61 = .ok (.invokevirtual 108, 3) := by decide +kernel
theorem dX6_readBehind_64 : decode cX6_readBehind 64 = .ok (.aload_n 0, 1) := by decide +kernel
theorem dX6_readBehind_65 : decode cX6_readBehind 65 = .ok (.dup, 1) := by decide +kernel
theorem dX6_readBehind_66 : decode cX6_readBehind 66 = .ok (.getfield 83, 3) := by decide +kernel
theorem dX6_readBehind_69 : decode cX6_readBehind 69 = .ok (.iconst 1, 1) := by decide +kernel
theorem dX6_readBehind_70 : decode cX6_readBehind 70 = .ok (.isub, 1) := by decide +kernel
theorem dX6_readBehind_71 : decode cX6_readBehind 71 = .ok (.putfield 83, 3) := by decide +kernel
theorem dX6_readBehind_74 : decode cX6_readBehind 74 = .ok (.aload_n 0, 1) := by decide +kernel
theorem dX6_readBehind_75 : decode cX6_readBehind 75 = .ok (.getfield 42, 3) := by decide +kernel
theorem dX6_readBehind_78 : decode cX6_readBehind 78 = .ok (.aload_n 0, 1) := by decide +kernel
theorem dX6_readBehind_79 : decode cX6_readBehind 79 = .ok (.getfield 83, 3) := by decide +kernel
theorem dX6_readBehind_82 : decode cX6_readBehind 82 = .ok (.iaload, 1) := by decide +kernel
theorem dX6_readBehind_83 : decode cX6_readBehind 83 = .ok (.bipush 40, 2) := by decide +kernel
theorem dX6_readBehind_85 : decode cX6_readBehind 85 = .ok (.if_icmp .eq 17, 3) := by decide +kernel
theorem dX6_readBehind_88 : decode cX6_readBehind 88 = .ok (.aload_n 0, 1) := by decide +kernel
theorem dX6_readBehind_89 : decode cX6_readBehind 89 = .ok (.aload_n 0, 1) := by decide +kernel
theorem dX6_readBehind_90 : decode cX6_readBehind 90 = .ok (.getfield 42, 3) := by decide +kernel
theorem dX6_readBehind_93 : decode cX6_readBehind 93 = .ok (.aload_n 0, 1) := by decide +kernel
theorem dX6_readBehind_94 : decode cX6_readBehind 94 = .ok (.getfield 83, 3) := by decide +kernel
theorem dX6_readBehind_97 : decode cX6_readBehind 97 = .ok (.iaload, 1) := by decide +kernel
theorem dX6_readBehind_98 : decode cX6_readBehind 98 = .ok (.iconst 0, 1) := by decide +kernel
theorem dX6_readBehind_99 : decode cX6_readBehind 99 = .ok (.invokevirtual 90, 3) := by decide +kernel
theorem dX6_readBehind_102 : decode cX6_readBehind 102 = .ok (.aload_n 0, 1) := by decide +kernel
theorem dX6_readBehind_103 : decode cX6_readBehind 103 = .ok (.dup, 1) := by decide +kernel
theorem dX6_readBehind_104 : decode cX6_readBehind 104 = .ok (.getfield 105, 3) := by decide +kernel
theorem dX6_readBehind_107 : decode cX6_readBehind 107 = .ok (.iconst 1, 1) := by decide +kernel
theorem dX6_readBehind_108 : decode cX6_readBehind 108 = .ok (.isub, 1) := by decide +kernel
theorem dX6_readBehind_109 : decode cX6_readBehind 109 = .ok (.putfield 105, 3) := by decide +kernel
theorem dX6_readBehind_112 : decode cX6_readBehind 112 = .ok (.aload_n 0, 1) := by decide +kernel
theorem dX6_readBehind_113 : decode cX6_readBehind 113 = .ok (.dup, 1) := by decide +kernel
theorem dX6_readBehind_114 : decode cX6_readBehind 114 = .ok (.getfield 77, 3) := by decide +kernel
theorem dX6_readBehind_117 : decode cX6_readBehind 117 = .ok (.iconst 1, 1) := by decide +kernel
theorem dX6_readBehind_118 : decode cX6_readBehind 118 = .ok (.iadd, 1) := by decide +kernel
theorem dX6_readBehind_119 : decode cX6_readBehind 119 = .ok (.putfield 77, 3) := by decide +kernel
theorem dX6_readBehind_122 : decode cX6_readBehind 122 = .ok (.iconst 1, 1) := by decide +kernel
theorem dX6_readBehind_123 : decode cX6_readBehind 123 = .ok (.ireturn, 1) := by decide +kernel
theorem dX6_readBehind_124 : decode cX6_readBehind 124 = .ok (.iconst 0, 1) := by decide +kernel
theorem dX6_readBehind_125 : decode cX6_readBehind 125 = .ok (.ireturn, 1) := by decide +kernel
theorem dX6_readPad_0 : decode cX6_readPad 0 = .ok (.aload_n 0, 1) := by decide +kernel
theorem dX6_readPad_1 : decode cX6_readPad 1 = .ok (.iconst 0, 1) := by decide +kernel
theorem dX6_readPad_2 : decode cX6_readPad 2 = .ok (.putfield 80, 3) := by decide +kernel
theorem dX6_readPad_5 : decode cX6_readPad 5 = .ok (.aload_n 0, 1) := by decide +kernel
theorem dX6_readPad_6 : decode cX6_readPad 6 = .ok (.iconst 0, 1) := by decide +kernel
theorem dX6_readPad_7 : decode cX6_readPad 7 = .ok (.putfield 83, 3) := by decide +kernel
theorem dX6_readPad_10 : decode cX6_readPad 10 = .ok (.aload_n 0, 1) := by decide +kernel
theorem dX6_readPad_11 : decode cX6_readPad 11 = .ok (.iconst 0, 1) := by decide +kernel
theorem dX6_readPad_12 : decode cX6_readPad 12 = .ok (.putfield 105, 3) := by decide +kernel
theorem dX6_readPad_15 : decode cX6_readPad 15 = .ok (.aload_n 0, 1) := by decide +kernel
theorem dX6_readPad_16 : decode cX6_readPad 16 = .ok (.iconst 0, 1) := by decide +kernel
theorem dX6_readPad_17 : decode cX6_readPad 17 = .ok (.putfield 77, 3) := by decide +kernel
theorem dX6_readPad_20 : decode cX6_readPad 20 = .ok (.iconst 1, 1) := by decide +kernel
theorem dX6_readPad_21 : decode cX6_readPad 21 = .ok (.istore_n 1, 1) := by decide +kernel
theorem dX6_readPad_22 : decode cX6_readPad 22 = .ok (.iconst 1, 1) := by decide +kernel
theorem dX6_readPad_23 : decode cX6_readPad 23 = .ok (.istore_n 2, 1) := by decide +kernel
theorem dX6_readPad_24 : decode cX6_readPad 24 = .ok (.iload_n 2, 1) := by decide +kernel
theorem dX6_readPad_25 : decode cX6_readPad 25 = .ok (.ifCond .eq 78, 3) := by decide +kernel
theorem dX6_readPad_28 : decode cX6_readPad 28 = .ok (.aload_n 0, 1) := by decide +kernel
theorem dX6_readPad_29 : decode cX6_readPad 29 = .ok (.getfield 77, 3) := by decide +kernel
theorem dX6_readPad_32 : decode cX6_readPad 32 = .ok (.aload_n 0, 1) := by decide +kernel
theorem dX6_readPad_33 : decode cX6_readPad 33 = .ok (.getfield 74, 3) := by decide +kernel
theorem dX6_readPad_36 : decode cX6_readPad 36 = .ok (.if_icmp .ge 67, 3) := by decide +kernel
theorem dX6_readPad_39 : decode cX6_readPad 39 = .ok (.iload_n 1, 1) := by decide +kernel
theorem dX6_readPad_40 : decode cX6_readPad 40 = .ok (.ifCond .eq 38, 3) := by decide +kernel
theorem dX6_readPad_43 : decode cX6_readPad 43 = .ok (.aload_n 0, 1) := by decide +kernel
theorem dX6_readPad_44 : decode cX6_readPad 44 = .ok (.invokevirtual 111, 3) := by decide +kernel
theorem dX6_readPad_47 : decode cX6_readPad 47 = .ok (.istore_n 3, 1) := by decide +kernel
theorem dX6_readPad_48 : decode cX6_readPad 48 = .ok (.iload_n 3, 1) := by decide +kernel
theorem dX6_readPad_49 : decode cX6_readPad 49 = .ok (.ifCond .ne 10, 3) := by decide +kernel
theorem dX6_readPad_52 : decode cX6_readPad 52 = .ok (.aload_n 0, 1) := by decide +kernel
theorem dX6_readPad_53 : decode cX6_readPad 53 = .ok (.invokevirtual 115, 3) := by decide +kernel
theorem dX6_readPad_56 : decode cX6_readPad 56 = .ok (.ifCond .eq 7, 3) := by decide +kernel
theorem dX6_readPad_59 : decode cX6_readPad 59 = .ok (.iconst 1, 1) := by decide +kernel
theorem dX6_readPad_60 : decode cX6_readPad 60 = .ok (.goto 4, 3) := by decide +kernel
theorem dX6_readPad_63 : decode cX6_readPad 63 = .ok (.iconst 0, 1) := by decide +kernel
theorem dX6_readPad_64 : decode cX6_readPad 64 = .ok (.istore_n 2, 1) := by decide +kernel
theorem dX6_readPad_65 : decode cX6_readPad 65 = .ok (.iload_n 3, 1) := by decide +kernel
theorem dX6_readPad_66 : decode cX6_readPad 66 = .ok (.ifCond .ne 7, 3) := by decide +kernel
theorem dX6_readPad_69 : decode cX6_readPad 69 = .ok (.iconst 1, 1) := by decide +kernel
theorem dX6_readPad_70 : decode cX6_readPad 70 = .ok (.goto 4, 3) := by decide +kernel
theorem dX6_readPad_73 : decode cX6_readPad 73 = .ok (.iconst 0, 1) := by decide +kernel
theorem dX6_readPad_74 : decode cX6_readPad 74 = .ok (.istore_n 1, 1) := by decide +kernel
theorem dX6_readPad_75 : decode cX6_readPad 75 = .ok (.goto (-51), 3) := by decide +kernel
theorem dX6_readPad_78 : decode cX6_readPad 78 = .ok (.aload_n 0, 1) := by decide +kernel
theorem dX6_readPad_79 : decode cX6_readPad 79 = .ok (.invokevirtual 94, 3) := by decide +kernel
theorem dX6_readPad_82 : decode cX6_readPad 82 = .ok (.istore_n 3, 1) := by decide +kernel
theorem dX6_readPad_83 : decode cX6_readPad 83 = .ok (.aload_n 0, 1) := by decide +kernel
theorem dX6_readPad_84 : decode cX6_readPad 84 = .ok (.invokevirtual 118, 3) := by decide +kernel
theorem dX6_readPad_87 : decode cX6_readPad 87 = .ok (.istore_n 2, 1) := by decide +kernel
theorem dX6_readPad_88 : decode cX6_readPad 88 = .ok (.iload_n 3, 1) := by decide +kernel
theorem dX6_readPad_89 : decode cX6_readPad 89 = .ok (.bipush 41, 2) := by decide +kernel
theorem dX6_readPad_91 : decode cX6_readPad 91 = .ok (.if_icmp .eq 7, 3) := by decide +kernel
theorem dX6_readPad_94 : decode cX6_readPad 94 = .ok (.iconst 1, 1) := by decide +kernel
theorem dX6_readPad_95 : decode cX6_readPad 95 = .ok (.goto 4, 3) := by decide +kernel
theorem dX6_readPad_98 : decode cX6_readPad 98 = .ok (.iconst 0, 1) := by decide +kernel
theorem dX6_readPad_99 : decode cX6_readPad 99 = .ok (.istore_n 1, 1) := by decide +kernel
theorem dX6_readPad_100 : decode cX6_readPad 100 = .ok (.goto (-76), 3) := by decide +kernel
theorem dX6_readPad_103 : decode cX6_readPad 103 = .ok (.iload_n 2, 1) := by decide +kernel
theorem dX6_readPad_104 : decode cX6_readPad 104 = .ok (.ifCond .eq 14, 3) := by decide +kernel
theorem dX6_readPad_107 : decode cX6_readPad 107 = .ok (.iload_n 1, 1) := by decide +kernel
theorem dX6_readPad_108 : decode cX6_readPad 108 = .ok (.ifCond .ne 10, 3) := by decide +kernel
theorem dX6_readPad_111 : decode cX6_readPad 111 = .ok (.aload_n 0, 1) := by decide +kernel
theorem dX6_readPad_112 : decode cX6_readPad 112 = .ok (.getfield 105, 3) := by decide +kernel
theorem dX6_readPad_115 : decode cX6_readPad 115 = .ok (.ifCond .le 8, 3) := by decide +kernel
theorem dX6_readPad_118 : decode cX6_readPad 118 = .ok (.aload_n 0, 1) := by decide +kernel
theorem dX6_readPad_119 : decode cX6_readPad 119 = .ok (.getfield 77, 3) := by decide +kernel
theorem dX6_readPad_122 : decode cX6_readPad 122 = .ok (.ireturn, 1) := by decide +kernel
theorem dX6_readPad_123 : decode cX6_readPad 123 = .ok (.aload_n 0, 1) := by decide +kernel
theorem dX6_readPad_124 : decode cX6_readPad 124 = .ok (.bipush 43, 2) := by decide +kernel
theorem dX6_readPad_126 : decode cX6_readPad 126 = .ok (.invokevirtual 108, 3) := by decide +kernel
theorem dX6_readPad_129 : decode cX6_readPad 129 = .ok (.bipush (-6), 2) := by decide +kernel
theorem dX6_readPad_131 : decode cX6_readPad 131 = .ok (.ireturn, 1) := by decide +kernel
theorem dX6_fault_0 : decode cX6_fault 0 = .ok (.aload_n 0, 1) := by decide +kernel
theorem dX6_fault_1 : decode cX6_fault 1 = .ok (.invokevirtual 121, 3) := by decide +kernel
theorem dX6_fault_4 : decode cX6_fault 4 = .ok (.ireturn, 1) := by decide +kernel
theorem dX6_isFormula_0 : decode cX6_isFormula 0 = .ok (.iload_n 1, 1) := by decide +kernel
theorem dX6_isFormula_1 : decode cX6_isFormula 1 = .ok (.iconst 0, 1) := by decide +kernel
theorem dX6_isFormula_2 : decode cX6_isFormula 2 = .ok (.iconst 5, 1) := by decide +kernel
theorem dX6_isFormula_3 : decode cX6_isFormula 3 = .ok (.invokestatic 57, 3) := by decide +kernel
theorem dX6_isFormula_6 : decode cX6_isFormula 6 = .ok (.ifCond .eq 18, 3) := by decide +kernel
theorem dX6_isFormula_9 : decode cX6_isFormula 9 = .ok (.aload_n 0, 1) := by decide +kernel
theorem dX6_isFormula_10 : decode cX6_isFormula 10 = .ok (.getfield 7, 3) := by decide +kernel
theorem dX6_isFormula_13 : decode cX6_isFormula 13 = .ok (.iconst 2, 1) := by decide +kernel
theorem dX6_isFormula_14 : decode cX6_isFormula 14 = .ok (.iload_n 1, 1) := by decide +kernel
theorem dX6_isFormula_15 : decode cX6_isFormula 15 = .ok (.iadd, 1) := by decide +kernel
theorem dX6_isFormula_16 : decode cX6_isFormula 16 = .ok (.iaload, 1) := by decide +kernel
theorem dX6_isFormula_17 : decode cX6_isFormula 17 = .ok (.ifCond .le 7, 3) := by decide +kernel
theorem dX6_isFormula_20 : decode cX6_isFormula 20 = .ok (.iconst 1, 1) := by decide +kernel
theorem dX6_isFormula_21 : decode cX6_isFormula 21 = .ok (.goto 4, 3) := by decide +kernel
theorem dX6_isFormula_24 : decode cX6_isFormula 24 = .ok (.iconst 0, 1) := by decide +kernel
theorem dX6_isFormula_25 : decode cX6_isFormula 25 = .ok (.ireturn, 1) := by decide +kernel
theorem dX6_load_0 : decode cX6_load 0 = .ok (.iload_n 1, 1) := by decide +kernel
theorem dX6_load_1 : decode cX6_load 1 = .ok (.iconst 0, 1) := by decide +kernel
theorem dX6_load_2 : decode cX6_load 2 = .ok (.iconst 5, 1) := by decide +kernel
theorem dX6_load_3 : decode cX6_load 3 = .ok (.invokestatic 57, 3) := by decide +kernel
theorem dX6_load_6 : decode cX6_load 6 = .ok (.ifCond .ne 5, 3) := by decide +kernel
theorem dX6_load_9 : decode cX6_load 9 = .ok (.iconst (-1), 1) := by decide +kernel
theorem dX6_load_10 : decode cX6_load 10 = .ok (.ireturn, 1) := by decide +kernel
theorem dX6_load_11 : decode cX6_load 11 = .ok (.aload_n 0, 1) := by decide +kernel
theorem dX6_load_12 : decode cX6_load 12 = .ok (.invokevirtual 121, 3) := by decide +kernel
theorem dX6_load_15 : decode cX6_load 15 = .ok (.bipush (-6), 2) := by decide +kernel
theorem dX6_load_17 : decode cX6_load 17 = .ok (.if_icmp .eq 6, 3) := by decide +kernel
theorem dX6_load_20 : decode cX6_load 20 = .ok (.bipush (-3), 2) := by decide +kernel
theorem dX6_load_22 : decode cX6_load 22 = .ok (.ireturn, 1) := by decide +kernel
theorem dX6_load_23 : decode cX6_load 23 = .ok (.aload_n 0, 1) := by decide +kernel
theorem dX6_load_24 : decode cX6_load 24 = .ok (.invokevirtual 61, 3) := by decide +kernel
theorem dX6_load_27 : decode cX6_load 27 = .ok (.aload_n 0, 1) := by decide +kernel
theorem dX6_load_28 : decode cX6_load 28 = .ok (.getfield 7, 3) := by decide +kernel
theorem dX6_load_31 : decode cX6_load 31 = .ok (.iconst 2, 1) := by decide +kernel
theorem dX6_load_32 : decode cX6_load 32 = .ok (.iload_n 1, 1) := by decide +kernel
theorem dX6_load_33 : decode cX6_load 33 = .ok (.iadd, 1) := by decide +kernel
theorem dX6_load_34 : decode cX6_load 34 = .ok (.aload_n 0, 1) := by decide +kernel
theorem dX6_load_35 : decode cX6_load 35 = .ok (.getfield 80, 3) := by decide +kernel
theorem dX6_load_38 : decode cX6_load 38 = .ok (.iastore, 1) := by decide +kernel
theorem dX6_load_39 : decode cX6_load 39 = .ok (.iconst 0, 1) := by decide +kernel
theorem dX6_load_40 : decode cX6_load 40 = .ok (.istore_n 2, 1) := by decide +kernel
theorem dX6_load_41 : decode cX6_load 41 = .ok (.iload_n 2, 1) := by decide +kernel
theorem dX6_load_42 : decode cX6_load 42 = .ok (.aload_n 0, 1) := by decide +kernel
theorem dX6_load_43 : decode cX6_load 43 = .ok (.getfield 80, 3) := by decide +kernel
theorem dX6_load_46 : decode cX6_load 46 = .ok (.if_icmp .ge 55, 3) := by decide +kernel
theorem dX6_load_49 : decode cX6_load 49 = .ok (.aload_n 0, 1) := by decide +kernel
theorem dX6_load_50 : decode cX6_load 50 = .ok (.getfield 7, 3) := by decide +kernel
theorem dX6_load_53 : decode cX6_load 53 = .ok (.bipush 8, 2) := by decide +kernel
theorem dX6_load_55 : decode cX6_load 55 = .ok (.bipush 120, 2) := by decide +kernel
theorem dX6_load_57 : decode cX6_load 57 = .ok (.iload_n 1, 1) := by decide +kernel
theorem dX6_load_58 : decode cX6_load 58 = .ok (.imul, 1) := by decide +kernel
theorem dX6_load_59 : decode cX6_load 59 = .ok (.iadd, 1) := by decide +kernel
theorem dX6_load_60 : decode cX6_load 60 = .ok (.iconst 2, 1) := by decide +kernel
theorem dX6_load_61 : decode cX6_load 61 = .ok (.iload_n 2, 1) := by decide +kernel
theorem dX6_load_62 : decode cX6_load 62 = .ok (.imul, 1) := by decide +kernel
theorem dX6_load_63 : decode cX6_load 63 = .ok (.iadd, 1) := by decide +kernel
theorem dX6_load_64 : decode cX6_load 64 = .ok (.aload_n 0, 1) := by decide +kernel
theorem dX6_load_65 : decode cX6_load 65 = .ok (.getfield 36, 3) := by decide +kernel
theorem dX6_load_68 : decode cX6_load 68 = .ok (.iload_n 2, 1) := by decide +kernel
theorem dX6_load_69 : decode cX6_load 69 = .ok (.iaload, 1) := by decide +kernel
theorem dX6_load_70 : decode cX6_load 70 = .ok (.iastore, 1) := by decide +kernel
theorem dX6_load_71 : decode cX6_load 71 = .ok (.aload_n 0, 1) := by decide +kernel
theorem dX6_load_72 : decode cX6_load 72 = .ok (.getfield 7, 3) := by decide +kernel
theorem dX6_load_75 : decode cX6_load 75 = .ok (.bipush 8, 2) := by decide +kernel
theorem dX6_load_77 : decode cX6_load 77 = .ok (.bipush 120, 2) := by decide +kernel
theorem dX6_load_79 : decode cX6_load 79 = .ok (.iload_n 1, 1) := by decide +kernel
theorem dX6_load_80 : decode cX6_load 80 = .ok (.imul, 1) := by decide +kernel
theorem dX6_load_81 : decode cX6_load 81 = .ok (.iadd, 1) := by decide +kernel
theorem dX6_load_82 : decode cX6_load 82 = .ok (.iconst 2, 1) := by decide +kernel
theorem dX6_load_83 : decode cX6_load 83 = .ok (.iload_n 2, 1) := by decide +kernel
theorem dX6_load_84 : decode cX6_load 84 = .ok (.imul, 1) := by decide +kernel
theorem dX6_load_85 : decode cX6_load 85 = .ok (.iadd, 1) := by decide +kernel
theorem dX6_load_86 : decode cX6_load 86 = .ok (.iconst 1, 1) := by decide +kernel
theorem dX6_load_87 : decode cX6_load 87 = .ok (.iadd, 1) := by decide +kernel
theorem dX6_load_88 : decode cX6_load 88 = .ok (.aload_n 0, 1) := by decide +kernel
theorem dX6_load_89 : decode cX6_load 89 = .ok (.getfield 39, 3) := by decide +kernel
theorem dX6_load_92 : decode cX6_load 92 = .ok (.iload_n 2, 1) := by decide +kernel
theorem dX6_load_93 : decode cX6_load 93 = .ok (.iaload, 1) := by decide +kernel
theorem dX6_load_94 : decode cX6_load 94 = .ok (.iastore, 1) := by decide +kernel
theorem dX6_load_95 : decode cX6_load 95 = .ok (.iinc 2 1, 3) := by decide +kernel
theorem dX6_load_98 : decode cX6_load 98 = .ok (.goto (-57), 3) := by decide +kernel
theorem dX6_load_101 : decode cX6_load 101 = .ok (.aload_n 0, 1) := by decide +kernel
theorem dX6_load_102 : decode cX6_load 102 = .ok (.iconst 0, 1) := by decide +kernel
theorem dX6_load_103 : decode cX6_load 103 = .ok (.putfield 74, 3) := by decide +kernel
theorem dX6_load_106 : decode cX6_load 106 = .ok (.aload_n 0, 1) := by decide +kernel
theorem dX6_load_107 : decode cX6_load 107 = .ok (.getfield 80, 3) := by decide +kernel
theorem dX6_load_110 : decode cX6_load 110 = .ok (.ireturn, 1) := by decide +kernel
theorem dX6_power_0 : decode cX6_power 0 = .ok (.iload_n 2, 1) := by decide +kernel
theorem dX6_power_1 : decode cX6_power 1 = .ok (.iconst 2, 1) := by decide +kernel
theorem dX6_power_2 : decode cX6_power 2 = .ok (.if_icmp .ne 9, 3) := by decide +kernel
theorem dX6_power_5 : decode cX6_power 5 = .ok (.lload_n 0, 1) := by decide +kernel
theorem dX6_power_6 : decode cX6_power 6 = .ok (.lload_n 0, 1) := by decide +kernel
theorem dX6_power_7 : decode cX6_power 7 = .ok (.lmul, 1) := by decide +kernel
theorem dX6_power_8 : decode cX6_power 8 = .ok (.goto 8, 3) := by decide +kernel
theorem dX6_power_11 : decode cX6_power 11 = .ok (.lload_n 0, 1) := by decide +kernel
theorem dX6_power_12 : decode cX6_power 12 = .ok (.lload_n 0, 1) := by decide +kernel
theorem dX6_power_13 : decode cX6_power 13 = .ok (.lmul, 1) := by decide +kernel
theorem dX6_power_14 : decode cX6_power 14 = .ok (.lload_n 0, 1) := by decide +kernel
theorem dX6_power_15 : decode cX6_power 15 = .ok (.lmul, 1) := by decide +kernel
theorem dX6_power_16 : decode cX6_power 16 = .ok (.lreturn, 1) := by decide +kernel
theorem dX6_firstBit_0 : decode cX6_firstBit 0 = .ok (.lconst 1, 1) := by decide +kernel
theorem dX6_firstBit_1 : decode cX6_firstBit 1 = .ok (.lstore_n 3, 1) := by decide +kernel
theorem dX6_firstBit_2 : decode cX6_firstBit 2 = .ok (.ldc2_w 124, 3) := by decide +kernel
theorem dX6_firstBit_5 : decode cX6_firstBit 5 = .ok (.lload_n 3, 1) := by decide +kernel
theorem dX6_firstBit_6 : decode cX6_firstBit 6 = .ok (.lmul, 1) := by decide +kernel
theorem dX6_firstBit_7 : decode cX6_firstBit 7 = .ok (.iload_n 2, 1) := by decide +kernel
theorem dX6_firstBit_8 : decode cX6_firstBit 8 = .ok (.invokestatic 126, 3) := by decide +kernel
theorem dX6_firstBit_11 : decode cX6_firstBit 11 = .ok (.lload_n 0, 1) := by decide +kernel
theorem dX6_firstBit_12 : decode cX6_firstBit 12 = .ok (.lcmp, 1) := by decide +kernel
theorem dX6_firstBit_13 : decode cX6_firstBit 13 = .ok (.ifCond .gt 12, 3) := by decide +kernel
theorem dX6_firstBit_16 : decode cX6_firstBit 16 = .ok (.lload_n 3, 1) := by decide +kernel
theorem dX6_firstBit_17 : decode cX6_firstBit 17 = .ok (.ldc2_w 124, 3) := by decide +kernel
theorem dX6_firstBit_20 : decode cX6_firstBit 20 = .ok (.lmul, 1) := by decide +kernel
theorem dX6_firstBit_21 : decode cX6_firstBit 21 = .ok (.lstore_n 3, 1) := by decide +kernel
theorem dX6_firstBit_22 : decode cX6_firstBit 22 = .ok (.goto (-20), 3) := by decide +kernel
theorem dX6_firstBit_25 : decode cX6_firstBit 25 = .ok (.lload_n 0, 1) := by decide +kernel
theorem dX6_firstBit_26 : decode cX6_firstBit 26 = .ok (.lconst 0, 1) := by decide +kernel
theorem dX6_firstBit_27 : decode cX6_firstBit 27 = .ok (.lcmp, 1) := by decide +kernel
theorem dX6_firstBit_28 : decode cX6_firstBit 28 = .ok (.ifCond .ne 7, 3) := by decide +kernel
theorem dX6_firstBit_31 : decode cX6_firstBit 31 = .ok (.lconst 0, 1) := by decide +kernel
theorem dX6_firstBit_32 : decode cX6_firstBit 32 = .ok (.goto 4, 3) := by decide +kernel
theorem dX6_firstBit_35 : decode cX6_firstBit 35 = .ok (.lload_n 3, 1) := by decide +kernel
theorem dX6_firstBit_36 : decode cX6_firstBit 36 = .ok (.lreturn, 1) := by decide +kernel
theorem dX6_floorRoot_0 : decode cX6_floorRoot 0 = .ok (.lconst 0, 1) := by decide +kernel
theorem dX6_floorRoot_1 : decode cX6_floorRoot 1 = .ok (.lstore_n 3, 1) := by decide +kernel
theorem dX6_floorRoot_2 : decode cX6_floorRoot 2 = .ok (.lload_n 0, 1) := by decide +kernel
theorem dX6_floorRoot_3 : decode cX6_floorRoot 3 = .ok (.iload_n 2, 1) := by decide +kernel
theorem dX6_floorRoot_4 : decode cX6_floorRoot 4 = .ok (.invokestatic 130, 3) := by decide +kernel
theorem dX6_floorRoot_7 : decode cX6_floorRoot 7 = .ok (.lstore 5, 2) := by decide +kernel
theorem dX6_floorRoot_9 : decode cX6_floorRoot 9 = .ok (.lload 5, 2) := by decide +kernel
theorem dX6_floorRoot_11 : decode cX6_floorRoot 11 = .ok (.lconst 0, 1) := by decide +kernel
theorem dX6_floorRoot_12 : decode cX6_floorRoot 12 = .ok (.lcmp, 1) := by decide +kernel
theorem dX6_floorRoot_13 : decode cX6_floorRoot 13 = .ok (.ifCond .le 36, 3) := by decide +kernel
theorem dX6_floorRoot_16 : decode cX6_floorRoot 16 = .ok (.lload_n 3, 1) := by decide +kernel
theorem dX6_floorRoot_17 : decode cX6_floorRoot 17 = .ok (.lload_n 3, 1) := by decide +kernel
theorem dX6_floorRoot_18 : decode cX6_floorRoot 18 = .ok (.lload 5, 2) := by decide +kernel
theorem dX6_floorRoot_20 : decode cX6_floorRoot 20 = .ok (.ladd, 1) := by decide +kernel
theorem dX6_floorRoot_21 : decode cX6_floorRoot 21 = .ok (.iload_n 2, 1) := by decide +kernel
theorem dX6_floorRoot_22 : decode cX6_floorRoot 22 = .ok (.invokestatic 126, 3) := by decide +kernel
theorem dX6_floorRoot_25 : decode cX6_floorRoot 25 = .ok (.lload_n 0, 1) := by decide +kernel
theorem dX6_floorRoot_26 : decode cX6_floorRoot 26 = .ok (.lcmp, 1) := by decide +kernel
theorem dX6_floorRoot_27 : decode cX6_floorRoot 27 = .ok (.ifCond .gt 8, 3) := by decide +kernel
theorem dX6_floorRoot_30 : decode cX6_floorRoot 30 = .ok (.lload 5, 2) := by decide +kernel
theorem dX6_floorRoot_32 : decode cX6_floorRoot 32 = .ok (.goto 4, 3) := by decide +kernel
theorem dX6_floorRoot_35 : decode cX6_floorRoot 35 = .ok (.lconst 0, 1) := by decide +kernel
theorem dX6_floorRoot_36 : decode cX6_floorRoot 36 = .ok (.ladd, 1) := by decide +kernel
theorem dX6_floorRoot_37 : decode cX6_floorRoot 37 = .ok (.lstore_n 3, 1) := by decide +kernel
theorem dX6_floorRoot_38 : decode cX6_floorRoot 38 = .ok (.lload 5, 2) := by decide +kernel
theorem dX6_floorRoot_40 : decode cX6_floorRoot 40 = .ok (.ldc2_w 124, 3) := by decide +kernel
theorem dX6_floorRoot_43 : decode cX6_floorRoot 43 = .ok (.ldiv, 1) := by decide +kernel
theorem dX6_floorRoot_44 : decode cX6_floorRoot 44 = .ok (.lstore 5, 2) := by decide +kernel
theorem dX6_floorRoot_46 : decode cX6_floorRoot 46 = .ok (.goto (-37), 3) := by decide +kernel
theorem dX6_floorRoot_49 : decode cX6_floorRoot 49 = .ok (.lload_n 3, 1) := by decide +kernel
theorem dX6_floorRoot_50 : decode cX6_floorRoot 50 = .ok (.lreturn, 1) := by decide +kernel
theorem dX6_rounded_0 : decode cX6_rounded 0 = .ok (.lload_n 1, 1) := by decide +kernel
theorem dX6_rounded_1 : decode cX6_rounded 1 = .ok (.iload_n 3, 1) := by decide +kernel
theorem dX6_rounded_2 : decode cX6_rounded 2 = .ok (.invokestatic 133, 3) := by decide +kernel
theorem dX6_rounded_5 : decode cX6_rounded 5 = .ok (.lstore 4, 2) := by decide +kernel
theorem dX6_rounded_7 : decode cX6_rounded 7 = .ok (.lload_n 1, 1) := by decide +kernel
theorem dX6_rounded_8 : decode cX6_rounded 8 = .ok (.lload 4, 2) := by decide +kernel
theorem dX6_rounded_10 : decode cX6_rounded 10 = .ok (.iload_n 3, 1) := by decide +kernel
theorem dX6_rounded_11 : decode cX6_rounded 11 = .ok (.invokestatic 126, 3) := by decide +kernel
theorem dX6_rounded_14 : decode cX6_rounded 14 = .ok (.lsub, 1) := by decide +kernel
theorem dX6_rounded_15 : decode cX6_rounded 15 = .ok (.lstore 6, 2) := by decide +kernel
theorem dX6_rounded_17 : decode cX6_rounded 17 = .ok (.iload_n 3, 1) := by decide +kernel
theorem dX6_rounded_18 : decode cX6_rounded 18 = .ok (.iconst 2, 1) := by decide +kernel
theorem dX6_rounded_19 : decode cX6_rounded 19 = .ok (.if_icmp .ne 19, 3) := by decide +kernel
theorem dX6_rounded_22 : decode cX6_rounded 22 = .ok (.lload 6, 2) := by decide +kernel
theorem dX6_rounded_24 : decode cX6_rounded 24 = .ok (.lload 4, 2) := by decide +kernel
theorem dX6_rounded_26 : decode cX6_rounded 26 = .ok (.lcmp, 1) := by decide +kernel
theorem dX6_rounded_27 : decode cX6_rounded 27 = .ok (.ifCond .le 7, 3) := by decide +kernel
theorem dX6_rounded_30 : decode cX6_rounded 30 = .ok (.iconst 1, 1) := by decide +kernel
theorem dX6_rounded_31 : decode cX6_rounded 31 = .ok (.goto 33, 3) := by decide +kernel
theorem dX6_rounded_34 : decode cX6_rounded 34 = .ok (.iconst 0, 1) := by decide +kernel
theorem dX6_rounded_35 : decode cX6_rounded 35 = .ok (.goto 29, 3) := by decide +kernel
theorem dX6_rounded_38 : decode cX6_rounded 38 = .ok (.ldc2_w 136, 3) := by decide +kernel
theorem dX6_rounded_41 : decode cX6_rounded 41 = .ok (.lload_n 1, 1) := by decide +kernel
theorem dX6_rounded_42 : decode cX6_rounded 42 = .ok (.lmul, 1) := by decide +kernel
theorem dX6_rounded_43 : decode cX6_rounded 43 = .ok (.ldc2_w 124, 3) := by decide +kernel
theorem dX6_rounded_46 : decode cX6_rounded 46 = .ok (.lload 4, 2) := by decide +kernel
theorem dX6_rounded_48 : decode cX6_rounded 48 = .ok (.lmul, 1) := by decide +kernel
theorem dX6_rounded_49 : decode cX6_rounded 49 = .ok (.lconst 1, 1) := by decide +kernel
theorem dX6_rounded_50 : decode cX6_rounded 50 = .ok (.ladd, 1) := by decide +kernel
theorem dX6_rounded_51 : decode cX6_rounded 51 = .ok (.iconst 3, 1) := by decide +kernel
theorem dX6_rounded_52 : decode cX6_rounded 52 = .ok (.invokestatic 126, 3) := by decide +kernel
theorem dX6_rounded_55 : decode cX6_rounded 55 = .ok (.lcmp, 1) := by decide +kernel
theorem dX6_rounded_56 : decode cX6_rounded 56 = .ok (.ifCond .le 7, 3) := by decide +kernel
theorem dX6_rounded_59 : decode cX6_rounded 59 = .ok (.iconst 1, 1) := by decide +kernel
theorem dX6_rounded_60 : decode cX6_rounded 60 = .ok (.goto 4, 3) := by decide +kernel
theorem dX6_rounded_63 : decode cX6_rounded 63 = .ok (.iconst 0, 1) := by decide +kernel
theorem dX6_rounded_64 : decode cX6_rounded 64 = .ok (.istore 8, 2) := by decide +kernel
theorem dX6_rounded_66 : decode cX6_rounded 66 = .ok (.aload_n 0, 1) := by decide +kernel
theorem dX6_rounded_67 : decode cX6_rounded 67 = .ok (.getfield 7, 3) := by decide +kernel
theorem dX6_rounded_70 : decode cX6_rounded 70 = .ok (.iconst 0, 1) := by decide +kernel
theorem dX6_rounded_71 : decode cX6_rounded 71 = .ok (.iaload, 1) := by decide +kernel
theorem dX6_rounded_72 : decode cX6_rounded 72 = .ok (.iconst 2, 1) := by decide +kernel
theorem dX6_rounded_73 : decode cX6_rounded 73 = .ok (.if_icmp .ne 18, 3) := by decide +kernel
theorem dX6_rounded_76 : decode cX6_rounded 76 = .ok (.lload 6, 2) := by decide +kernel
theorem dX6_rounded_78 : decode cX6_rounded 78 = .ok (.lconst 0, 1) := by decide +kernel
theorem dX6_rounded_79 : decode cX6_rounded 79 = .ok (.lcmp, 1) := by decide +kernel
theorem dX6_rounded_80 : decode cX6_rounded 80 = .ok (.ifCond .eq 7, 3) := by decide +kernel
theorem dX6_rounded_83 : decode cX6_rounded 83 = .ok (.iconst 1, 1) := by decide +kernel
theorem dX6_rounded_84 : decode cX6_rounded 84 = .ok (.goto 27, 3) := by decide +kernel
theorem dX6_rounded_87 : decode cX6_rounded 87 = .ok (.iconst 0, 1) := by decide +kernel
theorem dX6_rounded_88 : decode cX6_rounded 88 = .ok (.goto 23, 3) := by decide +kernel
theorem dX6_rounded_91 : decode cX6_rounded 91 = .ok (.aload_n 0, 1) := by decide +kernel
theorem dX6_rounded_92 : decode cX6_rounded 92 = .ok (.getfield 7, 3) := by decide +kernel
theorem dX6_rounded_95 : decode cX6_rounded 95 = .ok (.iconst 0, 1) := by decide +kernel
theorem dX6_rounded_96 : decode cX6_rounded 96 = .ok (.iaload, 1) := by decide +kernel
theorem dX6_rounded_97 : decode cX6_rounded 97 = .ok (.iconst 1, 1) := by decide +kernel
theorem dX6_rounded_98 : decode cX6_rounded 98 = .ok (.if_icmp .ne 12, 3) := by decide +kernel
theorem dX6_rounded_101 : decode cX6_rounded 101 = .ok (.iload 8, 2) := by decide +kernel
theorem dX6_rounded_103 : decode cX6_rounded 103 = .ok (.ifCond .eq 7, 3) := by decide +kernel
theorem dX6_rounded_106 : decode cX6_rounded 106 = .ok (.iconst 1, 1) := by decide +kernel
theorem dX6_rounded_107 : decode cX6_rounded 107 = .ok (.goto 4, 3) := by decide +kernel
theorem dX6_rounded_110 : decode cX6_rounded 110 = .ok (.iconst 0, 1) := by decide +kernel
theorem dX6_rounded_111 : decode cX6_rounded 111 = .ok (.istore 9, 2) := by decide +kernel
theorem dX6_rounded_113 : decode cX6_rounded 113 = .ok (.iload 9, 2) := by decide +kernel
theorem dX6_rounded_115 : decode cX6_rounded 115 = .ok (.ifCond .eq 10, 3) := by decide +kernel
theorem dX6_rounded_118 : decode cX6_rounded 118 = .ok (.lload 4, 2) := by decide +kernel
theorem dX6_rounded_120 : decode cX6_rounded 120 = .ok (.lconst 1, 1) := by decide +kernel
theorem dX6_rounded_121 : decode cX6_rounded 121 = .ok (.ladd, 1) := by decide +kernel
theorem dX6_rounded_122 : decode cX6_rounded 122 = .ok (.goto 5, 3) := by decide +kernel
theorem dX6_rounded_125 : decode cX6_rounded 125 = .ok (.lload 4, 2) := by decide +kernel
theorem dX6_rounded_127 : decode cX6_rounded 127 = .ok (.lreturn, 1) := by decide +kernel
theorem dX6_times_0 : decode cX6_times 0 = .ok (.lload_n 0, 1) := by decide +kernel
theorem dX6_times_1 : decode cX6_times 1 = .ok (.lconst 0, 1) := by decide +kernel
theorem dX6_times_2 : decode cX6_times 2 = .ok (.lcmp, 1) := by decide +kernel
theorem dX6_times_3 : decode cX6_times 3 = .ok (.ifCond .eq 19, 3) := by decide +kernel
theorem dX6_times_6 : decode cX6_times 6 = .ok (.lload_n 2, 1) := by decide +kernel
theorem dX6_times_7 : decode cX6_times 7 = .ok (.ldc2_w 51, 3) := by decide +kernel
theorem dX6_times_10 : decode cX6_times 10 = .ok (.lload_n 0, 1) := by decide +kernel
theorem dX6_times_11 : decode cX6_times 11 = .ok (.ldiv, 1) := by decide +kernel
theorem dX6_times_12 : decode cX6_times 12 = .ok (.lcmp, 1) := by decide +kernel
theorem dX6_times_13 : decode cX6_times 13 = .ok (.ifCond .le 9, 3) := by decide +kernel
theorem dX6_times_16 : decode cX6_times 16 = .ok (.ldc2_w 138, 3) := by decide +kernel
theorem dX6_times_19 : decode cX6_times 19 = .ok (.goto 6, 3) := by decide +kernel
theorem dX6_times_22 : decode cX6_times 22 = .ok (.lload_n 0, 1) := by decide +kernel
theorem dX6_times_23 : decode cX6_times 23 = .ok (.lload_n 2, 1) := by decide +kernel
theorem dX6_times_24 : decode cX6_times 24 = .ok (.lmul, 1) := by decide +kernel
theorem dX6_times_25 : decode cX6_times 25 = .ok (.lreturn, 1) := by decide +kernel
theorem dX6_reckon_0 : decode cX6_reckon 0 = .ok (.iconst 0, 1) := by decide +kernel
theorem dX6_reckon_1 : decode cX6_reckon 1 = .ok (.istore_n 2, 1) := by decide +kernel
theorem dX6_reckon_2 : decode cX6_reckon 2 = .ok (.aload_n 0, 1) := by decide +kernel
theorem dX6_reckon_3 : decode cX6_reckon 3 = .ok (.bipush (-6), 2) := by decide +kernel
theorem dX6_reckon_5 : decode cX6_reckon 5 = .ok (.putfield 140, 3) := by decide +kernel
theorem dX6_reckon_8 : decode cX6_reckon 8 = .ok (.aload_n 0, 1) := by decide +kernel
theorem dX6_reckon_9 : decode cX6_reckon 9 = .ok (.iconst 0, 1) := by decide +kernel
theorem dX6_reckon_10 : decode cX6_reckon 10 = .ok (.putfield 143, 3) := by decide +kernel
theorem dX6_reckon_13 : decode cX6_reckon 13 = .ok (.iconst 0, 1) := by decide +kernel
theorem dX6_reckon_14 : decode cX6_reckon 14 = .ok (.istore_n 3, 1) := by decide +kernel
theorem dX6_reckon_15 : decode cX6_reckon 15 = .ok (.iload_n 3, 1) := by decide +kernel
theorem dX6_reckon_16 : decode cX6_reckon 16 = .ok (.aload_n 0, 1) := by decide +kernel
theorem dX6_reckon_17 : decode cX6_reckon 17 = .ok (.getfield 7, 3) := by decide +kernel
theorem dX6_reckon_20 : decode cX6_reckon 20 = .ok (.iconst 2, 1) := by decide +kernel
theorem dX6_reckon_21 : decode cX6_reckon 21 = .ok (.iload_n 1, 1) := by decide +kernel
theorem dX6_reckon_22 : decode cX6_reckon 22 = .ok (.iadd, 1) := by decide +kernel
theorem dX6_reckon_23 : decode cX6_reckon 23 = .ok (.iaload, 1) := by decide +kernel
theorem dX6_reckon_24 : decode cX6_reckon 24 = .ok (.if_icmp .ge 258, 3) := by decide +kernel
theorem dX6_reckon_27 : decode cX6_reckon 27 = .ok (.aload_n 0, 1) := by decide +kernel
theorem dX6_reckon_28 : decode cX6_reckon 28 = .ok (.getfield 7, 3) := by decide +kernel
theorem dX6_reckon_31 : decode cX6_reckon 31 = .ok (.bipush 8, 2) := by decide +kernel
theorem dX6_reckon_33 : decode cX6_reckon 33 = .ok (.bipush 120, 2) := by decide +kernel
theorem dX6_reckon_35 : decode cX6_reckon 35 = .ok (.iload_n 1, 1) := by decide +kernel
theorem dX6_reckon_36 : decode cX6_reckon 36 = .ok (.imul, 1) := by decide +kernel
theorem dX6_reckon_37 : decode cX6_reckon 37 = .ok (.iadd, 1) := by decide +kernel
theorem dX6_reckon_38 : decode cX6_reckon 38 = .ok (.iconst 2, 1) := by decide +kernel
theorem dX6_reckon_39 : decode cX6_reckon 39 = .ok (.iload_n 3, 1) := by decide +kernel
theorem dX6_reckon_40 : decode cX6_reckon 40 = .ok (.imul, 1) := by decide +kernel
theorem dX6_reckon_41 : decode cX6_reckon 41 = .ok (.iadd, 1) := by decide +kernel
theorem dX6_reckon_42 : decode cX6_reckon 42 = .ok (.iaload, 1) := by decide +kernel
theorem dX6_reckon_43 : decode cX6_reckon 43 = .ok (.istore 4, 2) := by decide +kernel
theorem dX6_reckon_45 : decode cX6_reckon 45 = .ok (.aload_n 0, 1) := by decide +kernel
theorem dX6_reckon_46 : decode cX6_reckon 46 = .ok (.getfield 7, 3) := by decide +kernel
theorem dX6_reckon_49 : decode cX6_reckon 49 = .ok (.bipush 8, 2) := by decide +kernel
theorem dX6_reckon_51 : decode cX6_reckon 51 = .ok (.bipush 120, 2) := by decide +kernel
theorem dX6_reckon_53 : decode cX6_reckon 53 = .ok (.iload_n 1, 1) := by decide +kernel
theorem dX6_reckon_54 : decode cX6_reckon 54 = .ok (.imul, 1) := by decide +kernel
theorem dX6_reckon_55 : decode cX6_reckon 55 = .ok (.iadd, 1) := by decide +kernel
theorem dX6_reckon_56 : decode cX6_reckon 56 = .ok (.iconst 2, 1) := by decide +kernel
theorem dX6_reckon_57 : decode cX6_reckon 57 = .ok (.iload_n 3, 1) := by decide +kernel
theorem dX6_reckon_58 : decode cX6_reckon 58 = .ok (.imul, 1) := by decide +kernel
theorem dX6_reckon_59 : decode cX6_reckon 59 = .ok (.iadd, 1) := by decide +kernel
theorem dX6_reckon_60 : decode cX6_reckon 60 = .ok (.iconst 1, 1) := by decide +kernel
theorem dX6_reckon_61 : decode cX6_reckon 61 = .ok (.iadd, 1) := by decide +kernel
theorem dX6_reckon_62 : decode cX6_reckon 62 = .ok (.iaload, 1) := by decide +kernel
theorem dX6_reckon_63 : decode cX6_reckon 63 = .ok (.istore 5, 2) := by decide +kernel
theorem dX6_reckon_65 : decode cX6_reckon 65 = .ok (.iload 4, 2) := by decide +kernel
theorem dX6_reckon_67 : decode cX6_reckon 67 = .ok (.iconst 2, 1) := by decide +kernel
theorem dX6_reckon_68 : decode cX6_reckon 68 = .ok (.if_icmp .ge 26, 3) := by decide +kernel
theorem dX6_reckon_71 : decode cX6_reckon 71 = .ok (.iload 4, 2) := by decide +kernel
theorem dX6_reckon_73 : decode cX6_reckon 73 = .ok (.ifCond .ne 9, 3) := by decide +kernel
theorem dX6_reckon_76 : decode cX6_reckon 76 = .ok (.iload 5, 2) := by decide +kernel
theorem dX6_reckon_78 : decode cX6_reckon 78 = .ok (.i2l, 1) := by decide +kernel
theorem dX6_reckon_79 : decode cX6_reckon 79 = .ok (.goto 10, 3) := by decide +kernel
theorem dX6_reckon_82 : decode cX6_reckon 82 = .ok (.aload_n 0, 1) := by decide +kernel
theorem dX6_reckon_83 : decode cX6_reckon 83 = .ok (.getfield 13, 3) := by decide +kernel
theorem dX6_reckon_86 : decode cX6_reckon 86 = .ok (.iload 5, 2) := by decide +kernel
theorem dX6_reckon_88 : decode cX6_reckon 88 = .ok (.laload, 1) := by decide +kernel
theorem dX6_reckon_89 : decode cX6_reckon 89 = .ok (.lstore 6, 2) := by decide +kernel
theorem dX6_reckon_91 : decode cX6_reckon 91 = .ok (.goto 135, 3) := by decide +kernel
theorem dX6_reckon_94 : decode cX6_reckon 94 = .ok (.iload 4, 2) := by decide +kernel
theorem dX6_reckon_96 : decode cX6_reckon 96 = .ok (.bipush 43, 2) := by decide +kernel
theorem dX6_reckon_98 : decode cX6_reckon 98 = .ok (.if_icmp .eq 17, 3) := by decide +kernel
theorem dX6_reckon_101 : decode cX6_reckon 101 = .ok (.iload 4, 2) := by decide +kernel
theorem dX6_reckon_103 : decode cX6_reckon 103 = .ok (.bipush 45, 2) := by decide +kernel
theorem dX6_reckon_105 : decode cX6_reckon 105 = .ok (.if_icmp .eq 10, 3) := by decide +kernel
theorem dX6_reckon_108 : decode cX6_reckon 108 = .ok (.iload 4, 2) := by decide +kernel
theorem dX6_reckon_110 : decode cX6_reckon 110 = .ok (.bipush 42, 2) := by decide +kernel
theorem dX6_reckon_112 : decode cX6_reckon 112 = .ok (.if_icmp .ne 66, 3) := by decide +kernel
theorem dX6_reckon_115 : decode cX6_reckon 115 = .ok (.iinc 2 (-2), 3) := by decide +kernel
theorem dX6_reckon_118 : decode cX6_reckon 118 = .ok (.aload_n 0, 1) := by decide +kernel
theorem dX6_reckon_119 : decode cX6_reckon 119 = .ok (.getfield 48, 3) := by decide +kernel
theorem dX6_reckon_122 : decode cX6_reckon 122 = .ok (.iload_n 2, 1) := by decide +kernel
theorem dX6_reckon_123 : decode cX6_reckon 123 = .ok (.laload, 1) := by decide +kernel
theorem dX6_reckon_124 : decode cX6_reckon 124 = .ok (.lstore 8, 2) := by decide +kernel
theorem dX6_reckon_126 : decode cX6_reckon 126 = .ok (.aload_n 0, 1) := by decide +kernel
theorem dX6_reckon_127 : decode cX6_reckon 127 = .ok (.getfield 48, 3) := by decide +kernel
theorem dX6_reckon_130 : decode cX6_reckon 130 = .ok (.iload_n 2, 1) := by decide +kernel
theorem dX6_reckon_131 : decode cX6_reckon 131 = .ok (.iconst 1, 1) := by decide +kernel
theorem dX6_reckon_132 : decode cX6_reckon 132 = .ok (.iadd, 1) := by decide +kernel
theorem dX6_reckon_133 : decode cX6_reckon 133 = .ok (.laload, 1) := by decide +kernel
theorem dX6_reckon_134 : decode cX6_reckon 134 = .ok (.lstore 10, 2) := by decide +kernel
theorem dX6_reckon_136 : decode cX6_reckon 136 = .ok (.iload 4, 2) := by decide +kernel
theorem dX6_reckon_138 : decode cX6_reckon 138 = .ok (.bipush 43, 2) := by decide +kernel
theorem dX6_reckon_140 : decode cX6_reckon 140 = .ok (.if_icmp .ne 11, 3) := by decide +kernel
theorem dX6_reckon_143 : decode cX6_reckon 143 = .ok (.lload 8, 2) := by decide +kernel
theorem dX6_reckon_145 : decode cX6_reckon 145 = .ok (.lload 10, 2) := by decide +kernel
theorem dX6_reckon_147 : decode cX6_reckon 147 = .ok (.ladd, 1) := by decide +kernel
theorem dX6_reckon_148 : decode cX6_reckon 148 = .ok (.goto 25, 3) := by decide +kernel
theorem dX6_reckon_151 : decode cX6_reckon 151 = .ok (.iload 4, 2) := by decide +kernel
theorem dX6_reckon_153 : decode cX6_reckon 153 = .ok (.bipush 45, 2) := by decide +kernel
theorem dX6_reckon_155 : decode cX6_reckon 155 = .ok (.if_icmp .ne 11, 3) := by decide +kernel
theorem dX6_reckon_158 : decode cX6_reckon 158 = .ok (.lload 8, 2) := by decide +kernel
theorem dX6_reckon_160 : decode cX6_reckon 160 = .ok (.lload 10, 2) := by decide +kernel
theorem dX6_reckon_162 : decode cX6_reckon 162 = .ok (.lsub, 1) := by decide +kernel
theorem dX6_reckon_163 : decode cX6_reckon 163 = .ok (.goto 10, 3) := by decide +kernel
theorem dX6_reckon_166 : decode cX6_reckon 166 = .ok (.lload 8, 2) := by decide +kernel
theorem dX6_reckon_168 : decode cX6_reckon 168 = .ok (.lload 10, 2) := by decide +kernel
theorem dX6_reckon_170 : decode cX6_reckon 170 = .ok (.invokestatic 146, 3) := by decide +kernel
theorem dX6_reckon_173 : decode cX6_reckon 173 = .ok (.lstore 6, 2) := by decide +kernel
theorem dX6_reckon_175 : decode cX6_reckon 175 = .ok (.goto 51, 3) := by decide +kernel
theorem dX6_reckon_178 : decode cX6_reckon 178 = .ok (.iinc 2 (-1), 3) := by decide +kernel
theorem dX6_reckon_181 : decode cX6_reckon 181 = .ok (.aload_n 0, 1) := by decide +kernel
theorem dX6_reckon_182 : decode cX6_reckon 182 = .ok (.getfield 48, 3) := by decide +kernel
theorem dX6_reckon_185 : decode cX6_reckon 185 = .ok (.iload_n 2, 1) := by decide +kernel
theorem dX6_reckon_186 : decode cX6_reckon 186 = .ok (.laload, 1) := by decide +kernel
theorem dX6_reckon_187 : decode cX6_reckon 187 = .ok (.lstore 8, 2) := by decide +kernel
theorem dX6_reckon_189 : decode cX6_reckon 189 = .ok (.iload 4, 2) := by decide +kernel
theorem dX6_reckon_191 : decode cX6_reckon 191 = .ok (.bipush 115, 2) := by decide +kernel
theorem dX6_reckon_193 : decode cX6_reckon 193 = .ok (.if_icmp .ne 13, 3) := by decide +kernel
theorem dX6_reckon_196 : decode cX6_reckon 196 = .ok (.lload 8, 2) := by decide +kernel
theorem dX6_reckon_198 : decode cX6_reckon 198 = .ok (.lload 8, 2) := by decide +kernel
theorem dX6_reckon_200 : decode cX6_reckon 200 = .ok (.invokestatic 146, 3) := by decide +kernel
theorem dX6_reckon_203 : decode cX6_reckon 203 = .ok (.goto 21, 3) := by decide +kernel
theorem dX6_reckon_206 : decode cX6_reckon 206 = .ok (.aload_n 0, 1) := by decide +kernel
theorem dX6_reckon_207 : decode cX6_reckon 207 = .ok (.lload 8, 2) := by decide +kernel
theorem dX6_reckon_209 : decode cX6_reckon 209 = .ok (.iload 4, 2) := by decide +kernel
theorem dX6_reckon_211 : decode cX6_reckon 211 = .ok (.bipush 113, 2) := by decide +kernel
theorem dX6_reckon_213 : decode cX6_reckon 213 = .ok (.if_icmp .ne 7, 3) := by decide +kernel
theorem dX6_reckon_216 : decode cX6_reckon 216 = .ok (.iconst 2, 1) := by decide +kernel
theorem dX6_reckon_217 : decode cX6_reckon 217 = .ok (.goto 4, 3) := by decide +kernel
theorem dX6_reckon_220 : decode cX6_reckon 220 = .ok (.iconst 3, 1) := by decide +kernel
theorem dX6_reckon_221 : decode cX6_reckon 221 = .ok (.invokevirtual 150, 3) := by decide +kernel
theorem dX6_reckon_224 : decode cX6_reckon 224 = .ok (.lstore 6, 2) := by decide +kernel
theorem dX6_reckon_226 : decode cX6_reckon 226 = .ok (.lload 6, 2) := by decide +kernel
theorem dX6_reckon_228 : decode cX6_reckon 228 = .ok (.invokestatic 66, 3) := by decide +kernel
theorem dX6_reckon_231 : decode cX6_reckon 231 = .ok (.ifCond .ne 26, 3) := by decide +kernel
theorem dX6_reckon_234 : decode cX6_reckon 234 = .ok (.aload_n 0, 1) := by decide +kernel
theorem dX6_reckon_235 : decode cX6_reckon 235 = .ok (.iload_n 3, 1) := by decide +kernel
theorem dX6_reckon_236 : decode cX6_reckon 236 = .ok (.putfield 140, 3) := by decide +kernel
theorem dX6_reckon_239 : decode cX6_reckon 239 = .ok (.aload_n 0, 1) := by decide +kernel
theorem dX6_reckon_240 : decode cX6_reckon 240 = .ok (.lload 6, 2) := by decide +kernel
theorem dX6_reckon_242 : decode cX6_reckon 242 = .ok (.lconst 0, 1) := by decide +kernel
theorem dX6_reckon_243 : decode cX6_reckon 243 = .ok (.lcmp, 1) := by decide +kernel
theorem dX6_reckon_244 : decode cX6_reckon 244 = .ok (.ifCond .ge 7, 3) := by decide +kernel
theorem dX6_reckon_247 : decode cX6_reckon 247 = .ok (.iconst 2, 1) := by decide +kernel
theorem dX6_reckon_248 : decode cX6_reckon 248 = .ok (.goto 4, 3) := by decide +kernel
theorem dX6_reckon_251 : decode cX6_reckon 251 = .ok (.iconst 1, 1) := by decide +kernel
theorem dX6_reckon_252 : decode cX6_reckon 252 = .ok (.putfield 143, 3) := by decide +kernel
theorem dX6_reckon_255 : decode cX6_reckon 255 = .ok (.iconst 0, 1) := by decide +kernel
theorem dX6_reckon_256 : decode cX6_reckon 256 = .ok (.ireturn, 1) := by decide +kernel
theorem dX6_reckon_257 : decode cX6_reckon 257 = .ok (.aload_n 0, 1) := by decide +kernel
theorem dX6_reckon_258 : decode cX6_reckon 258 = .ok (.getfield 45, 3) := by decide +kernel
theorem dX6_reckon_261 : decode cX6_reckon 261 = .ok (.iload_n 3, 1) := by decide +kernel
theorem dX6_reckon_262 : decode cX6_reckon 262 = .ok (.lload 6, 2) := by decide +kernel
theorem dX6_reckon_264 : decode cX6_reckon 264 = .ok (.lastore, 1) := by decide +kernel
theorem dX6_reckon_265 : decode cX6_reckon 265 = .ok (.aload_n 0, 1) := by decide +kernel
theorem dX6_reckon_266 : decode cX6_reckon 266 = .ok (.getfield 48, 3) := by decide +kernel
theorem dX6_reckon_269 : decode cX6_reckon 269 = .ok (.iload_n 2, 1) := by decide +kernel
theorem dX6_reckon_270 : decode cX6_reckon 270 = .ok (.lload 6, 2) := by decide +kernel
theorem dX6_reckon_272 : decode cX6_reckon 272 = .ok (.lastore, 1) := by decide +kernel
theorem dX6_reckon_273 : decode cX6_reckon 273 = .ok (.iinc 2 1, 3) := by decide +kernel
theorem dX6_reckon_276 : decode cX6_reckon 276 = .ok (.iinc 3 1, 3) := by decide +kernel
theorem dX6_reckon_279 : decode cX6_reckon 279 = .ok (.goto (-264), 3) := by decide +kernel
theorem dX6_reckon_282 : decode cX6_reckon 282 = .ok (.iconst 1, 1) := by decide +kernel
theorem dX6_reckon_283 : decode cX6_reckon 283 = .ok (.ireturn, 1) := by decide +kernel
theorem dX6_assign_0 : decode cX6_assign 0 = .ok (.iload_n 1, 1) := by decide +kernel
theorem dX6_assign_1 : decode cX6_assign 1 = .ok (.iconst 0, 1) := by decide +kernel
theorem dX6_assign_2 : decode cX6_assign 2 = .ok (.bipush 7, 2) := by decide +kernel
theorem dX6_assign_4 : decode cX6_assign 4 = .ok (.invokestatic 57, 3) := by decide +kernel
theorem dX6_assign_7 : decode cX6_assign 7 = .ok (.ifCond .eq 11, 3) := by decide +kernel
theorem dX6_assign_10 : decode cX6_assign 10 = .ok (.aload_n 0, 1) := by decide +kernel
theorem dX6_assign_11 : decode cX6_assign 11 = .ok (.iload_n 2, 1) := by decide +kernel
theorem dX6_assign_12 : decode cX6_assign 12 = .ok (.invokevirtual 153, 3) := by decide +kernel
theorem dX6_assign_15 : decode cX6_assign 15 = .ok (.ifCond .ne 7, 3) := by decide +kernel
theorem dX6_assign_18 : decode cX6_assign 18 = .ok (.ldc2_w 64, 3) := by decide +kernel
theorem dX6_assign_21 : decode cX6_assign 21 = .ok (.lreturn, 1) := by decide +kernel
theorem dX6_assign_22 : decode cX6_assign 22 = .ok (.aload_n 0, 1) := by decide +kernel
theorem dX6_assign_23 : decode cX6_assign 23 = .ok (.iload_n 2, 1) := by decide +kernel
theorem dX6_assign_24 : decode cX6_assign 24 = .ok (.invokevirtual 156, 3) := by decide +kernel
theorem dX6_assign_27 : decode cX6_assign 27 = .ok (.ifCond .ne 7, 3) := by decide +kernel
theorem dX6_assign_30 : decode cX6_assign 30 = .ok (.ldc2_w 159, 3) := by decide +kernel
theorem dX6_assign_33 : decode cX6_assign 33 = .ok (.lreturn, 1) := by decide +kernel
theorem dX6_assign_34 : decode cX6_assign 34 = .ok (.aload_n 0, 1) := by decide +kernel
theorem dX6_assign_35 : decode cX6_assign 35 = .ok (.invokevirtual 61, 3) := by decide +kernel
theorem dX6_assign_38 : decode cX6_assign 38 = .ok (.aload_n 0, 1) := by decide +kernel
theorem dX6_assign_39 : decode cX6_assign 39 = .ok (.getfield 13, 3) := by decide +kernel
theorem dX6_assign_42 : decode cX6_assign 42 = .ok (.iload_n 1, 1) := by decide +kernel
theorem dX6_assign_43 : decode cX6_assign 43 = .ok (.aload_n 0, 1) := by decide +kernel
theorem dX6_assign_44 : decode cX6_assign 44 = .ok (.getfield 48, 3) := by decide +kernel
theorem dX6_assign_47 : decode cX6_assign 47 = .ok (.iconst 0, 1) := by decide +kernel
theorem dX6_assign_48 : decode cX6_assign 48 = .ok (.laload, 1) := by decide +kernel
theorem dX6_assign_49 : decode cX6_assign 49 = .ok (.lastore, 1) := by decide +kernel
theorem dX6_assign_50 : decode cX6_assign 50 = .ok (.aload_n 0, 1) := by decide +kernel
theorem dX6_assign_51 : decode cX6_assign 51 = .ok (.getfield 13, 3) := by decide +kernel
theorem dX6_assign_54 : decode cX6_assign 54 = .ok (.iload_n 1, 1) := by decide +kernel
theorem dX6_assign_55 : decode cX6_assign 55 = .ok (.laload, 1) := by decide +kernel
theorem dX6_assign_56 : decode cX6_assign 56 = .ok (.lreturn, 1) := by decide +kernel
theorem dX6_settle_0 : decode cX6_settle 0 = .ok (.iload_n 1, 1) := by decide +kernel
theorem dX6_settle_1 : decode cX6_settle 1 = .ok (.iconst 0, 1) := by decide +kernel
theorem dX6_settle_2 : decode cX6_settle 2 = .ok (.bipush 7, 2) := by decide +kernel
theorem dX6_settle_4 : decode cX6_settle 4 = .ok (.invokestatic 57, 3) := by decide +kernel
theorem dX6_settle_7 : decode cX6_settle 7 = .ok (.ifCond .eq 11, 3) := by decide +kernel
theorem dX6_settle_10 : decode cX6_settle 10 = .ok (.aload_n 0, 1) := by decide +kernel
theorem dX6_settle_11 : decode cX6_settle 11 = .ok (.iload_n 2, 1) := by decide +kernel
theorem dX6_settle_12 : decode cX6_settle 12 = .ok (.invokevirtual 153, 3) := by decide +kernel
theorem dX6_settle_15 : decode cX6_settle 15 = .ok (.ifCond .ne 5, 3) := by decide +kernel
theorem dX6_settle_18 : decode cX6_settle 18 = .ok (.iconst (-1), 1) := by decide +kernel
theorem dX6_settle_19 : decode cX6_settle 19 = .ok (.ireturn, 1) := by decide +kernel
theorem dX6_settle_20 : decode cX6_settle 20 = .ok (.iload_n 3, 1) := by decide +kernel
theorem dX6_settle_21 : decode cX6_settle 21 = .ok (.iconst 1, 1) := by decide +kernel
theorem dX6_settle_22 : decode cX6_settle 22 = .ok (.bipush 100, 2) := by decide +kernel
theorem dX6_settle_24 : decode cX6_settle 24 = .ok (.invokestatic 57, 3) := by decide +kernel
theorem dX6_settle_27 : decode cX6_settle 27 = .ok (.ifCond .ne 6, 3) := by decide +kernel
theorem dX6_settle_30 : decode cX6_settle 30 = .ok (.bipush (-2), 2) := by decide +kernel
theorem dX6_settle_32 : decode cX6_settle 32 = .ok (.ireturn, 1) := by decide +kernel
theorem dX6_settle_33 : decode cX6_settle 33 = .ok (.aload_n 0, 1) := by decide +kernel
theorem dX6_settle_34 : decode cX6_settle 34 = .ok (.invokevirtual 61, 3) := by decide +kernel
theorem dX6_settle_37 : decode cX6_settle 37 = .ok (.iconst 0, 1) := by decide +kernel
theorem dX6_settle_38 : decode cX6_settle 38 = .ok (.istore 4, 2) := by decide +kernel
theorem dX6_settle_40 : decode cX6_settle 40 = .ok (.iconst 1, 1) := by decide +kernel
theorem dX6_settle_41 : decode cX6_settle 41 = .ok (.istore 5, 2) := by decide +kernel
theorem dX6_settle_43 : decode cX6_settle 43 = .ok (.iload 5, 2) := by decide +kernel
theorem dX6_settle_45 : decode cX6_settle 45 = .ok (.ifCond .eq 58, 3) := by decide +kernel
theorem dX6_settle_48 : decode cX6_settle 48 = .ok (.iload 4, 2) := by decide +kernel
theorem dX6_settle_50 : decode cX6_settle 50 = .ok (.iload_n 3, 1) := by decide +kernel
theorem dX6_settle_51 : decode cX6_settle 51 = .ok (.if_icmp .ge 52, 3) := by decide +kernel
theorem dX6_settle_54 : decode cX6_settle 54 = .ok (.aload_n 0, 1) := by decide +kernel
theorem dX6_settle_55 : decode cX6_settle 55 = .ok (.iload_n 2, 1) := by decide +kernel
theorem dX6_settle_56 : decode cX6_settle 56 = .ok (.invokevirtual 156, 3) := by decide +kernel
theorem dX6_settle_59 : decode cX6_settle 59 = .ok (.ifCond .eq 44, 3) := by decide +kernel
theorem dX6_settle_62 : decode cX6_settle 62 = .ok (.aload_n 0, 1) := by decide +kernel
theorem dX6_settle_63 : decode cX6_settle 63 = .ok (.getfield 13, 3) := by decide +kernel
theorem dX6_settle_66 : decode cX6_settle 66 = .ok (.iload_n 1, 1) := by decide +kernel
theorem dX6_settle_67 : decode cX6_settle 67 = .ok (.laload, 1) := by decide +kernel
theorem dX6_settle_68 : decode cX6_settle 68 = .ok (.aload_n 0, 1) := by decide +kernel
theorem dX6_settle_69 : decode cX6_settle 69 = .ok (.getfield 48, 3) := by decide +kernel
theorem dX6_settle_72 : decode cX6_settle 72 = .ok (.iconst 0, 1) := by decide +kernel
theorem dX6_settle_73 : decode cX6_settle 73 = .ok (.laload, 1) := by decide +kernel
theorem dX6_settle_74 : decode cX6_settle 74 = .ok (.lcmp, 1) := by decide +kernel
theorem dX6_settle_75 : decode cX6_settle 75 = .ok (.ifCond .eq 7, 3) := by decide +kernel
theorem dX6_settle_78 : decode cX6_settle 78 = .ok (.iconst 1, 1) := by decide +kernel
theorem dX6_settle_79 : decode cX6_settle 79 = .ok (.goto 4, 3) := by decide +kernel
theorem dX6_settle_82 : decode cX6_settle 82 = .ok (.iconst 0, 1) := by decide +kernel
theorem dX6_settle_83 : decode cX6_settle 83 = .ok (.istore 5, 2) := by decide +kernel
theorem dX6_settle_85 : decode cX6_settle 85 = .ok (.aload_n 0, 1) := by decide +kernel
theorem dX6_settle_86 : decode cX6_settle 86 = .ok (.getfield 13, 3) := by decide +kernel
theorem dX6_settle_89 : decode cX6_settle 89 = .ok (.iload_n 1, 1) := by decide +kernel
theorem dX6_settle_90 : decode cX6_settle 90 = .ok (.aload_n 0, 1) := by decide +kernel
theorem dX6_settle_91 : decode cX6_settle 91 = .ok (.getfield 48, 3) := by decide +kernel
theorem dX6_settle_94 : decode cX6_settle 94 = .ok (.iconst 0, 1) := by decide +kernel
theorem dX6_settle_95 : decode cX6_settle 95 = .ok (.laload, 1) := by decide +kernel
theorem dX6_settle_96 : decode cX6_settle 96 = .ok (.lastore, 1) := by decide +kernel
theorem dX6_settle_97 : decode cX6_settle 97 = .ok (.iinc 4 1, 3) := by decide +kernel
theorem dX6_settle_100 : decode cX6_settle 100 = .ok (.goto (-57), 3) := by decide +kernel
theorem dX6_settle_103 : decode cX6_settle 103 = .ok (.iload 4, 2) := by decide +kernel
theorem dX6_settle_105 : decode cX6_settle 105 = .ok (.ireturn, 1) := by decide +kernel
theorem dX6_value_0 : decode cX6_value 0 = .ok (.aload_n 0, 1) := by decide +kernel
theorem dX6_value_1 : decode cX6_value 1 = .ok (.iload_n 1, 1) := by decide +kernel
theorem dX6_value_2 : decode cX6_value 2 = .ok (.invokevirtual 153, 3) := by decide +kernel
theorem dX6_value_5 : decode cX6_value 5 = .ok (.ifCond .ne 7, 3) := by decide +kernel
theorem dX6_value_8 : decode cX6_value 8 = .ok (.ldc2_w 64, 3) := by decide +kernel
theorem dX6_value_11 : decode cX6_value 11 = .ok (.lreturn, 1) := by decide +kernel
theorem dX6_value_12 : decode cX6_value 12 = .ok (.aload_n 0, 1) := by decide +kernel
theorem dX6_value_13 : decode cX6_value 13 = .ok (.iload_n 1, 1) := by decide +kernel
theorem dX6_value_14 : decode cX6_value 14 = .ok (.invokevirtual 156, 3) := by decide +kernel
theorem dX6_value_17 : decode cX6_value 17 = .ok (.ifCond .eq 12, 3) := by decide +kernel
theorem dX6_value_20 : decode cX6_value 20 = .ok (.aload_n 0, 1) := by decide +kernel
theorem dX6_value_21 : decode cX6_value 21 = .ok (.getfield 48, 3) := by decide +kernel
theorem dX6_value_24 : decode cX6_value 24 = .ok (.iconst 0, 1) := by decide +kernel
theorem dX6_value_25 : decode cX6_value 25 = .ok (.laload, 1) := by decide +kernel
theorem dX6_value_26 : decode cX6_value 26 = .ok (.goto 6, 3) := by decide +kernel
theorem dX6_value_29 : decode cX6_value 29 = .ok (.ldc2_w 159, 3) := by decide +kernel
theorem dX6_value_32 : decode cX6_value 32 = .ok (.lreturn, 1) := by decide +kernel
theorem dX6_cellsOf_0 : decode cX6_cellsOf 0 = .ok (.iconst 0, 1) := by decide +kernel
theorem dX6_cellsOf_1 : decode cX6_cellsOf 1 = .ok (.istore_n 2, 1) := by decide +kernel
theorem dX6_cellsOf_2 : decode cX6_cellsOf 2 = .ok (.iconst 0, 1) := by decide +kernel
theorem dX6_cellsOf_3 : decode cX6_cellsOf 3 = .ok (.istore_n 3, 1) := by decide +kernel
theorem dX6_cellsOf_4 : decode cX6_cellsOf 4 = .ok (.iload_n 3, 1) := by decide +kernel
theorem dX6_cellsOf_5 : decode cX6_cellsOf 5 = .ok (.aload_n 0, 1) := by decide +kernel
theorem dX6_cellsOf_6 : decode cX6_cellsOf 6 = .ok (.getfield 7, 3) := by decide +kernel
theorem dX6_cellsOf_9 : decode cX6_cellsOf 9 = .ok (.iconst 2, 1) := by decide +kernel
theorem dX6_cellsOf_10 : decode cX6_cellsOf 10 = .ok (.iload_n 1, 1) := by decide +kernel
theorem dX6_cellsOf_11 : decode cX6_cellsOf 11 = .ok (.iadd, 1) := by decide +kernel
theorem dX6_cellsOf_12 : decode cX6_cellsOf 12 = .ok (.iaload, 1) := by decide +kernel
theorem dX6_cellsOf_13 : decode cX6_cellsOf 13 = .ok (.if_icmp .ge 51, 3) := by decide +kernel
theorem dX6_cellsOf_16 : decode cX6_cellsOf 16 = .ok (.bipush 8, 2) := by decide +kernel
theorem dX6_cellsOf_18 : decode cX6_cellsOf 18 = .ok (.bipush 120, 2) := by decide +kernel
theorem dX6_cellsOf_20 : decode cX6_cellsOf 20 = .ok (.iload_n 1, 1) := by decide +kernel
theorem dX6_cellsOf_21 : decode cX6_cellsOf 21 = .ok (.imul, 1) := by decide +kernel
theorem dX6_cellsOf_22 : decode cX6_cellsOf 22 = .ok (.iadd, 1) := by decide +kernel
theorem dX6_cellsOf_23 : decode cX6_cellsOf 23 = .ok (.iconst 2, 1) := by decide +kernel
theorem dX6_cellsOf_24 : decode cX6_cellsOf 24 = .ok (.iload_n 3, 1) := by decide +kernel
theorem dX6_cellsOf_25 : decode cX6_cellsOf 25 = .ok (.imul, 1) := by decide +kernel
theorem dX6_cellsOf_26 : decode cX6_cellsOf 26 = .ok (.iadd, 1) := by decide +kernel
theorem dX6_cellsOf_27 : decode cX6_cellsOf 27 = .ok (.istore 4, 2) := by decide +kernel
theorem dX6_cellsOf_29 : decode cX6_cellsOf 29 = .ok (.iload_n 2, 1) := by decide +kernel
theorem dX6_cellsOf_30 : decode cX6_cellsOf 30 = .ok (.aload_n 0, 1) := by decide +kernel
theorem dX6_cellsOf_31 : decode cX6_cellsOf 31 = .ok (.getfield 7, 3) := by decide +kernel
theorem dX6_cellsOf_34 : decode cX6_cellsOf 34 = .ok (.iload 4, 2) := by decide +kernel
theorem dX6_cellsOf_36 : decode cX6_cellsOf 36 = .ok (.iaload, 1) := by decide +kernel
theorem dX6_cellsOf_37 : decode cX6_cellsOf 37 = .ok (.iconst 1, 1) := by decide +kernel
theorem dX6_cellsOf_38 : decode cX6_cellsOf 38 = .ok (.if_icmp .ne 17, 3) := by decide +kernel
theorem dX6_cellsOf_41 : decode cX6_cellsOf 41 = .ok (.iconst 1, 1) := by decide +kernel
theorem dX6_cellsOf_42 : decode cX6_cellsOf 42 = .ok (.aload_n 0, 1) := by decide +kernel
theorem dX6_cellsOf_43 : decode cX6_cellsOf 43 = .ok (.getfield 7, 3) := by decide +kernel
theorem dX6_cellsOf_46 : decode cX6_cellsOf 46 = .ok (.iload 4, 2) := by decide +kernel
theorem dX6_cellsOf_48 : decode cX6_cellsOf 48 = .ok (.iconst 1, 1) := by decide +kernel
theorem dX6_cellsOf_49 : decode cX6_cellsOf 49 = .ok (.iadd, 1) := by decide +kernel
theorem dX6_cellsOf_50 : decode cX6_cellsOf 50 = .ok (.iaload, 1) := by decide +kernel
theorem dX6_cellsOf_51 : decode cX6_cellsOf 51 = .ok (.ishl, 1) := by decide +kernel
theorem dX6_cellsOf_52 : decode cX6_cellsOf 52 = .ok (.goto 4, 3) := by decide +kernel
theorem dX6_cellsOf_55 : decode cX6_cellsOf 55 = .ok (.iconst 0, 1) := by decide +kernel
theorem dX6_cellsOf_56 : decode cX6_cellsOf 56 = .ok (.ior, 1) := by decide +kernel
theorem dX6_cellsOf_57 : decode cX6_cellsOf 57 = .ok (.istore_n 2, 1) := by decide +kernel
theorem dX6_cellsOf_58 : decode cX6_cellsOf 58 = .ok (.iinc 3 1, 3) := by decide +kernel
theorem dX6_cellsOf_61 : decode cX6_cellsOf 61 = .ok (.goto (-57), 3) := by decide +kernel
theorem dX6_cellsOf_64 : decode cX6_cellsOf 64 = .ok (.iload_n 2, 1) := by decide +kernel
theorem dX6_cellsOf_65 : decode cX6_cellsOf 65 = .ok (.ireturn, 1) := by decide +kernel
theorem dX6_rootsOf_0 : decode cX6_rootsOf 0 = .ok (.iconst 0, 1) := by decide +kernel
theorem dX6_rootsOf_1 : decode cX6_rootsOf 1 = .ok (.istore_n 2, 1) := by decide +kernel
theorem dX6_rootsOf_2 : decode cX6_rootsOf 2 = .ok (.iconst 0, 1) := by decide +kernel
theorem dX6_rootsOf_3 : decode cX6_rootsOf 3 = .ok (.istore_n 3, 1) := by decide +kernel
theorem dX6_rootsOf_4 : decode cX6_rootsOf 4 = .ok (.iload_n 3, 1) := by decide +kernel
theorem dX6_rootsOf_5 : decode cX6_rootsOf 5 = .ok (.aload_n 0, 1) := by decide +kernel
theorem dX6_rootsOf_6 : decode cX6_rootsOf 6 = .ok (.getfield 7, 3) := by decide +kernel
theorem dX6_rootsOf_9 : decode cX6_rootsOf 9 = .ok (.iconst 2, 1) := by decide +kernel
theorem dX6_rootsOf_10 : decode cX6_rootsOf 10 = .ok (.iload_n 1, 1) := by decide +kernel
theorem dX6_rootsOf_11 : decode cX6_rootsOf 11 = .ok (.iadd, 1) := by decide +kernel
theorem dX6_rootsOf_12 : decode cX6_rootsOf 12 = .ok (.iaload, 1) := by decide +kernel
theorem dX6_rootsOf_13 : decode cX6_rootsOf 13 = .ok (.if_icmp .ge 49, 3) := by decide +kernel
theorem dX6_rootsOf_16 : decode cX6_rootsOf 16 = .ok (.aload_n 0, 1) := by decide +kernel
theorem dX6_rootsOf_17 : decode cX6_rootsOf 17 = .ok (.getfield 7, 3) := by decide +kernel
theorem dX6_rootsOf_20 : decode cX6_rootsOf 20 = .ok (.bipush 8, 2) := by decide +kernel
theorem dX6_rootsOf_22 : decode cX6_rootsOf 22 = .ok (.bipush 120, 2) := by decide +kernel
theorem dX6_rootsOf_24 : decode cX6_rootsOf 24 = .ok (.iload_n 1, 1) := by decide +kernel
theorem dX6_rootsOf_25 : decode cX6_rootsOf 25 = .ok (.imul, 1) := by decide +kernel
theorem dX6_rootsOf_26 : decode cX6_rootsOf 26 = .ok (.iadd, 1) := by decide +kernel
theorem dX6_rootsOf_27 : decode cX6_rootsOf 27 = .ok (.iconst 2, 1) := by decide +kernel
theorem dX6_rootsOf_28 : decode cX6_rootsOf 28 = .ok (.iload_n 3, 1) := by decide +kernel
theorem dX6_rootsOf_29 : decode cX6_rootsOf 29 = .ok (.imul, 1) := by decide +kernel
theorem dX6_rootsOf_30 : decode cX6_rootsOf 30 = .ok (.iadd, 1) := by decide +kernel
theorem dX6_rootsOf_31 : decode cX6_rootsOf 31 = .ok (.iaload, 1) := by decide +kernel
theorem dX6_rootsOf_32 : decode cX6_rootsOf 32 = .ok (.istore 4, 2) := by decide +kernel
theorem dX6_rootsOf_34 : decode cX6_rootsOf 34 = .ok (.iload_n 2, 1) := by decide +kernel
theorem dX6_rootsOf_35 : decode cX6_rootsOf 35 = .ok (.iload 4, 2) := by decide +kernel
theorem dX6_rootsOf_37 : decode cX6_rootsOf 37 = .ok (.bipush 113, 2) := by decide +kernel
theorem dX6_rootsOf_39 : decode cX6_rootsOf 39 = .ok (.if_icmp .eq 10, 3) := by decide +kernel
theorem dX6_rootsOf_42 : decode cX6_rootsOf 42 = .ok (.iload 4, 2) := by decide +kernel
theorem dX6_rootsOf_44 : decode cX6_rootsOf 44 = .ok (.bipush 107, 2) := by decide +kernel
theorem dX6_rootsOf_46 : decode cX6_rootsOf 46 = .ok (.if_icmp .ne 7, 3) := by decide +kernel
theorem dX6_rootsOf_49 : decode cX6_rootsOf 49 = .ok (.iconst 1, 1) := by decide +kernel
theorem dX6_rootsOf_50 : decode cX6_rootsOf 50 = .ok (.goto 4, 3) := by decide +kernel
theorem dX6_rootsOf_53 : decode cX6_rootsOf 53 = .ok (.iconst 0, 1) := by decide +kernel
theorem dX6_rootsOf_54 : decode cX6_rootsOf 54 = .ok (.iadd, 1) := by decide +kernel
theorem dX6_rootsOf_55 : decode cX6_rootsOf 55 = .ok (.istore_n 2, 1) := by decide +kernel
theorem dX6_rootsOf_56 : decode cX6_rootsOf 56 = .ok (.iinc 3 1, 3) := by decide +kernel
theorem dX6_rootsOf_59 : decode cX6_rootsOf 59 = .ok (.goto (-55), 3) := by decide +kernel
theorem dX6_rootsOf_62 : decode cX6_rootsOf 62 = .ok (.iload_n 2, 1) := by decide +kernel
theorem dX6_rootsOf_63 : decode cX6_rootsOf 63 = .ok (.ireturn, 1) := by decide +kernel
theorem dX6_ofFormula_0 : decode cX6_ofFormula 0 = .ok (.aload_n 0, 1) := by decide +kernel
theorem dX6_ofFormula_1 : decode cX6_ofFormula 1 = .ok (.iload_n 1, 1) := by decide +kernel
theorem dX6_ofFormula_2 : decode cX6_ofFormula 2 = .ok (.invokevirtual 153, 3) := by decide +kernel
theorem dX6_ofFormula_5 : decode cX6_ofFormula 5 = .ok (.ifCond .ne 5, 3) := by decide +kernel
theorem dX6_ofFormula_8 : decode cX6_ofFormula 8 = .ok (.iconst (-1), 1) := by decide +kernel
theorem dX6_ofFormula_9 : decode cX6_ofFormula 9 = .ok (.ireturn, 1) := by decide +kernel
theorem dX6_ofFormula_10 : decode cX6_ofFormula 10 = .ok (.iload_n 2, 1) := by decide +kernel
theorem dX6_ofFormula_11 : decode cX6_ofFormula 11 = .ok (.tableswitch 79 0 3 #[29, 38, 44, 61], 29) := by decide +kernel
theorem dX6_ofFormula_40 : decode cX6_ofFormula 40 = .ok (.aload_n 0, 1) := by decide +kernel
theorem dX6_ofFormula_41 : decode cX6_ofFormula 41 = .ok (.getfield 7, 3) := by decide +kernel
theorem dX6_ofFormula_44 : decode cX6_ofFormula 44 = .ok (.iconst 2, 1) := by decide +kernel
theorem dX6_ofFormula_45 : decode cX6_ofFormula 45 = .ok (.iload_n 1, 1) := by decide +kernel
theorem dX6_ofFormula_46 : decode cX6_ofFormula 46 = .ok (.iadd, 1) := by decide +kernel
theorem dX6_ofFormula_47 : decode cX6_ofFormula 47 = .ok (.iaload, 1) := by decide +kernel
theorem dX6_ofFormula_48 : decode cX6_ofFormula 48 = .ok (.ireturn, 1) := by decide +kernel
theorem dX6_ofFormula_49 : decode cX6_ofFormula 49 = .ok (.aload_n 0, 1) := by decide +kernel
theorem dX6_ofFormula_50 : decode cX6_ofFormula 50 = .ok (.iload_n 1, 1) := by decide +kernel
theorem dX6_ofFormula_51 : decode cX6_ofFormula 51 = .ok (.invokevirtual 161, 3) := by decide +kernel
theorem dX6_ofFormula_54 : decode cX6_ofFormula 54 = .ok (.ireturn, 1) := by decide +kernel
theorem dX6_ofFormula_55 : decode cX6_ofFormula 55 = .ok (.aload_n 0, 1) := by decide +kernel
theorem dX6_ofFormula_56 : decode cX6_ofFormula 56 = .ok (.iload_n 1, 1) := by decide +kernel
theorem dX6_ofFormula_57 : decode cX6_ofFormula 57 = .ok (.invokevirtual 156, 3) := by decide +kernel
theorem dX6_ofFormula_60 : decode cX6_ofFormula 60 = .ok (.ifCond .eq 7, 3) := by decide +kernel
theorem dX6_ofFormula_63 : decode cX6_ofFormula 63 = .ok (.iconst 0, 1) := by decide +kernel
theorem dX6_ofFormula_64 : decode cX6_ofFormula 64 = .ok (.goto 7, 3) := by decide +kernel
theorem dX6_ofFormula_67 : decode cX6_ofFormula 67 = .ok (.aload_n 0, 1) := by decide +kernel
theorem dX6_ofFormula_68 : decode cX6_ofFormula 68 = .ok (.getfield 143, 3) := by decide +kernel
theorem dX6_ofFormula_71 : decode cX6_ofFormula 71 = .ok (.ireturn, 1) := by decide +kernel
theorem dX6_ofFormula_72 : decode cX6_ofFormula 72 = .ok (.aload_n 0, 1) := by decide +kernel
theorem dX6_ofFormula_73 : decode cX6_ofFormula 73 = .ok (.iload_n 1, 1) := by decide +kernel
theorem dX6_ofFormula_74 : decode cX6_ofFormula 74 = .ok (.invokevirtual 156, 3) := by decide +kernel
theorem dX6_ofFormula_77 : decode cX6_ofFormula 77 = .ok (.ifCond .eq 8, 3) := by decide +kernel
theorem dX6_ofFormula_80 : decode cX6_ofFormula 80 = .ok (.bipush (-6), 2) := by decide +kernel
theorem dX6_ofFormula_82 : decode cX6_ofFormula 82 = .ok (.goto 7, 3) := by decide +kernel
theorem dX6_ofFormula_85 : decode cX6_ofFormula 85 = .ok (.aload_n 0, 1) := by decide +kernel
theorem dX6_ofFormula_86 : decode cX6_ofFormula 86 = .ok (.getfield 140, 3) := by decide +kernel
theorem dX6_ofFormula_89 : decode cX6_ofFormula 89 = .ok (.ireturn, 1) := by decide +kernel
theorem dX6_ofFormula_90 : decode cX6_ofFormula 90 = .ok (.iload_n 2, 1) := by decide +kernel
theorem dX6_ofFormula_91 : decode cX6_ofFormula 91 = .ok (.iconst 4, 1) := by decide +kernel
theorem dX6_ofFormula_92 : decode cX6_ofFormula 92 = .ok (.if_icmp .ne 11, 3) := by decide +kernel
theorem dX6_ofFormula_95 : decode cX6_ofFormula 95 = .ok (.aload_n 0, 1) := by decide +kernel
theorem dX6_ofFormula_96 : decode cX6_ofFormula 96 = .ok (.iload_n 1, 1) := by decide +kernel
theorem dX6_ofFormula_97 : decode cX6_ofFormula 97 = .ok (.invokevirtual 165, 3) := by decide +kernel
theorem dX6_ofFormula_100 : decode cX6_ofFormula 100 = .ok (.goto 5, 3) := by decide +kernel
theorem dX6_ofFormula_103 : decode cX6_ofFormula 103 = .ok (.bipush (-2), 2) := by decide +kernel
theorem dX6_ofFormula_105 : decode cX6_ofFormula 105 = .ok (.ireturn, 1) := by decide +kernel
theorem dX6_stepValue_0 : decode cX6_stepValue 0 = .ok (.aload_n 0, 1) := by decide +kernel
theorem dX6_stepValue_1 : decode cX6_stepValue 1 = .ok (.iload_n 1, 1) := by decide +kernel
theorem dX6_stepValue_2 : decode cX6_stepValue 2 = .ok (.invokevirtual 153, 3) := by decide +kernel
theorem dX6_stepValue_5 : decode cX6_stepValue 5 = .ok (.ifCond .eq 21, 3) := by decide +kernel
theorem dX6_stepValue_8 : decode cX6_stepValue 8 = .ok (.iload_n 2, 1) := by decide +kernel
theorem dX6_stepValue_9 : decode cX6_stepValue 9 = .ok (.iconst 0, 1) := by decide +kernel
theorem dX6_stepValue_10 : decode cX6_stepValue 10 = .ok (.aload_n 0, 1) := by decide +kernel
theorem dX6_stepValue_11 : decode cX6_stepValue 11 = .ok (.getfield 7, 3) := by decide +kernel
theorem dX6_stepValue_14 : decode cX6_stepValue 14 = .ok (.iconst 2, 1) := by decide +kernel
theorem dX6_stepValue_15 : decode cX6_stepValue 15 = .ok (.iload_n 1, 1) := by decide +kernel
theorem dX6_stepValue_16 : decode cX6_stepValue 16 = .ok (.iadd, 1) := by decide +kernel
theorem dX6_stepValue_17 : decode cX6_stepValue 17 = .ok (.iaload, 1) := by decide +kernel
theorem dX6_stepValue_18 : decode cX6_stepValue 18 = .ok (.iconst 1, 1) := by decide +kernel
theorem dX6_stepValue_19 : decode cX6_stepValue 19 = .ok (.isub, 1) := by decide +kernel
theorem dX6_stepValue_20 : decode cX6_stepValue 20 = .ok (.invokestatic 57, 3) := by decide +kernel
theorem dX6_stepValue_23 : decode cX6_stepValue 23 = .ok (.ifCond .ne 7, 3) := by decide +kernel
theorem dX6_stepValue_26 : decode cX6_stepValue 26 = .ok (.ldc2_w 64, 3) := by decide +kernel
theorem dX6_stepValue_29 : decode cX6_stepValue 29 = .ok (.lreturn, 1) := by decide +kernel
theorem dX6_stepValue_30 : decode cX6_stepValue 30 = .ok (.aload_n 0, 1) := by decide +kernel
theorem dX6_stepValue_31 : decode cX6_stepValue 31 = .ok (.iload_n 1, 1) := by decide +kernel
theorem dX6_stepValue_32 : decode cX6_stepValue 32 = .ok (.invokevirtual 156, 3) := by decide +kernel
theorem dX6_stepValue_35 : decode cX6_stepValue 35 = .ok (.ifCond .ne 11, 3) := by decide +kernel
theorem dX6_stepValue_38 : decode cX6_stepValue 38 = .ok (.iload_n 2, 1) := by decide +kernel
theorem dX6_stepValue_39 : decode cX6_stepValue 39 = .ok (.aload_n 0, 1) := by decide +kernel
theorem dX6_stepValue_40 : decode cX6_stepValue 40 = .ok (.getfield 140, 3) := by decide +kernel
theorem dX6_stepValue_43 : decode cX6_stepValue 43 = .ok (.if_icmp .ge 12, 3) := by decide +kernel
theorem dX6_stepValue_46 : decode cX6_stepValue 46 = .ok (.aload_n 0, 1) := by decide +kernel
theorem dX6_stepValue_47 : decode cX6_stepValue 47 = .ok (.getfield 45, 3) := by decide +kernel
theorem dX6_stepValue_50 : decode cX6_stepValue 50 = .ok (.iload_n 2, 1) := by decide +kernel
theorem dX6_stepValue_51 : decode cX6_stepValue 51 = .ok (.laload, 1) := by decide +kernel
theorem dX6_stepValue_52 : decode cX6_stepValue 52 = .ok (.goto 6, 3) := by decide +kernel
theorem dX6_stepValue_55 : decode cX6_stepValue 55 = .ok (.ldc2_w 159, 3) := by decide +kernel
theorem dX6_stepValue_58 : decode cX6_stepValue 58 = .ok (.lreturn, 1) := by decide +kernel
theorem dX6_formulas_0 : decode cX6_formulas 0 = .ok (.iconst 0, 1) := by decide +kernel
theorem dX6_formulas_1 : decode cX6_formulas 1 = .ok (.istore_n 1, 1) := by decide +kernel
theorem dX6_formulas_2 : decode cX6_formulas 2 = .ok (.iconst 0, 1) := by decide +kernel
theorem dX6_formulas_3 : decode cX6_formulas 3 = .ok (.istore_n 2, 1) := by decide +kernel
theorem dX6_formulas_4 : decode cX6_formulas 4 = .ok (.iload_n 2, 1) := by decide +kernel
theorem dX6_formulas_5 : decode cX6_formulas 5 = .ok (.bipush 6, 2) := by decide +kernel
theorem dX6_formulas_7 : decode cX6_formulas 7 = .ok (.if_icmp .ge 30, 3) := by decide +kernel
theorem dX6_formulas_10 : decode cX6_formulas 10 = .ok (.iload_n 1, 1) := by decide +kernel
theorem dX6_formulas_11 : decode cX6_formulas 11 = .ok (.aload_n 0, 1) := by decide +kernel
theorem dX6_formulas_12 : decode cX6_formulas 12 = .ok (.getfield 7, 3) := by decide +kernel
theorem dX6_formulas_15 : decode cX6_formulas 15 = .ok (.iconst 2, 1) := by decide +kernel
theorem dX6_formulas_16 : decode cX6_formulas 16 = .ok (.iload_n 2, 1) := by decide +kernel
theorem dX6_formulas_17 : decode cX6_formulas 17 = .ok (.iadd, 1) := by decide +kernel
theorem dX6_formulas_18 : decode cX6_formulas 18 = .ok (.iaload, 1) := by decide +kernel
theorem dX6_formulas_19 : decode cX6_formulas 19 = .ok (.ifCond .le 9, 3) := by decide +kernel
theorem dX6_formulas_22 : decode cX6_formulas 22 = .ok (.iconst 1, 1) := by decide +kernel
theorem dX6_formulas_23 : decode cX6_formulas 23 = .ok (.iload_n 2, 1) := by decide +kernel
theorem dX6_formulas_24 : decode cX6_formulas 24 = .ok (.ishl, 1) := by decide +kernel
theorem dX6_formulas_25 : decode cX6_formulas 25 = .ok (.goto 4, 3) := by decide +kernel
theorem dX6_formulas_28 : decode cX6_formulas 28 = .ok (.iconst 0, 1) := by decide +kernel
theorem dX6_formulas_29 : decode cX6_formulas 29 = .ok (.ior, 1) := by decide +kernel
theorem dX6_formulas_30 : decode cX6_formulas 30 = .ok (.istore_n 1, 1) := by decide +kernel
theorem dX6_formulas_31 : decode cX6_formulas 31 = .ok (.iinc 2 1, 3) := by decide +kernel
theorem dX6_formulas_34 : decode cX6_formulas 34 = .ok (.goto (-30), 3) := by decide +kernel
theorem dX6_formulas_37 : decode cX6_formulas 37 = .ok (.iload_n 1, 1) := by decide +kernel
theorem dX6_formulas_38 : decode cX6_formulas 38 = .ok (.ireturn, 1) := by decide +kernel
theorem dX6_count_0 : decode cX6_count 0 = .ok (.iconst 0, 1) := by decide +kernel
theorem dX6_count_1 : decode cX6_count 1 = .ok (.istore_n 2, 1) := by decide +kernel
theorem dX6_count_2 : decode cX6_count 2 = .ok (.iconst 0, 1) := by decide +kernel
theorem dX6_count_3 : decode cX6_count 3 = .ok (.istore_n 3, 1) := by decide +kernel
theorem dX6_count_4 : decode cX6_count 4 = .ok (.iload_n 3, 1) := by decide +kernel
theorem dX6_count_5 : decode cX6_count 5 = .ok (.bipush 8, 2) := by decide +kernel
theorem dX6_count_7 : decode cX6_count 7 = .ok (.if_icmp .ge 28, 3) := by decide +kernel
theorem dX6_count_10 : decode cX6_count 10 = .ok (.iload_n 2, 1) := by decide +kernel
theorem dX6_count_11 : decode cX6_count 11 = .ok (.aload_n 0, 1) := by decide +kernel
theorem dX6_count_12 : decode cX6_count 12 = .ok (.getfield 13, 3) := by decide +kernel
theorem dX6_count_15 : decode cX6_count 15 = .ok (.iload_n 3, 1) := by decide +kernel
theorem dX6_count_16 : decode cX6_count 16 = .ok (.laload, 1) := by decide +kernel
theorem dX6_count_17 : decode cX6_count 17 = .ok (.lconst 0, 1) := by decide +kernel
theorem dX6_count_18 : decode cX6_count 18 = .ok (.lcmp, 1) := by decide +kernel
theorem dX6_count_19 : decode cX6_count 19 = .ok (.ifCond .eq 7, 3) := by decide +kernel
theorem dX6_count_22 : decode cX6_count 22 = .ok (.iconst 1, 1) := by decide +kernel
theorem dX6_count_23 : decode cX6_count 23 = .ok (.goto 4, 3) := by decide +kernel
theorem dX6_count_26 : decode cX6_count 26 = .ok (.iconst 0, 1) := by decide +kernel
theorem dX6_count_27 : decode cX6_count 27 = .ok (.iadd, 1) := by decide +kernel
theorem dX6_count_28 : decode cX6_count 28 = .ok (.istore_n 2, 1) := by decide +kernel
theorem dX6_count_29 : decode cX6_count 29 = .ok (.iinc 3 1, 3) := by decide +kernel
theorem dX6_count_32 : decode cX6_count 32 = .ok (.goto (-28), 3) := by decide +kernel
theorem dX6_count_35 : decode cX6_count 35 = .ok (.iload_n 1, 1) := by decide +kernel
theorem dX6_count_36 : decode cX6_count 36 = .ok (.tableswitch 60 0 4 #[36, 41, 46, 51, 51], 36) := by decide +kernel
theorem dX6_count_72 : decode cX6_count 72 = .ok (.aload_n 0, 1) := by decide +kernel
theorem dX6_count_73 : decode cX6_count 73 = .ok (.invokevirtual 168, 3) := by decide +kernel
theorem dX6_count_76 : decode cX6_count 76 = .ok (.ireturn, 1) := by decide +kernel
theorem dX6_count_77 : decode cX6_count 77 = .ok (.aload_n 0, 1) := by decide +kernel
theorem dX6_count_78 : decode cX6_count 78 = .ok (.getfield 74, 3) := by decide +kernel
theorem dX6_count_81 : decode cX6_count 81 = .ok (.ireturn, 1) := by decide +kernel
theorem dX6_count_82 : decode cX6_count 82 = .ok (.aload_n 0, 1) := by decide +kernel
theorem dX6_count_83 : decode cX6_count 83 = .ok (.getfield 53, 3) := by decide +kernel
theorem dX6_count_86 : decode cX6_count 86 = .ok (.ireturn, 1) := by decide +kernel
theorem dX6_count_87 : decode cX6_count 87 = .ok (.aload_n 0, 1) := by decide +kernel
theorem dX6_count_88 : decode cX6_count 88 = .ok (.getfield 7, 3) := by decide +kernel
theorem dX6_count_91 : decode cX6_count 91 = .ok (.iload_n 1, 1) := by decide +kernel
theorem dX6_count_92 : decode cX6_count 92 = .ok (.iconst 3, 1) := by decide +kernel
theorem dX6_count_93 : decode cX6_count 93 = .ok (.isub, 1) := by decide +kernel
theorem dX6_count_94 : decode cX6_count 94 = .ok (.iaload, 1) := by decide +kernel
theorem dX6_count_95 : decode cX6_count 95 = .ok (.ireturn, 1) := by decide +kernel
theorem dX6_count_96 : decode cX6_count 96 = .ok (.iload_n 1, 1) := by decide +kernel
theorem dX6_count_97 : decode cX6_count 97 = .ok (.iconst 5, 1) := by decide +kernel
theorem dX6_count_98 : decode cX6_count 98 = .ok (.if_icmp .ne 7, 3) := by decide +kernel
theorem dX6_count_101 : decode cX6_count 101 = .ok (.iload_n 2, 1) := by decide +kernel
theorem dX6_count_102 : decode cX6_count 102 = .ok (.goto 5, 3) := by decide +kernel
theorem dX6_count_105 : decode cX6_count 105 = .ok (.bipush (-2), 2) := by decide +kernel
theorem dX6_count_107 : decode cX6_count 107 = .ok (.ireturn, 1) := by decide +kernel
theorem dX6_isAsked_0 : decode cX6_isAsked 0 = .ok (.lload_n 0, 1) := by decide +kernel
theorem dX6_isAsked_1 : decode cX6_isAsked 1 = .ok (.invokestatic 66, 3) := by decide +kernel
theorem dX6_isAsked_4 : decode cX6_isAsked 4 = .ok (.ifCond .eq 16, 3) := by decide +kernel
theorem dX6_isAsked_7 : decode cX6_isAsked 7 = .ok (.iload_n 2, 1) := by decide +kernel
theorem dX6_isAsked_8 : decode cX6_isAsked 8 = .ok (.iconst 2, 1) := by decide +kernel
theorem dX6_isAsked_9 : decode cX6_isAsked 9 = .ok (.iconst 3, 1) := by decide +kernel
theorem dX6_isAsked_10 : decode cX6_isAsked 10 = .ok (.invokestatic 57, 3) := by decide +kernel
theorem dX6_isAsked_13 : decode cX6_isAsked 13 = .ok (.ifCond .eq 7, 3) := by decide +kernel
theorem dX6_isAsked_16 : decode cX6_isAsked 16 = .ok (.iconst 1, 1) := by decide +kernel
theorem dX6_isAsked_17 : decode cX6_isAsked 17 = .ok (.goto 4, 3) := by decide +kernel
theorem dX6_isAsked_20 : decode cX6_isAsked 20 = .ok (.iconst 0, 1) := by decide +kernel
theorem dX6_isAsked_21 : decode cX6_isAsked 21 = .ok (.ireturn, 1) := by decide +kernel
theorem dX6_root_0 : decode cX6_root 0 = .ok (.lload_n 1, 1) := by decide +kernel
theorem dX6_root_1 : decode cX6_root 1 = .ok (.iload_n 3, 1) := by decide +kernel
theorem dX6_root_2 : decode cX6_root 2 = .ok (.invokestatic 171, 3) := by decide +kernel
theorem dX6_root_5 : decode cX6_root 5 = .ok (.ifCond .eq 13, 3) := by decide +kernel
theorem dX6_root_8 : decode cX6_root 8 = .ok (.aload_n 0, 1) := by decide +kernel
theorem dX6_root_9 : decode cX6_root 9 = .ok (.lload_n 1, 1) := by decide +kernel
theorem dX6_root_10 : decode cX6_root 10 = .ok (.iload_n 3, 1) := by decide +kernel
theorem dX6_root_11 : decode cX6_root 11 = .ok (.invokevirtual 150, 3) := by decide +kernel
theorem dX6_root_14 : decode cX6_root 14 = .ok (.l2i, 1) := by decide +kernel
theorem dX6_root_15 : decode cX6_root 15 = .ok (.goto 5, 3) := by decide +kernel
theorem dX6_root_18 : decode cX6_root 18 = .ok (.bipush (-2), 2) := by decide +kernel
theorem dX6_root_20 : decode cX6_root 20 = .ok (.ireturn, 1) := by decide +kernel
theorem dX6_remainder_0 : decode cX6_remainder 0 = .ok (.lload_n 1, 1) := by decide +kernel
theorem dX6_remainder_1 : decode cX6_remainder 1 = .ok (.iload_n 3, 1) := by decide +kernel
theorem dX6_remainder_2 : decode cX6_remainder 2 = .ok (.invokestatic 171, 3) := by decide +kernel
theorem dX6_remainder_5 : decode cX6_remainder 5 = .ok (.ifCond .eq 17, 3) := by decide +kernel
theorem dX6_remainder_8 : decode cX6_remainder 8 = .ok (.lload_n 1, 1) := by decide +kernel
theorem dX6_remainder_9 : decode cX6_remainder 9 = .ok (.lload_n 1, 1) := by decide +kernel
theorem dX6_remainder_10 : decode cX6_remainder 10 = .ok (.iload_n 3, 1) := by decide +kernel
theorem dX6_remainder_11 : decode cX6_remainder 11 = .ok (.invokestatic 133, 3) := by decide +kernel
theorem dX6_remainder_14 : decode cX6_remainder 14 = .ok (.iload_n 3, 1) := by decide +kernel
theorem dX6_remainder_15 : decode cX6_remainder 15 = .ok (.invokestatic 126, 3) := by decide +kernel
theorem dX6_remainder_18 : decode cX6_remainder 18 = .ok (.lsub, 1) := by decide +kernel
theorem dX6_remainder_19 : decode cX6_remainder 19 = .ok (.goto 6, 3) := by decide +kernel
theorem dX6_remainder_22 : decode cX6_remainder 22 = .ok (.ldc2_w 70, 3) := by decide +kernel
theorem dX6_remainder_25 : decode cX6_remainder 25 = .ok (.lreturn, 1) := by decide +kernel
theorem dX6_bit_0 : decode cX6_bit 0 = .ok (.lload_n 1, 1) := by decide +kernel
theorem dX6_bit_1 : decode cX6_bit 1 = .ok (.iload_n 3, 1) := by decide +kernel
theorem dX6_bit_2 : decode cX6_bit 2 = .ok (.invokestatic 171, 3) := by decide +kernel
theorem dX6_bit_5 : decode cX6_bit 5 = .ok (.ifCond .eq 19, 3) := by decide +kernel
theorem dX6_bit_8 : decode cX6_bit 8 = .ok (.iload 4, 2) := by decide +kernel
theorem dX6_bit_10 : decode cX6_bit 10 = .ok (.iconst (-1), 1) := by decide +kernel
theorem dX6_bit_11 : decode cX6_bit 11 = .ok (.if_icmp .lt 13, 3) := by decide +kernel
theorem dX6_bit_14 : decode cX6_bit 14 = .ok (.iload 5, 2) := by decide +kernel
theorem dX6_bit_16 : decode cX6_bit 16 = .ok (.iconst 0, 1) := by decide +kernel
theorem dX6_bit_17 : decode cX6_bit 17 = .ok (.iconst 3, 1) := by decide +kernel
theorem dX6_bit_18 : decode cX6_bit 18 = .ok (.invokestatic 57, 3) := by decide +kernel
theorem dX6_bit_21 : decode cX6_bit 21 = .ok (.ifCond .ne 7, 3) := by decide +kernel
theorem dX6_bit_24 : decode cX6_bit 24 = .ok (.ldc2_w 70, 3) := by decide +kernel
theorem dX6_bit_27 : decode cX6_bit 27 = .ok (.lreturn, 1) := by decide +kernel
theorem dX6_bit_28 : decode cX6_bit 28 = .ok (.lconst 0, 1) := by decide +kernel
theorem dX6_bit_29 : decode cX6_bit 29 = .ok (.lstore 6, 2) := by decide +kernel
theorem dX6_bit_31 : decode cX6_bit 31 = .ok (.iconst 0, 1) := by decide +kernel
theorem dX6_bit_32 : decode cX6_bit 32 = .ok (.istore 8, 2) := by decide +kernel
theorem dX6_bit_34 : decode cX6_bit 34 = .ok (.lload_n 1, 1) := by decide +kernel
theorem dX6_bit_35 : decode cX6_bit 35 = .ok (.iload_n 3, 1) := by decide +kernel
theorem dX6_bit_36 : decode cX6_bit 36 = .ok (.invokestatic 130, 3) := by decide +kernel
theorem dX6_bit_39 : decode cX6_bit 39 = .ok (.lstore 9, 2) := by decide +kernel
theorem dX6_bit_41 : decode cX6_bit 41 = .ok (.lload 9, 2) := by decide +kernel
theorem dX6_bit_43 : decode cX6_bit 43 = .ok (.lconst 0, 1) := by decide +kernel
theorem dX6_bit_44 : decode cX6_bit 44 = .ok (.lcmp, 1) := by decide +kernel
theorem dX6_bit_45 : decode cX6_bit 45 = .ok (.ifCond .le 110, 3) := by decide +kernel
theorem dX6_bit_48 : decode cX6_bit 48 = .ok (.lload 6, 2) := by decide +kernel
theorem dX6_bit_50 : decode cX6_bit 50 = .ok (.lload 9, 2) := by decide +kernel
theorem dX6_bit_52 : decode cX6_bit 52 = .ok (.ladd, 1) := by decide +kernel
theorem dX6_bit_53 : decode cX6_bit 53 = .ok (.iload_n 3, 1) := by decide +kernel
theorem dX6_bit_54 : decode cX6_bit 54 = .ok (.invokestatic 126, 3) := by decide +kernel
theorem dX6_bit_57 : decode cX6_bit 57 = .ok (.lload_n 1, 1) := by decide +kernel
theorem dX6_bit_58 : decode cX6_bit 58 = .ok (.lcmp, 1) := by decide +kernel
theorem dX6_bit_59 : decode cX6_bit 59 = .ok (.ifCond .gt 7, 3) := by decide +kernel
theorem dX6_bit_62 : decode cX6_bit 62 = .ok (.iconst 1, 1) := by decide +kernel
theorem dX6_bit_63 : decode cX6_bit 63 = .ok (.goto 4, 3) := by decide +kernel
theorem dX6_bit_66 : decode cX6_bit 66 = .ok (.iconst 0, 1) := by decide +kernel
theorem dX6_bit_67 : decode cX6_bit 67 = .ok (.istore 11, 2) := by decide +kernel
theorem dX6_bit_69 : decode cX6_bit 69 = .ok (.lload 6, 2) := by decide +kernel
theorem dX6_bit_71 : decode cX6_bit 71 = .ok (.iload 11, 2) := by decide +kernel
theorem dX6_bit_73 : decode cX6_bit 73 = .ok (.ifCond .eq 8, 3) := by decide +kernel
theorem dX6_bit_76 : decode cX6_bit 76 = .ok (.lload 9, 2) := by decide +kernel
theorem dX6_bit_78 : decode cX6_bit 78 = .ok (.goto 4, 3) := by decide +kernel
theorem dX6_bit_81 : decode cX6_bit 81 = .ok (.lconst 0, 1) := by decide +kernel
theorem dX6_bit_82 : decode cX6_bit 82 = .ok (.ladd, 1) := by decide +kernel
theorem dX6_bit_83 : decode cX6_bit 83 = .ok (.lstore 6, 2) := by decide +kernel
theorem dX6_bit_85 : decode cX6_bit 85 = .ok (.iload 8, 2) := by decide +kernel
theorem dX6_bit_87 : decode cX6_bit 87 = .ok (.iload 4, 2) := by decide +kernel
theorem dX6_bit_89 : decode cX6_bit 89 = .ok (.if_icmp .ne 52, 3) := by decide +kernel
theorem dX6_bit_92 : decode cX6_bit 92 = .ok (.iload 5, 2) := by decide +kernel
theorem dX6_bit_94 : decode cX6_bit 94 = .ok (.ifCond .ne 8, 3) := by decide +kernel
theorem dX6_bit_97 : decode cX6_bit 97 = .ok (.lload 9, 2) := by decide +kernel
theorem dX6_bit_99 : decode cX6_bit 99 = .ok (.goto 41, 3) := by decide +kernel
theorem dX6_bit_102 : decode cX6_bit 102 = .ok (.iload 5, 2) := by decide +kernel
theorem dX6_bit_104 : decode cX6_bit 104 = .ok (.iconst 1, 1) := by decide +kernel
theorem dX6_bit_105 : decode cX6_bit 105 = .ok (.if_icmp .ne 16, 3) := by decide +kernel
theorem dX6_bit_108 : decode cX6_bit 108 = .ok (.iload 11, 2) := by decide +kernel
theorem dX6_bit_110 : decode cX6_bit 110 = .ok (.ifCond .eq 7, 3) := by decide +kernel
theorem dX6_bit_113 : decode cX6_bit 113 = .ok (.lconst 1, 1) := by decide +kernel
theorem dX6_bit_114 : decode cX6_bit 114 = .ok (.goto 26, 3) := by decide +kernel
theorem dX6_bit_117 : decode cX6_bit 117 = .ok (.lconst 0, 1) := by decide +kernel
theorem dX6_bit_118 : decode cX6_bit 118 = .ok (.goto 22, 3) := by decide +kernel
theorem dX6_bit_121 : decode cX6_bit 121 = .ok (.iload 5, 2) := by decide +kernel
theorem dX6_bit_123 : decode cX6_bit 123 = .ok (.iconst 2, 1) := by decide +kernel
theorem dX6_bit_124 : decode cX6_bit 124 = .ok (.if_icmp .ne 8, 3) := by decide +kernel
theorem dX6_bit_127 : decode cX6_bit 127 = .ok (.lload 6, 2) := by decide +kernel
theorem dX6_bit_129 : decode cX6_bit 129 = .ok (.goto 11, 3) := by decide +kernel
theorem dX6_bit_132 : decode cX6_bit 132 = .ok (.lload_n 1, 1) := by decide +kernel
theorem dX6_bit_133 : decode cX6_bit 133 = .ok (.lload 6, 2) := by decide +kernel
theorem dX6_bit_135 : decode cX6_bit 135 = .ok (.iload_n 3, 1) := by decide +kernel
theorem dX6_bit_136 : decode cX6_bit 136 = .ok (.invokestatic 126, 3) := by decide +kernel
theorem dX6_bit_139 : decode cX6_bit 139 = .ok (.lsub, 1) := by decide +kernel
theorem dX6_bit_140 : decode cX6_bit 140 = .ok (.lreturn, 1) := by decide +kernel
theorem dX6_bit_141 : decode cX6_bit 141 = .ok (.iinc 8 1, 3) := by decide +kernel
theorem dX6_bit_144 : decode cX6_bit 144 = .ok (.lload 9, 2) := by decide +kernel
theorem dX6_bit_146 : decode cX6_bit 146 = .ok (.ldc2_w 124, 3) := by decide +kernel
theorem dX6_bit_149 : decode cX6_bit 149 = .ok (.ldiv, 1) := by decide +kernel
theorem dX6_bit_150 : decode cX6_bit 150 = .ok (.lstore 9, 2) := by decide +kernel
theorem dX6_bit_152 : decode cX6_bit 152 = .ok (.goto (-111), 3) := by decide +kernel
theorem dX6_bit_155 : decode cX6_bit 155 = .ok (.iload 4, 2) := by decide +kernel
theorem dX6_bit_157 : decode cX6_bit 157 = .ok (.ifCond .ge 9, 3) := by decide +kernel
theorem dX6_bit_160 : decode cX6_bit 160 = .ok (.iload 8, 2) := by decide +kernel
theorem dX6_bit_162 : decode cX6_bit 162 = .ok (.i2l, 1) := by decide +kernel
theorem dX6_bit_163 : decode cX6_bit 163 = .ok (.goto 6, 3) := by decide +kernel
theorem dX6_bit_166 : decode cX6_bit 166 = .ok (.ldc2_w 175, 3) := by decide +kernel
theorem dX6_bit_169 : decode cX6_bit 169 = .ok (.lreturn, 1) := by decide +kernel
theorem dX6_digits_0 : decode cX6_digits 0 = .ok (.iload_n 1, 1) := by decide +kernel
theorem dX6_digits_1 : decode cX6_digits 1 = .ok (.iconst 0, 1) := by decide +kernel
theorem dX6_digits_2 : decode cX6_digits 2 = .ok (.ldc 177, 2) := by decide +kernel
theorem dX6_digits_4 : decode cX6_digits 4 = .ok (.invokestatic 57, 3) := by decide +kernel
theorem dX6_digits_7 : decode cX6_digits 7 = .ok (.ifCond .ne 6, 3) := by decide +kernel
theorem dX6_digits_10 : decode cX6_digits 10 = .ok (.bipush (-2), 2) := by decide +kernel
theorem dX6_digits_12 : decode cX6_digits 12 = .ok (.ireturn, 1) := by decide +kernel
theorem dX6_digits_13 : decode cX6_digits 13 = .ok (.iload_n 1, 1) := by decide +kernel
theorem dX6_digits_14 : decode cX6_digits 14 = .ok (.i2l, 1) := by decide +kernel
theorem dX6_digits_15 : decode cX6_digits 15 = .ok (.lstore_n 2, 1) := by decide +kernel
theorem dX6_digits_16 : decode cX6_digits 16 = .ok (.iconst 0, 1) := by decide +kernel
theorem dX6_digits_17 : decode cX6_digits 17 = .ok (.istore 4, 2) := by decide +kernel
theorem dX6_digits_19 : decode cX6_digits 19 = .ok (.iload 4, 2) := by decide +kernel
theorem dX6_digits_21 : decode cX6_digits 21 = .ok (.aload_n 0, 1) := by decide +kernel
theorem dX6_digits_22 : decode cX6_digits 22 = .ok (.getfield 7, 3) := by decide +kernel
theorem dX6_digits_25 : decode cX6_digits 25 = .ok (.iconst 1, 1) := by decide +kernel
theorem dX6_digits_26 : decode cX6_digits 26 = .ok (.iaload, 1) := by decide +kernel
theorem dX6_digits_27 : decode cX6_digits 27 = .ok (.if_icmp .ge 15, 3) := by decide +kernel
theorem dX6_digits_30 : decode cX6_digits 30 = .ok (.lload_n 2, 1) := by decide +kernel
theorem dX6_digits_31 : decode cX6_digits 31 = .ok (.ldc2_w 178, 3) := by decide +kernel
theorem dX6_digits_34 : decode cX6_digits 34 = .ok (.lmul, 1) := by decide +kernel
theorem dX6_digits_35 : decode cX6_digits 35 = .ok (.lstore_n 2, 1) := by decide +kernel
theorem dX6_digits_36 : decode cX6_digits 36 = .ok (.iinc 4 1, 3) := by decide +kernel
theorem dX6_digits_39 : decode cX6_digits 39 = .ok (.goto (-20), 3) := by decide +kernel
theorem dX6_digits_42 : decode cX6_digits 42 = .ok (.aload_n 0, 1) := by decide +kernel
theorem dX6_digits_43 : decode cX6_digits 43 = .ok (.lload_n 2, 1) := by decide +kernel
theorem dX6_digits_44 : decode cX6_digits 44 = .ok (.iconst 2, 1) := by decide +kernel
theorem dX6_digits_45 : decode cX6_digits 45 = .ok (.invokevirtual 150, 3) := by decide +kernel
theorem dX6_digits_48 : decode cX6_digits 48 = .ok (.l2i, 1) := by decide +kernel
theorem dX6_digits_49 : decode cX6_digits 49 = .ok (.ireturn, 1) := by decide +kernel
theorem dX6_side_0 : decode cX6_side 0 = .ok (.ldc2_w 180, 3) := by decide +kernel
theorem dX6_side_3 : decode cX6_side 3 = .ok (.lload 4, 2) := by decide +kernel
theorem dX6_side_5 : decode cX6_side 5 = .ok (.lmul, 1) := by decide +kernel
theorem dX6_side_6 : decode cX6_side 6 = .ok (.ldc2_w 180, 3) := by decide +kernel
theorem dX6_side_9 : decode cX6_side 9 = .ok (.lload_n 2, 1) := by decide +kernel
theorem dX6_side_10 : decode cX6_side 10 = .ok (.lmul, 1) := by decide +kernel
theorem dX6_side_11 : decode cX6_side 11 = .ok (.lsub, 1) := by decide +kernel
theorem dX6_side_12 : decode cX6_side 12 = .ok (.lload_n 0, 1) := by decide +kernel
theorem dX6_side_13 : decode cX6_side 13 = .ok (.lload_n 0, 1) := by decide +kernel
theorem dX6_side_14 : decode cX6_side 14 = .ok (.lmul, 1) := by decide +kernel
theorem dX6_side_15 : decode cX6_side 15 = .ok (.lsub, 1) := by decide +kernel
theorem dX6_side_16 : decode cX6_side 16 = .ok (.lstore 6, 2) := by decide +kernel
theorem dX6_side_18 : decode cX6_side 18 = .ok (.lload 6, 2) := by decide +kernel
theorem dX6_side_20 : decode cX6_side 20 = .ok (.lconst 0, 1) := by decide +kernel
theorem dX6_side_21 : decode cX6_side 21 = .ok (.lcmp, 1) := by decide +kernel
theorem dX6_side_22 : decode cX6_side 22 = .ok (.ifCond .ge 5, 3) := by decide +kernel
theorem dX6_side_25 : decode cX6_side 25 = .ok (.iconst 1, 1) := by decide +kernel
theorem dX6_side_26 : decode cX6_side 26 = .ok (.ireturn, 1) := by decide +kernel
theorem dX6_side_27 : decode cX6_side 27 = .ok (.ldc2_w 182, 3) := by decide +kernel
theorem dX6_side_30 : decode cX6_side 30 = .ok (.lload_n 0, 1) := by decide +kernel
theorem dX6_side_31 : decode cX6_side 31 = .ok (.lmul, 1) := by decide +kernel
theorem dX6_side_32 : decode cX6_side 32 = .ok (.lload_n 0, 1) := by decide +kernel
theorem dX6_side_33 : decode cX6_side 33 = .ok (.lmul, 1) := by decide +kernel
theorem dX6_side_34 : decode cX6_side 34 = .ok (.lload_n 2, 1) := by decide +kernel
theorem dX6_side_35 : decode cX6_side 35 = .ok (.lmul, 1) := by decide +kernel
theorem dX6_side_36 : decode cX6_side 36 = .ok (.lstore 8, 2) := by decide +kernel
theorem dX6_side_38 : decode cX6_side 38 = .ok (.lload 6, 2) := by decide +kernel
theorem dX6_side_40 : decode cX6_side 40 = .ok (.lload 6, 2) := by decide +kernel
theorem dX6_side_42 : decode cX6_side 42 = .ok (.lmul, 1) := by decide +kernel
theorem dX6_side_43 : decode cX6_side 43 = .ok (.lstore 10, 2) := by decide +kernel
theorem dX6_side_45 : decode cX6_side 45 = .ok (.lload 8, 2) := by decide +kernel
theorem dX6_side_47 : decode cX6_side 47 = .ok (.lload 10, 2) := by decide +kernel
theorem dX6_side_49 : decode cX6_side 49 = .ok (.lcmp, 1) := by decide +kernel
theorem dX6_side_50 : decode cX6_side 50 = .ok (.ifCond .le 7, 3) := by decide +kernel
theorem dX6_side_53 : decode cX6_side 53 = .ok (.iconst 1, 1) := by decide +kernel
theorem dX6_side_54 : decode cX6_side 54 = .ok (.goto 16, 3) := by decide +kernel
theorem dX6_side_57 : decode cX6_side 57 = .ok (.lload 8, 2) := by decide +kernel
theorem dX6_side_59 : decode cX6_side 59 = .ok (.lload 10, 2) := by decide +kernel
theorem dX6_side_61 : decode cX6_side 61 = .ok (.lcmp, 1) := by decide +kernel
theorem dX6_side_62 : decode cX6_side 62 = .ok (.ifCond .ge 7, 3) := by decide +kernel
theorem dX6_side_65 : decode cX6_side 65 = .ok (.iconst (-1), 1) := by decide +kernel
theorem dX6_side_66 : decode cX6_side 66 = .ok (.goto 4, 3) := by decide +kernel
theorem dX6_side_69 : decode cX6_side 69 = .ok (.iconst 0, 1) := by decide +kernel
theorem dX6_side_70 : decode cX6_side 70 = .ok (.ireturn, 1) := by decide +kernel
theorem dX6_compare_0 : decode cX6_compare 0 = .ok (.iload_n 1, 1) := by decide +kernel
theorem dX6_compare_1 : decode cX6_compare 1 = .ok (.iconst 0, 1) := by decide +kernel
theorem dX6_compare_2 : decode cX6_compare 2 = .ok (.sipush 10000, 3) := by decide +kernel
theorem dX6_compare_5 : decode cX6_compare 5 = .ok (.invokestatic 57, 3) := by decide +kernel
theorem dX6_compare_8 : decode cX6_compare 8 = .ok (.ifCond .eq 37, 3) := by decide +kernel
theorem dX6_compare_11 : decode cX6_compare 11 = .ok (.iload_n 2, 1) := by decide +kernel
theorem dX6_compare_12 : decode cX6_compare 12 = .ok (.iconst 0, 1) := by decide +kernel
theorem dX6_compare_13 : decode cX6_compare 13 = .ok (.sipush 10000, 3) := by decide +kernel
theorem dX6_compare_16 : decode cX6_compare 16 = .ok (.invokestatic 57, 3) := by decide +kernel
theorem dX6_compare_19 : decode cX6_compare 19 = .ok (.ifCond .eq 26, 3) := by decide +kernel
theorem dX6_compare_22 : decode cX6_compare 22 = .ok (.iload_n 3, 1) := by decide +kernel
theorem dX6_compare_23 : decode cX6_compare 23 = .ok (.iconst 0, 1) := by decide +kernel
theorem dX6_compare_24 : decode cX6_compare 24 = .ok (.sipush 10000, 3) := by decide +kernel
theorem dX6_compare_27 : decode cX6_compare 27 = .ok (.invokestatic 57, 3) := by decide +kernel
theorem dX6_compare_30 : decode cX6_compare 30 = .ok (.ifCond .eq 15, 3) := by decide +kernel
theorem dX6_compare_33 : decode cX6_compare 33 = .ok (.iload 4, 2) := by decide +kernel
theorem dX6_compare_35 : decode cX6_compare 35 = .ok (.iconst 0, 1) := by decide +kernel
theorem dX6_compare_36 : decode cX6_compare 36 = .ok (.sipush 10000, 3) := by decide +kernel
theorem dX6_compare_39 : decode cX6_compare 39 = .ok (.invokestatic 57, 3) := by decide +kernel
theorem dX6_compare_42 : decode cX6_compare 42 = .ok (.ifCond .ne 6, 3) := by decide +kernel
theorem dX6_compare_45 : decode cX6_compare 45 = .ok (.bipush (-2), 2) := by decide +kernel
theorem dX6_compare_47 : decode cX6_compare 47 = .ok (.ireturn, 1) := by decide +kernel
theorem dX6_compare_48 : decode cX6_compare 48 = .ok (.iload_n 1, 1) := by decide +kernel
theorem dX6_compare_49 : decode cX6_compare 49 = .ok (.iload_n 2, 1) := by decide +kernel
theorem dX6_compare_50 : decode cX6_compare 50 = .ok (.iadd, 1) := by decide +kernel
theorem dX6_compare_51 : decode cX6_compare 51 = .ok (.iload_n 3, 1) := by decide +kernel
theorem dX6_compare_52 : decode cX6_compare 52 = .ok (.isub, 1) := by decide +kernel
theorem dX6_compare_53 : decode cX6_compare 53 = .ok (.iload 4, 2) := by decide +kernel
theorem dX6_compare_55 : decode cX6_compare 55 = .ok (.isub, 1) := by decide +kernel
theorem dX6_compare_56 : decode cX6_compare 56 = .ok (.i2l, 1) := by decide +kernel
theorem dX6_compare_57 : decode cX6_compare 57 = .ok (.lstore 5, 2) := by decide +kernel
theorem dX6_compare_59 : decode cX6_compare 59 = .ok (.iload_n 1, 1) := by decide +kernel
theorem dX6_compare_60 : decode cX6_compare 60 = .ok (.i2l, 1) := by decide +kernel
theorem dX6_compare_61 : decode cX6_compare 61 = .ok (.iload_n 2, 1) := by decide +kernel
theorem dX6_compare_62 : decode cX6_compare 62 = .ok (.i2l, 1) := by decide +kernel
theorem dX6_compare_63 : decode cX6_compare 63 = .ok (.lmul, 1) := by decide +kernel
theorem dX6_compare_64 : decode cX6_compare 64 = .ok (.lstore 7, 2) := by decide +kernel
theorem dX6_compare_66 : decode cX6_compare 66 = .ok (.iload_n 3, 1) := by decide +kernel
theorem dX6_compare_67 : decode cX6_compare 67 = .ok (.i2l, 1) := by decide +kernel
theorem dX6_compare_68 : decode cX6_compare 68 = .ok (.iload 4, 2) := by decide +kernel
theorem dX6_compare_70 : decode cX6_compare 70 = .ok (.i2l, 1) := by decide +kernel
theorem dX6_compare_71 : decode cX6_compare 71 = .ok (.lmul, 1) := by decide +kernel
theorem dX6_compare_72 : decode cX6_compare 72 = .ok (.lstore 9, 2) := by decide +kernel
theorem dX6_compare_74 : decode cX6_compare 74 = .ok (.lload 5, 2) := by decide +kernel
theorem dX6_compare_76 : decode cX6_compare 76 = .ok (.lconst 0, 1) := by decide +kernel
theorem dX6_compare_77 : decode cX6_compare 77 = .ok (.lcmp, 1) := by decide +kernel
theorem dX6_compare_78 : decode cX6_compare 78 = .ok (.ifCond .le 25, 3) := by decide +kernel
theorem dX6_compare_81 : decode cX6_compare 81 = .ok (.lload 7, 2) := by decide +kernel
theorem dX6_compare_83 : decode cX6_compare 83 = .ok (.lload 9, 2) := by decide +kernel
theorem dX6_compare_85 : decode cX6_compare 85 = .ok (.lcmp, 1) := by decide +kernel
theorem dX6_compare_86 : decode cX6_compare 86 = .ok (.ifCond .ge 17, 3) := by decide +kernel
theorem dX6_compare_89 : decode cX6_compare 89 = .ok (.lload 5, 2) := by decide +kernel
theorem dX6_compare_91 : decode cX6_compare 91 = .ok (.lload 7, 2) := by decide +kernel
theorem dX6_compare_93 : decode cX6_compare 93 = .ok (.lload 9, 2) := by decide +kernel
theorem dX6_compare_95 : decode cX6_compare 95 = .ok (.invokestatic 184, 3) := by decide +kernel
theorem dX6_compare_98 : decode cX6_compare 98 = .ok (.istore 11, 2) := by decide +kernel
theorem dX6_compare_100 : decode cX6_compare 100 = .ok (.goto 75, 3) := by decide +kernel
theorem dX6_compare_103 : decode cX6_compare 103 = .ok (.lload 5, 2) := by decide +kernel
theorem dX6_compare_105 : decode cX6_compare 105 = .ok (.lconst 0, 1) := by decide +kernel
theorem dX6_compare_106 : decode cX6_compare 106 = .ok (.lcmp, 1) := by decide +kernel
theorem dX6_compare_107 : decode cX6_compare 107 = .ok (.ifCond .ge 27, 3) := by decide +kernel
theorem dX6_compare_110 : decode cX6_compare 110 = .ok (.lload 7, 2) := by decide +kernel
theorem dX6_compare_112 : decode cX6_compare 112 = .ok (.lload 9, 2) := by decide +kernel
theorem dX6_compare_114 : decode cX6_compare 114 = .ok (.lcmp, 1) := by decide +kernel
theorem dX6_compare_115 : decode cX6_compare 115 = .ok (.ifCond .le 19, 3) := by decide +kernel
theorem dX6_compare_118 : decode cX6_compare 118 = .ok (.lload 5, 2) := by decide +kernel
theorem dX6_compare_120 : decode cX6_compare 120 = .ok (.lneg, 1) := by decide +kernel
theorem dX6_compare_121 : decode cX6_compare 121 = .ok (.lload 9, 2) := by decide +kernel
theorem dX6_compare_123 : decode cX6_compare 123 = .ok (.lload 7, 2) := by decide +kernel
theorem dX6_compare_125 : decode cX6_compare 125 = .ok (.invokestatic 184, 3) := by decide +kernel
theorem dX6_compare_128 : decode cX6_compare 128 = .ok (.ineg, 1) := by decide +kernel
theorem dX6_compare_129 : decode cX6_compare 129 = .ok (.istore 11, 2) := by decide +kernel
theorem dX6_compare_131 : decode cX6_compare 131 = .ok (.goto 44, 3) := by decide +kernel
theorem dX6_compare_134 : decode cX6_compare 134 = .ok (.lload 5, 2) := by decide +kernel
theorem dX6_compare_136 : decode cX6_compare 136 = .ok (.lconst 0, 1) := by decide +kernel
theorem dX6_compare_137 : decode cX6_compare 137 = .ok (.lcmp, 1) := by decide +kernel
theorem dX6_compare_138 : decode cX6_compare 138 = .ok (.ifCond .gt 11, 3) := by decide +kernel
theorem dX6_compare_141 : decode cX6_compare 141 = .ok (.lload 7, 2) := by decide +kernel
theorem dX6_compare_143 : decode cX6_compare 143 = .ok (.lload 9, 2) := by decide +kernel
theorem dX6_compare_145 : decode cX6_compare 145 = .ok (.lcmp, 1) := by decide +kernel
theorem dX6_compare_146 : decode cX6_compare 146 = .ok (.ifCond .le 7, 3) := by decide +kernel
theorem dX6_compare_149 : decode cX6_compare 149 = .ok (.iconst 1, 1) := by decide +kernel
theorem dX6_compare_150 : decode cX6_compare 150 = .ok (.goto 23, 3) := by decide +kernel
theorem dX6_compare_153 : decode cX6_compare 153 = .ok (.lload 5, 2) := by decide +kernel
theorem dX6_compare_155 : decode cX6_compare 155 = .ok (.lconst 0, 1) := by decide +kernel
theorem dX6_compare_156 : decode cX6_compare 156 = .ok (.lcmp, 1) := by decide +kernel
theorem dX6_compare_157 : decode cX6_compare 157 = .ok (.ifCond .lt 11, 3) := by decide +kernel
theorem dX6_compare_160 : decode cX6_compare 160 = .ok (.lload 7, 2) := by decide +kernel
theorem dX6_compare_162 : decode cX6_compare 162 = .ok (.lload 9, 2) := by decide +kernel
theorem dX6_compare_164 : decode cX6_compare 164 = .ok (.lcmp, 1) := by decide +kernel
theorem dX6_compare_165 : decode cX6_compare 165 = .ok (.ifCond .ge 7, 3) := by decide +kernel
theorem dX6_compare_168 : decode cX6_compare 168 = .ok (.iconst (-1), 1) := by decide +kernel
theorem dX6_compare_169 : decode cX6_compare 169 = .ok (.goto 4, 3) := by decide +kernel
theorem dX6_compare_172 : decode cX6_compare 172 = .ok (.iconst 0, 1) := by decide +kernel
theorem dX6_compare_173 : decode cX6_compare 173 = .ok (.istore 11, 2) := by decide +kernel
theorem dX6_compare_175 : decode cX6_compare 175 = .ok (.iload 11, 2) := by decide +kernel
theorem dX6_compare_177 : decode cX6_compare 177 = .ok (.ifCond .ge 7, 3) := by decide +kernel
theorem dX6_compare_180 : decode cX6_compare 180 = .ok (.iconst 2, 1) := by decide +kernel
theorem dX6_compare_181 : decode cX6_compare 181 = .ok (.goto 5, 3) := by decide +kernel
theorem dX6_compare_184 : decode cX6_compare 184 = .ok (.iload 11, 2) := by decide +kernel
theorem dX6_compare_186 : decode cX6_compare 186 = .ok (.ireturn, 1) := by decide +kernel
theorem dX6_beginFraction_0 : decode cX6_beginFraction 0 = .ok (.aload_n 0, 1) := by decide +kernel
theorem dX6_beginFraction_1 : decode cX6_beginFraction 1 = .ok (.iload_n 1, 1) := by decide +kernel
theorem dX6_beginFraction_2 : decode cX6_beginFraction 2 = .ok (.i2l, 1) := by decide +kernel
theorem dX6_beginFraction_3 : decode cX6_beginFraction 3 = .ok (.iconst 2, 1) := by decide +kernel
theorem dX6_beginFraction_4 : decode cX6_beginFraction 4 = .ok (.invokestatic 133, 3) := by decide +kernel
theorem dX6_beginFraction_7 : decode cX6_beginFraction 7 = .ok (.l2i, 1) := by decide +kernel
theorem dX6_beginFraction_8 : decode cX6_beginFraction 8 = .ok (.putfield 188, 3) := by decide +kernel
theorem dX6_beginFraction_11 : decode cX6_beginFraction 11 = .ok (.aload_n 0, 1) := by decide +kernel
theorem dX6_beginFraction_12 : decode cX6_beginFraction 12 = .ok (.aload_n 0, 1) := by decide +kernel
theorem dX6_beginFraction_13 : decode cX6_beginFraction 13 = .ok (.getfield 188, 3) := by decide +kernel
theorem dX6_beginFraction_16 : decode cX6_beginFraction 16 = .ok (.putfield 191, 3) := by decide +kernel
theorem dX6_beginFraction_19 : decode cX6_beginFraction 19 = .ok (.aload_n 0, 1) := by decide +kernel
theorem dX6_beginFraction_20 : decode cX6_beginFraction 20 = .ok (.iconst 0, 1) := by decide +kernel
theorem dX6_beginFraction_21 : decode cX6_beginFraction 21 = .ok (.putfield 194, 3) := by decide +kernel
theorem dX6_beginFraction_24 : decode cX6_beginFraction 24 = .ok (.aload_n 0, 1) := by decide +kernel
theorem dX6_beginFraction_25 : decode cX6_beginFraction 25 = .ok (.iconst 1, 1) := by decide +kernel
theorem dX6_beginFraction_26 : decode cX6_beginFraction 26 = .ok (.putfield 197, 3) := by decide +kernel
theorem dX6_beginFraction_29 : decode cX6_beginFraction 29 = .ok (.return_, 1) := by decide +kernel
theorem dX6_nextTerm_0 : decode cX6_nextTerm 0 = .ok (.aload_n 0, 1) := by decide +kernel
theorem dX6_nextTerm_1 : decode cX6_nextTerm 1 = .ok (.aload_n 0, 1) := by decide +kernel
theorem dX6_nextTerm_2 : decode cX6_nextTerm 2 = .ok (.getfield 197, 3) := by decide +kernel
theorem dX6_nextTerm_5 : decode cX6_nextTerm 5 = .ok (.aload_n 0, 1) := by decide +kernel
theorem dX6_nextTerm_6 : decode cX6_nextTerm 6 = .ok (.getfield 191, 3) := by decide +kernel
theorem dX6_nextTerm_9 : decode cX6_nextTerm 9 = .ok (.imul, 1) := by decide +kernel
theorem dX6_nextTerm_10 : decode cX6_nextTerm 10 = .ok (.aload_n 0, 1) := by decide +kernel
theorem dX6_nextTerm_11 : decode cX6_nextTerm 11 = .ok (.getfield 194, 3) := by decide +kernel
theorem dX6_nextTerm_14 : decode cX6_nextTerm 14 = .ok (.isub, 1) := by decide +kernel
theorem dX6_nextTerm_15 : decode cX6_nextTerm 15 = .ok (.putfield 194, 3) := by decide +kernel
theorem dX6_nextTerm_18 : decode cX6_nextTerm 18 = .ok (.aload_n 0, 1) := by decide +kernel
theorem dX6_nextTerm_19 : decode cX6_nextTerm 19 = .ok (.iload_n 1, 1) := by decide +kernel
theorem dX6_nextTerm_20 : decode cX6_nextTerm 20 = .ok (.aload_n 0, 1) := by decide +kernel
theorem dX6_nextTerm_21 : decode cX6_nextTerm 21 = .ok (.getfield 194, 3) := by decide +kernel
theorem dX6_nextTerm_24 : decode cX6_nextTerm 24 = .ok (.aload_n 0, 1) := by decide +kernel
theorem dX6_nextTerm_25 : decode cX6_nextTerm 25 = .ok (.getfield 194, 3) := by decide +kernel
theorem dX6_nextTerm_28 : decode cX6_nextTerm 28 = .ok (.imul, 1) := by decide +kernel
theorem dX6_nextTerm_29 : decode cX6_nextTerm 29 = .ok (.isub, 1) := by decide +kernel
theorem dX6_nextTerm_30 : decode cX6_nextTerm 30 = .ok (.aload_n 0, 1) := by decide +kernel
theorem dX6_nextTerm_31 : decode cX6_nextTerm 31 = .ok (.getfield 197, 3) := by decide +kernel
theorem dX6_nextTerm_34 : decode cX6_nextTerm 34 = .ok (.idiv, 1) := by decide +kernel
theorem dX6_nextTerm_35 : decode cX6_nextTerm 35 = .ok (.putfield 197, 3) := by decide +kernel
theorem dX6_nextTerm_38 : decode cX6_nextTerm 38 = .ok (.aload_n 0, 1) := by decide +kernel
theorem dX6_nextTerm_39 : decode cX6_nextTerm 39 = .ok (.aload_n 0, 1) := by decide +kernel
theorem dX6_nextTerm_40 : decode cX6_nextTerm 40 = .ok (.getfield 188, 3) := by decide +kernel
theorem dX6_nextTerm_43 : decode cX6_nextTerm 43 = .ok (.aload_n 0, 1) := by decide +kernel
theorem dX6_nextTerm_44 : decode cX6_nextTerm 44 = .ok (.getfield 194, 3) := by decide +kernel
theorem dX6_nextTerm_47 : decode cX6_nextTerm 47 = .ok (.iadd, 1) := by decide +kernel
theorem dX6_nextTerm_48 : decode cX6_nextTerm 48 = .ok (.aload_n 0, 1) := by decide +kernel
theorem dX6_nextTerm_49 : decode cX6_nextTerm 49 = .ok (.getfield 197, 3) := by decide +kernel
theorem dX6_nextTerm_52 : decode cX6_nextTerm 52 = .ok (.idiv, 1) := by decide +kernel
theorem dX6_nextTerm_53 : decode cX6_nextTerm 53 = .ok (.putfield 191, 3) := by decide +kernel
theorem dX6_nextTerm_56 : decode cX6_nextTerm 56 = .ok (.return_, 1) := by decide +kernel
theorem dX6_period_0 : decode cX6_period 0 = .ok (.iload_n 1, 1) := by decide +kernel
theorem dX6_period_1 : decode cX6_period 1 = .ok (.iconst 0, 1) := by decide +kernel
theorem dX6_period_2 : decode cX6_period 2 = .ok (.ldc 200, 2) := by decide +kernel
theorem dX6_period_4 : decode cX6_period 4 = .ok (.invokestatic 57, 3) := by decide +kernel
theorem dX6_period_7 : decode cX6_period 7 = .ok (.ifCond .ne 6, 3) := by decide +kernel
theorem dX6_period_10 : decode cX6_period 10 = .ok (.bipush (-2), 2) := by decide +kernel
theorem dX6_period_12 : decode cX6_period 12 = .ok (.ireturn, 1) := by decide +kernel
theorem dX6_period_13 : decode cX6_period 13 = .ok (.aload_n 0, 1) := by decide +kernel
theorem dX6_period_14 : decode cX6_period 14 = .ok (.iload_n 1, 1) := by decide +kernel
theorem dX6_period_15 : decode cX6_period 15 = .ok (.invokevirtual 201, 3) := by decide +kernel
theorem dX6_period_18 : decode cX6_period 18 = .ok (.aload_n 0, 1) := by decide +kernel
theorem dX6_period_19 : decode cX6_period 19 = .ok (.getfield 188, 3) := by decide +kernel
theorem dX6_period_22 : decode cX6_period 22 = .ok (.aload_n 0, 1) := by decide +kernel
theorem dX6_period_23 : decode cX6_period 23 = .ok (.getfield 188, 3) := by decide +kernel
theorem dX6_period_26 : decode cX6_period 26 = .ok (.imul, 1) := by decide +kernel
theorem dX6_period_27 : decode cX6_period 27 = .ok (.iload_n 1, 1) := by decide +kernel
theorem dX6_period_28 : decode cX6_period 28 = .ok (.if_icmp .ne 6, 3) := by decide +kernel
theorem dX6_period_31 : decode cX6_period 31 = .ok (.bipush (-6), 2) := by decide +kernel
theorem dX6_period_33 : decode cX6_period 33 = .ok (.ireturn, 1) := by decide +kernel
theorem dX6_period_34 : decode cX6_period 34 = .ok (.iconst 0, 1) := by decide +kernel
theorem dX6_period_35 : decode cX6_period 35 = .ok (.istore_n 2, 1) := by decide +kernel
theorem dX6_period_36 : decode cX6_period 36 = .ok (.iconst 1, 1) := by decide +kernel
theorem dX6_period_37 : decode cX6_period 37 = .ok (.istore_n 3, 1) := by decide +kernel
theorem dX6_period_38 : decode cX6_period 38 = .ok (.iload_n 3, 1) := by decide +kernel
theorem dX6_period_39 : decode cX6_period 39 = .ok (.ifCond .eq 33, 3) := by decide +kernel
theorem dX6_period_42 : decode cX6_period 42 = .ok (.aload_n 0, 1) := by decide +kernel
theorem dX6_period_43 : decode cX6_period 43 = .ok (.iload_n 1, 1) := by decide +kernel
theorem dX6_period_44 : decode cX6_period 44 = .ok (.invokevirtual 204, 3) := by decide +kernel
theorem dX6_period_47 : decode cX6_period 47 = .ok (.iinc 2 1, 3) := by decide +kernel
theorem dX6_period_50 : decode cX6_period 50 = .ok (.aload_n 0, 1) := by decide +kernel
theorem dX6_period_51 : decode cX6_period 51 = .ok (.getfield 191, 3) := by decide +kernel
theorem dX6_period_54 : decode cX6_period 54 = .ok (.iconst 2, 1) := by decide +kernel
theorem dX6_period_55 : decode cX6_period 55 = .ok (.aload_n 0, 1) := by decide +kernel
theorem dX6_period_56 : decode cX6_period 56 = .ok (.getfield 188, 3) := by decide +kernel
theorem dX6_period_59 : decode cX6_period 59 = .ok (.imul, 1) := by decide +kernel
theorem dX6_period_60 : decode cX6_period 60 = .ok (.if_icmp .eq 7, 3) := by decide +kernel
theorem dX6_period_63 : decode cX6_period 63 = .ok (.iconst 1, 1) := by decide +kernel
theorem dX6_period_64 : decode cX6_period 64 = .ok (.goto 4, 3) := by decide +kernel
theorem dX6_period_67 : decode cX6_period 67 = .ok (.iconst 0, 1) := by decide +kernel
theorem dX6_period_68 : decode cX6_period 68 = .ok (.istore_n 3, 1) := by decide +kernel
theorem dX6_period_69 : decode cX6_period 69 = .ok (.goto (-31), 3) := by decide +kernel
theorem dX6_period_72 : decode cX6_period 72 = .ok (.iload_n 2, 1) := by decide +kernel
theorem dX6_period_73 : decode cX6_period 73 = .ok (.ireturn, 1) := by decide +kernel
theorem dX6_term_0 : decode cX6_term 0 = .ok (.iload_n 1, 1) := by decide +kernel
theorem dX6_term_1 : decode cX6_term 1 = .ok (.iconst 0, 1) := by decide +kernel
theorem dX6_term_2 : decode cX6_term 2 = .ok (.ldc 200, 2) := by decide +kernel
theorem dX6_term_4 : decode cX6_term 4 = .ok (.invokestatic 57, 3) := by decide +kernel
theorem dX6_term_7 : decode cX6_term 7 = .ok (.ifCond .eq 14, 3) := by decide +kernel
theorem dX6_term_10 : decode cX6_term 10 = .ok (.iload_n 2, 1) := by decide +kernel
theorem dX6_term_11 : decode cX6_term 11 = .ok (.iconst 0, 1) := by decide +kernel
theorem dX6_term_12 : decode cX6_term 12 = .ok (.sipush 500, 3) := by decide +kernel
theorem dX6_term_15 : decode cX6_term 15 = .ok (.invokestatic 57, 3) := by decide +kernel
theorem dX6_term_18 : decode cX6_term 18 = .ok (.ifCond .ne 6, 3) := by decide +kernel
theorem dX6_term_21 : decode cX6_term 21 = .ok (.bipush (-2), 2) := by decide +kernel
theorem dX6_term_23 : decode cX6_term 23 = .ok (.ireturn, 1) := by decide +kernel
theorem dX6_term_24 : decode cX6_term 24 = .ok (.aload_n 0, 1) := by decide +kernel
theorem dX6_term_25 : decode cX6_term 25 = .ok (.iload_n 1, 1) := by decide +kernel
theorem dX6_term_26 : decode cX6_term 26 = .ok (.invokevirtual 201, 3) := by decide +kernel
theorem dX6_term_29 : decode cX6_term 29 = .ok (.iload_n 2, 1) := by decide +kernel
theorem dX6_term_30 : decode cX6_term 30 = .ok (.ifCond .le 19, 3) := by decide +kernel
theorem dX6_term_33 : decode cX6_term 33 = .ok (.aload_n 0, 1) := by decide +kernel
theorem dX6_term_34 : decode cX6_term 34 = .ok (.getfield 188, 3) := by decide +kernel
theorem dX6_term_37 : decode cX6_term 37 = .ok (.aload_n 0, 1) := by decide +kernel
theorem dX6_term_38 : decode cX6_term 38 = .ok (.getfield 188, 3) := by decide +kernel
theorem dX6_term_41 : decode cX6_term 41 = .ok (.imul, 1) := by decide +kernel
theorem dX6_term_42 : decode cX6_term 42 = .ok (.iload_n 1, 1) := by decide +kernel
theorem dX6_term_43 : decode cX6_term 43 = .ok (.if_icmp .ne 6, 3) := by decide +kernel
theorem dX6_term_46 : decode cX6_term 46 = .ok (.bipush (-6), 2) := by decide +kernel
theorem dX6_term_48 : decode cX6_term 48 = .ok (.ireturn, 1) := by decide +kernel
theorem dX6_term_49 : decode cX6_term 49 = .ok (.iconst 0, 1) := by decide +kernel
theorem dX6_term_50 : decode cX6_term 50 = .ok (.istore_n 3, 1) := by decide +kernel
theorem dX6_term_51 : decode cX6_term 51 = .ok (.iload_n 3, 1) := by decide +kernel
theorem dX6_term_52 : decode cX6_term 52 = .ok (.iload_n 2, 1) := by decide +kernel
theorem dX6_term_53 : decode cX6_term 53 = .ok (.if_icmp .ge 14, 3) := by decide +kernel
theorem dX6_term_56 : decode cX6_term 56 = .ok (.aload_n 0, 1) := by decide +kernel
theorem dX6_term_57 : decode cX6_term 57 = .ok (.iload_n 1, 1) := by decide +kernel
theorem dX6_term_58 : decode cX6_term 58 = .ok (.invokevirtual 204, 3) := by decide +kernel
theorem dX6_term_61 : decode cX6_term 61 = .ok (.iinc 3 1, 3) := by decide +kernel
theorem dX6_term_64 : decode cX6_term 64 = .ok (.goto (-13), 3) := by decide +kernel
theorem dX6_term_67 : decode cX6_term 67 = .ok (.aload_n 0, 1) := by decide +kernel
theorem dX6_term_68 : decode cX6_term 68 = .ok (.getfield 191, 3) := by decide +kernel
theorem dX6_term_71 : decode cX6_term 71 = .ok (.ireturn, 1) := by decide +kernel
theorem dX6_convergent_0 : decode cX6_convergent 0 = .ok (.iload_n 1, 1) := by decide +kernel
theorem dX6_convergent_1 : decode cX6_convergent 1 = .ok (.iconst 0, 1) := by decide +kernel
theorem dX6_convergent_2 : decode cX6_convergent 2 = .ok (.ldc 200, 2) := by decide +kernel
theorem dX6_convergent_4 : decode cX6_convergent 4 = .ok (.invokestatic 57, 3) := by decide +kernel
theorem dX6_convergent_7 : decode cX6_convergent 7 = .ok (.ifCond .eq 23, 3) := by decide +kernel
theorem dX6_convergent_10 : decode cX6_convergent 10 = .ok (.iload_n 2, 1) := by decide +kernel
theorem dX6_convergent_11 : decode cX6_convergent 11 = .ok (.iconst 0, 1) := by decide +kernel
theorem dX6_convergent_12 : decode cX6_convergent 12 = .ok (.sipush 500, 3) := by decide +kernel
theorem dX6_convergent_15 : decode cX6_convergent 15 = .ok (.invokestatic 57, 3) := by decide +kernel
theorem dX6_convergent_18 : decode cX6_convergent 18 = .ok (.ifCond .eq 12, 3) := by decide +kernel
theorem dX6_convergent_21 : decode cX6_convergent 21 = .ok (.iload_n 3, 1) := by decide +kernel
theorem dX6_convergent_22 : decode cX6_convergent 22 = .ok (.iconst 0, 1) := by decide +kernel
theorem dX6_convergent_23 : decode cX6_convergent 23 = .ok (.iconst 1, 1) := by decide +kernel
theorem dX6_convergent_24 : decode cX6_convergent 24 = .ok (.invokestatic 57, 3) := by decide +kernel
theorem dX6_convergent_27 : decode cX6_convergent 27 = .ok (.ifCond .ne 7, 3) := by decide +kernel
theorem dX6_convergent_30 : decode cX6_convergent 30 = .ok (.ldc2_w 70, 3) := by decide +kernel
theorem dX6_convergent_33 : decode cX6_convergent 33 = .ok (.lreturn, 1) := by decide +kernel
theorem dX6_convergent_34 : decode cX6_convergent 34 = .ok (.aload_n 0, 1) := by decide +kernel
theorem dX6_convergent_35 : decode cX6_convergent 35 = .ok (.iload_n 1, 1) := by decide +kernel
theorem dX6_convergent_36 : decode cX6_convergent 36 = .ok (.invokevirtual 201, 3) := by decide +kernel
theorem dX6_convergent_39 : decode cX6_convergent 39 = .ok (.iload_n 2, 1) := by decide +kernel
theorem dX6_convergent_40 : decode cX6_convergent 40 = .ok (.ifCond .le 20, 3) := by decide +kernel
theorem dX6_convergent_43 : decode cX6_convergent 43 = .ok (.aload_n 0, 1) := by decide +kernel
theorem dX6_convergent_44 : decode cX6_convergent 44 = .ok (.getfield 188, 3) := by decide +kernel
theorem dX6_convergent_47 : decode cX6_convergent 47 = .ok (.aload_n 0, 1) := by decide +kernel
theorem dX6_convergent_48 : decode cX6_convergent 48 = .ok (.getfield 188, 3) := by decide +kernel
theorem dX6_convergent_51 : decode cX6_convergent 51 = .ok (.imul, 1) := by decide +kernel
theorem dX6_convergent_52 : decode cX6_convergent 52 = .ok (.iload_n 1, 1) := by decide +kernel
theorem dX6_convergent_53 : decode cX6_convergent 53 = .ok (.if_icmp .ne 7, 3) := by decide +kernel
theorem dX6_convergent_56 : decode cX6_convergent 56 = .ok (.ldc2_w 175, 3) := by decide +kernel
theorem dX6_convergent_59 : decode cX6_convergent 59 = .ok (.lreturn, 1) := by decide +kernel
theorem dX6_convergent_60 : decode cX6_convergent 60 = .ok (.aload_n 0, 1) := by decide +kernel
theorem dX6_convergent_61 : decode cX6_convergent 61 = .ok (.getfield 188, 3) := by decide +kernel
theorem dX6_convergent_64 : decode cX6_convergent 64 = .ok (.i2l, 1) := by decide +kernel
theorem dX6_convergent_65 : decode cX6_convergent 65 = .ok (.lstore 4, 2) := by decide +kernel
theorem dX6_convergent_67 : decode cX6_convergent 67 = .ok (.lconst 1, 1) := by decide +kernel
theorem dX6_convergent_68 : decode cX6_convergent 68 = .ok (.lstore 6, 2) := by decide +kernel
theorem dX6_convergent_70 : decode cX6_convergent 70 = .ok (.lconst 1, 1) := by decide +kernel
theorem dX6_convergent_71 : decode cX6_convergent 71 = .ok (.lstore 8, 2) := by decide +kernel
theorem dX6_convergent_73 : decode cX6_convergent 73 = .ok (.lconst 0, 1) := by decide +kernel
theorem dX6_convergent_74 : decode cX6_convergent 74 = .ok (.lstore 10, 2) := by decide +kernel
theorem dX6_convergent_76 : decode cX6_convergent 76 = .ok (.iconst 0, 1) := by decide +kernel
theorem dX6_convergent_77 : decode cX6_convergent 77 = .ok (.istore 12, 2) := by decide +kernel
theorem dX6_convergent_79 : decode cX6_convergent 79 = .ok (.iload 12, 2) := by decide +kernel
theorem dX6_convergent_81 : decode cX6_convergent 81 = .ok (.iload_n 2, 1) := by decide +kernel
theorem dX6_convergent_82 : decode cX6_convergent 82 = .ok (.if_icmp .ge 78, 3) := by decide +kernel
theorem dX6_convergent_85 : decode cX6_convergent 85 = .ok (.aload_n 0, 1) := by decide +kernel
theorem dX6_convergent_86 : decode cX6_convergent 86 = .ok (.iload_n 1, 1) := by decide +kernel
theorem dX6_convergent_87 : decode cX6_convergent 87 = .ok (.invokevirtual 204, 3) := by decide +kernel
theorem dX6_convergent_90 : decode cX6_convergent 90 = .ok (.aload_n 0, 1) := by decide +kernel
theorem dX6_convergent_91 : decode cX6_convergent 91 = .ok (.getfield 191, 3) := by decide +kernel
theorem dX6_convergent_94 : decode cX6_convergent 94 = .ok (.i2l, 1) := by decide +kernel
theorem dX6_convergent_95 : decode cX6_convergent 95 = .ok (.lload 4, 2) := by decide +kernel
theorem dX6_convergent_97 : decode cX6_convergent 97 = .ok (.lmul, 1) := by decide +kernel
theorem dX6_convergent_98 : decode cX6_convergent 98 = .ok (.lload 8, 2) := by decide +kernel
theorem dX6_convergent_100 : decode cX6_convergent 100 = .ok (.ladd, 1) := by decide +kernel
theorem dX6_convergent_101 : decode cX6_convergent 101 = .ok (.lstore 13, 2) := by decide +kernel
theorem dX6_convergent_103 : decode cX6_convergent 103 = .ok (.aload_n 0, 1) := by decide +kernel
theorem dX6_convergent_104 : decode cX6_convergent 104 = .ok (.getfield 191, 3) := by decide +kernel
theorem dX6_convergent_107 : decode cX6_convergent 107 = .ok (.i2l, 1) := by decide +kernel
theorem dX6_convergent_108 : decode cX6_convergent 108 = .ok (.lload 6, 2) := by decide +kernel
theorem dX6_convergent_110 : decode cX6_convergent 110 = .ok (.lmul, 1) := by decide +kernel
theorem dX6_convergent_111 : decode cX6_convergent 111 = .ok (.lload 10, 2) := by decide +kernel
theorem dX6_convergent_113 : decode cX6_convergent 113 = .ok (.ladd, 1) := by decide +kernel
theorem dX6_convergent_114 : decode cX6_convergent 114 = .ok (.lstore 15, 2) := by decide +kernel
theorem dX6_convergent_116 : decode cX6_convergent 116 = .ok (.lload 4, 2) := by decide +kernel
theorem dX6_convergent_118 : decode cX6_convergent 118 = .ok (.lstore 8, 2) := by decide +kernel
theorem dX6_convergent_120 : decode cX6_convergent 120 = .ok (.lload 6, 2) := by decide +kernel
theorem dX6_convergent_122 : decode cX6_convergent 122 = .ok (.lstore 10, 2) := by decide +kernel
theorem dX6_convergent_124 : decode cX6_convergent 124 = .ok (.lload 13, 2) := by decide +kernel
theorem dX6_convergent_126 : decode cX6_convergent 126 = .ok (.lstore 4, 2) := by decide +kernel
theorem dX6_convergent_128 : decode cX6_convergent 128 = .ok (.lload 15, 2) := by decide +kernel
theorem dX6_convergent_130 : decode cX6_convergent 130 = .ok (.lstore 6, 2) := by decide +kernel
theorem dX6_convergent_132 : decode cX6_convergent 132 = .ok (.lload 4, 2) := by decide +kernel
theorem dX6_convergent_134 : decode cX6_convergent 134 = .ok (.ldc2_w 51, 3) := by decide +kernel
theorem dX6_convergent_137 : decode cX6_convergent 137 = .ok (.lcmp, 1) := by decide +kernel
theorem dX6_convergent_138 : decode cX6_convergent 138 = .ok (.ifCond .gt 12, 3) := by decide +kernel
theorem dX6_convergent_141 : decode cX6_convergent 141 = .ok (.lload 6, 2) := by decide +kernel
theorem dX6_convergent_143 : decode cX6_convergent 143 = .ok (.ldc2_w 51, 3) := by decide +kernel
theorem dX6_convergent_146 : decode cX6_convergent 146 = .ok (.lcmp, 1) := by decide +kernel
theorem dX6_convergent_147 : decode cX6_convergent 147 = .ok (.ifCond .le 7, 3) := by decide +kernel
theorem dX6_convergent_150 : decode cX6_convergent 150 = .ok (.ldc2_w 175, 3) := by decide +kernel
theorem dX6_convergent_153 : decode cX6_convergent 153 = .ok (.lreturn, 1) := by decide +kernel
theorem dX6_convergent_154 : decode cX6_convergent 154 = .ok (.iinc 12 1, 3) := by decide +kernel
theorem dX6_convergent_157 : decode cX6_convergent 157 = .ok (.goto (-78), 3) := by decide +kernel
theorem dX6_convergent_160 : decode cX6_convergent 160 = .ok (.iload_n 3, 1) := by decide +kernel
theorem dX6_convergent_161 : decode cX6_convergent 161 = .ok (.ifCond .ne 8, 3) := by decide +kernel
theorem dX6_convergent_164 : decode cX6_convergent 164 = .ok (.lload 4, 2) := by decide +kernel
theorem dX6_convergent_166 : decode cX6_convergent 166 = .ok (.goto 5, 3) := by decide +kernel
theorem dX6_convergent_169 : decode cX6_convergent 169 = .ok (.lload 6, 2) := by decide +kernel
theorem dX6_convergent_171 : decode cX6_convergent 171 = .ok (.lreturn, 1) := by decide +kernel
theorem dX6_twoSquares_0 : decode cX6_twoSquares 0 = .ok (.iload_n 1, 1) := by decide +kernel
theorem dX6_twoSquares_1 : decode cX6_twoSquares 1 = .ok (.iconst 0, 1) := by decide +kernel
theorem dX6_twoSquares_2 : decode cX6_twoSquares 2 = .ok (.ldc 177, 2) := by decide +kernel
theorem dX6_twoSquares_4 : decode cX6_twoSquares 4 = .ok (.invokestatic 57, 3) := by decide +kernel
theorem dX6_twoSquares_7 : decode cX6_twoSquares 7 = .ok (.ifCond .eq 12, 3) := by decide +kernel
theorem dX6_twoSquares_10 : decode cX6_twoSquares 10 = .ok (.iload_n 2, 1) := by decide +kernel
theorem dX6_twoSquares_11 : decode cX6_twoSquares 11 = .ok (.iconst 0, 1) := by decide +kernel
theorem dX6_twoSquares_12 : decode cX6_twoSquares 12 = .ok (.iconst 2, 1) := by decide +kernel
theorem dX6_twoSquares_13 : decode cX6_twoSquares 13 = .ok (.invokestatic 57, 3) := by decide +kernel
theorem dX6_twoSquares_16 : decode cX6_twoSquares 16 = .ok (.ifCond .ne 6, 3) := by decide +kernel
theorem dX6_twoSquares_19 : decode cX6_twoSquares 19 = .ok (.bipush (-2), 2) := by decide +kernel
theorem dX6_twoSquares_21 : decode cX6_twoSquares 21 = .ok (.ireturn, 1) := by decide +kernel
theorem dX6_twoSquares_22 : decode cX6_twoSquares 22 = .ok (.iconst 0, 1) := by decide +kernel
theorem dX6_twoSquares_23 : decode cX6_twoSquares 23 = .ok (.istore_n 3, 1) := by decide +kernel
theorem dX6_twoSquares_24 : decode cX6_twoSquares 24 = .ok (.bipush (-6), 2) := by decide +kernel
theorem dX6_twoSquares_26 : decode cX6_twoSquares 26 = .ok (.istore 4, 2) := by decide +kernel
theorem dX6_twoSquares_28 : decode cX6_twoSquares 28 = .ok (.bipush (-6), 2) := by decide +kernel
theorem dX6_twoSquares_30 : decode cX6_twoSquares 30 = .ok (.istore 5, 2) := by decide +kernel
theorem dX6_twoSquares_32 : decode cX6_twoSquares 32 = .ok (.iconst 0, 1) := by decide +kernel
theorem dX6_twoSquares_33 : decode cX6_twoSquares 33 = .ok (.istore 6, 2) := by decide +kernel
theorem dX6_twoSquares_35 : decode cX6_twoSquares 35 = .ok (.iconst 2, 1) := by decide +kernel
theorem dX6_twoSquares_36 : decode cX6_twoSquares 36 = .ok (.iload 6, 2) := by decide +kernel
theorem dX6_twoSquares_38 : decode cX6_twoSquares 38 = .ok (.imul, 1) := by decide +kernel
theorem dX6_twoSquares_39 : decode cX6_twoSquares 39 = .ok (.iload 6, 2) := by decide +kernel
theorem dX6_twoSquares_41 : decode cX6_twoSquares 41 = .ok (.imul, 1) := by decide +kernel
theorem dX6_twoSquares_42 : decode cX6_twoSquares 42 = .ok (.iload_n 1, 1) := by decide +kernel
theorem dX6_twoSquares_43 : decode cX6_twoSquares 43 = .ok (.if_icmp .gt 68, 3) := by decide +kernel
theorem dX6_twoSquares_46 : decode cX6_twoSquares 46 = .ok (.iload_n 1, 1) := by decide +kernel
theorem dX6_twoSquares_47 : decode cX6_twoSquares 47 = .ok (.iload 6, 2) := by decide +kernel
theorem dX6_twoSquares_49 : decode cX6_twoSquares 49 = .ok (.iload 6, 2) := by decide +kernel
theorem dX6_twoSquares_51 : decode cX6_twoSquares 51 = .ok (.imul, 1) := by decide +kernel
theorem dX6_twoSquares_52 : decode cX6_twoSquares 52 = .ok (.isub, 1) := by decide +kernel
theorem dX6_twoSquares_53 : decode cX6_twoSquares 53 = .ok (.i2l, 1) := by decide +kernel
theorem dX6_twoSquares_54 : decode cX6_twoSquares 54 = .ok (.iconst 2, 1) := by decide +kernel
theorem dX6_twoSquares_55 : decode cX6_twoSquares 55 = .ok (.invokestatic 133, 3) := by decide +kernel
theorem dX6_twoSquares_58 : decode cX6_twoSquares 58 = .ok (.l2i, 1) := by decide +kernel
theorem dX6_twoSquares_59 : decode cX6_twoSquares 59 = .ok (.istore 7, 2) := by decide +kernel
theorem dX6_twoSquares_61 : decode cX6_twoSquares 61 = .ok (.iload 6, 2) := by decide +kernel
theorem dX6_twoSquares_63 : decode cX6_twoSquares 63 = .ok (.iload 6, 2) := by decide +kernel
theorem dX6_twoSquares_65 : decode cX6_twoSquares 65 = .ok (.imul, 1) := by decide +kernel
theorem dX6_twoSquares_66 : decode cX6_twoSquares 66 = .ok (.iload 7, 2) := by decide +kernel
theorem dX6_twoSquares_68 : decode cX6_twoSquares 68 = .ok (.iload 7, 2) := by decide +kernel
theorem dX6_twoSquares_70 : decode cX6_twoSquares 70 = .ok (.imul, 1) := by decide +kernel
theorem dX6_twoSquares_71 : decode cX6_twoSquares 71 = .ok (.iadd, 1) := by decide +kernel
theorem dX6_twoSquares_72 : decode cX6_twoSquares 72 = .ok (.iload_n 1, 1) := by decide +kernel
theorem dX6_twoSquares_73 : decode cX6_twoSquares 73 = .ok (.if_icmp .ne 32, 3) := by decide +kernel
theorem dX6_twoSquares_76 : decode cX6_twoSquares 76 = .ok (.iload_n 3, 1) := by decide +kernel
theorem dX6_twoSquares_77 : decode cX6_twoSquares 77 = .ok (.ifCond .ne 8, 3) := by decide +kernel
theorem dX6_twoSquares_80 : decode cX6_twoSquares 80 = .ok (.iload 6, 2) := by decide +kernel
theorem dX6_twoSquares_82 : decode cX6_twoSquares 82 = .ok (.goto 5, 3) := by decide +kernel
theorem dX6_twoSquares_85 : decode cX6_twoSquares 85 = .ok (.iload 4, 2) := by decide +kernel
theorem dX6_twoSquares_87 : decode cX6_twoSquares 87 = .ok (.istore 4, 2) := by decide +kernel
theorem dX6_twoSquares_89 : decode cX6_twoSquares 89 = .ok (.iload_n 3, 1) := by decide +kernel
theorem dX6_twoSquares_90 : decode cX6_twoSquares 90 = .ok (.ifCond .ne 8, 3) := by decide +kernel
theorem dX6_twoSquares_93 : decode cX6_twoSquares 93 = .ok (.iload 7, 2) := by decide +kernel
theorem dX6_twoSquares_95 : decode cX6_twoSquares 95 = .ok (.goto 5, 3) := by decide +kernel
theorem dX6_twoSquares_98 : decode cX6_twoSquares 98 = .ok (.iload 5, 2) := by decide +kernel
theorem dX6_twoSquares_100 : decode cX6_twoSquares 100 = .ok (.istore 5, 2) := by decide +kernel
theorem dX6_twoSquares_102 : decode cX6_twoSquares 102 = .ok (.iinc 3 1, 3) := by decide +kernel
theorem dX6_twoSquares_105 : decode cX6_twoSquares 105 = .ok (.iinc 6 1, 3) := by decide +kernel
theorem dX6_twoSquares_108 : decode cX6_twoSquares 108 = .ok (.goto (-73), 3) := by decide +kernel
theorem dX6_twoSquares_111 : decode cX6_twoSquares 111 = .ok (.iload_n 2, 1) := by decide +kernel
theorem dX6_twoSquares_112 : decode cX6_twoSquares 112 = .ok (.ifCond .ne 7, 3) := by decide +kernel
theorem dX6_twoSquares_115 : decode cX6_twoSquares 115 = .ok (.iload_n 3, 1) := by decide +kernel
theorem dX6_twoSquares_116 : decode cX6_twoSquares 116 = .ok (.goto 15, 3) := by decide +kernel
theorem dX6_twoSquares_119 : decode cX6_twoSquares 119 = .ok (.iload_n 2, 1) := by decide +kernel
theorem dX6_twoSquares_120 : decode cX6_twoSquares 120 = .ok (.iconst 1, 1) := by decide +kernel
theorem dX6_twoSquares_121 : decode cX6_twoSquares 121 = .ok (.if_icmp .ne 8, 3) := by decide +kernel
theorem dX6_twoSquares_124 : decode cX6_twoSquares 124 = .ok (.iload 4, 2) := by decide +kernel
theorem dX6_twoSquares_126 : decode cX6_twoSquares 126 = .ok (.goto 5, 3) := by decide +kernel
theorem dX6_twoSquares_129 : decode cX6_twoSquares 129 = .ok (.iload 5, 2) := by decide +kernel
theorem dX6_twoSquares_131 : decode cX6_twoSquares 131 = .ok (.ireturn, 1) := by decide +kernel
theorem dX6_powersTo_0 : decode cX6_powersTo 0 = .ok (.lload_n 0, 1) := by decide +kernel
theorem dX6_powersTo_1 : decode cX6_powersTo 1 = .ok (.lconst 0, 1) := by decide +kernel
theorem dX6_powersTo_2 : decode cX6_powersTo 2 = .ok (.lcmp, 1) := by decide +kernel
theorem dX6_powersTo_3 : decode cX6_powersTo 3 = .ok (.ifCond .ge 7, 3) := by decide +kernel
theorem dX6_powersTo_6 : decode cX6_powersTo 6 = .ok (.lconst 0, 1) := by decide +kernel
theorem dX6_powersTo_7 : decode cX6_powersTo 7 = .ok (.goto 26, 3) := by decide +kernel
theorem dX6_powersTo_10 : decode cX6_powersTo 10 = .ok (.lload_n 0, 1) := by decide +kernel
theorem dX6_powersTo_11 : decode cX6_powersTo 11 = .ok (.iconst 2, 1) := by decide +kernel
theorem dX6_powersTo_12 : decode cX6_powersTo 12 = .ok (.invokestatic 133, 3) := by decide +kernel
theorem dX6_powersTo_15 : decode cX6_powersTo 15 = .ok (.lload_n 0, 1) := by decide +kernel
theorem dX6_powersTo_16 : decode cX6_powersTo 16 = .ok (.iconst 3, 1) := by decide +kernel
theorem dX6_powersTo_17 : decode cX6_powersTo 17 = .ok (.invokestatic 133, 3) := by decide +kernel
theorem dX6_powersTo_20 : decode cX6_powersTo 20 = .ok (.ladd, 1) := by decide +kernel
theorem dX6_powersTo_21 : decode cX6_powersTo 21 = .ok (.lload_n 0, 1) := by decide +kernel
theorem dX6_powersTo_22 : decode cX6_powersTo 22 = .ok (.iconst 2, 1) := by decide +kernel
theorem dX6_powersTo_23 : decode cX6_powersTo 23 = .ok (.invokestatic 133, 3) := by decide +kernel
theorem dX6_powersTo_26 : decode cX6_powersTo 26 = .ok (.iconst 3, 1) := by decide +kernel
theorem dX6_powersTo_27 : decode cX6_powersTo 27 = .ok (.invokestatic 133, 3) := by decide +kernel
theorem dX6_powersTo_30 : decode cX6_powersTo 30 = .ok (.lsub, 1) := by decide +kernel
theorem dX6_powersTo_31 : decode cX6_powersTo 31 = .ok (.lconst 1, 1) := by decide +kernel
theorem dX6_powersTo_32 : decode cX6_powersTo 32 = .ok (.ladd, 1) := by decide +kernel
theorem dX6_powersTo_33 : decode cX6_powersTo 33 = .ok (.lreturn, 1) := by decide +kernel
theorem dX6_powers_0 : decode cX6_powers 0 = .ok (.lload_n 1, 1) := by decide +kernel
theorem dX6_powers_1 : decode cX6_powers 1 = .ok (.invokestatic 66, 3) := by decide +kernel
theorem dX6_powers_4 : decode cX6_powers 4 = .ok (.ifCond .eq 17, 3) := by decide +kernel
theorem dX6_powers_7 : decode cX6_powers 7 = .ok (.lload_n 3, 1) := by decide +kernel
theorem dX6_powers_8 : decode cX6_powers 8 = .ok (.lload_n 1, 1) := by decide +kernel
theorem dX6_powers_9 : decode cX6_powers 9 = .ok (.lcmp, 1) := by decide +kernel
theorem dX6_powers_10 : decode cX6_powers 10 = .ok (.ifCond .lt 11, 3) := by decide +kernel
theorem dX6_powers_13 : decode cX6_powers 13 = .ok (.lload_n 3, 1) := by decide +kernel
theorem dX6_powers_14 : decode cX6_powers 14 = .ok (.ldc2_w 51, 3) := by decide +kernel
theorem dX6_powers_17 : decode cX6_powers 17 = .ok (.lcmp, 1) := by decide +kernel
theorem dX6_powers_18 : decode cX6_powers 18 = .ok (.ifCond .le 6, 3) := by decide +kernel
theorem dX6_powers_21 : decode cX6_powers 21 = .ok (.bipush (-2), 2) := by decide +kernel
theorem dX6_powers_23 : decode cX6_powers 23 = .ok (.ireturn, 1) := by decide +kernel
theorem dX6_powers_24 : decode cX6_powers 24 = .ok (.lload_n 3, 1) := by decide +kernel
theorem dX6_powers_25 : decode cX6_powers 25 = .ok (.invokestatic 207, 3) := by decide +kernel
theorem dX6_powers_28 : decode cX6_powers 28 = .ok (.lload_n 1, 1) := by decide +kernel
theorem dX6_powers_29 : decode cX6_powers 29 = .ok (.lconst 1, 1) := by decide +kernel
theorem dX6_powers_30 : decode cX6_powers 30 = .ok (.lsub, 1) := by decide +kernel
theorem dX6_powers_31 : decode cX6_powers 31 = .ok (.invokestatic 207, 3) := by decide +kernel
theorem dX6_powers_34 : decode cX6_powers 34 = .ok (.lsub, 1) := by decide +kernel
theorem dX6_powers_35 : decode cX6_powers 35 = .ok (.l2i, 1) := by decide +kernel
theorem dX6_powers_36 : decode cX6_powers 36 = .ok (.ireturn, 1) := by decide +kernel
theorem dX6_rootSum_0 : decode cX6_rootSum 0 = .ok (.iload_n 1, 1) := by decide +kernel
theorem dX6_rootSum_1 : decode cX6_rootSum 1 = .ok (.iconst 0, 1) := by decide +kernel
theorem dX6_rootSum_2 : decode cX6_rootSum 2 = .ok (.ldc 211, 2) := by decide +kernel
theorem dX6_rootSum_4 : decode cX6_rootSum 4 = .ok (.invokestatic 57, 3) := by decide +kernel
theorem dX6_rootSum_7 : decode cX6_rootSum 7 = .ok (.ifCond .ne 7, 3) := by decide +kernel
theorem dX6_rootSum_10 : decode cX6_rootSum 10 = .ok (.ldc2_w 70, 3) := by decide +kernel
theorem dX6_rootSum_13 : decode cX6_rootSum 13 = .ok (.lreturn, 1) := by decide +kernel
theorem dX6_rootSum_14 : decode cX6_rootSum 14 = .ok (.iload_n 1, 1) := by decide +kernel
theorem dX6_rootSum_15 : decode cX6_rootSum 15 = .ok (.i2l, 1) := by decide +kernel
theorem dX6_rootSum_16 : decode cX6_rootSum 16 = .ok (.iconst 2, 1) := by decide +kernel
theorem dX6_rootSum_17 : decode cX6_rootSum 17 = .ok (.invokestatic 133, 3) := by decide +kernel
theorem dX6_rootSum_20 : decode cX6_rootSum 20 = .ok (.lstore_n 2, 1) := by decide +kernel
theorem dX6_rootSum_21 : decode cX6_rootSum 21 = .ok (.lload_n 2, 1) := by decide +kernel
theorem dX6_rootSum_22 : decode cX6_rootSum 22 = .ok (.iload_n 1, 1) := by decide +kernel
theorem dX6_rootSum_23 : decode cX6_rootSum 23 = .ok (.i2l, 1) := by decide +kernel
theorem dX6_rootSum_24 : decode cX6_rootSum 24 = .ok (.lload_n 2, 1) := by decide +kernel
theorem dX6_rootSum_25 : decode cX6_rootSum 25 = .ok (.lload_n 2, 1) := by decide +kernel
theorem dX6_rootSum_26 : decode cX6_rootSum 26 = .ok (.lmul, 1) := by decide +kernel
theorem dX6_rootSum_27 : decode cX6_rootSum 27 = .ok (.lsub, 1) := by decide +kernel
theorem dX6_rootSum_28 : decode cX6_rootSum 28 = .ok (.lconst 1, 1) := by decide +kernel
theorem dX6_rootSum_29 : decode cX6_rootSum 29 = .ok (.ladd, 1) := by decide +kernel
theorem dX6_rootSum_30 : decode cX6_rootSum 30 = .ok (.lmul, 1) := by decide +kernel
theorem dX6_rootSum_31 : decode cX6_rootSum 31 = .ok (.lstore 4, 2) := by decide +kernel
theorem dX6_rootSum_33 : decode cX6_rootSum 33 = .ok (.lconst 1, 1) := by decide +kernel
theorem dX6_rootSum_34 : decode cX6_rootSum 34 = .ok (.lstore 6, 2) := by decide +kernel
theorem dX6_rootSum_36 : decode cX6_rootSum 36 = .ok (.lload 6, 2) := by decide +kernel
theorem dX6_rootSum_38 : decode cX6_rootSum 38 = .ok (.lload_n 2, 1) := by decide +kernel
theorem dX6_rootSum_39 : decode cX6_rootSum 39 = .ok (.lcmp, 1) := by decide +kernel
theorem dX6_rootSum_40 : decode cX6_rootSum 40 = .ok (.ifCond .ge 28, 3) := by decide +kernel
theorem dX6_rootSum_43 : decode cX6_rootSum 43 = .ok (.lload 4, 2) := by decide +kernel
theorem dX6_rootSum_45 : decode cX6_rootSum 45 = .ok (.lload 6, 2) := by decide +kernel
theorem dX6_rootSum_47 : decode cX6_rootSum 47 = .ok (.ldc2_w 124, 3) := by decide +kernel
theorem dX6_rootSum_50 : decode cX6_rootSum 50 = .ok (.lload 6, 2) := by decide +kernel
theorem dX6_rootSum_52 : decode cX6_rootSum 52 = .ok (.lmul, 1) := by decide +kernel
theorem dX6_rootSum_53 : decode cX6_rootSum 53 = .ok (.lconst 1, 1) := by decide +kernel
theorem dX6_rootSum_54 : decode cX6_rootSum 54 = .ok (.ladd, 1) := by decide +kernel
theorem dX6_rootSum_55 : decode cX6_rootSum 55 = .ok (.lmul, 1) := by decide +kernel
theorem dX6_rootSum_56 : decode cX6_rootSum 56 = .ok (.ladd, 1) := by decide +kernel
theorem dX6_rootSum_57 : decode cX6_rootSum 57 = .ok (.lstore 4, 2) := by decide +kernel
theorem dX6_rootSum_59 : decode cX6_rootSum 59 = .ok (.lload 6, 2) := by decide +kernel
theorem dX6_rootSum_61 : decode cX6_rootSum 61 = .ok (.lconst 1, 1) := by decide +kernel
theorem dX6_rootSum_62 : decode cX6_rootSum 62 = .ok (.ladd, 1) := by decide +kernel
theorem dX6_rootSum_63 : decode cX6_rootSum 63 = .ok (.lstore 6, 2) := by decide +kernel
theorem dX6_rootSum_65 : decode cX6_rootSum 65 = .ok (.goto (-29), 3) := by decide +kernel
theorem dX6_rootSum_68 : decode cX6_rootSum 68 = .ok (.lload 4, 2) := by decide +kernel
theorem dX6_rootSum_70 : decode cX6_rootSum 70 = .ok (.lreturn, 1) := by decide +kernel
theorem dX6_undo_0 : decode cX6_undo 0 = .ok (.aload_n 0, 1) := by decide +kernel
theorem dX6_undo_1 : decode cX6_undo 1 = .ok (.getfield 53, 3) := by decide +kernel
theorem dX6_undo_4 : decode cX6_undo 4 = .ok (.ifCond .ne 6, 3) := by decide +kernel
theorem dX6_undo_7 : decode cX6_undo 7 = .ok (.bipush (-5), 2) := by decide +kernel
theorem dX6_undo_9 : decode cX6_undo 9 = .ok (.ireturn, 1) := by decide +kernel
theorem dX6_undo_10 : decode cX6_undo 10 = .ok (.aload_n 0, 1) := by decide +kernel
theorem dX6_undo_11 : decode cX6_undo 11 = .ok (.dup, 1) := by decide +kernel
theorem dX6_undo_12 : decode cX6_undo 12 = .ok (.getfield 53, 3) := by decide +kernel
theorem dX6_undo_15 : decode cX6_undo 15 = .ok (.iconst 1, 1) := by decide +kernel
theorem dX6_undo_16 : decode cX6_undo 16 = .ok (.isub, 1) := by decide +kernel
theorem dX6_undo_17 : decode cX6_undo 17 = .ok (.putfield 53, 3) := by decide +kernel
theorem dX6_undo_20 : decode cX6_undo 20 = .ok (.iconst 0, 1) := by decide +kernel
theorem dX6_undo_21 : decode cX6_undo 21 = .ok (.istore_n 1, 1) := by decide +kernel
theorem dX6_undo_22 : decode cX6_undo 22 = .ok (.iload_n 1, 1) := by decide +kernel
theorem dX6_undo_23 : decode cX6_undo 23 = .ok (.sipush 728, 3) := by decide +kernel
theorem dX6_undo_26 : decode cX6_undo 26 = .ok (.if_icmp .ge 30, 3) := by decide +kernel
theorem dX6_undo_29 : decode cX6_undo 29 = .ok (.aload_n 0, 1) := by decide +kernel
theorem dX6_undo_30 : decode cX6_undo 30 = .ok (.getfield 7, 3) := by decide +kernel
theorem dX6_undo_33 : decode cX6_undo 33 = .ok (.iload_n 1, 1) := by decide +kernel
theorem dX6_undo_34 : decode cX6_undo 34 = .ok (.aload_n 0, 1) := by decide +kernel
theorem dX6_undo_35 : decode cX6_undo 35 = .ok (.getfield 17, 3) := by decide +kernel
theorem dX6_undo_38 : decode cX6_undo 38 = .ok (.aload_n 0, 1) := by decide +kernel
theorem dX6_undo_39 : decode cX6_undo 39 = .ok (.getfield 53, 3) := by decide +kernel
theorem dX6_undo_42 : decode cX6_undo 42 = .ok (.sipush 728, 3) := by decide +kernel
theorem dX6_undo_45 : decode cX6_undo 45 = .ok (.imul, 1) := by decide +kernel
theorem dX6_undo_46 : decode cX6_undo 46 = .ok (.iload_n 1, 1) := by decide +kernel
theorem dX6_undo_47 : decode cX6_undo 47 = .ok (.iadd, 1) := by decide +kernel
theorem dX6_undo_48 : decode cX6_undo 48 = .ok (.iaload, 1) := by decide +kernel
theorem dX6_undo_49 : decode cX6_undo 49 = .ok (.iastore, 1) := by decide +kernel
theorem dX6_undo_50 : decode cX6_undo 50 = .ok (.iinc 1 1, 3) := by decide +kernel
theorem dX6_undo_53 : decode cX6_undo 53 = .ok (.goto (-31), 3) := by decide +kernel
theorem dX6_undo_56 : decode cX6_undo 56 = .ok (.iconst 0, 1) := by decide +kernel
theorem dX6_undo_57 : decode cX6_undo 57 = .ok (.istore_n 1, 1) := by decide +kernel
theorem dX6_undo_58 : decode cX6_undo 58 = .ok (.iload_n 1, 1) := by decide +kernel
theorem dX6_undo_59 : decode cX6_undo 59 = .ok (.bipush 8, 2) := by decide +kernel
theorem dX6_undo_61 : decode cX6_undo 61 = .ok (.if_icmp .ge 29, 3) := by decide +kernel
theorem dX6_undo_64 : decode cX6_undo 64 = .ok (.aload_n 0, 1) := by decide +kernel
theorem dX6_undo_65 : decode cX6_undo 65 = .ok (.getfield 13, 3) := by decide +kernel
theorem dX6_undo_68 : decode cX6_undo 68 = .ok (.iload_n 1, 1) := by decide +kernel
theorem dX6_undo_69 : decode cX6_undo 69 = .ok (.aload_n 0, 1) := by decide +kernel
theorem dX6_undo_70 : decode cX6_undo 70 = .ok (.getfield 20, 3) := by decide +kernel
theorem dX6_undo_73 : decode cX6_undo 73 = .ok (.aload_n 0, 1) := by decide +kernel
theorem dX6_undo_74 : decode cX6_undo 74 = .ok (.getfield 53, 3) := by decide +kernel
theorem dX6_undo_77 : decode cX6_undo 77 = .ok (.bipush 8, 2) := by decide +kernel
theorem dX6_undo_79 : decode cX6_undo 79 = .ok (.imul, 1) := by decide +kernel
theorem dX6_undo_80 : decode cX6_undo 80 = .ok (.iload_n 1, 1) := by decide +kernel
theorem dX6_undo_81 : decode cX6_undo 81 = .ok (.iadd, 1) := by decide +kernel
theorem dX6_undo_82 : decode cX6_undo 82 = .ok (.laload, 1) := by decide +kernel
theorem dX6_undo_83 : decode cX6_undo 83 = .ok (.lastore, 1) := by decide +kernel
theorem dX6_undo_84 : decode cX6_undo 84 = .ok (.iinc 1 1, 3) := by decide +kernel
theorem dX6_undo_87 : decode cX6_undo 87 = .ok (.goto (-29), 3) := by decide +kernel
theorem dX6_undo_90 : decode cX6_undo 90 = .ok (.aload_n 0, 1) := by decide +kernel
theorem dX6_undo_91 : decode cX6_undo 91 = .ok (.getfield 53, 3) := by decide +kernel
theorem dX6_undo_94 : decode cX6_undo 94 = .ok (.ireturn, 1) := by decide +kernel
theorem dX6_save_0 : decode cX6_save 0 = .ok (.iload_n 1, 1) := by decide +kernel
theorem dX6_save_1 : decode cX6_save 1 = .ok (.iconst 0, 1) := by decide +kernel
theorem dX6_save_2 : decode cX6_save 2 = .ok (.iconst 1, 1) := by decide +kernel
theorem dX6_save_3 : decode cX6_save 3 = .ok (.invokestatic 57, 3) := by decide +kernel
theorem dX6_save_6 : decode cX6_save 6 = .ok (.ifCond .ne 6, 3) := by decide +kernel
theorem dX6_save_9 : decode cX6_save 9 = .ok (.bipush (-2), 2) := by decide +kernel
theorem dX6_save_11 : decode cX6_save 11 = .ok (.ireturn, 1) := by decide +kernel
theorem dX6_save_12 : decode cX6_save 12 = .ok (.iconst 0, 1) := by decide +kernel
theorem dX6_save_13 : decode cX6_save 13 = .ok (.istore_n 2, 1) := by decide +kernel
theorem dX6_save_14 : decode cX6_save 14 = .ok (.iload_n 2, 1) := by decide +kernel
theorem dX6_save_15 : decode cX6_save 15 = .ok (.sipush 728, 3) := by decide +kernel
theorem dX6_save_18 : decode cX6_save 18 = .ok (.if_icmp .ge 27, 3) := by decide +kernel
theorem dX6_save_21 : decode cX6_save 21 = .ok (.aload_n 0, 1) := by decide +kernel
theorem dX6_save_22 : decode cX6_save 22 = .ok (.getfield 23, 3) := by decide +kernel
theorem dX6_save_25 : decode cX6_save 25 = .ok (.iload_n 1, 1) := by decide +kernel
theorem dX6_save_26 : decode cX6_save 26 = .ok (.sipush 728, 3) := by decide +kernel
theorem dX6_save_29 : decode cX6_save 29 = .ok (.imul, 1) := by decide +kernel
theorem dX6_save_30 : decode cX6_save 30 = .ok (.iload_n 2, 1) := by decide +kernel
theorem dX6_save_31 : decode cX6_save 31 = .ok (.iadd, 1) := by decide +kernel
theorem dX6_save_32 : decode cX6_save 32 = .ok (.aload_n 0, 1) := by decide +kernel
theorem dX6_save_33 : decode cX6_save 33 = .ok (.getfield 7, 3) := by decide +kernel
theorem dX6_save_36 : decode cX6_save 36 = .ok (.iload_n 2, 1) := by decide +kernel
theorem dX6_save_37 : decode cX6_save 37 = .ok (.iaload, 1) := by decide +kernel
theorem dX6_save_38 : decode cX6_save 38 = .ok (.iastore, 1) := by decide +kernel
theorem dX6_save_39 : decode cX6_save 39 = .ok (.iinc 2 1, 3) := by decide +kernel
theorem dX6_save_42 : decode cX6_save 42 = .ok (.goto (-28), 3) := by decide +kernel
theorem dX6_save_45 : decode cX6_save 45 = .ok (.iconst 0, 1) := by decide +kernel
theorem dX6_save_46 : decode cX6_save 46 = .ok (.istore_n 2, 1) := by decide +kernel
theorem dX6_save_47 : decode cX6_save 47 = .ok (.iload_n 2, 1) := by decide +kernel
theorem dX6_save_48 : decode cX6_save 48 = .ok (.bipush 8, 2) := by decide +kernel
theorem dX6_save_50 : decode cX6_save 50 = .ok (.if_icmp .ge 26, 3) := by decide +kernel
theorem dX6_save_53 : decode cX6_save 53 = .ok (.aload_n 0, 1) := by decide +kernel
theorem dX6_save_54 : decode cX6_save 54 = .ok (.getfield 26, 3) := by decide +kernel
theorem dX6_save_57 : decode cX6_save 57 = .ok (.iload_n 1, 1) := by decide +kernel
theorem dX6_save_58 : decode cX6_save 58 = .ok (.bipush 8, 2) := by decide +kernel
theorem dX6_save_60 : decode cX6_save 60 = .ok (.imul, 1) := by decide +kernel
theorem dX6_save_61 : decode cX6_save 61 = .ok (.iload_n 2, 1) := by decide +kernel
theorem dX6_save_62 : decode cX6_save 62 = .ok (.iadd, 1) := by decide +kernel
theorem dX6_save_63 : decode cX6_save 63 = .ok (.aload_n 0, 1) := by decide +kernel
theorem dX6_save_64 : decode cX6_save 64 = .ok (.getfield 13, 3) := by decide +kernel
theorem dX6_save_67 : decode cX6_save 67 = .ok (.iload_n 2, 1) := by decide +kernel
theorem dX6_save_68 : decode cX6_save 68 = .ok (.laload, 1) := by decide +kernel
theorem dX6_save_69 : decode cX6_save 69 = .ok (.lastore, 1) := by decide +kernel
theorem dX6_save_70 : decode cX6_save 70 = .ok (.iinc 2 1, 3) := by decide +kernel
theorem dX6_save_73 : decode cX6_save 73 = .ok (.goto (-26), 3) := by decide +kernel
theorem dX6_save_76 : decode cX6_save 76 = .ok (.aload_n 0, 1) := by decide +kernel
theorem dX6_save_77 : decode cX6_save 77 = .ok (.getfield 29, 3) := by decide +kernel
theorem dX6_save_80 : decode cX6_save 80 = .ok (.iload_n 1, 1) := by decide +kernel
theorem dX6_save_81 : decode cX6_save 81 = .ok (.iconst 1, 1) := by decide +kernel
theorem dX6_save_82 : decode cX6_save 82 = .ok (.bastore, 1) := by decide +kernel
theorem dX6_save_83 : decode cX6_save 83 = .ok (.aload_n 0, 1) := by decide +kernel
theorem dX6_save_84 : decode cX6_save 84 = .ok (.invokevirtual 168, 3) := by decide +kernel
theorem dX6_save_87 : decode cX6_save 87 = .ok (.ireturn, 1) := by decide +kernel
theorem dX6_restore_0 : decode cX6_restore 0 = .ok (.iload_n 1, 1) := by decide +kernel
theorem dX6_restore_1 : decode cX6_restore 1 = .ok (.iconst 0, 1) := by decide +kernel
theorem dX6_restore_2 : decode cX6_restore 2 = .ok (.iconst 1, 1) := by decide +kernel
theorem dX6_restore_3 : decode cX6_restore 3 = .ok (.invokestatic 57, 3) := by decide +kernel
theorem dX6_restore_6 : decode cX6_restore 6 = .ok (.ifCond .ne 6, 3) := by decide +kernel
theorem dX6_restore_9 : decode cX6_restore 9 = .ok (.bipush (-2), 2) := by decide +kernel
theorem dX6_restore_11 : decode cX6_restore 11 = .ok (.ireturn, 1) := by decide +kernel
theorem dX6_restore_12 : decode cX6_restore 12 = .ok (.aload_n 0, 1) := by decide +kernel
theorem dX6_restore_13 : decode cX6_restore 13 = .ok (.getfield 29, 3) := by decide +kernel
theorem dX6_restore_16 : decode cX6_restore 16 = .ok (.iload_n 1, 1) := by decide +kernel
theorem dX6_restore_17 : decode cX6_restore 17 = .ok (.baload, 1) := by decide +kernel
theorem dX6_restore_18 : decode cX6_restore 18 = .ok (.ifCond .ne 6, 3) := by decide +kernel
theorem dX6_restore_21 : decode cX6_restore 21 = .ok (.bipush (-5), 2) := by decide +kernel
theorem dX6_restore_23 : decode cX6_restore 23 = .ok (.ireturn, 1) := by decide +kernel
theorem dX6_restore_24 : decode cX6_restore 24 = .ok (.aload_n 0, 1) := by decide +kernel
theorem dX6_restore_25 : decode cX6_restore 25 = .ok (.invokevirtual 61, 3) := by decide +kernel
theorem dX6_restore_28 : decode cX6_restore 28 = .ok (.iconst 0, 1) := by decide +kernel
theorem dX6_restore_29 : decode cX6_restore 29 = .ok (.istore_n 2, 1) := by decide +kernel
theorem dX6_restore_30 : decode cX6_restore 30 = .ok (.iload_n 2, 1) := by decide +kernel
theorem dX6_restore_31 : decode cX6_restore 31 = .ok (.sipush 728, 3) := by decide +kernel
theorem dX6_restore_34 : decode cX6_restore 34 = .ok (.if_icmp .ge 27, 3) := by decide +kernel
theorem dX6_restore_37 : decode cX6_restore 37 = .ok (.aload_n 0, 1) := by decide +kernel
theorem dX6_restore_38 : decode cX6_restore 38 = .ok (.getfield 7, 3) := by decide +kernel
theorem dX6_restore_41 : decode cX6_restore 41 = .ok (.iload_n 2, 1) := by decide +kernel
theorem dX6_restore_42 : decode cX6_restore 42 = .ok (.aload_n 0, 1) := by decide +kernel
theorem dX6_restore_43 : decode cX6_restore 43 = .ok (.getfield 23, 3) := by decide +kernel
theorem dX6_restore_46 : decode cX6_restore 46 = .ok (.iload_n 1, 1) := by decide +kernel
theorem dX6_restore_47 : decode cX6_restore 47 = .ok (.sipush 728, 3) := by decide +kernel
theorem dX6_restore_50 : decode cX6_restore 50 = .ok (.imul, 1) := by decide +kernel
theorem dX6_restore_51 : decode cX6_restore 51 = .ok (.iload_n 2, 1) := by decide +kernel
theorem dX6_restore_52 : decode cX6_restore 52 = .ok (.iadd, 1) := by decide +kernel
theorem dX6_restore_53 : decode cX6_restore 53 = .ok (.iaload, 1) := by decide +kernel
theorem dX6_restore_54 : decode cX6_restore 54 = .ok (.iastore, 1) := by decide +kernel
theorem dX6_restore_55 : decode cX6_restore 55 = .ok (.iinc 2 1, 3) := by decide +kernel
theorem dX6_restore_58 : decode cX6_restore 58 = .ok (.goto (-28), 3) := by decide +kernel
theorem dX6_restore_61 : decode cX6_restore 61 = .ok (.iconst 0, 1) := by decide +kernel
theorem dX6_restore_62 : decode cX6_restore 62 = .ok (.istore_n 2, 1) := by decide +kernel
theorem dX6_restore_63 : decode cX6_restore 63 = .ok (.iload_n 2, 1) := by decide +kernel
theorem dX6_restore_64 : decode cX6_restore 64 = .ok (.bipush 8, 2) := by decide +kernel
theorem dX6_restore_66 : decode cX6_restore 66 = .ok (.if_icmp .ge 26, 3) := by decide +kernel
theorem dX6_restore_69 : decode cX6_restore 69 = .ok (.aload_n 0, 1) := by decide +kernel
theorem dX6_restore_70 : decode cX6_restore 70 = .ok (.getfield 13, 3) := by decide +kernel
theorem dX6_restore_73 : decode cX6_restore 73 = .ok (.iload_n 2, 1) := by decide +kernel
theorem dX6_restore_74 : decode cX6_restore 74 = .ok (.aload_n 0, 1) := by decide +kernel
theorem dX6_restore_75 : decode cX6_restore 75 = .ok (.getfield 26, 3) := by decide +kernel
theorem dX6_restore_78 : decode cX6_restore 78 = .ok (.iload_n 1, 1) := by decide +kernel
theorem dX6_restore_79 : decode cX6_restore 79 = .ok (.bipush 8, 2) := by decide +kernel
theorem dX6_restore_81 : decode cX6_restore 81 = .ok (.imul, 1) := by decide +kernel
theorem dX6_restore_82 : decode cX6_restore 82 = .ok (.iload_n 2, 1) := by decide +kernel
theorem dX6_restore_83 : decode cX6_restore 83 = .ok (.iadd, 1) := by decide +kernel
theorem dX6_restore_84 : decode cX6_restore 84 = .ok (.laload, 1) := by decide +kernel
theorem dX6_restore_85 : decode cX6_restore 85 = .ok (.lastore, 1) := by decide +kernel
theorem dX6_restore_86 : decode cX6_restore 86 = .ok (.iinc 2 1, 3) := by decide +kernel
theorem dX6_restore_89 : decode cX6_restore 89 = .ok (.goto (-26), 3) := by decide +kernel
theorem dX6_restore_92 : decode cX6_restore 92 = .ok (.aload_n 0, 1) := by decide +kernel
theorem dX6_restore_93 : decode cX6_restore 93 = .ok (.invokevirtual 168, 3) := by decide +kernel
theorem dX6_restore_96 : decode cX6_restore 96 = .ok (.ireturn, 1) := by decide +kernel
