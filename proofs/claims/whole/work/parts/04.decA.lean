theorem dX0_init_0 : decode cX0_init 0 = .ok (.aload_n 0, 1) := by decide +kernel
theorem dX0_init_1 : decode cX0_init 1 = .ok (.invokespecial 3, 3) := by decide +kernel
theorem dX0_init_4 : decode cX0_init 4 = .ok (.aload_n 0, 1) := by decide +kernel
theorem dX0_init_5 : decode cX0_init 5 = .ok (.aload_n 1, 1) := by decide +kernel
theorem dX0_init_6 : decode cX0_init 6 = .ok (.putfield 9, 3) := by decide +kernel
theorem dX0_init_9 : decode cX0_init 9 = .ok (.aload_n 0, 1) := by decide +kernel
theorem dX0_init_10 : decode cX0_init 10 = .ok (.aload_n 2, 1) := by decide +kernel
theorem dX0_init_11 : decode cX0_init 11 = .ok (.putfield 15, 3) := by decide +kernel
theorem dX0_init_14 : decode cX0_init 14 = .ok (.aload_n 0, 1) := by decide +kernel
theorem dX0_init_15 : decode cX0_init 15 = .ok (.aload_n 3, 1) := by decide +kernel
theorem dX0_init_16 : decode cX0_init 16 = .ok (.putfield 19, 3) := by decide +kernel
theorem dX0_init_19 : decode cX0_init 19 = .ok (.aload_n 0, 1) := by decide +kernel
theorem dX0_init_20 : decode cX0_init 20 = .ok (.sipush 300, 3) := by decide +kernel
theorem dX0_init_23 : decode cX0_init 23 = .ok (.newarray .int, 2) := by decide +kernel
theorem dX0_init_25 : decode cX0_init 25 = .ok (.putfield 25, 3) := by decide +kernel
theorem dX0_init_28 : decode cX0_init 28 = .ok (.aload_n 0, 1) := by decide +kernel
theorem dX0_init_29 : decode cX0_init 29 = .ok (.bipush 10, 2) := by decide +kernel
theorem dX0_init_31 : decode cX0_init 31 = .ok (.newarray .int, 2) := by decide +kernel
theorem dX0_init_33 : decode cX0_init 33 = .ok (.putfield 29, 3) := by decide +kernel
theorem dX0_init_36 : decode cX0_init 36 = .ok (.aload_n 0, 1) := by decide +kernel
theorem dX0_init_37 : decode cX0_init 37 = .ok (.bipush 10, 2) := by decide +kernel
theorem dX0_init_39 : decode cX0_init 39 = .ok (.newarray .int, 2) := by decide +kernel
theorem dX0_init_41 : decode cX0_init 41 = .ok (.putfield 32, 3) := by decide +kernel
theorem dX0_init_44 : decode cX0_init 44 = .ok (.return_, 1) := by decide +kernel
theorem dX0_look_0 : decode cX0_look 0 = .ok (.iconst 0, 1) := by decide +kernel
theorem dX0_look_1 : decode cX0_look 1 = .ok (.istore_n 3, 1) := by decide +kernel
theorem dX0_look_2 : decode cX0_look 2 = .ok (.iload_n 3, 1) := by decide +kernel
theorem dX0_look_3 : decode cX0_look 3 = .ok (.aload_n 0, 1) := by decide +kernel
theorem dX0_look_4 : decode cX0_look 4 = .ok (.getfield 19, 3) := by decide +kernel
theorem dX0_look_7 : decode cX0_look 7 = .ok (.getfield 35, 3) := by decide +kernel
theorem dX0_look_10 : decode cX0_look 10 = .ok (.if_icmp .ge 81, 3) := by decide +kernel
theorem dX0_look_13 : decode cX0_look 13 = .ok (.iload_n 1, 1) := by decide +kernel
theorem dX0_look_14 : decode cX0_look 14 = .ok (.istore 4, 2) := by decide +kernel
theorem dX0_look_16 : decode cX0_look 16 = .ok (.iload 4, 2) := by decide +kernel
theorem dX0_look_18 : decode cX0_look 18 = .ok (.iload_n 2, 1) := by decide +kernel
theorem dX0_look_19 : decode cX0_look 19 = .ok (.if_icmp .gt 66, 3) := by decide +kernel
theorem dX0_look_22 : decode cX0_look 22 = .ok (.ldc 39, 2) := by decide +kernel
theorem dX0_look_24 : decode cX0_look 24 = .ok (.istore 5, 2) := by decide +kernel
theorem dX0_look_26 : decode cX0_look 26 = .ok (.aload_n 0, 1) := by decide +kernel
theorem dX0_look_27 : decode cX0_look 27 = .ok (.getfield 15, 3) := by decide +kernel
theorem dX0_look_30 : decode cX0_look 30 = .ok (.iload_n 3, 1) := by decide +kernel
theorem dX0_look_31 : decode cX0_look 31 = .ok (.iload 4, 2) := by decide +kernel
theorem dX0_look_33 : decode cX0_look 33 = .ok (.invokevirtual 40, 3) := by decide +kernel
theorem dX0_look_36 : decode cX0_look 36 = .ok (.ldc 39, 2) := by decide +kernel
theorem dX0_look_38 : decode cX0_look 38 = .ok (.if_icmp .eq 27, 3) := by decide +kernel
theorem dX0_look_41 : decode cX0_look 41 = .ok (.aload_n 0, 1) := by decide +kernel
theorem dX0_look_42 : decode cX0_look 42 = .ok (.getfield 9, 3) := by decide +kernel
theorem dX0_look_45 : decode cX0_look 45 = .ok (.iload_n 3, 1) := by decide +kernel
theorem dX0_look_46 : decode cX0_look 46 = .ok (.aaload, 1) := by decide +kernel
theorem dX0_look_47 : decode cX0_look 47 = .ok (.iload 4, 2) := by decide +kernel
theorem dX0_look_49 : decode cX0_look 49 = .ok (.invokevirtual 46, 3) := by decide +kernel
theorem dX0_look_52 : decode cX0_look 52 = .ok (.aload_n 0, 1) := by decide +kernel
theorem dX0_look_53 : decode cX0_look 53 = .ok (.getfield 9, 3) := by decide +kernel
theorem dX0_look_56 : decode cX0_look 56 = .ok (.iload_n 3, 1) := by decide +kernel
theorem dX0_look_57 : decode cX0_look 57 = .ok (.aaload, 1) := by decide +kernel
theorem dX0_look_58 : decode cX0_look 58 = .ok (.iload 4, 2) := by decide +kernel
theorem dX0_look_60 : decode cX0_look 60 = .ok (.invokevirtual 52, 3) := by decide +kernel
theorem dX0_look_63 : decode cX0_look 63 = .ok (.istore 5, 2) := by decide +kernel
theorem dX0_look_65 : decode cX0_look 65 = .ok (.aload_n 0, 1) := by decide +kernel
theorem dX0_look_66 : decode cX0_look 66 = .ok (.getfield 25, 3) := by decide +kernel
theorem dX0_look_69 : decode cX0_look 69 = .ok (.iload_n 3, 1) := by decide +kernel
theorem dX0_look_70 : decode cX0_look 70 = .ok (.bipush 60, 2) := by decide +kernel
theorem dX0_look_72 : decode cX0_look 72 = .ok (.imul, 1) := by decide +kernel
theorem dX0_look_73 : decode cX0_look 73 = .ok (.iload 4, 2) := by decide +kernel
theorem dX0_look_75 : decode cX0_look 75 = .ok (.iadd, 1) := by decide +kernel
theorem dX0_look_76 : decode cX0_look 76 = .ok (.iload 5, 2) := by decide +kernel
theorem dX0_look_78 : decode cX0_look 78 = .ok (.iastore, 1) := by decide +kernel
theorem dX0_look_79 : decode cX0_look 79 = .ok (.iinc 4 1, 3) := by decide +kernel
theorem dX0_look_82 : decode cX0_look 82 = .ok (.goto (-66), 3) := by decide +kernel
theorem dX0_look_85 : decode cX0_look 85 = .ok (.iinc 3 1, 3) := by decide +kernel
theorem dX0_look_88 : decode cX0_look 88 = .ok (.goto (-86), 3) := by decide +kernel
theorem dX0_look_91 : decode cX0_look 91 = .ok (.return_, 1) := by decide +kernel
theorem dX0_kindOf_0 : decode cX0_kindOf 0 = .ok (.aload_n 0, 1) := by decide +kernel
theorem dX0_kindOf_1 : decode cX0_kindOf 1 = .ok (.getfield 15, 3) := by decide +kernel
theorem dX0_kindOf_4 : decode cX0_kindOf 4 = .ok (.iload_n 1, 1) := by decide +kernel
theorem dX0_kindOf_5 : decode cX0_kindOf 5 = .ok (.iload_n 2, 1) := by decide +kernel
theorem dX0_kindOf_6 : decode cX0_kindOf 6 = .ok (.invokevirtual 40, 3) := by decide +kernel
theorem dX0_kindOf_9 : decode cX0_kindOf 9 = .ok (.istore_n 3, 1) := by decide +kernel
theorem dX0_kindOf_10 : decode cX0_kindOf 10 = .ok (.aload_n 0, 1) := by decide +kernel
theorem dX0_kindOf_11 : decode cX0_kindOf 11 = .ok (.getfield 25, 3) := by decide +kernel
theorem dX0_kindOf_14 : decode cX0_kindOf 14 = .ok (.iload_n 1, 1) := by decide +kernel
theorem dX0_kindOf_15 : decode cX0_kindOf 15 = .ok (.bipush 60, 2) := by decide +kernel
theorem dX0_kindOf_17 : decode cX0_kindOf 17 = .ok (.imul, 1) := by decide +kernel
theorem dX0_kindOf_18 : decode cX0_kindOf 18 = .ok (.iload_n 2, 1) := by decide +kernel
theorem dX0_kindOf_19 : decode cX0_kindOf 19 = .ok (.iadd, 1) := by decide +kernel
theorem dX0_kindOf_20 : decode cX0_kindOf 20 = .ok (.iaload, 1) := by decide +kernel
theorem dX0_kindOf_21 : decode cX0_kindOf 21 = .ok (.istore 4, 2) := by decide +kernel
theorem dX0_kindOf_23 : decode cX0_kindOf 23 = .ok (.iload_n 3, 1) := by decide +kernel
theorem dX0_kindOf_24 : decode cX0_kindOf 24 = .ok (.ldc 39, 2) := by decide +kernel
theorem dX0_kindOf_26 : decode cX0_kindOf 26 = .ok (.if_icmp .eq 10, 3) := by decide +kernel
theorem dX0_kindOf_29 : decode cX0_kindOf 29 = .ok (.iload 4, 2) := by decide +kernel
theorem dX0_kindOf_31 : decode cX0_kindOf 31 = .ok (.ldc 39, 2) := by decide +kernel
theorem dX0_kindOf_33 : decode cX0_kindOf 33 = .ok (.if_icmp .ne 5, 3) := by decide +kernel
theorem dX0_kindOf_36 : decode cX0_kindOf 36 = .ok (.iconst (-1), 1) := by decide +kernel
theorem dX0_kindOf_37 : decode cX0_kindOf 37 = .ok (.ireturn, 1) := by decide +kernel
theorem dX0_kindOf_38 : decode cX0_kindOf 38 = .ok (.aload_n 0, 1) := by decide +kernel
theorem dX0_kindOf_39 : decode cX0_kindOf 39 = .ok (.getfield 19, 3) := by decide +kernel
theorem dX0_kindOf_42 : decode cX0_kindOf 42 = .ok (.iload_n 1, 1) := by decide +kernel
theorem dX0_kindOf_43 : decode cX0_kindOf 43 = .ok (.iload 4, 2) := by decide +kernel
theorem dX0_kindOf_45 : decode cX0_kindOf 45 = .ok (.iload_n 3, 1) := by decide +kernel
theorem dX0_kindOf_46 : decode cX0_kindOf 46 = .ok (.invokevirtual 56, 3) := by decide +kernel
theorem dX0_kindOf_49 : decode cX0_kindOf 49 = .ok (.ifCond .eq 5, 3) := by decide +kernel
theorem dX0_kindOf_52 : decode cX0_kindOf 52 = .ok (.iconst 0, 1) := by decide +kernel
theorem dX0_kindOf_53 : decode cX0_kindOf 53 = .ok (.ireturn, 1) := by decide +kernel
theorem dX0_kindOf_54 : decode cX0_kindOf 54 = .ok (.aload_n 0, 1) := by decide +kernel
theorem dX0_kindOf_55 : decode cX0_kindOf 55 = .ok (.getfield 19, 3) := by decide +kernel
theorem dX0_kindOf_58 : decode cX0_kindOf 58 = .ok (.iload_n 1, 1) := by decide +kernel
theorem dX0_kindOf_59 : decode cX0_kindOf 59 = .ok (.invokevirtual 60, 3) := by decide +kernel
theorem dX0_kindOf_62 : decode cX0_kindOf 62 = .ok (.ifCond .eq 22, 3) := by decide +kernel
theorem dX0_kindOf_65 : decode cX0_kindOf 65 = .ok (.aload_n 0, 1) := by decide +kernel
theorem dX0_kindOf_66 : decode cX0_kindOf 66 = .ok (.getfield 19, 3) := by decide +kernel
theorem dX0_kindOf_69 : decode cX0_kindOf 69 = .ok (.iload_n 1, 1) := by decide +kernel
theorem dX0_kindOf_70 : decode cX0_kindOf 70 = .ok (.iload 4, 2) := by decide +kernel
theorem dX0_kindOf_72 : decode cX0_kindOf 72 = .ok (.iload_n 3, 1) := by decide +kernel
theorem dX0_kindOf_73 : decode cX0_kindOf 73 = .ok (.bipush 8, 2) := by decide +kernel
theorem dX0_kindOf_75 : decode cX0_kindOf 75 = .ok (.iadd, 1) := by decide +kernel
theorem dX0_kindOf_76 : decode cX0_kindOf 76 = .ok (.invokevirtual 56, 3) := by decide +kernel
theorem dX0_kindOf_79 : decode cX0_kindOf 79 = .ok (.ifCond .eq 5, 3) := by decide +kernel
theorem dX0_kindOf_82 : decode cX0_kindOf 82 = .ok (.iconst 1, 1) := by decide +kernel
theorem dX0_kindOf_83 : decode cX0_kindOf 83 = .ok (.ireturn, 1) := by decide +kernel
theorem dX0_kindOf_84 : decode cX0_kindOf 84 = .ok (.aload_n 0, 1) := by decide +kernel
theorem dX0_kindOf_85 : decode cX0_kindOf 85 = .ok (.getfield 15, 3) := by decide +kernel
theorem dX0_kindOf_88 : decode cX0_kindOf 88 = .ok (.iload_n 1, 1) := by decide +kernel
theorem dX0_kindOf_89 : decode cX0_kindOf 89 = .ok (.iload_n 2, 1) := by decide +kernel
theorem dX0_kindOf_90 : decode cX0_kindOf 90 = .ok (.iconst 1, 1) := by decide +kernel
theorem dX0_kindOf_91 : decode cX0_kindOf 91 = .ok (.isub, 1) := by decide +kernel
theorem dX0_kindOf_92 : decode cX0_kindOf 92 = .ok (.invokevirtual 40, 3) := by decide +kernel
theorem dX0_kindOf_95 : decode cX0_kindOf 95 = .ok (.iload_n 3, 1) := by decide +kernel
theorem dX0_kindOf_96 : decode cX0_kindOf 96 = .ok (.if_icmp .ne 5, 3) := by decide +kernel
theorem dX0_kindOf_99 : decode cX0_kindOf 99 = .ok (.iconst 2, 1) := by decide +kernel
theorem dX0_kindOf_100 : decode cX0_kindOf 100 = .ok (.ireturn, 1) := by decide +kernel
theorem dX0_kindOf_101 : decode cX0_kindOf 101 = .ok (.aload_n 0, 1) := by decide +kernel
theorem dX0_kindOf_102 : decode cX0_kindOf 102 = .ok (.iload_n 1, 1) := by decide +kernel
theorem dX0_kindOf_103 : decode cX0_kindOf 103 = .ok (.iload_n 2, 1) := by decide +kernel
theorem dX0_kindOf_104 : decode cX0_kindOf 104 = .ok (.iload_n 3, 1) := by decide +kernel
theorem dX0_kindOf_105 : decode cX0_kindOf 105 = .ok (.invokevirtual 64, 3) := by decide +kernel
theorem dX0_kindOf_108 : decode cX0_kindOf 108 = .ok (.ifCond .eq 5, 3) := by decide +kernel
theorem dX0_kindOf_111 : decode cX0_kindOf 111 = .ok (.iconst 3, 1) := by decide +kernel
theorem dX0_kindOf_112 : decode cX0_kindOf 112 = .ok (.ireturn, 1) := by decide +kernel
theorem dX0_kindOf_113 : decode cX0_kindOf 113 = .ok (.aload_n 0, 1) := by decide +kernel
theorem dX0_kindOf_114 : decode cX0_kindOf 114 = .ok (.getfield 19, 3) := by decide +kernel
theorem dX0_kindOf_117 : decode cX0_kindOf 117 = .ok (.getfield 67, 3) := by decide +kernel
theorem dX0_kindOf_120 : decode cX0_kindOf 120 = .ok (.iload_n 1, 1) := by decide +kernel
theorem dX0_kindOf_121 : decode cX0_kindOf 121 = .ok (.iaload, 1) := by decide +kernel
theorem dX0_kindOf_122 : decode cX0_kindOf 122 = .ok (.iconst 2, 1) := by decide +kernel
theorem dX0_kindOf_123 : decode cX0_kindOf 123 = .ok (.if_icmp .ne 29, 3) := by decide +kernel
theorem dX0_kindOf_126 : decode cX0_kindOf 126 = .ok (.iload_n 3, 1) := by decide +kernel
theorem dX0_kindOf_127 : decode cX0_kindOf 127 = .ok (.iload 4, 2) := by decide +kernel
theorem dX0_kindOf_129 : decode cX0_kindOf 129 = .ok (.if_icmp .ge 23, 3) := by decide +kernel
theorem dX0_kindOf_132 : decode cX0_kindOf 132 = .ok (.aload_n 0, 1) := by decide +kernel
theorem dX0_kindOf_133 : decode cX0_kindOf 133 = .ok (.getfield 19, 3) := by decide +kernel
theorem dX0_kindOf_136 : decode cX0_kindOf 136 = .ok (.iload_n 1, 1) := by decide +kernel
theorem dX0_kindOf_137 : decode cX0_kindOf 137 = .ok (.iload 4, 2) := by decide +kernel
theorem dX0_kindOf_139 : decode cX0_kindOf 139 = .ok (.iconst 2, 1) := by decide +kernel
theorem dX0_kindOf_140 : decode cX0_kindOf 140 = .ok (.iload_n 3, 1) := by decide +kernel
theorem dX0_kindOf_141 : decode cX0_kindOf 141 = .ok (.imul, 1) := by decide +kernel
theorem dX0_kindOf_142 : decode cX0_kindOf 142 = .ok (.invokevirtual 56, 3) := by decide +kernel
theorem dX0_kindOf_145 : decode cX0_kindOf 145 = .ok (.ifCond .eq 7, 3) := by decide +kernel
theorem dX0_kindOf_148 : decode cX0_kindOf 148 = .ok (.iconst 1, 1) := by decide +kernel
theorem dX0_kindOf_149 : decode cX0_kindOf 149 = .ok (.goto 4, 3) := by decide +kernel
theorem dX0_kindOf_152 : decode cX0_kindOf 152 = .ok (.iconst 0, 1) := by decide +kernel
theorem dX0_kindOf_153 : decode cX0_kindOf 153 = .ok (.istore 5, 2) := by decide +kernel
theorem dX0_kindOf_155 : decode cX0_kindOf 155 = .ok (.iload 5, 2) := by decide +kernel
theorem dX0_kindOf_157 : decode cX0_kindOf 157 = .ok (.ifCond .eq 7, 3) := by decide +kernel
theorem dX0_kindOf_160 : decode cX0_kindOf 160 = .ok (.iconst 4, 1) := by decide +kernel
theorem dX0_kindOf_161 : decode cX0_kindOf 161 = .ok (.goto 4, 3) := by decide +kernel
theorem dX0_kindOf_164 : decode cX0_kindOf 164 = .ok (.iconst 5, 1) := by decide +kernel
theorem dX0_kindOf_165 : decode cX0_kindOf 165 = .ok (.ireturn, 1) := by decide +kernel
theorem dX0_isInAnotherRow_0 : decode cX0_isInAnotherRow 0 = .ok (.aload_n 0, 1) := by decide +kernel
theorem dX0_isInAnotherRow_1 : decode cX0_isInAnotherRow 1 = .ok (.getfield 25, 3) := by decide +kernel
theorem dX0_isInAnotherRow_4 : decode cX0_isInAnotherRow 4 = .ok (.iload_n 1, 1) := by decide +kernel
theorem dX0_isInAnotherRow_5 : decode cX0_isInAnotherRow 5 = .ok (.bipush 60, 2) := by decide +kernel
theorem dX0_isInAnotherRow_7 : decode cX0_isInAnotherRow 7 = .ok (.imul, 1) := by decide +kernel
theorem dX0_isInAnotherRow_8 : decode cX0_isInAnotherRow 8 = .ok (.iload_n 2, 1) := by decide +kernel
theorem dX0_isInAnotherRow_9 : decode cX0_isInAnotherRow 9 = .ok (.iadd, 1) := by decide +kernel
theorem dX0_isInAnotherRow_10 : decode cX0_isInAnotherRow 10 = .ok (.iaload, 1) := by decide +kernel
theorem dX0_isInAnotherRow_11 : decode cX0_isInAnotherRow 11 = .ok (.istore 4, 2) := by decide +kernel
theorem dX0_isInAnotherRow_13 : decode cX0_isInAnotherRow 13 = .ok (.iconst 0, 1) := by decide +kernel
theorem dX0_isInAnotherRow_14 : decode cX0_isInAnotherRow 14 = .ok (.istore 5, 2) := by decide +kernel
theorem dX0_isInAnotherRow_16 : decode cX0_isInAnotherRow 16 = .ok (.iload 5, 2) := by decide +kernel
theorem dX0_isInAnotherRow_18 : decode cX0_isInAnotherRow 18 = .ok (.aload_n 0, 1) := by decide +kernel
theorem dX0_isInAnotherRow_19 : decode cX0_isInAnotherRow 19 = .ok (.getfield 19, 3) := by decide +kernel
theorem dX0_isInAnotherRow_22 : decode cX0_isInAnotherRow 22 = .ok (.getfield 35, 3) := by decide +kernel
theorem dX0_isInAnotherRow_25 : decode cX0_isInAnotherRow 25 = .ok (.if_icmp .ge 99, 3) := by decide +kernel
theorem dX0_isInAnotherRow_28 : decode cX0_isInAnotherRow 28 = .ok (.aload_n 0, 1) := by decide +kernel
theorem dX0_isInAnotherRow_29 : decode cX0_isInAnotherRow 29 = .ok (.getfield 25, 3) := by decide +kernel
theorem dX0_isInAnotherRow_32 : decode cX0_isInAnotherRow 32 = .ok (.iload 5, 2) := by decide +kernel
theorem dX0_isInAnotherRow_34 : decode cX0_isInAnotherRow 34 = .ok (.bipush 60, 2) := by decide +kernel
theorem dX0_isInAnotherRow_36 : decode cX0_isInAnotherRow 36 = .ok (.imul, 1) := by decide +kernel
theorem dX0_isInAnotherRow_37 : decode cX0_isInAnotherRow 37 = .ok (.iload_n 2, 1) := by decide +kernel
theorem dX0_isInAnotherRow_38 : decode cX0_isInAnotherRow 38 = .ok (.iadd, 1) := by decide +kernel
theorem dX0_isInAnotherRow_39 : decode cX0_isInAnotherRow 39 = .ok (.iaload, 1) := by decide +kernel
theorem dX0_isInAnotherRow_40 : decode cX0_isInAnotherRow 40 = .ok (.istore 6, 2) := by decide +kernel
theorem dX0_isInAnotherRow_42 : decode cX0_isInAnotherRow 42 = .ok (.aload_n 0, 1) := by decide +kernel
theorem dX0_isInAnotherRow_43 : decode cX0_isInAnotherRow 43 = .ok (.getfield 15, 3) := by decide +kernel
theorem dX0_isInAnotherRow_46 : decode cX0_isInAnotherRow 46 = .ok (.iload 5, 2) := by decide +kernel
theorem dX0_isInAnotherRow_48 : decode cX0_isInAnotherRow 48 = .ok (.iload_n 2, 1) := by decide +kernel
theorem dX0_isInAnotherRow_49 : decode cX0_isInAnotherRow 49 = .ok (.invokevirtual 40, 3) := by decide +kernel
theorem dX0_isInAnotherRow_52 : decode cX0_isInAnotherRow 52 = .ok (.istore 7, 2) := by decide +kernel
theorem dX0_isInAnotherRow_54 : decode cX0_isInAnotherRow 54 = .ok (.iload 5, 2) := by decide +kernel
theorem dX0_isInAnotherRow_56 : decode cX0_isInAnotherRow 56 = .ok (.iload_n 1, 1) := by decide +kernel
theorem dX0_isInAnotherRow_57 : decode cX0_isInAnotherRow 57 = .ok (.if_icmp .eq 21, 3) := by decide +kernel
theorem dX0_isInAnotherRow_60 : decode cX0_isInAnotherRow 60 = .ok (.iload 6, 2) := by decide +kernel
theorem dX0_isInAnotherRow_62 : decode cX0_isInAnotherRow 62 = .ok (.ldc 39, 2) := by decide +kernel
theorem dX0_isInAnotherRow_64 : decode cX0_isInAnotherRow 64 = .ok (.if_icmp .eq 14, 3) := by decide +kernel
theorem dX0_isInAnotherRow_67 : decode cX0_isInAnotherRow 67 = .ok (.iload 7, 2) := by decide +kernel
theorem dX0_isInAnotherRow_69 : decode cX0_isInAnotherRow 69 = .ok (.ldc 39, 2) := by decide +kernel
theorem dX0_isInAnotherRow_71 : decode cX0_isInAnotherRow 71 = .ok (.if_icmp .eq 7, 3) := by decide +kernel
theorem dX0_isInAnotherRow_74 : decode cX0_isInAnotherRow 74 = .ok (.iconst 1, 1) := by decide +kernel
theorem dX0_isInAnotherRow_75 : decode cX0_isInAnotherRow 75 = .ok (.goto 4, 3) := by decide +kernel
theorem dX0_isInAnotherRow_78 : decode cX0_isInAnotherRow 78 = .ok (.iconst 0, 1) := by decide +kernel
theorem dX0_isInAnotherRow_79 : decode cX0_isInAnotherRow 79 = .ok (.istore 8, 2) := by decide +kernel
theorem dX0_isInAnotherRow_81 : decode cX0_isInAnotherRow 81 = .ok (.iload 8, 2) := by decide +kernel
theorem dX0_isInAnotherRow_83 : decode cX0_isInAnotherRow 83 = .ok (.ifCond .eq 35, 3) := by decide +kernel
theorem dX0_isInAnotherRow_86 : decode cX0_isInAnotherRow 86 = .ok (.aload_n 0, 1) := by decide +kernel
theorem dX0_isInAnotherRow_87 : decode cX0_isInAnotherRow 87 = .ok (.getfield 19, 3) := by decide +kernel
theorem dX0_isInAnotherRow_90 : decode cX0_isInAnotherRow 90 = .ok (.iload_n 1, 1) := by decide +kernel
theorem dX0_isInAnotherRow_91 : decode cX0_isInAnotherRow 91 = .ok (.iload 4, 2) := by decide +kernel
theorem dX0_isInAnotherRow_93 : decode cX0_isInAnotherRow 93 = .ok (.iload 7, 2) := by decide +kernel
theorem dX0_isInAnotherRow_95 : decode cX0_isInAnotherRow 95 = .ok (.invokevirtual 56, 3) := by decide +kernel
theorem dX0_isInAnotherRow_98 : decode cX0_isInAnotherRow 98 = .ok (.ifCond .eq 20, 3) := by decide +kernel
theorem dX0_isInAnotherRow_101 : decode cX0_isInAnotherRow 101 = .ok (.aload_n 0, 1) := by decide +kernel
theorem dX0_isInAnotherRow_102 : decode cX0_isInAnotherRow 102 = .ok (.getfield 19, 3) := by decide +kernel
theorem dX0_isInAnotherRow_105 : decode cX0_isInAnotherRow 105 = .ok (.iload 5, 2) := by decide +kernel
theorem dX0_isInAnotherRow_107 : decode cX0_isInAnotherRow 107 = .ok (.iload 6, 2) := by decide +kernel
theorem dX0_isInAnotherRow_109 : decode cX0_isInAnotherRow 109 = .ok (.iload_n 3, 1) := by decide +kernel
theorem dX0_isInAnotherRow_110 : decode cX0_isInAnotherRow 110 = .ok (.invokevirtual 56, 3) := by decide +kernel
theorem dX0_isInAnotherRow_113 : decode cX0_isInAnotherRow 113 = .ok (.ifCond .eq 5, 3) := by decide +kernel
theorem dX0_isInAnotherRow_116 : decode cX0_isInAnotherRow 116 = .ok (.iconst 1, 1) := by decide +kernel
theorem dX0_isInAnotherRow_117 : decode cX0_isInAnotherRow 117 = .ok (.ireturn, 1) := by decide +kernel
theorem dX0_isInAnotherRow_118 : decode cX0_isInAnotherRow 118 = .ok (.iinc 5 1, 3) := by decide +kernel
theorem dX0_isInAnotherRow_121 : decode cX0_isInAnotherRow 121 = .ok (.goto (-105), 3) := by decide +kernel
theorem dX0_isInAnotherRow_124 : decode cX0_isInAnotherRow 124 = .ok (.iconst 0, 1) := by decide +kernel
theorem dX0_isInAnotherRow_125 : decode cX0_isInAnotherRow 125 = .ok (.ireturn, 1) := by decide +kernel
theorem dX0_worst_0 : decode cX0_worst 0 = .ok (.aload_n 0, 1) := by decide +kernel
theorem dX0_worst_1 : decode cX0_worst 1 = .ok (.invokevirtual 70, 3) := by decide +kernel
theorem dX0_worst_4 : decode cX0_worst 4 = .ok (.iconst (-1), 1) := by decide +kernel
theorem dX0_worst_5 : decode cX0_worst 5 = .ok (.istore_n 1, 1) := by decide +kernel
theorem dX0_worst_6 : decode cX0_worst 6 = .ok (.iconst 0, 1) := by decide +kernel
theorem dX0_worst_7 : decode cX0_worst 7 = .ok (.istore_n 2, 1) := by decide +kernel
theorem dX0_worst_8 : decode cX0_worst 8 = .ok (.iload_n 2, 1) := by decide +kernel
theorem dX0_worst_9 : decode cX0_worst 9 = .ok (.bipush 10, 2) := by decide +kernel
theorem dX0_worst_11 : decode cX0_worst 11 = .ok (.if_icmp .ge 68, 3) := by decide +kernel
theorem dX0_worst_14 : decode cX0_worst 14 = .ok (.aload_n 0, 1) := by decide +kernel
theorem dX0_worst_15 : decode cX0_worst 15 = .ok (.getfield 29, 3) := by decide +kernel
theorem dX0_worst_18 : decode cX0_worst 18 = .ok (.iload_n 2, 1) := by decide +kernel
theorem dX0_worst_19 : decode cX0_worst 19 = .ok (.iaload, 1) := by decide +kernel
theorem dX0_worst_20 : decode cX0_worst 20 = .ok (.ifCond .le 53, 3) := by decide +kernel
theorem dX0_worst_23 : decode cX0_worst 23 = .ok (.iload_n 1, 1) := by decide +kernel
theorem dX0_worst_24 : decode cX0_worst 24 = .ok (.iconst (-1), 1) := by decide +kernel
theorem dX0_worst_25 : decode cX0_worst 25 = .ok (.if_icmp .eq 32, 3) := by decide +kernel
theorem dX0_worst_28 : decode cX0_worst 28 = .ok (.aload_n 0, 1) := by decide +kernel
theorem dX0_worst_29 : decode cX0_worst 29 = .ok (.getfield 32, 3) := by decide +kernel
theorem dX0_worst_32 : decode cX0_worst 32 = .ok (.iload_n 2, 1) := by decide +kernel
theorem dX0_worst_33 : decode cX0_worst 33 = .ok (.iaload, 1) := by decide +kernel
theorem dX0_worst_34 : decode cX0_worst 34 = .ok (.aload_n 0, 1) := by decide +kernel
theorem dX0_worst_35 : decode cX0_worst 35 = .ok (.getfield 29, 3) := by decide +kernel
theorem dX0_worst_38 : decode cX0_worst 38 = .ok (.iload_n 1, 1) := by decide +kernel
theorem dX0_worst_39 : decode cX0_worst 39 = .ok (.iaload, 1) := by decide +kernel
theorem dX0_worst_40 : decode cX0_worst 40 = .ok (.imul, 1) := by decide +kernel
theorem dX0_worst_41 : decode cX0_worst 41 = .ok (.aload_n 0, 1) := by decide +kernel
theorem dX0_worst_42 : decode cX0_worst 42 = .ok (.getfield 32, 3) := by decide +kernel
theorem dX0_worst_45 : decode cX0_worst 45 = .ok (.iload_n 1, 1) := by decide +kernel
theorem dX0_worst_46 : decode cX0_worst 46 = .ok (.iaload, 1) := by decide +kernel
theorem dX0_worst_47 : decode cX0_worst 47 = .ok (.aload_n 0, 1) := by decide +kernel
theorem dX0_worst_48 : decode cX0_worst 48 = .ok (.getfield 29, 3) := by decide +kernel
theorem dX0_worst_51 : decode cX0_worst 51 = .ok (.iload_n 2, 1) := by decide +kernel
theorem dX0_worst_52 : decode cX0_worst 52 = .ok (.iaload, 1) := by decide +kernel
theorem dX0_worst_53 : decode cX0_worst 53 = .ok (.imul, 1) := by decide +kernel
theorem dX0_worst_54 : decode cX0_worst 54 = .ok (.if_icmp .le 7, 3) := by decide +kernel
theorem dX0_worst_57 : decode cX0_worst 57 = .ok (.iconst 1, 1) := by decide +kernel
theorem dX0_worst_58 : decode cX0_worst 58 = .ok (.goto 4, 3) := by decide +kernel
theorem dX0_worst_61 : decode cX0_worst 61 = .ok (.iconst 0, 1) := by decide +kernel
theorem dX0_worst_62 : decode cX0_worst 62 = .ok (.istore_n 3, 1) := by decide +kernel
theorem dX0_worst_63 : decode cX0_worst 63 = .ok (.iload_n 3, 1) := by decide +kernel
theorem dX0_worst_64 : decode cX0_worst 64 = .ok (.ifCond .eq 7, 3) := by decide +kernel
theorem dX0_worst_67 : decode cX0_worst 67 = .ok (.iload_n 2, 1) := by decide +kernel
theorem dX0_worst_68 : decode cX0_worst 68 = .ok (.goto 4, 3) := by decide +kernel
theorem dX0_worst_71 : decode cX0_worst 71 = .ok (.iload_n 1, 1) := by decide +kernel
theorem dX0_worst_72 : decode cX0_worst 72 = .ok (.istore_n 1, 1) := by decide +kernel
theorem dX0_worst_73 : decode cX0_worst 73 = .ok (.iinc 2 1, 3) := by decide +kernel
theorem dX0_worst_76 : decode cX0_worst 76 = .ok (.goto (-68), 3) := by decide +kernel
theorem dX0_worst_79 : decode cX0_worst 79 = .ok (.iload_n 1, 1) := by decide +kernel
theorem dX0_worst_80 : decode cX0_worst 80 = .ok (.ireturn, 1) := by decide +kernel
theorem dX0_count_0 : decode cX0_count 0 = .ok (.aload_n 0, 1) := by decide +kernel
theorem dX0_count_1 : decode cX0_count 1 = .ok (.getfield 29, 3) := by decide +kernel
theorem dX0_count_4 : decode cX0_count 4 = .ok (.iconst 0, 1) := by decide +kernel
theorem dX0_count_5 : decode cX0_count 5 = .ok (.invokestatic 73, 3) := by decide +kernel
theorem dX0_count_8 : decode cX0_count 8 = .ok (.aload_n 0, 1) := by decide +kernel
theorem dX0_count_9 : decode cX0_count 9 = .ok (.getfield 32, 3) := by decide +kernel
theorem dX0_count_12 : decode cX0_count 12 = .ok (.iconst 0, 1) := by decide +kernel
theorem dX0_count_13 : decode cX0_count 13 = .ok (.invokestatic 73, 3) := by decide +kernel
theorem dX0_count_16 : decode cX0_count 16 = .ok (.iconst 0, 1) := by decide +kernel
theorem dX0_count_17 : decode cX0_count 17 = .ok (.istore_n 1, 1) := by decide +kernel
theorem dX0_count_18 : decode cX0_count 18 = .ok (.iload_n 1, 1) := by decide +kernel
theorem dX0_count_19 : decode cX0_count 19 = .ok (.aload_n 0, 1) := by decide +kernel
theorem dX0_count_20 : decode cX0_count 20 = .ok (.getfield 19, 3) := by decide +kernel
theorem dX0_count_23 : decode cX0_count 23 = .ok (.getfield 35, 3) := by decide +kernel
theorem dX0_count_26 : decode cX0_count 26 = .ok (.if_icmp .ge 84, 3) := by decide +kernel
theorem dX0_count_29 : decode cX0_count 29 = .ok (.iconst 0, 1) := by decide +kernel
theorem dX0_count_30 : decode cX0_count 30 = .ok (.istore_n 2, 1) := by decide +kernel
theorem dX0_count_31 : decode cX0_count 31 = .ok (.iload_n 2, 1) := by decide +kernel
theorem dX0_count_32 : decode cX0_count 32 = .ok (.bipush 60, 2) := by decide +kernel
theorem dX0_count_34 : decode cX0_count 34 = .ok (.if_icmp .ge 70, 3) := by decide +kernel
theorem dX0_count_37 : decode cX0_count 37 = .ok (.aload_n 0, 1) := by decide +kernel
theorem dX0_count_38 : decode cX0_count 38 = .ok (.iload_n 1, 1) := by decide +kernel
theorem dX0_count_39 : decode cX0_count 39 = .ok (.iload_n 2, 1) := by decide +kernel
theorem dX0_count_40 : decode cX0_count 40 = .ok (.invokevirtual 79, 3) := by decide +kernel
theorem dX0_count_43 : decode cX0_count 43 = .ok (.istore_n 3, 1) := by decide +kernel
theorem dX0_count_44 : decode cX0_count 44 = .ok (.aload_n 0, 1) := by decide +kernel
theorem dX0_count_45 : decode cX0_count 45 = .ok (.getfield 15, 3) := by decide +kernel
theorem dX0_count_48 : decode cX0_count 48 = .ok (.iload_n 1, 1) := by decide +kernel
theorem dX0_count_49 : decode cX0_count 49 = .ok (.iload_n 2, 1) := by decide +kernel
theorem dX0_count_50 : decode cX0_count 50 = .ok (.invokevirtual 82, 3) := by decide +kernel
theorem dX0_count_53 : decode cX0_count 53 = .ok (.istore 4, 2) := by decide +kernel
theorem dX0_count_55 : decode cX0_count 55 = .ok (.iload_n 3, 1) := by decide +kernel
theorem dX0_count_56 : decode cX0_count 56 = .ok (.iconst (-1), 1) := by decide +kernel
theorem dX0_count_57 : decode cX0_count 57 = .ok (.if_icmp .eq 41, 3) := by decide +kernel
theorem dX0_count_60 : decode cX0_count 60 = .ok (.iload 4, 2) := by decide +kernel
theorem dX0_count_62 : decode cX0_count 62 = .ok (.invokestatic 85, 3) := by decide +kernel
theorem dX0_count_65 : decode cX0_count 65 = .ok (.ifCond .eq 33, 3) := by decide +kernel
theorem dX0_count_68 : decode cX0_count 68 = .ok (.aload_n 0, 1) := by decide +kernel
theorem dX0_count_69 : decode cX0_count 69 = .ok (.getfield 29, 3) := by decide +kernel
theorem dX0_count_72 : decode cX0_count 72 = .ok (.iload 4, 2) := by decide +kernel
theorem dX0_count_74 : decode cX0_count 74 = .ok (.dup2, 1) := by decide +kernel
theorem dX0_count_75 : decode cX0_count 75 = .ok (.iaload, 1) := by decide +kernel
theorem dX0_count_76 : decode cX0_count 76 = .ok (.iconst 1, 1) := by decide +kernel
theorem dX0_count_77 : decode cX0_count 77 = .ok (.iadd, 1) := by decide +kernel
theorem dX0_count_78 : decode cX0_count 78 = .ok (.iastore, 1) := by decide +kernel
theorem dX0_count_79 : decode cX0_count 79 = .ok (.aload_n 0, 1) := by decide +kernel
theorem dX0_count_80 : decode cX0_count 80 = .ok (.getfield 32, 3) := by decide +kernel
theorem dX0_count_83 : decode cX0_count 83 = .ok (.iload 4, 2) := by decide +kernel
theorem dX0_count_85 : decode cX0_count 85 = .ok (.dup2, 1) := by decide +kernel
theorem dX0_count_86 : decode cX0_count 86 = .ok (.iaload, 1) := by decide +kernel
theorem dX0_count_87 : decode cX0_count 87 = .ok (.iload_n 3, 1) := by decide +kernel
theorem dX0_count_88 : decode cX0_count 88 = .ok (.ifCond .le 7, 3) := by decide +kernel
theorem dX0_count_91 : decode cX0_count 91 = .ok (.iconst 1, 1) := by decide +kernel
theorem dX0_count_92 : decode cX0_count 92 = .ok (.goto 4, 3) := by decide +kernel
theorem dX0_count_95 : decode cX0_count 95 = .ok (.iconst 0, 1) := by decide +kernel
theorem dX0_count_96 : decode cX0_count 96 = .ok (.iadd, 1) := by decide +kernel
theorem dX0_count_97 : decode cX0_count 97 = .ok (.iastore, 1) := by decide +kernel
theorem dX0_count_98 : decode cX0_count 98 = .ok (.iinc 2 1, 3) := by decide +kernel
theorem dX0_count_101 : decode cX0_count 101 = .ok (.goto (-70), 3) := by decide +kernel
theorem dX0_count_104 : decode cX0_count 104 = .ok (.iinc 1 1, 3) := by decide +kernel
theorem dX0_count_107 : decode cX0_count 107 = .ok (.goto (-89), 3) := by decide +kernel
theorem dX0_count_110 : decode cX0_count 110 = .ok (.return_, 1) := by decide +kernel
theorem dX1_init_0 : decode cX1_init 0 = .ok (.aload_n 0, 1) := by decide +kernel
theorem dX1_init_1 : decode cX1_init 1 = .ok (.invokespecial 1, 3) := by decide +kernel
theorem dX1_init_4 : decode cX1_init 4 = .ok (.aload_n 0, 1) := by decide +kernel
theorem dX1_init_5 : decode cX1_init 5 = .ok (.sipush 300, 3) := by decide +kernel
theorem dX1_init_8 : decode cX1_init 8 = .ok (.newarray .int, 2) := by decide +kernel
theorem dX1_init_10 : decode cX1_init 10 = .ok (.putfield 9, 3) := by decide +kernel
theorem dX1_init_13 : decode cX1_init 13 = .ok (.aload_n 0, 1) := by decide +kernel
theorem dX1_init_14 : decode cX1_init 14 = .ok (.sipush 300, 3) := by decide +kernel
theorem dX1_init_17 : decode cX1_init 17 = .ok (.newarray .int, 2) := by decide +kernel
theorem dX1_init_19 : decode cX1_init 19 = .ok (.putfield 13, 3) := by decide +kernel
theorem dX1_init_22 : decode cX1_init 22 = .ok (.aload_n 0, 1) := by decide +kernel
theorem dX1_init_23 : decode cX1_init 23 = .ok (.sipush 300, 3) := by decide +kernel
theorem dX1_init_26 : decode cX1_init 26 = .ok (.newarray .int, 2) := by decide +kernel
theorem dX1_init_28 : decode cX1_init 28 = .ok (.putfield 16, 3) := by decide +kernel
theorem dX1_init_31 : decode cX1_init 31 = .ok (.aload_n 0, 1) := by decide +kernel
theorem dX1_init_32 : decode cX1_init 32 = .ok (.sipush 300, 3) := by decide +kernel
theorem dX1_init_35 : decode cX1_init 35 = .ok (.newarray .int, 2) := by decide +kernel
theorem dX1_init_37 : decode cX1_init 37 = .ok (.putfield 19, 3) := by decide +kernel
theorem dX1_init_40 : decode cX1_init 40 = .ok (.aload_n 0, 1) := by decide +kernel
theorem dX1_init_41 : decode cX1_init 41 = .ok (.sipush 300, 3) := by decide +kernel
theorem dX1_init_44 : decode cX1_init 44 = .ok (.newarray .int, 2) := by decide +kernel
theorem dX1_init_46 : decode cX1_init 46 = .ok (.putfield 22, 3) := by decide +kernel
theorem dX1_init_49 : decode cX1_init 49 = .ok (.aload_n 0, 1) := by decide +kernel
theorem dX1_init_50 : decode cX1_init 50 = .ok (.sipush 300, 3) := by decide +kernel
theorem dX1_init_53 : decode cX1_init 53 = .ok (.newarray .int, 2) := by decide +kernel
theorem dX1_init_55 : decode cX1_init 55 = .ok (.putfield 25, 3) := by decide +kernel
theorem dX1_init_58 : decode cX1_init 58 = .ok (.return_, 1) := by decide +kernel
theorem dX1_clear_0 : decode cX1_clear 0 = .ok (.aload_n 0, 1) := by decide +kernel
theorem dX1_clear_1 : decode cX1_clear 1 = .ok (.iconst 0, 1) := by decide +kernel
theorem dX1_clear_2 : decode cX1_clear 2 = .ok (.putfield 28, 3) := by decide +kernel
theorem dX1_clear_5 : decode cX1_clear 5 = .ok (.aload_n 0, 1) := by decide +kernel
theorem dX1_clear_6 : decode cX1_clear 6 = .ok (.lconst 0, 1) := by decide +kernel
theorem dX1_clear_7 : decode cX1_clear 7 = .ok (.putfield 32, 3) := by decide +kernel
theorem dX1_clear_10 : decode cX1_clear 10 = .ok (.aload_n 0, 1) := by decide +kernel
theorem dX1_clear_11 : decode cX1_clear 11 = .ok (.iconst 0, 1) := by decide +kernel
theorem dX1_clear_12 : decode cX1_clear 12 = .ok (.putfield 36, 3) := by decide +kernel
theorem dX1_clear_15 : decode cX1_clear 15 = .ok (.aload_n 0, 1) := by decide +kernel
theorem dX1_clear_16 : decode cX1_clear 16 = .ok (.dup, 1) := by decide +kernel
theorem dX1_clear_17 : decode cX1_clear 17 = .ok (.getfield 39, 3) := by decide +kernel
theorem dX1_clear_20 : decode cX1_clear 20 = .ok (.iconst 1, 1) := by decide +kernel
theorem dX1_clear_21 : decode cX1_clear 21 = .ok (.iadd, 1) := by decide +kernel
theorem dX1_clear_22 : decode cX1_clear 22 = .ok (.putfield 39, 3) := by decide +kernel
theorem dX1_clear_25 : decode cX1_clear 25 = .ok (.return_, 1) := by decide +kernel
theorem dX1_tell_0 : decode cX1_tell 0 = .ok (.aload_n 0, 1) := by decide +kernel
theorem dX1_tell_1 : decode cX1_tell 1 = .ok (.getfield 28, 3) := by decide +kernel
theorem dX1_tell_4 : decode cX1_tell 4 = .ok (.sipush 300, 3) := by decide +kernel
theorem dX1_tell_7 : decode cX1_tell 7 = .ok (.if_icmp .lt 5, 3) := by decide +kernel
theorem dX1_tell_10 : decode cX1_tell 10 = .ok (.iconst (-1), 1) := by decide +kernel
theorem dX1_tell_11 : decode cX1_tell 11 = .ok (.ireturn, 1) := by decide +kernel
theorem dX1_tell_12 : decode cX1_tell 12 = .ok (.aload_n 0, 1) := by decide +kernel
theorem dX1_tell_13 : decode cX1_tell 13 = .ok (.getfield 28, 3) := by decide +kernel
theorem dX1_tell_16 : decode cX1_tell 16 = .ok (.istore 5, 2) := by decide +kernel
theorem dX1_tell_18 : decode cX1_tell 18 = .ok (.aload_n 0, 1) := by decide +kernel
theorem dX1_tell_19 : decode cX1_tell 19 = .ok (.getfield 9, 3) := by decide +kernel
theorem dX1_tell_22 : decode cX1_tell 22 = .ok (.iload 5, 2) := by decide +kernel
theorem dX1_tell_24 : decode cX1_tell 24 = .ok (.iload_n 1, 1) := by decide +kernel
theorem dX1_tell_25 : decode cX1_tell 25 = .ok (.iastore, 1) := by decide +kernel
theorem dX1_tell_26 : decode cX1_tell 26 = .ok (.aload_n 0, 1) := by decide +kernel
theorem dX1_tell_27 : decode cX1_tell 27 = .ok (.getfield 13, 3) := by decide +kernel
theorem dX1_tell_30 : decode cX1_tell 30 = .ok (.iload 5, 2) := by decide +kernel
theorem dX1_tell_32 : decode cX1_tell 32 = .ok (.iload_n 2, 1) := by decide +kernel
theorem dX1_tell_33 : decode cX1_tell 33 = .ok (.iastore, 1) := by decide +kernel
theorem dX1_tell_34 : decode cX1_tell 34 = .ok (.aload_n 0, 1) := by decide +kernel
theorem dX1_tell_35 : decode cX1_tell 35 = .ok (.getfield 16, 3) := by decide +kernel
theorem dX1_tell_38 : decode cX1_tell 38 = .ok (.iload 5, 2) := by decide +kernel
theorem dX1_tell_40 : decode cX1_tell 40 = .ok (.iload_n 3, 1) := by decide +kernel
theorem dX1_tell_41 : decode cX1_tell 41 = .ok (.iastore, 1) := by decide +kernel
theorem dX1_tell_42 : decode cX1_tell 42 = .ok (.aload_n 0, 1) := by decide +kernel
theorem dX1_tell_43 : decode cX1_tell 43 = .ok (.getfield 19, 3) := by decide +kernel
theorem dX1_tell_46 : decode cX1_tell 46 = .ok (.iload 5, 2) := by decide +kernel
theorem dX1_tell_48 : decode cX1_tell 48 = .ok (.iload 4, 2) := by decide +kernel
theorem dX1_tell_50 : decode cX1_tell 50 = .ok (.iastore, 1) := by decide +kernel
theorem dX1_tell_51 : decode cX1_tell 51 = .ok (.aload_n 0, 1) := by decide +kernel
theorem dX1_tell_52 : decode cX1_tell 52 = .ok (.getfield 22, 3) := by decide +kernel
theorem dX1_tell_55 : decode cX1_tell 55 = .ok (.iload 5, 2) := by decide +kernel
theorem dX1_tell_57 : decode cX1_tell 57 = .ok (.aload_n 0, 1) := by decide +kernel
theorem dX1_tell_58 : decode cX1_tell 58 = .ok (.getfield 44, 3) := by decide +kernel
theorem dX1_tell_61 : decode cX1_tell 61 = .ok (.iastore, 1) := by decide +kernel
theorem dX1_tell_62 : decode cX1_tell 62 = .ok (.aload_n 0, 1) := by decide +kernel
theorem dX1_tell_63 : decode cX1_tell 63 = .ok (.getfield 25, 3) := by decide +kernel
theorem dX1_tell_66 : decode cX1_tell 66 = .ok (.iload 5, 2) := by decide +kernel
theorem dX1_tell_68 : decode cX1_tell 68 = .ok (.iconst (-1), 1) := by decide +kernel
theorem dX1_tell_69 : decode cX1_tell 69 = .ok (.iastore, 1) := by decide +kernel
theorem dX1_tell_70 : decode cX1_tell 70 = .ok (.aload_n 0, 1) := by decide +kernel
theorem dX1_tell_71 : decode cX1_tell 71 = .ok (.dup, 1) := by decide +kernel
theorem dX1_tell_72 : decode cX1_tell 72 = .ok (.getfield 28, 3) := by decide +kernel
theorem dX1_tell_75 : decode cX1_tell 75 = .ok (.iconst 1, 1) := by decide +kernel
theorem dX1_tell_76 : decode cX1_tell 76 = .ok (.iadd, 1) := by decide +kernel
theorem dX1_tell_77 : decode cX1_tell 77 = .ok (.putfield 28, 3) := by decide +kernel
theorem dX1_tell_80 : decode cX1_tell 80 = .ok (.aload_n 0, 1) := by decide +kernel
theorem dX1_tell_81 : decode cX1_tell 81 = .ok (.dup, 1) := by decide +kernel
theorem dX1_tell_82 : decode cX1_tell 82 = .ok (.getfield 39, 3) := by decide +kernel
theorem dX1_tell_85 : decode cX1_tell 85 = .ok (.iconst 1, 1) := by decide +kernel
theorem dX1_tell_86 : decode cX1_tell 86 = .ok (.iadd, 1) := by decide +kernel
theorem dX1_tell_87 : decode cX1_tell 87 = .ok (.putfield 39, 3) := by decide +kernel
theorem dX1_tell_90 : decode cX1_tell 90 = .ok (.iload 5, 2) := by decide +kernel
theorem dX1_tell_92 : decode cX1_tell 92 = .ok (.ireturn, 1) := by decide +kernel
theorem dX1_takeBack_0 : decode cX1_takeBack 0 = .ok (.iload_n 1, 1) := by decide +kernel
theorem dX1_takeBack_1 : decode cX1_takeBack 1 = .ok (.ifCond .lt 21, 3) := by decide +kernel
theorem dX1_takeBack_4 : decode cX1_takeBack 4 = .ok (.iload_n 1, 1) := by decide +kernel
theorem dX1_takeBack_5 : decode cX1_takeBack 5 = .ok (.aload_n 0, 1) := by decide +kernel
theorem dX1_takeBack_6 : decode cX1_takeBack 6 = .ok (.getfield 28, 3) := by decide +kernel
theorem dX1_takeBack_9 : decode cX1_takeBack 9 = .ok (.if_icmp .ge 13, 3) := by decide +kernel
theorem dX1_takeBack_12 : decode cX1_takeBack 12 = .ok (.aload_n 0, 1) := by decide +kernel
theorem dX1_takeBack_13 : decode cX1_takeBack 13 = .ok (.getfield 25, 3) := by decide +kernel
theorem dX1_takeBack_16 : decode cX1_takeBack 16 = .ok (.iload_n 1, 1) := by decide +kernel
theorem dX1_takeBack_17 : decode cX1_takeBack 17 = .ok (.iaload, 1) := by decide +kernel
theorem dX1_takeBack_18 : decode cX1_takeBack 18 = .ok (.iconst (-1), 1) := by decide +kernel
theorem dX1_takeBack_19 : decode cX1_takeBack 19 = .ok (.if_icmp .eq 5, 3) := by decide +kernel
theorem dX1_takeBack_22 : decode cX1_takeBack 22 = .ok (.iconst 0, 1) := by decide +kernel
theorem dX1_takeBack_23 : decode cX1_takeBack 23 = .ok (.ireturn, 1) := by decide +kernel
theorem dX1_takeBack_24 : decode cX1_takeBack 24 = .ok (.aload_n 0, 1) := by decide +kernel
theorem dX1_takeBack_25 : decode cX1_takeBack 25 = .ok (.getfield 25, 3) := by decide +kernel
theorem dX1_takeBack_28 : decode cX1_takeBack 28 = .ok (.iload_n 1, 1) := by decide +kernel
theorem dX1_takeBack_29 : decode cX1_takeBack 29 = .ok (.aload_n 0, 1) := by decide +kernel
theorem dX1_takeBack_30 : decode cX1_takeBack 30 = .ok (.getfield 44, 3) := by decide +kernel
theorem dX1_takeBack_33 : decode cX1_takeBack 33 = .ok (.iastore, 1) := by decide +kernel
theorem dX1_takeBack_34 : decode cX1_takeBack 34 = .ok (.aload_n 0, 1) := by decide +kernel
theorem dX1_takeBack_35 : decode cX1_takeBack 35 = .ok (.dup, 1) := by decide +kernel
theorem dX1_takeBack_36 : decode cX1_takeBack 36 = .ok (.getfield 39, 3) := by decide +kernel
theorem dX1_takeBack_39 : decode cX1_takeBack 39 = .ok (.iconst 1, 1) := by decide +kernel
theorem dX1_takeBack_40 : decode cX1_takeBack 40 = .ok (.iadd, 1) := by decide +kernel
theorem dX1_takeBack_41 : decode cX1_takeBack 41 = .ok (.putfield 39, 3) := by decide +kernel
theorem dX1_takeBack_44 : decode cX1_takeBack 44 = .ok (.iconst 1, 1) := by decide +kernel
theorem dX1_takeBack_45 : decode cX1_takeBack 45 = .ok (.ireturn, 1) := by decide +kernel
theorem dX1_goOn_0 : decode cX1_goOn 0 = .ok (.iload_n 1, 1) := by decide +kernel
theorem dX1_goOn_1 : decode cX1_goOn 1 = .ok (.ifCond .lt 21, 3) := by decide +kernel
theorem dX1_goOn_4 : decode cX1_goOn 4 = .ok (.iload_n 1, 1) := by decide +kernel
theorem dX1_goOn_5 : decode cX1_goOn 5 = .ok (.sipush 1000, 3) := by decide +kernel
theorem dX1_goOn_8 : decode cX1_goOn 8 = .ok (.if_icmp .gt 14, 3) := by decide +kernel
theorem dX1_goOn_11 : decode cX1_goOn 11 = .ok (.aload_n 0, 1) := by decide +kernel
theorem dX1_goOn_12 : decode cX1_goOn 12 = .ok (.getfield 44, 3) := by decide +kernel
theorem dX1_goOn_15 : decode cX1_goOn 15 = .ok (.iload_n 1, 1) := by decide +kernel
theorem dX1_goOn_16 : decode cX1_goOn 16 = .ok (.iadd, 1) := by decide +kernel
theorem dX1_goOn_17 : decode cX1_goOn 17 = .ok (.ldc 47, 2) := by decide +kernel
theorem dX1_goOn_19 : decode cX1_goOn 19 = .ok (.if_icmp .le 5, 3) := by decide +kernel
theorem dX1_goOn_22 : decode cX1_goOn 22 = .ok (.iconst (-1), 1) := by decide +kernel
theorem dX1_goOn_23 : decode cX1_goOn 23 = .ok (.ireturn, 1) := by decide +kernel
theorem dX1_goOn_24 : decode cX1_goOn 24 = .ok (.aload_n 0, 1) := by decide +kernel
theorem dX1_goOn_25 : decode cX1_goOn 25 = .ok (.dup, 1) := by decide +kernel
theorem dX1_goOn_26 : decode cX1_goOn 26 = .ok (.getfield 44, 3) := by decide +kernel
theorem dX1_goOn_29 : decode cX1_goOn 29 = .ok (.iload_n 1, 1) := by decide +kernel
theorem dX1_goOn_30 : decode cX1_goOn 30 = .ok (.iadd, 1) := by decide +kernel
theorem dX1_goOn_31 : decode cX1_goOn 31 = .ok (.putfield 44, 3) := by decide +kernel
theorem dX1_goOn_34 : decode cX1_goOn 34 = .ok (.aload_n 0, 1) := by decide +kernel
theorem dX1_goOn_35 : decode cX1_goOn 35 = .ok (.getfield 44, 3) := by decide +kernel
theorem dX1_goOn_38 : decode cX1_goOn 38 = .ok (.ireturn, 1) := by decide +kernel
theorem dX1_isKnown_0 : decode cX1_isKnown 0 = .ok (.aload_n 0, 1) := by decide +kernel
theorem dX1_isKnown_1 : decode cX1_isKnown 1 = .ok (.getfield 22, 3) := by decide +kernel
theorem dX1_isKnown_4 : decode cX1_isKnown 4 = .ok (.iload_n 1, 1) := by decide +kernel
theorem dX1_isKnown_5 : decode cX1_isKnown 5 = .ok (.iaload, 1) := by decide +kernel
theorem dX1_isKnown_6 : decode cX1_isKnown 6 = .ok (.iload_n 2, 1) := by decide +kernel
theorem dX1_isKnown_7 : decode cX1_isKnown 7 = .ok (.if_icmp .gt 27, 3) := by decide +kernel
theorem dX1_isKnown_10 : decode cX1_isKnown 10 = .ok (.aload_n 0, 1) := by decide +kernel
theorem dX1_isKnown_11 : decode cX1_isKnown 11 = .ok (.getfield 25, 3) := by decide +kernel
theorem dX1_isKnown_14 : decode cX1_isKnown 14 = .ok (.iload_n 1, 1) := by decide +kernel
theorem dX1_isKnown_15 : decode cX1_isKnown 15 = .ok (.iaload, 1) := by decide +kernel
theorem dX1_isKnown_16 : decode cX1_isKnown 16 = .ok (.iconst (-1), 1) := by decide +kernel
theorem dX1_isKnown_17 : decode cX1_isKnown 17 = .ok (.if_icmp .eq 13, 3) := by decide +kernel
theorem dX1_isKnown_20 : decode cX1_isKnown 20 = .ok (.aload_n 0, 1) := by decide +kernel
theorem dX1_isKnown_21 : decode cX1_isKnown 21 = .ok (.getfield 25, 3) := by decide +kernel
theorem dX1_isKnown_24 : decode cX1_isKnown 24 = .ok (.iload_n 1, 1) := by decide +kernel
theorem dX1_isKnown_25 : decode cX1_isKnown 25 = .ok (.iaload, 1) := by decide +kernel
theorem dX1_isKnown_26 : decode cX1_isKnown 26 = .ok (.iload_n 2, 1) := by decide +kernel
theorem dX1_isKnown_27 : decode cX1_isKnown 27 = .ok (.if_icmp .le 7, 3) := by decide +kernel
theorem dX1_isKnown_30 : decode cX1_isKnown 30 = .ok (.iconst 1, 1) := by decide +kernel
theorem dX1_isKnown_31 : decode cX1_isKnown 31 = .ok (.goto 4, 3) := by decide +kernel
theorem dX1_isKnown_34 : decode cX1_isKnown 34 = .ok (.iconst 0, 1) := by decide +kernel
theorem dX1_isKnown_35 : decode cX1_isKnown 35 = .ok (.ireturn, 1) := by decide +kernel
theorem dX1_isShared_0 : decode cX1_isShared 0 = .ok (.aload_n 0, 1) := by decide +kernel
theorem dX1_isShared_1 : decode cX1_isShared 1 = .ok (.getfield 32, 3) := by decide +kernel
theorem dX1_isShared_4 : decode cX1_isShared 4 = .ok (.iload_n 1, 1) := by decide +kernel
theorem dX1_isShared_5 : decode cX1_isShared 5 = .ok (.lushr, 1) := by decide +kernel
theorem dX1_isShared_6 : decode cX1_isShared 6 = .ok (.lconst 1, 1) := by decide +kernel
theorem dX1_isShared_7 : decode cX1_isShared 7 = .ok (.land, 1) := by decide +kernel
theorem dX1_isShared_8 : decode cX1_isShared 8 = .ok (.lconst 1, 1) := by decide +kernel
theorem dX1_isShared_9 : decode cX1_isShared 9 = .ok (.lcmp, 1) := by decide +kernel
theorem dX1_isShared_10 : decode cX1_isShared 10 = .ok (.ifCond .ne 7, 3) := by decide +kernel
theorem dX1_isShared_13 : decode cX1_isShared 13 = .ok (.iconst 1, 1) := by decide +kernel
theorem dX1_isShared_14 : decode cX1_isShared 14 = .ok (.goto 4, 3) := by decide +kernel
theorem dX1_isShared_17 : decode cX1_isShared 17 = .ok (.iconst 0, 1) := by decide +kernel
theorem dX1_isShared_18 : decode cX1_isShared 18 = .ok (.ireturn, 1) := by decide +kernel
theorem dX1_setShared_0 : decode cX1_setShared 0 = .ok (.aload_n 0, 1) := by decide +kernel
theorem dX1_setShared_1 : decode cX1_setShared 1 = .ok (.iload_n 1, 1) := by decide +kernel
theorem dX1_setShared_2 : decode cX1_setShared 2 = .ok (.invokevirtual 48, 3) := by decide +kernel
theorem dX1_setShared_5 : decode cX1_setShared 5 = .ok (.iload_n 2, 1) := by decide +kernel
theorem dX1_setShared_6 : decode cX1_setShared 6 = .ok (.if_icmp .ne 5, 3) := by decide +kernel
theorem dX1_setShared_9 : decode cX1_setShared 9 = .ok (.iconst 0, 1) := by decide +kernel
theorem dX1_setShared_10 : decode cX1_setShared 10 = .ok (.ireturn, 1) := by decide +kernel
theorem dX1_setShared_11 : decode cX1_setShared 11 = .ok (.aload_n 0, 1) := by decide +kernel
theorem dX1_setShared_12 : decode cX1_setShared 12 = .ok (.dup, 1) := by decide +kernel
theorem dX1_setShared_13 : decode cX1_setShared 13 = .ok (.getfield 32, 3) := by decide +kernel
theorem dX1_setShared_16 : decode cX1_setShared 16 = .ok (.lconst 1, 1) := by decide +kernel
theorem dX1_setShared_17 : decode cX1_setShared 17 = .ok (.iload_n 1, 1) := by decide +kernel
theorem dX1_setShared_18 : decode cX1_setShared 18 = .ok (.lshl, 1) := by decide +kernel
theorem dX1_setShared_19 : decode cX1_setShared 19 = .ok (.lxor, 1) := by decide +kernel
theorem dX1_setShared_20 : decode cX1_setShared 20 = .ok (.putfield 32, 3) := by decide +kernel
theorem dX1_setShared_23 : decode cX1_setShared 23 = .ok (.aload_n 0, 1) := by decide +kernel
theorem dX1_setShared_24 : decode cX1_setShared 24 = .ok (.dup, 1) := by decide +kernel
theorem dX1_setShared_25 : decode cX1_setShared 25 = .ok (.getfield 39, 3) := by decide +kernel
theorem dX1_setShared_28 : decode cX1_setShared 28 = .ok (.iconst 1, 1) := by decide +kernel
theorem dX1_setShared_29 : decode cX1_setShared 29 = .ok (.iadd, 1) := by decide +kernel
theorem dX1_setShared_30 : decode cX1_setShared 30 = .ok (.putfield 39, 3) := by decide +kernel
theorem dX1_setShared_33 : decode cX1_setShared 33 = .ok (.iconst 1, 1) := by decide +kernel
theorem dX1_setShared_34 : decode cX1_setShared 34 = .ok (.ireturn, 1) := by decide +kernel
theorem dX1_isDoubted_0 : decode cX1_isDoubted 0 = .ok (.aload_n 0, 1) := by decide +kernel
theorem dX1_isDoubted_1 : decode cX1_isDoubted 1 = .ok (.getfield 36, 3) := by decide +kernel
theorem dX1_isDoubted_4 : decode cX1_isDoubted 4 = .ok (.iload_n 1, 1) := by decide +kernel
theorem dX1_isDoubted_5 : decode cX1_isDoubted 5 = .ok (.iushr, 1) := by decide +kernel
theorem dX1_isDoubted_6 : decode cX1_isDoubted 6 = .ok (.iconst 1, 1) := by decide +kernel
theorem dX1_isDoubted_7 : decode cX1_isDoubted 7 = .ok (.iand, 1) := by decide +kernel
theorem dX1_isDoubted_8 : decode cX1_isDoubted 8 = .ok (.iconst 1, 1) := by decide +kernel
theorem dX1_isDoubted_9 : decode cX1_isDoubted 9 = .ok (.if_icmp .ne 7, 3) := by decide +kernel
theorem dX1_isDoubted_12 : decode cX1_isDoubted 12 = .ok (.iconst 1, 1) := by decide +kernel
theorem dX1_isDoubted_13 : decode cX1_isDoubted 13 = .ok (.goto 4, 3) := by decide +kernel
theorem dX1_isDoubted_16 : decode cX1_isDoubted 16 = .ok (.iconst 0, 1) := by decide +kernel
theorem dX1_isDoubted_17 : decode cX1_isDoubted 17 = .ok (.ireturn, 1) := by decide +kernel
theorem dX1_setDoubted_0 : decode cX1_setDoubted 0 = .ok (.aload_n 0, 1) := by decide +kernel
theorem dX1_setDoubted_1 : decode cX1_setDoubted 1 = .ok (.iload_n 1, 1) := by decide +kernel
theorem dX1_setDoubted_2 : decode cX1_setDoubted 2 = .ok (.invokevirtual 52, 3) := by decide +kernel
theorem dX1_setDoubted_5 : decode cX1_setDoubted 5 = .ok (.iload_n 2, 1) := by decide +kernel
theorem dX1_setDoubted_6 : decode cX1_setDoubted 6 = .ok (.if_icmp .ne 5, 3) := by decide +kernel
theorem dX1_setDoubted_9 : decode cX1_setDoubted 9 = .ok (.iconst 0, 1) := by decide +kernel
theorem dX1_setDoubted_10 : decode cX1_setDoubted 10 = .ok (.ireturn, 1) := by decide +kernel
theorem dX1_setDoubted_11 : decode cX1_setDoubted 11 = .ok (.aload_n 0, 1) := by decide +kernel
theorem dX1_setDoubted_12 : decode cX1_setDoubted 12 = .ok (.dup, 1) := by decide +kernel
theorem dX1_setDoubted_13 : decode cX1_setDoubted 13 = .ok (.getfield 36, 3) := by decide +kernel
theorem dX1_setDoubted_16 : decode cX1_setDoubted 16 = .ok (.iconst 1, 1) := by decide +kernel
theorem dX1_setDoubted_17 : decode cX1_setDoubted 17 = .ok (.iload_n 1, 1) := by decide +kernel
theorem dX1_setDoubted_18 : decode cX1_setDoubted 18 = .ok (.ishl, 1) := by decide +kernel
theorem dX1_setDoubted_19 : decode cX1_setDoubted 19 = .ok (.ixor, 1) := by decide +kernel
theorem dX1_setDoubted_20 : decode cX1_setDoubted 20 = .ok (.putfield 36, 3) := by decide +kernel
theorem dX1_setDoubted_23 : decode cX1_setDoubted 23 = .ok (.aload_n 0, 1) := by decide +kernel
theorem dX1_setDoubted_24 : decode cX1_setDoubted 24 = .ok (.dup, 1) := by decide +kernel
theorem dX1_setDoubted_25 : decode cX1_setDoubted 25 = .ok (.getfield 39, 3) := by decide +kernel
theorem dX1_setDoubted_28 : decode cX1_setDoubted 28 = .ok (.iconst 1, 1) := by decide +kernel
theorem dX1_setDoubted_29 : decode cX1_setDoubted 29 = .ok (.iadd, 1) := by decide +kernel
theorem dX1_setDoubted_30 : decode cX1_setDoubted 30 = .ok (.putfield 39, 3) := by decide +kernel
theorem dX1_setDoubted_33 : decode cX1_setDoubted 33 = .ok (.iconst 1, 1) := by decide +kernel
theorem dX1_setDoubted_34 : decode cX1_setDoubted 34 = .ok (.ireturn, 1) := by decide +kernel
theorem dX2_init_0 : decode cX2_init 0 = .ok (.aload_n 0, 1) := by decide +kernel
theorem dX2_init_1 : decode cX2_init 1 = .ok (.invokespecial 3, 3) := by decide +kernel
theorem dX2_init_4 : decode cX2_init 4 = .ok (.aload_n 0, 1) := by decide +kernel
theorem dX2_init_5 : decode cX2_init 5 = .ok (.iconst 5, 1) := by decide +kernel
theorem dX2_init_6 : decode cX2_init 6 = .ok (.newarray .long, 2) := by decide +kernel
theorem dX2_init_8 : decode cX2_init 8 = .ok (.putfield 11, 3) := by decide +kernel
theorem dX2_init_11 : decode cX2_init 11 = .ok (.aload_n 0, 1) := by decide +kernel
theorem dX2_init_12 : decode cX2_init 12 = .ok (.iconst 5, 1) := by decide +kernel
theorem dX2_init_13 : decode cX2_init 13 = .ok (.newarray .int, 2) := by decide +kernel
theorem dX2_init_15 : decode cX2_init 15 = .ok (.putfield 15, 3) := by decide +kernel
theorem dX2_init_18 : decode cX2_init 18 = .ok (.aload_n 0, 1) := by decide +kernel
theorem dX2_init_19 : decode cX2_init 19 = .ok (.iconst 5, 1) := by decide +kernel
theorem dX2_init_20 : decode cX2_init 20 = .ok (.newarray .int, 2) := by decide +kernel
theorem dX2_init_22 : decode cX2_init 22 = .ok (.putfield 19, 3) := by decide +kernel
theorem dX2_init_25 : decode cX2_init 25 = .ok (.aload_n 0, 1) := by decide +kernel
theorem dX2_init_26 : decode cX2_init 26 = .ok (.bipush 20, 2) := by decide +kernel
theorem dX2_init_28 : decode cX2_init 28 = .ok (.newarray .int, 2) := by decide +kernel
theorem dX2_init_30 : decode cX2_init 30 = .ok (.putfield 22, 3) := by decide +kernel
theorem dX2_init_33 : decode cX2_init 33 = .ok (.aload_n 0, 1) := by decide +kernel
theorem dX2_init_34 : decode cX2_init 34 = .ok (.bipush 20, 2) := by decide +kernel
theorem dX2_init_36 : decode cX2_init 36 = .ok (.newarray .int, 2) := by decide +kernel
theorem dX2_init_38 : decode cX2_init 38 = .ok (.putfield 25, 3) := by decide +kernel
theorem dX2_init_41 : decode cX2_init 41 = .ok (.aload_n 0, 1) := by decide +kernel
theorem dX2_init_42 : decode cX2_init 42 = .ok (.bipush 16, 2) := by decide +kernel
theorem dX2_init_44 : decode cX2_init 44 = .ok (.newarray .int, 2) := by decide +kernel
theorem dX2_init_46 : decode cX2_init 46 = .ok (.putfield 28, 3) := by decide +kernel
theorem dX2_init_49 : decode cX2_init 49 = .ok (.aload_n 0, 1) := by decide +kernel
theorem dX2_init_50 : decode cX2_init 50 = .ok (.bipush 16, 2) := by decide +kernel
theorem dX2_init_52 : decode cX2_init 52 = .ok (.newarray .int, 2) := by decide +kernel
theorem dX2_init_54 : decode cX2_init 54 = .ok (.putfield 31, 3) := by decide +kernel
theorem dX2_init_57 : decode cX2_init 57 = .ok (.aload_n 0, 1) := by decide +kernel
theorem dX2_init_58 : decode cX2_init 58 = .ok (.bipush 16, 2) := by decide +kernel
theorem dX2_init_60 : decode cX2_init 60 = .ok (.newarray .int, 2) := by decide +kernel
theorem dX2_init_62 : decode cX2_init 62 = .ok (.putfield 34, 3) := by decide +kernel
theorem dX2_init_65 : decode cX2_init 65 = .ok (.aload_n 0, 1) := by decide +kernel
theorem dX2_init_66 : decode cX2_init 66 = .ok (.bipush 16, 2) := by decide +kernel
theorem dX2_init_68 : decode cX2_init 68 = .ok (.newarray .int, 2) := by decide +kernel
theorem dX2_init_70 : decode cX2_init 70 = .ok (.putfield 37, 3) := by decide +kernel
theorem dX2_init_73 : decode cX2_init 73 = .ok (.return_, 1) := by decide +kernel
theorem dX2_clear_0 : decode cX2_clear 0 = .ok (.aload_n 0, 1) := by decide +kernel
theorem dX2_clear_1 : decode cX2_clear 1 = .ok (.iconst 0, 1) := by decide +kernel
theorem dX2_clear_2 : decode cX2_clear 2 = .ok (.putfield 40, 3) := by decide +kernel
theorem dX2_clear_5 : decode cX2_clear 5 = .ok (.aload_n 0, 1) := by decide +kernel
theorem dX2_clear_6 : decode cX2_clear 6 = .ok (.iconst 0, 1) := by decide +kernel
theorem dX2_clear_7 : decode cX2_clear 7 = .ok (.putfield 44, 3) := by decide +kernel
theorem dX2_clear_10 : decode cX2_clear 10 = .ok (.return_, 1) := by decide +kernel
theorem dX2_become_0 : decode cX2_become 0 = .ok (.aload_n 0, 1) := by decide +kernel
theorem dX2_become_1 : decode cX2_become 1 = .ok (.aload_n 1, 1) := by decide +kernel
theorem dX2_become_2 : decode cX2_become 2 = .ok (.getfield 40, 3) := by decide +kernel
theorem dX2_become_5 : decode cX2_become 5 = .ok (.putfield 40, 3) := by decide +kernel
theorem dX2_become_8 : decode cX2_become 8 = .ok (.aload_n 0, 1) := by decide +kernel
theorem dX2_become_9 : decode cX2_become 9 = .ok (.aload_n 1, 1) := by decide +kernel
theorem dX2_become_10 : decode cX2_become 10 = .ok (.getfield 44, 3) := by decide +kernel
theorem dX2_become_13 : decode cX2_become 13 = .ok (.putfield 44, 3) := by decide +kernel
theorem dX2_become_16 : decode cX2_become 16 = .ok (.aload_n 1, 1) := by decide +kernel
theorem dX2_become_17 : decode cX2_become 17 = .ok (.getfield 11, 3) := by decide +kernel
theorem dX2_become_20 : decode cX2_become 20 = .ok (.iconst 0, 1) := by decide +kernel
theorem dX2_become_21 : decode cX2_become 21 = .ok (.aload_n 0, 1) := by decide +kernel
theorem dX2_become_22 : decode cX2_become 22 = .ok (.getfield 11, 3) := by decide +kernel
theorem dX2_become_25 : decode cX2_become 25 = .ok (.iconst 0, 1) := by decide +kernel
theorem dX2_become_26 : decode cX2_become 26 = .ok (.iconst 5, 1) := by decide +kernel
theorem dX2_become_27 : decode cX2_become 27 = .ok (.invokestatic 47, 3) := by decide +kernel
theorem dX2_become_30 : decode cX2_become 30 = .ok (.aload_n 1, 1) := by decide +kernel
theorem dX2_become_31 : decode cX2_become 31 = .ok (.getfield 15, 3) := by decide +kernel
theorem dX2_become_34 : decode cX2_become 34 = .ok (.iconst 0, 1) := by decide +kernel
theorem dX2_become_35 : decode cX2_become 35 = .ok (.aload_n 0, 1) := by decide +kernel
theorem dX2_become_36 : decode cX2_become 36 = .ok (.getfield 15, 3) := by decide +kernel
theorem dX2_become_39 : decode cX2_become 39 = .ok (.iconst 0, 1) := by decide +kernel
theorem dX2_become_40 : decode cX2_become 40 = .ok (.iconst 5, 1) := by decide +kernel
theorem dX2_become_41 : decode cX2_become 41 = .ok (.invokestatic 47, 3) := by decide +kernel
theorem dX2_become_44 : decode cX2_become 44 = .ok (.aload_n 1, 1) := by decide +kernel
theorem dX2_become_45 : decode cX2_become 45 = .ok (.getfield 19, 3) := by decide +kernel
theorem dX2_become_48 : decode cX2_become 48 = .ok (.iconst 0, 1) := by decide +kernel
theorem dX2_become_49 : decode cX2_become 49 = .ok (.aload_n 0, 1) := by decide +kernel
theorem dX2_become_50 : decode cX2_become 50 = .ok (.getfield 19, 3) := by decide +kernel
theorem dX2_become_53 : decode cX2_become 53 = .ok (.iconst 0, 1) := by decide +kernel
theorem dX2_become_54 : decode cX2_become 54 = .ok (.iconst 5, 1) := by decide +kernel
theorem dX2_become_55 : decode cX2_become 55 = .ok (.invokestatic 47, 3) := by decide +kernel
theorem dX2_become_58 : decode cX2_become 58 = .ok (.aload_n 1, 1) := by decide +kernel
theorem dX2_become_59 : decode cX2_become 59 = .ok (.getfield 22, 3) := by decide +kernel
theorem dX2_become_62 : decode cX2_become 62 = .ok (.iconst 0, 1) := by decide +kernel
theorem dX2_become_63 : decode cX2_become 63 = .ok (.aload_n 0, 1) := by decide +kernel
theorem dX2_become_64 : decode cX2_become 64 = .ok (.getfield 22, 3) := by decide +kernel
theorem dX2_become_67 : decode cX2_become 67 = .ok (.iconst 0, 1) := by decide +kernel
theorem dX2_become_68 : decode cX2_become 68 = .ok (.bipush 20, 2) := by decide +kernel
theorem dX2_become_70 : decode cX2_become 70 = .ok (.invokestatic 47, 3) := by decide +kernel
theorem dX2_become_73 : decode cX2_become 73 = .ok (.aload_n 1, 1) := by decide +kernel
theorem dX2_become_74 : decode cX2_become 74 = .ok (.getfield 25, 3) := by decide +kernel
theorem dX2_become_77 : decode cX2_become 77 = .ok (.iconst 0, 1) := by decide +kernel
theorem dX2_become_78 : decode cX2_become 78 = .ok (.aload_n 0, 1) := by decide +kernel
theorem dX2_become_79 : decode cX2_become 79 = .ok (.getfield 25, 3) := by decide +kernel
theorem dX2_become_82 : decode cX2_become 82 = .ok (.iconst 0, 1) := by decide +kernel
theorem dX2_become_83 : decode cX2_become 83 = .ok (.bipush 20, 2) := by decide +kernel
theorem dX2_become_85 : decode cX2_become 85 = .ok (.invokestatic 47, 3) := by decide +kernel
theorem dX2_become_88 : decode cX2_become 88 = .ok (.aload_n 1, 1) := by decide +kernel
theorem dX2_become_89 : decode cX2_become 89 = .ok (.getfield 28, 3) := by decide +kernel
theorem dX2_become_92 : decode cX2_become 92 = .ok (.iconst 0, 1) := by decide +kernel
theorem dX2_become_93 : decode cX2_become 93 = .ok (.aload_n 0, 1) := by decide +kernel
theorem dX2_become_94 : decode cX2_become 94 = .ok (.getfield 28, 3) := by decide +kernel
theorem dX2_become_97 : decode cX2_become 97 = .ok (.iconst 0, 1) := by decide +kernel
theorem dX2_become_98 : decode cX2_become 98 = .ok (.bipush 16, 2) := by decide +kernel
theorem dX2_become_100 : decode cX2_become 100 = .ok (.invokestatic 47, 3) := by decide +kernel
theorem dX2_become_103 : decode cX2_become 103 = .ok (.aload_n 1, 1) := by decide +kernel
theorem dX2_become_104 : decode cX2_become 104 = .ok (.getfield 31, 3) := by decide +kernel
theorem dX2_become_107 : decode cX2_become 107 = .ok (.iconst 0, 1) := by decide +kernel
theorem dX2_become_108 : decode cX2_become 108 = .ok (.aload_n 0, 1) := by decide +kernel
theorem dX2_become_109 : decode cX2_become 109 = .ok (.getfield 31, 3) := by decide +kernel
theorem dX2_become_112 : decode cX2_become 112 = .ok (.iconst 0, 1) := by decide +kernel
theorem dX2_become_113 : decode cX2_become 113 = .ok (.bipush 16, 2) := by decide +kernel
theorem dX2_become_115 : decode cX2_become 115 = .ok (.invokestatic 47, 3) := by decide +kernel
theorem dX2_become_118 : decode cX2_become 118 = .ok (.aload_n 1, 1) := by decide +kernel
theorem dX2_become_119 : decode cX2_become 119 = .ok (.getfield 34, 3) := by decide +kernel
theorem dX2_become_122 : decode cX2_become 122 = .ok (.iconst 0, 1) := by decide +kernel
theorem dX2_become_123 : decode cX2_become 123 = .ok (.aload_n 0, 1) := by decide +kernel
theorem dX2_become_124 : decode cX2_become 124 = .ok (.getfield 34, 3) := by decide +kernel
theorem dX2_become_127 : decode cX2_become 127 = .ok (.iconst 0, 1) := by decide +kernel
theorem dX2_become_128 : decode cX2_become 128 = .ok (.bipush 16, 2) := by decide +kernel
theorem dX2_become_130 : decode cX2_become 130 = .ok (.invokestatic 47, 3) := by decide +kernel
theorem dX2_become_133 : decode cX2_become 133 = .ok (.aload_n 1, 1) := by decide +kernel
theorem dX2_become_134 : decode cX2_become 134 = .ok (.getfield 37, 3) := by decide +kernel
theorem dX2_become_137 : decode cX2_become 137 = .ok (.iconst 0, 1) := by decide +kernel
theorem dX2_become_138 : decode cX2_become 138 = .ok (.aload_n 0, 1) := by decide +kernel
theorem dX2_become_139 : decode cX2_become 139 = .ok (.getfield 37, 3) := by decide +kernel
theorem dX2_become_142 : decode cX2_become 142 = .ok (.iconst 0, 1) := by decide +kernel
theorem dX2_become_143 : decode cX2_become 143 = .ok (.bipush 16, 2) := by decide +kernel
theorem dX2_become_145 : decode cX2_become 145 = .ok (.invokestatic 47, 3) := by decide +kernel
theorem dX2_become_148 : decode cX2_become 148 = .ok (.return_, 1) := by decide +kernel
theorem dX2_find_0 : decode cX2_find 0 = .ok (.iconst 0, 1) := by decide +kernel
theorem dX2_find_1 : decode cX2_find 1 = .ok (.istore_n 3, 1) := by decide +kernel
theorem dX2_find_2 : decode cX2_find 2 = .ok (.iload_n 3, 1) := by decide +kernel
theorem dX2_find_3 : decode cX2_find 3 = .ok (.aload_n 0, 1) := by decide +kernel
theorem dX2_find_4 : decode cX2_find 4 = .ok (.getfield 40, 3) := by decide +kernel
theorem dX2_find_7 : decode cX2_find 7 = .ok (.if_icmp .ge 22, 3) := by decide +kernel
theorem dX2_find_10 : decode cX2_find 10 = .ok (.aload_n 0, 1) := by decide +kernel
theorem dX2_find_11 : decode cX2_find 11 = .ok (.getfield 11, 3) := by decide +kernel
theorem dX2_find_14 : decode cX2_find 14 = .ok (.iload_n 3, 1) := by decide +kernel
theorem dX2_find_15 : decode cX2_find 15 = .ok (.laload, 1) := by decide +kernel
theorem dX2_find_16 : decode cX2_find 16 = .ok (.lload_n 1, 1) := by decide +kernel
theorem dX2_find_17 : decode cX2_find 17 = .ok (.lcmp, 1) := by decide +kernel
theorem dX2_find_18 : decode cX2_find 18 = .ok (.ifCond .ne 5, 3) := by decide +kernel
theorem dX2_find_21 : decode cX2_find 21 = .ok (.iload_n 3, 1) := by decide +kernel
theorem dX2_find_22 : decode cX2_find 22 = .ok (.ireturn, 1) := by decide +kernel
theorem dX2_find_23 : decode cX2_find 23 = .ok (.iinc 3 1, 3) := by decide +kernel
theorem dX2_find_26 : decode cX2_find 26 = .ok (.goto (-24), 3) := by decide +kernel
theorem dX2_find_29 : decode cX2_find 29 = .ok (.iconst (-1), 1) := by decide +kernel
theorem dX2_find_30 : decode cX2_find 30 = .ok (.ireturn, 1) := by decide +kernel
theorem dX2_has_0 : decode cX2_has 0 = .ok (.iload_n 1, 1) := by decide +kernel
theorem dX2_has_1 : decode cX2_has 1 = .ok (.ifCond .lt 15, 3) := by decide +kernel
theorem dX2_has_4 : decode cX2_has 4 = .ok (.iload_n 1, 1) := by decide +kernel
theorem dX2_has_5 : decode cX2_has 5 = .ok (.aload_n 0, 1) := by decide +kernel
theorem dX2_has_6 : decode cX2_has 6 = .ok (.getfield 40, 3) := by decide +kernel
theorem dX2_has_9 : decode cX2_has 9 = .ok (.if_icmp .ge 7, 3) := by decide +kernel
theorem dX2_has_12 : decode cX2_has 12 = .ok (.iconst 1, 1) := by decide +kernel
theorem dX2_has_13 : decode cX2_has 13 = .ok (.goto 4, 3) := by decide +kernel
theorem dX2_has_16 : decode cX2_has 16 = .ok (.iconst 0, 1) := by decide +kernel
theorem dX2_has_17 : decode cX2_has 17 = .ok (.ireturn, 1) := by decide +kernel
theorem dX2_isWind_0 : decode cX2_isWind 0 = .ok (.aload_n 0, 1) := by decide +kernel
theorem dX2_isWind_1 : decode cX2_isWind 1 = .ok (.getfield 15, 3) := by decide +kernel
theorem dX2_isWind_4 : decode cX2_isWind 4 = .ok (.iload_n 1, 1) := by decide +kernel
theorem dX2_isWind_5 : decode cX2_isWind 5 = .ok (.iaload, 1) := by decide +kernel
theorem dX2_isWind_6 : decode cX2_isWind 6 = .ok (.iconst 3, 1) := by decide +kernel
theorem dX2_isWind_7 : decode cX2_isWind 7 = .ok (.if_icmp .ne 7, 3) := by decide +kernel
theorem dX2_isWind_10 : decode cX2_isWind 10 = .ok (.iconst 1, 1) := by decide +kernel
theorem dX2_isWind_11 : decode cX2_isWind 11 = .ok (.goto 4, 3) := by decide +kernel
theorem dX2_isWind_14 : decode cX2_isWind 14 = .ok (.iconst 0, 1) := by decide +kernel
theorem dX2_isWind_15 : decode cX2_isWind 15 = .ok (.ireturn, 1) := by decide +kernel
theorem dX2_low_0 : decode cX2_low 0 = .ok (.aload_n 0, 1) := by decide +kernel
theorem dX2_low_1 : decode cX2_low 1 = .ok (.getfield 22, 3) := by decide +kernel
theorem dX2_low_4 : decode cX2_low 4 = .ok (.iload_n 1, 1) := by decide +kernel
theorem dX2_low_5 : decode cX2_low 5 = .ok (.iconst 4, 1) := by decide +kernel
theorem dX2_low_6 : decode cX2_low 6 = .ok (.imul, 1) := by decide +kernel
theorem dX2_low_7 : decode cX2_low 7 = .ok (.iload_n 2, 1) := by decide +kernel
theorem dX2_low_8 : decode cX2_low 8 = .ok (.iadd, 1) := by decide +kernel
theorem dX2_low_9 : decode cX2_low 9 = .ok (.iaload, 1) := by decide +kernel
theorem dX2_low_10 : decode cX2_low 10 = .ok (.ireturn, 1) := by decide +kernel
theorem dX2_high_0 : decode cX2_high 0 = .ok (.aload_n 0, 1) := by decide +kernel
theorem dX2_high_1 : decode cX2_high 1 = .ok (.getfield 25, 3) := by decide +kernel
theorem dX2_high_4 : decode cX2_high 4 = .ok (.iload_n 1, 1) := by decide +kernel
theorem dX2_high_5 : decode cX2_high 5 = .ok (.iconst 4, 1) := by decide +kernel
theorem dX2_high_6 : decode cX2_high 6 = .ok (.imul, 1) := by decide +kernel
theorem dX2_high_7 : decode cX2_high 7 = .ok (.iload_n 2, 1) := by decide +kernel
theorem dX2_high_8 : decode cX2_high 8 = .ok (.iadd, 1) := by decide +kernel
theorem dX2_high_9 : decode cX2_high 9 = .ok (.iaload, 1) := by decide +kernel
theorem dX2_high_10 : decode cX2_high 10 = .ok (.ireturn, 1) := by decide +kernel
theorem dX2_fits_0 : decode cX2_fits 0 = .ok (.iload_n 3, 1) := by decide +kernel
theorem dX2_fits_1 : decode cX2_fits 1 = .ok (.iload_n 2, 1) := by decide +kernel
theorem dX2_fits_2 : decode cX2_fits 2 = .ok (.isub, 1) := by decide +kernel
theorem dX2_fits_3 : decode cX2_fits 3 = .ok (.invokestatic 53, 3) := by decide +kernel
theorem dX2_fits_6 : decode cX2_fits 6 = .ok (.istore 4, 2) := by decide +kernel
theorem dX2_fits_8 : decode cX2_fits 8 = .ok (.aload_n 0, 1) := by decide +kernel
theorem dX2_fits_9 : decode cX2_fits 9 = .ok (.iload_n 1, 1) := by decide +kernel
theorem dX2_fits_10 : decode cX2_fits 10 = .ok (.invokevirtual 59, 3) := by decide +kernel
theorem dX2_fits_13 : decode cX2_fits 13 = .ok (.ifCond .eq 22, 3) := by decide +kernel
theorem dX2_fits_16 : decode cX2_fits 16 = .ok (.iload 4, 2) := by decide +kernel
theorem dX2_fits_18 : decode cX2_fits 18 = .ok (.bipush 16, 2) := by decide +kernel
theorem dX2_fits_20 : decode cX2_fits 20 = .ok (.irem, 1) := by decide +kernel
theorem dX2_fits_21 : decode cX2_fits 21 = .ok (.istore 4, 2) := by decide +kernel
theorem dX2_fits_23 : decode cX2_fits 23 = .ok (.iload 4, 2) := by decide +kernel
theorem dX2_fits_25 : decode cX2_fits 25 = .ok (.bipush 16, 2) := by decide +kernel
theorem dX2_fits_27 : decode cX2_fits 27 = .ok (.iload 4, 2) := by decide +kernel
theorem dX2_fits_29 : decode cX2_fits 29 = .ok (.isub, 1) := by decide +kernel
theorem dX2_fits_30 : decode cX2_fits 30 = .ok (.invokestatic 63, 3) := by decide +kernel
theorem dX2_fits_33 : decode cX2_fits 33 = .ok (.istore 4, 2) := by decide +kernel
theorem dX2_fits_35 : decode cX2_fits 35 = .ok (.iload 4, 2) := by decide +kernel
theorem dX2_fits_37 : decode cX2_fits 37 = .ok (.aload_n 0, 1) := by decide +kernel
theorem dX2_fits_38 : decode cX2_fits 38 = .ok (.getfield 19, 3) := by decide +kernel
theorem dX2_fits_41 : decode cX2_fits 41 = .ok (.iload_n 1, 1) := by decide +kernel
theorem dX2_fits_42 : decode cX2_fits 42 = .ok (.iaload, 1) := by decide +kernel
theorem dX2_fits_43 : decode cX2_fits 43 = .ok (.if_icmp .gt 7, 3) := by decide +kernel
theorem dX2_fits_46 : decode cX2_fits 46 = .ok (.iconst 1, 1) := by decide +kernel
theorem dX2_fits_47 : decode cX2_fits 47 = .ok (.goto 4, 3) := by decide +kernel
theorem dX2_fits_50 : decode cX2_fits 50 = .ok (.iconst 0, 1) := by decide +kernel
theorem dX2_fits_51 : decode cX2_fits 51 = .ok (.ireturn, 1) := by decide +kernel
theorem dX2_isOf_0 : decode cX2_isOf 0 = .ok (.aload_n 0, 1) := by decide +kernel
theorem dX2_isOf_1 : decode cX2_isOf 1 = .ok (.getfield 28, 3) := by decide +kernel
theorem dX2_isOf_4 : decode cX2_isOf 4 = .ok (.iload_n 1, 1) := by decide +kernel
theorem dX2_isOf_5 : decode cX2_isOf 5 = .ok (.iaload, 1) := by decide +kernel
theorem dX2_isOf_6 : decode cX2_isOf 6 = .ok (.iload_n 2, 1) := by decide +kernel
theorem dX2_isOf_7 : decode cX2_isOf 7 = .ok (.if_icmp .ne 17, 3) := by decide +kernel
theorem dX2_isOf_10 : decode cX2_isOf 10 = .ok (.aload_n 0, 1) := by decide +kernel
theorem dX2_isOf_11 : decode cX2_isOf 11 = .ok (.getfield 31, 3) := by decide +kernel
theorem dX2_isOf_14 : decode cX2_isOf 14 = .ok (.iload_n 1, 1) := by decide +kernel
theorem dX2_isOf_15 : decode cX2_isOf 15 = .ok (.iaload, 1) := by decide +kernel
theorem dX2_isOf_16 : decode cX2_isOf 16 = .ok (.iload_n 3, 1) := by decide +kernel
theorem dX2_isOf_17 : decode cX2_isOf 17 = .ok (.if_icmp .ne 7, 3) := by decide +kernel
theorem dX2_isOf_20 : decode cX2_isOf 20 = .ok (.iconst 1, 1) := by decide +kernel
theorem dX2_isOf_21 : decode cX2_isOf 21 = .ok (.goto 4, 3) := by decide +kernel
theorem dX2_isOf_24 : decode cX2_isOf 24 = .ok (.iconst 0, 1) := by decide +kernel
theorem dX2_isOf_25 : decode cX2_isOf 25 = .ok (.ireturn, 1) := by decide +kernel
theorem dX2_firstDay_0 : decode cX2_firstDay 0 = .ok (.iconst 0, 1) := by decide +kernel
theorem dX2_firstDay_1 : decode cX2_firstDay 1 = .ok (.istore_n 3, 1) := by decide +kernel
theorem dX2_firstDay_2 : decode cX2_firstDay 2 = .ok (.iconst 0, 1) := by decide +kernel
theorem dX2_firstDay_3 : decode cX2_firstDay 3 = .ok (.istore 4, 2) := by decide +kernel
theorem dX2_firstDay_5 : decode cX2_firstDay 5 = .ok (.iload 4, 2) := by decide +kernel
theorem dX2_firstDay_7 : decode cX2_firstDay 7 = .ok (.aload_n 0, 1) := by decide +kernel
theorem dX2_firstDay_8 : decode cX2_firstDay 8 = .ok (.getfield 44, 3) := by decide +kernel
theorem dX2_firstDay_11 : decode cX2_firstDay 11 = .ok (.if_icmp .ge 45, 3) := by decide +kernel
theorem dX2_firstDay_14 : decode cX2_firstDay 14 = .ok (.aload_n 0, 1) := by decide +kernel
theorem dX2_firstDay_15 : decode cX2_firstDay 15 = .ok (.iload 4, 2) := by decide +kernel
theorem dX2_firstDay_17 : decode cX2_firstDay 17 = .ok (.sipush 139, 3) := by decide +kernel
theorem dX2_firstDay_20 : decode cX2_firstDay 20 = .ok (.iload_n 1, 1) := by decide +kernel
theorem dX2_firstDay_21 : decode cX2_firstDay 21 = .ok (.invokevirtual 69, 3) := by decide +kernel
theorem dX2_firstDay_24 : decode cX2_firstDay 24 = .ok (.ifCond .eq 26, 3) := by decide +kernel
theorem dX2_firstDay_27 : decode cX2_firstDay 27 = .ok (.aload_n 0, 1) := by decide +kernel
theorem dX2_firstDay_28 : decode cX2_firstDay 28 = .ok (.getfield 34, 3) := by decide +kernel
theorem dX2_firstDay_31 : decode cX2_firstDay 31 = .ok (.iload 4, 2) := by decide +kernel
theorem dX2_firstDay_33 : decode cX2_firstDay 33 = .ok (.iaload, 1) := by decide +kernel
theorem dX2_firstDay_34 : decode cX2_firstDay 34 = .ok (.iload_n 2, 1) := by decide +kernel
theorem dX2_firstDay_35 : decode cX2_firstDay 35 = .ok (.if_icmp .gt 15, 3) := by decide +kernel
theorem dX2_firstDay_38 : decode cX2_firstDay 38 = .ok (.iload_n 3, 1) := by decide +kernel
theorem dX2_firstDay_39 : decode cX2_firstDay 39 = .ok (.aload_n 0, 1) := by decide +kernel
theorem dX2_firstDay_40 : decode cX2_firstDay 40 = .ok (.getfield 34, 3) := by decide +kernel
theorem dX2_firstDay_43 : decode cX2_firstDay 43 = .ok (.iload 4, 2) := by decide +kernel
theorem dX2_firstDay_45 : decode cX2_firstDay 45 = .ok (.iaload, 1) := by decide +kernel
theorem dX2_firstDay_46 : decode cX2_firstDay 46 = .ok (.invokestatic 73, 3) := by decide +kernel
theorem dX2_firstDay_49 : decode cX2_firstDay 49 = .ok (.istore_n 3, 1) := by decide +kernel
theorem dX2_firstDay_50 : decode cX2_firstDay 50 = .ok (.iinc 4 1, 3) := by decide +kernel
theorem dX2_firstDay_53 : decode cX2_firstDay 53 = .ok (.goto (-48), 3) := by decide +kernel
theorem dX2_firstDay_56 : decode cX2_firstDay 56 = .ok (.iload_n 3, 1) := by decide +kernel
theorem dX2_firstDay_57 : decode cX2_firstDay 57 = .ok (.ireturn, 1) := by decide +kernel
theorem dX2_lastDay_0 : decode cX2_lastDay 0 = .ok (.bipush 59, 2) := by decide +kernel
theorem dX2_lastDay_2 : decode cX2_lastDay 2 = .ok (.istore_n 3, 1) := by decide +kernel
theorem dX2_lastDay_3 : decode cX2_lastDay 3 = .ok (.iconst 0, 1) := by decide +kernel
theorem dX2_lastDay_4 : decode cX2_lastDay 4 = .ok (.istore 4, 2) := by decide +kernel
theorem dX2_lastDay_6 : decode cX2_lastDay 6 = .ok (.iload 4, 2) := by decide +kernel
theorem dX2_lastDay_8 : decode cX2_lastDay 8 = .ok (.aload_n 0, 1) := by decide +kernel
theorem dX2_lastDay_9 : decode cX2_lastDay 9 = .ok (.getfield 44, 3) := by decide +kernel
theorem dX2_lastDay_12 : decode cX2_lastDay 12 = .ok (.if_icmp .ge 47, 3) := by decide +kernel
theorem dX2_lastDay_15 : decode cX2_lastDay 15 = .ok (.aload_n 0, 1) := by decide +kernel
theorem dX2_lastDay_16 : decode cX2_lastDay 16 = .ok (.iload 4, 2) := by decide +kernel
theorem dX2_lastDay_18 : decode cX2_lastDay 18 = .ok (.sipush 139, 3) := by decide +kernel
theorem dX2_lastDay_21 : decode cX2_lastDay 21 = .ok (.iload_n 1, 1) := by decide +kernel
theorem dX2_lastDay_22 : decode cX2_lastDay 22 = .ok (.invokevirtual 69, 3) := by decide +kernel
theorem dX2_lastDay_25 : decode cX2_lastDay 25 = .ok (.ifCond .eq 28, 3) := by decide +kernel
theorem dX2_lastDay_28 : decode cX2_lastDay 28 = .ok (.aload_n 0, 1) := by decide +kernel
theorem dX2_lastDay_29 : decode cX2_lastDay 29 = .ok (.getfield 34, 3) := by decide +kernel
theorem dX2_lastDay_32 : decode cX2_lastDay 32 = .ok (.iload 4, 2) := by decide +kernel
theorem dX2_lastDay_34 : decode cX2_lastDay 34 = .ok (.iaload, 1) := by decide +kernel
theorem dX2_lastDay_35 : decode cX2_lastDay 35 = .ok (.iload_n 2, 1) := by decide +kernel
theorem dX2_lastDay_36 : decode cX2_lastDay 36 = .ok (.if_icmp .le 17, 3) := by decide +kernel
theorem dX2_lastDay_39 : decode cX2_lastDay 39 = .ok (.iload_n 3, 1) := by decide +kernel
theorem dX2_lastDay_40 : decode cX2_lastDay 40 = .ok (.aload_n 0, 1) := by decide +kernel
theorem dX2_lastDay_41 : decode cX2_lastDay 41 = .ok (.getfield 34, 3) := by decide +kernel
theorem dX2_lastDay_44 : decode cX2_lastDay 44 = .ok (.iload 4, 2) := by decide +kernel
theorem dX2_lastDay_46 : decode cX2_lastDay 46 = .ok (.iaload, 1) := by decide +kernel
theorem dX2_lastDay_47 : decode cX2_lastDay 47 = .ok (.iconst 1, 1) := by decide +kernel
theorem dX2_lastDay_48 : decode cX2_lastDay 48 = .ok (.isub, 1) := by decide +kernel
theorem dX2_lastDay_49 : decode cX2_lastDay 49 = .ok (.invokestatic 63, 3) := by decide +kernel
theorem dX2_lastDay_52 : decode cX2_lastDay 52 = .ok (.istore_n 3, 1) := by decide +kernel
theorem dX2_lastDay_53 : decode cX2_lastDay 53 = .ok (.iinc 4 1, 3) := by decide +kernel
theorem dX2_lastDay_56 : decode cX2_lastDay 56 = .ok (.goto (-50), 3) := by decide +kernel
theorem dX2_lastDay_59 : decode cX2_lastDay 59 = .ok (.iload_n 3, 1) := by decide +kernel
theorem dX2_lastDay_60 : decode cX2_lastDay 60 = .ok (.ireturn, 1) := by decide +kernel
theorem dX2_age_0 : decode cX2_age 0 = .ok (.iconst 0, 1) := by decide +kernel
theorem dX2_age_1 : decode cX2_age 1 = .ok (.istore_n 3, 1) := by decide +kernel
theorem dX2_age_2 : decode cX2_age 2 = .ok (.iconst 0, 1) := by decide +kernel
theorem dX2_age_3 : decode cX2_age 3 = .ok (.istore 4, 2) := by decide +kernel
theorem dX2_age_5 : decode cX2_age 5 = .ok (.iload 4, 2) := by decide +kernel
theorem dX2_age_7 : decode cX2_age 7 = .ok (.aload_n 0, 1) := by decide +kernel
theorem dX2_age_8 : decode cX2_age 8 = .ok (.getfield 44, 3) := by decide +kernel
theorem dX2_age_11 : decode cX2_age 11 = .ok (.if_icmp .ge 81, 3) := by decide +kernel
theorem dX2_age_14 : decode cX2_age 14 = .ok (.aload_n 0, 1) := by decide +kernel
theorem dX2_age_15 : decode cX2_age 15 = .ok (.getfield 28, 3) := by decide +kernel
theorem dX2_age_18 : decode cX2_age 18 = .ok (.iload 4, 2) := by decide +kernel
theorem dX2_age_20 : decode cX2_age 20 = .ok (.iaload, 1) := by decide +kernel
theorem dX2_age_21 : decode cX2_age 21 = .ok (.sipush 139, 3) := by decide +kernel
theorem dX2_age_24 : decode cX2_age 24 = .ok (.if_icmp .eq 16, 3) := by decide +kernel
theorem dX2_age_27 : decode cX2_age 27 = .ok (.aload_n 0, 1) := by decide +kernel
theorem dX2_age_28 : decode cX2_age 28 = .ok (.getfield 28, 3) := by decide +kernel
theorem dX2_age_31 : decode cX2_age 31 = .ok (.iload 4, 2) := by decide +kernel
theorem dX2_age_33 : decode cX2_age 33 = .ok (.iaload, 1) := by decide +kernel
theorem dX2_age_34 : decode cX2_age 34 = .ok (.sipush 140, 3) := by decide +kernel
theorem dX2_age_37 : decode cX2_age 37 = .ok (.if_icmp .ne 7, 3) := by decide +kernel
theorem dX2_age_40 : decode cX2_age 40 = .ok (.iconst 1, 1) := by decide +kernel
theorem dX2_age_41 : decode cX2_age 41 = .ok (.goto 4, 3) := by decide +kernel
theorem dX2_age_44 : decode cX2_age 44 = .ok (.iconst 0, 1) := by decide +kernel
theorem dX2_age_45 : decode cX2_age 45 = .ok (.istore 5, 2) := by decide +kernel
theorem dX2_age_47 : decode cX2_age 47 = .ok (.iload 5, 2) := by decide +kernel
theorem dX2_age_49 : decode cX2_age 49 = .ok (.ifCond .eq 37, 3) := by decide +kernel
theorem dX2_age_52 : decode cX2_age 52 = .ok (.aload_n 0, 1) := by decide +kernel
theorem dX2_age_53 : decode cX2_age 53 = .ok (.getfield 31, 3) := by decide +kernel
theorem dX2_age_56 : decode cX2_age 56 = .ok (.iload 4, 2) := by decide +kernel
theorem dX2_age_58 : decode cX2_age 58 = .ok (.iaload, 1) := by decide +kernel
theorem dX2_age_59 : decode cX2_age 59 = .ok (.iload_n 1, 1) := by decide +kernel
theorem dX2_age_60 : decode cX2_age 60 = .ok (.if_icmp .ne 26, 3) := by decide +kernel
theorem dX2_age_63 : decode cX2_age 63 = .ok (.aload_n 0, 1) := by decide +kernel
theorem dX2_age_64 : decode cX2_age 64 = .ok (.getfield 34, 3) := by decide +kernel
theorem dX2_age_67 : decode cX2_age 67 = .ok (.iload 4, 2) := by decide +kernel
theorem dX2_age_69 : decode cX2_age 69 = .ok (.iaload, 1) := by decide +kernel
theorem dX2_age_70 : decode cX2_age 70 = .ok (.iload_n 2, 1) := by decide +kernel
theorem dX2_age_71 : decode cX2_age 71 = .ok (.if_icmp .gt 15, 3) := by decide +kernel
theorem dX2_age_74 : decode cX2_age 74 = .ok (.iload_n 3, 1) := by decide +kernel
theorem dX2_age_75 : decode cX2_age 75 = .ok (.aload_n 0, 1) := by decide +kernel
theorem dX2_age_76 : decode cX2_age 76 = .ok (.getfield 34, 3) := by decide +kernel
theorem dX2_age_79 : decode cX2_age 79 = .ok (.iload 4, 2) := by decide +kernel
theorem dX2_age_81 : decode cX2_age 81 = .ok (.iaload, 1) := by decide +kernel
theorem dX2_age_82 : decode cX2_age 82 = .ok (.invokestatic 73, 3) := by decide +kernel
theorem dX2_age_85 : decode cX2_age 85 = .ok (.istore_n 3, 1) := by decide +kernel
theorem dX2_age_86 : decode cX2_age 86 = .ok (.iinc 4 1, 3) := by decide +kernel
theorem dX2_age_89 : decode cX2_age 89 = .ok (.goto (-84), 3) := by decide +kernel
theorem dX2_age_92 : decode cX2_age 92 = .ok (.iload_n 2, 1) := by decide +kernel
theorem dX2_age_93 : decode cX2_age 93 = .ok (.iload_n 3, 1) := by decide +kernel
theorem dX2_age_94 : decode cX2_age 94 = .ok (.isub, 1) := by decide +kernel
theorem dX2_age_95 : decode cX2_age 95 = .ok (.ireturn, 1) := by decide +kernel
theorem dX2_canRead_0 : decode cX2_canRead 0 = .ok (.aload_n 0, 1) := by decide +kernel
theorem dX2_canRead_1 : decode cX2_canRead 1 = .ok (.sipush 143, 3) := by decide +kernel
theorem dX2_canRead_4 : decode cX2_canRead 4 = .ok (.iconst (-1), 1) := by decide +kernel
theorem dX2_canRead_5 : decode cX2_canRead 5 = .ok (.iload_n 2, 1) := by decide +kernel
theorem dX2_canRead_6 : decode cX2_canRead 6 = .ok (.invokevirtual 76, 3) := by decide +kernel
theorem dX2_canRead_9 : decode cX2_canRead 9 = .ok (.ifCond .ne 19, 3) := by decide +kernel
theorem dX2_canRead_12 : decode cX2_canRead 12 = .ok (.aload_n 0, 1) := by decide +kernel
theorem dX2_canRead_13 : decode cX2_canRead 13 = .ok (.sipush 142, 3) := by decide +kernel
theorem dX2_canRead_16 : decode cX2_canRead 16 = .ok (.iload_n 1, 1) := by decide +kernel
theorem dX2_canRead_17 : decode cX2_canRead 17 = .ok (.iload_n 2, 1) := by decide +kernel
theorem dX2_canRead_18 : decode cX2_canRead 18 = .ok (.invokevirtual 76, 3) := by decide +kernel
theorem dX2_canRead_21 : decode cX2_canRead 21 = .ok (.ifCond .ne 7, 3) := by decide +kernel
theorem dX2_canRead_24 : decode cX2_canRead 24 = .ok (.iconst 1, 1) := by decide +kernel
theorem dX2_canRead_25 : decode cX2_canRead 25 = .ok (.goto 4, 3) := by decide +kernel
theorem dX2_canRead_28 : decode cX2_canRead 28 = .ok (.iconst 0, 1) := by decide +kernel
theorem dX2_canRead_29 : decode cX2_canRead 29 = .ok (.ireturn, 1) := by decide +kernel
theorem dX2_isMade_0 : decode cX2_isMade 0 = .ok (.aload_n 0, 1) := by decide +kernel
theorem dX2_isMade_1 : decode cX2_isMade 1 = .ok (.sipush 144, 3) := by decide +kernel
theorem dX2_isMade_4 : decode cX2_isMade 4 = .ok (.iconst (-1), 1) := by decide +kernel
theorem dX2_isMade_5 : decode cX2_isMade 5 = .ok (.iload_n 1, 1) := by decide +kernel
theorem dX2_isMade_6 : decode cX2_isMade 6 = .ok (.invokevirtual 76, 3) := by decide +kernel
theorem dX2_isMade_9 : decode cX2_isMade 9 = .ok (.ireturn, 1) := by decide +kernel
theorem dX2_isWithin_0 : decode cX2_isWithin 0 = .ok (.iconst 0, 1) := by decide +kernel
theorem dX2_isWithin_1 : decode cX2_isWithin 1 = .ok (.istore 4, 2) := by decide +kernel
theorem dX2_isWithin_3 : decode cX2_isWithin 3 = .ok (.iload 4, 2) := by decide +kernel
theorem dX2_isWithin_5 : decode cX2_isWithin 5 = .ok (.aload_n 0, 1) := by decide +kernel
theorem dX2_isWithin_6 : decode cX2_isWithin 6 = .ok (.getfield 44, 3) := by decide +kernel
theorem dX2_isWithin_9 : decode cX2_isWithin 9 = .ok (.if_icmp .ge 44, 3) := by decide +kernel
theorem dX2_isWithin_12 : decode cX2_isWithin 12 = .ok (.aload_n 0, 1) := by decide +kernel
theorem dX2_isWithin_13 : decode cX2_isWithin 13 = .ok (.iload 4, 2) := by decide +kernel
theorem dX2_isWithin_15 : decode cX2_isWithin 15 = .ok (.iload_n 1, 1) := by decide +kernel
theorem dX2_isWithin_16 : decode cX2_isWithin 16 = .ok (.iload_n 2, 1) := by decide +kernel
theorem dX2_isWithin_17 : decode cX2_isWithin 17 = .ok (.invokevirtual 69, 3) := by decide +kernel
theorem dX2_isWithin_20 : decode cX2_isWithin 20 = .ok (.ifCond .eq 27, 3) := by decide +kernel
theorem dX2_isWithin_23 : decode cX2_isWithin 23 = .ok (.aload_n 0, 1) := by decide +kernel
theorem dX2_isWithin_24 : decode cX2_isWithin 24 = .ok (.getfield 34, 3) := by decide +kernel
theorem dX2_isWithin_27 : decode cX2_isWithin 27 = .ok (.iload 4, 2) := by decide +kernel
theorem dX2_isWithin_29 : decode cX2_isWithin 29 = .ok (.iaload, 1) := by decide +kernel
theorem dX2_isWithin_30 : decode cX2_isWithin 30 = .ok (.iload_n 3, 1) := by decide +kernel
theorem dX2_isWithin_31 : decode cX2_isWithin 31 = .ok (.if_icmp .gt 16, 3) := by decide +kernel
theorem dX2_isWithin_34 : decode cX2_isWithin 34 = .ok (.iload_n 3, 1) := by decide +kernel
theorem dX2_isWithin_35 : decode cX2_isWithin 35 = .ok (.aload_n 0, 1) := by decide +kernel
theorem dX2_isWithin_36 : decode cX2_isWithin 36 = .ok (.getfield 37, 3) := by decide +kernel
theorem dX2_isWithin_39 : decode cX2_isWithin 39 = .ok (.iload 4, 2) := by decide +kernel
theorem dX2_isWithin_41 : decode cX2_isWithin 41 = .ok (.iaload, 1) := by decide +kernel
theorem dX2_isWithin_42 : decode cX2_isWithin 42 = .ok (.if_icmp .gt 5, 3) := by decide +kernel
theorem dX2_isWithin_45 : decode cX2_isWithin 45 = .ok (.iconst 1, 1) := by decide +kernel
theorem dX2_isWithin_46 : decode cX2_isWithin 46 = .ok (.ireturn, 1) := by decide +kernel
theorem dX2_isWithin_47 : decode cX2_isWithin 47 = .ok (.iinc 4 1, 3) := by decide +kernel
theorem dX2_isWithin_50 : decode cX2_isWithin 50 = .ok (.goto (-47), 3) := by decide +kernel
theorem dX2_isWithin_53 : decode cX2_isWithin 53 = .ok (.iconst 0, 1) := by decide +kernel
theorem dX2_isWithin_54 : decode cX2_isWithin 54 = .ok (.ireturn, 1) := by decide +kernel
theorem dX3_init_0 : decode cX3_init 0 = .ok (.aload_n 0, 1) := by decide +kernel
theorem dX3_init_1 : decode cX3_init 1 = .ok (.invokespecial 3, 3) := by decide +kernel
theorem dX3_init_4 : decode cX3_init 4 = .ok (.aload_n 0, 1) := by decide +kernel
theorem dX3_init_5 : decode cX3_init 5 = .ok (.aload_n 1, 1) := by decide +kernel
theorem dX3_init_6 : decode cX3_init 6 = .ok (.putfield 9, 3) := by decide +kernel
theorem dX3_init_9 : decode cX3_init 9 = .ok (.aload_n 0, 1) := by decide +kernel
theorem dX3_init_10 : decode cX3_init 10 = .ok (.aload_n 2, 1) := by decide +kernel
theorem dX3_init_11 : decode cX3_init 11 = .ok (.putfield 15, 3) := by decide +kernel
theorem dX3_init_14 : decode cX3_init 14 = .ok (.return_, 1) := by decide +kernel
theorem dX3_parse_0 : decode cX3_parse 0 = .ok (.aload_n 0, 1) := by decide +kernel
theorem dX3_parse_1 : decode cX3_parse 1 = .ok (.getfield 15, 3) := by decide +kernel
theorem dX3_parse_4 : decode cX3_parse 4 = .ok (.invokevirtual 19, 3) := by decide +kernel
theorem dX3_parse_7 : decode cX3_parse 7 = .ok (.iconst 0, 1) := by decide +kernel
theorem dX3_parse_8 : decode cX3_parse 8 = .ok (.istore_n 1, 1) := by decide +kernel
theorem dX3_parse_9 : decode cX3_parse 9 = .ok (.iload_n 1, 1) := by decide +kernel
theorem dX3_parse_10 : decode cX3_parse 10 = .ok (.sipush 800, 3) := by decide +kernel
theorem dX3_parse_13 : decode cX3_parse 13 = .ok (.if_icmp .ge 86, 3) := by decide +kernel
theorem dX3_parse_16 : decode cX3_parse 16 = .ok (.aload_n 0, 1) := by decide +kernel
theorem dX3_parse_17 : decode cX3_parse 17 = .ok (.getfield 9, 3) := by decide +kernel
theorem dX3_parse_20 : decode cX3_parse 20 = .ok (.getfield 24, 3) := by decide +kernel
theorem dX3_parse_23 : decode cX3_parse 23 = .ok (.ifCond .eq 76, 3) := by decide +kernel
theorem dX3_parse_26 : decode cX3_parse 26 = .ok (.aload_n 0, 1) := by decide +kernel
theorem dX3_parse_27 : decode cX3_parse 27 = .ok (.getfield 9, 3) := by decide +kernel
theorem dX3_parse_30 : decode cX3_parse 30 = .ok (.getfield 24, 3) := by decide +kernel
theorem dX3_parse_33 : decode cX3_parse 33 = .ok (.istore_n 2, 1) := by decide +kernel
theorem dX3_parse_34 : decode cX3_parse 34 = .ok (.iload_n 2, 1) := by decide +kernel
theorem dX3_parse_35 : decode cX3_parse 35 = .ok (.sipush 128, 3) := by decide +kernel
theorem dX3_parse_38 : decode cX3_parse 38 = .ok (.if_icmp .ne 21, 3) := by decide +kernel
theorem dX3_parse_41 : decode cX3_parse 41 = .ok (.aload_n 0, 1) := by decide +kernel
theorem dX3_parse_42 : decode cX3_parse 42 = .ok (.getfield 15, 3) := by decide +kernel
theorem dX3_parse_45 : decode cX3_parse 45 = .ok (.getfield 30, 3) := by decide +kernel
theorem dX3_parse_48 : decode cX3_parse 48 = .ok (.iconst 5, 1) := by decide +kernel
theorem dX3_parse_49 : decode cX3_parse 49 = .ok (.if_icmp .ge 10, 3) := by decide +kernel
theorem dX3_parse_52 : decode cX3_parse 52 = .ok (.aload_n 0, 1) := by decide +kernel
theorem dX3_parse_53 : decode cX3_parse 53 = .ok (.invokevirtual 33, 3) := by decide +kernel
theorem dX3_parse_56 : decode cX3_parse 56 = .ok (.goto 37, 3) := by decide +kernel
theorem dX3_parse_59 : decode cX3_parse 59 = .ok (.iload_n 2, 1) := by decide +kernel
theorem dX3_parse_60 : decode cX3_parse 60 = .ok (.invokestatic 36, 3) := by decide +kernel
theorem dX3_parse_63 : decode cX3_parse 63 = .ok (.ifCond .eq 23, 3) := by decide +kernel
theorem dX3_parse_66 : decode cX3_parse 66 = .ok (.aload_n 0, 1) := by decide +kernel
theorem dX3_parse_67 : decode cX3_parse 67 = .ok (.getfield 15, 3) := by decide +kernel
theorem dX3_parse_70 : decode cX3_parse 70 = .ok (.getfield 40, 3) := by decide +kernel
theorem dX3_parse_73 : decode cX3_parse 73 = .ok (.bipush 16, 2) := by decide +kernel
theorem dX3_parse_75 : decode cX3_parse 75 = .ok (.if_icmp .ge 11, 3) := by decide +kernel
theorem dX3_parse_78 : decode cX3_parse 78 = .ok (.aload_n 0, 1) := by decide +kernel
theorem dX3_parse_79 : decode cX3_parse 79 = .ok (.iload_n 2, 1) := by decide +kernel
theorem dX3_parse_80 : decode cX3_parse 80 = .ok (.invokevirtual 43, 3) := by decide +kernel
theorem dX3_parse_83 : decode cX3_parse 83 = .ok (.goto 10, 3) := by decide +kernel
theorem dX3_parse_86 : decode cX3_parse 86 = .ok (.aload_n 0, 1) := by decide +kernel
theorem dX3_parse_87 : decode cX3_parse 87 = .ok (.getfield 9, 3) := by decide +kernel
theorem dX3_parse_90 : decode cX3_parse 90 = .ok (.invokevirtual 47, 3) := by decide +kernel
theorem dX3_parse_93 : decode cX3_parse 93 = .ok (.iinc 1 1, 3) := by decide +kernel
theorem dX3_parse_96 : decode cX3_parse 96 = .ok (.goto (-87), 3) := by decide +kernel
theorem dX3_parse_99 : decode cX3_parse 99 = .ok (.return_, 1) := by decide +kernel
theorem dX3_isOtherLine_0 : decode cX3_isOtherLine 0 = .ok (.iload_n 0, 1) := by decide +kernel
theorem dX3_isOtherLine_1 : decode cX3_isOtherLine 1 = .ok (.sipush 139, 3) := by decide +kernel
theorem dX3_isOtherLine_4 : decode cX3_isOtherLine 4 = .ok (.if_icmp .eq 31, 3) := by decide +kernel
theorem dX3_isOtherLine_7 : decode cX3_isOtherLine 7 = .ok (.iload_n 0, 1) := by decide +kernel
theorem dX3_isOtherLine_8 : decode cX3_isOtherLine 8 = .ok (.sipush 140, 3) := by decide +kernel
theorem dX3_isOtherLine_11 : decode cX3_isOtherLine 11 = .ok (.if_icmp .eq 24, 3) := by decide +kernel
theorem dX3_isOtherLine_14 : decode cX3_isOtherLine 14 = .ok (.iload_n 0, 1) := by decide +kernel
theorem dX3_isOtherLine_15 : decode cX3_isOtherLine 15 = .ok (.sipush 142, 3) := by decide +kernel
theorem dX3_isOtherLine_18 : decode cX3_isOtherLine 18 = .ok (.if_icmp .eq 17, 3) := by decide +kernel
theorem dX3_isOtherLine_21 : decode cX3_isOtherLine 21 = .ok (.iload_n 0, 1) := by decide +kernel
theorem dX3_isOtherLine_22 : decode cX3_isOtherLine 22 = .ok (.sipush 143, 3) := by decide +kernel
theorem dX3_isOtherLine_25 : decode cX3_isOtherLine 25 = .ok (.if_icmp .eq 10, 3) := by decide +kernel
theorem dX3_isOtherLine_28 : decode cX3_isOtherLine 28 = .ok (.iload_n 0, 1) := by decide +kernel
theorem dX3_isOtherLine_29 : decode cX3_isOtherLine 29 = .ok (.sipush 144, 3) := by decide +kernel
theorem dX3_isOtherLine_32 : decode cX3_isOtherLine 32 = .ok (.if_icmp .ne 7, 3) := by decide +kernel
theorem dX3_isOtherLine_35 : decode cX3_isOtherLine 35 = .ok (.iconst 1, 1) := by decide +kernel
theorem dX3_isOtherLine_36 : decode cX3_isOtherLine 36 = .ok (.goto 4, 3) := by decide +kernel
theorem dX3_isOtherLine_39 : decode cX3_isOtherLine 39 = .ok (.iconst 0, 1) := by decide +kernel
theorem dX3_isOtherLine_40 : decode cX3_isOtherLine 40 = .ok (.ireturn, 1) := by decide +kernel
theorem dX3_boxLine_0 : decode cX3_boxLine 0 = .ok (.aload_n 0, 1) := by decide +kernel
theorem dX3_boxLine_1 : decode cX3_boxLine 1 = .ok (.getfield 15, 3) := by decide +kernel
theorem dX3_boxLine_4 : decode cX3_boxLine 4 = .ok (.getfield 30, 3) := by decide +kernel
theorem dX3_boxLine_7 : decode cX3_boxLine 7 = .ok (.istore_n 1, 1) := by decide +kernel
theorem dX3_boxLine_8 : decode cX3_boxLine 8 = .ok (.aload_n 0, 1) := by decide +kernel
theorem dX3_boxLine_9 : decode cX3_boxLine 9 = .ok (.getfield 9, 3) := by decide +kernel
theorem dX3_boxLine_12 : decode cX3_boxLine 12 = .ok (.invokevirtual 50, 3) := by decide +kernel
theorem dX3_boxLine_15 : decode cX3_boxLine 15 = .ok (.aload_n 0, 1) := by decide +kernel
theorem dX3_boxLine_16 : decode cX3_boxLine 16 = .ok (.iload_n 1, 1) := by decide +kernel
theorem dX3_boxLine_17 : decode cX3_boxLine 17 = .ok (.invokevirtual 53, 3) := by decide +kernel
theorem dX3_boxLine_20 : decode cX3_boxLine 20 = .ok (.aload_n 0, 1) := by decide +kernel
theorem dX3_boxLine_21 : decode cX3_boxLine 21 = .ok (.getfield 9, 3) := by decide +kernel
theorem dX3_boxLine_24 : decode cX3_boxLine 24 = .ok (.getfield 24, 3) := by decide +kernel
theorem dX3_boxLine_27 : decode cX3_boxLine 27 = .ok (.istore_n 2, 1) := by decide +kernel
theorem dX3_boxLine_28 : decode cX3_boxLine 28 = .ok (.iload_n 2, 1) := by decide +kernel
theorem dX3_boxLine_29 : decode cX3_boxLine 29 = .ok (.sipush 129, 3) := by decide +kernel
theorem dX3_boxLine_32 : decode cX3_boxLine 32 = .ok (.if_icmp .lt 10, 3) := by decide +kernel
theorem dX3_boxLine_35 : decode cX3_boxLine 35 = .ok (.iload_n 2, 1) := by decide +kernel
theorem dX3_boxLine_36 : decode cX3_boxLine 36 = .ok (.sipush 132, 3) := by decide +kernel
theorem dX3_boxLine_39 : decode cX3_boxLine 39 = .ok (.if_icmp .le 11, 3) := by decide +kernel
theorem dX3_boxLine_42 : decode cX3_boxLine 42 = .ok (.aload_n 0, 1) := by decide +kernel
theorem dX3_boxLine_43 : decode cX3_boxLine 43 = .ok (.getfield 9, 3) := by decide +kernel
theorem dX3_boxLine_46 : decode cX3_boxLine 46 = .ok (.invokevirtual 47, 3) := by decide +kernel
theorem dX3_boxLine_49 : decode cX3_boxLine 49 = .ok (.return_, 1) := by decide +kernel
theorem dX3_boxLine_50 : decode cX3_boxLine 50 = .ok (.aload_n 0, 1) := by decide +kernel
theorem dX3_boxLine_51 : decode cX3_boxLine 51 = .ok (.getfield 15, 3) := by decide +kernel
theorem dX3_boxLine_54 : decode cX3_boxLine 54 = .ok (.getfield 56, 3) := by decide +kernel
theorem dX3_boxLine_57 : decode cX3_boxLine 57 = .ok (.iload_n 1, 1) := by decide +kernel
theorem dX3_boxLine_58 : decode cX3_boxLine 58 = .ok (.iload_n 2, 1) := by decide +kernel
theorem dX3_boxLine_59 : decode cX3_boxLine 59 = .ok (.sipush 129, 3) := by decide +kernel
theorem dX3_boxLine_62 : decode cX3_boxLine 62 = .ok (.isub, 1) := by decide +kernel
theorem dX3_boxLine_63 : decode cX3_boxLine 63 = .ok (.iastore, 1) := by decide +kernel
theorem dX3_boxLine_64 : decode cX3_boxLine 64 = .ok (.aload_n 0, 1) := by decide +kernel
theorem dX3_boxLine_65 : decode cX3_boxLine 65 = .ok (.getfield 9, 3) := by decide +kernel
theorem dX3_boxLine_68 : decode cX3_boxLine 68 = .ok (.invokevirtual 50, 3) := by decide +kernel
theorem dX3_boxLine_71 : decode cX3_boxLine 71 = .ok (.iconst 0, 1) := by decide +kernel
theorem dX3_boxLine_72 : decode cX3_boxLine 72 = .ok (.istore_n 3, 1) := by decide +kernel
theorem dX3_boxLine_73 : decode cX3_boxLine 73 = .ok (.iload_n 3, 1) := by decide +kernel
theorem dX3_boxLine_74 : decode cX3_boxLine 74 = .ok (.iconst 4, 1) := by decide +kernel
theorem dX3_boxLine_75 : decode cX3_boxLine 75 = .ok (.if_icmp .ge 148, 3) := by decide +kernel
theorem dX3_boxLine_78 : decode cX3_boxLine 78 = .ok (.iload_n 3, 1) := by decide +kernel
theorem dX3_boxLine_79 : decode cX3_boxLine 79 = .ok (.iconst 1, 1) := by decide +kernel
theorem dX3_boxLine_80 : decode cX3_boxLine 80 = .ok (.if_icmp .ne 14, 3) := by decide +kernel
theorem dX3_boxLine_83 : decode cX3_boxLine 83 = .ok (.iload_n 2, 1) := by decide +kernel
theorem dX3_boxLine_84 : decode cX3_boxLine 84 = .ok (.sipush 132, 3) := by decide +kernel
theorem dX3_boxLine_87 : decode cX3_boxLine 87 = .ok (.if_icmp .ne 7, 3) := by decide +kernel
theorem dX3_boxLine_90 : decode cX3_boxLine 90 = .ok (.iconst 1, 1) := by decide +kernel
theorem dX3_boxLine_91 : decode cX3_boxLine 91 = .ok (.goto 4, 3) := by decide +kernel
theorem dX3_boxLine_94 : decode cX3_boxLine 94 = .ok (.iconst 0, 1) := by decide +kernel
theorem dX3_boxLine_95 : decode cX3_boxLine 95 = .ok (.istore 4, 2) := by decide +kernel
theorem dX3_boxLine_97 : decode cX3_boxLine 97 = .ok (.iload 4, 2) := by decide +kernel
theorem dX3_boxLine_99 : decode cX3_boxLine 99 = .ok (.ifCond .eq 8, 3) := by decide +kernel
theorem dX3_boxLine_102 : decode cX3_boxLine 102 = .ok (.bipush 10, 2) := by decide +kernel
theorem dX3_boxLine_104 : decode cX3_boxLine 104 = .ok (.goto 8, 3) := by decide +kernel
theorem dX3_boxLine_107 : decode cX3_boxLine 107 = .ok (.getstatic 60, 3) := by decide +kernel
theorem dX3_boxLine_110 : decode cX3_boxLine 110 = .ok (.iload_n 3, 1) := by decide +kernel
theorem dX3_boxLine_111 : decode cX3_boxLine 111 = .ok (.iaload, 1) := by decide +kernel
theorem dX3_boxLine_112 : decode cX3_boxLine 112 = .ok (.istore 5, 2) := by decide +kernel
theorem dX3_boxLine_114 : decode cX3_boxLine 114 = .ok (.iload 4, 2) := by decide +kernel
theorem dX3_boxLine_116 : decode cX3_boxLine 116 = .ok (.ifCond .eq 8, 3) := by decide +kernel
theorem dX3_boxLine_119 : decode cX3_boxLine 119 = .ok (.bipush 10, 2) := by decide +kernel
theorem dX3_boxLine_121 : decode cX3_boxLine 121 = .ok (.goto 8, 3) := by decide +kernel
theorem dX3_boxLine_124 : decode cX3_boxLine 124 = .ok (.getstatic 63, 3) := by decide +kernel
theorem dX3_boxLine_127 : decode cX3_boxLine 127 = .ok (.iload_n 3, 1) := by decide +kernel
theorem dX3_boxLine_128 : decode cX3_boxLine 128 = .ok (.iaload, 1) := by decide +kernel
theorem dX3_boxLine_129 : decode cX3_boxLine 129 = .ok (.istore 6, 2) := by decide +kernel
theorem dX3_boxLine_131 : decode cX3_boxLine 131 = .ok (.aload_n 0, 1) := by decide +kernel
theorem dX3_boxLine_132 : decode cX3_boxLine 132 = .ok (.getfield 9, 3) := by decide +kernel
theorem dX3_boxLine_135 : decode cX3_boxLine 135 = .ok (.sipush 133, 3) := by decide +kernel
theorem dX3_boxLine_138 : decode cX3_boxLine 138 = .ok (.iload_n 3, 1) := by decide +kernel
theorem dX3_boxLine_139 : decode cX3_boxLine 139 = .ok (.iadd, 1) := by decide +kernel
theorem dX3_boxLine_140 : decode cX3_boxLine 140 = .ok (.invokevirtual 66, 3) := by decide +kernel
theorem dX3_boxLine_143 : decode cX3_boxLine 143 = .ok (.aload_n 0, 1) := by decide +kernel
theorem dX3_boxLine_144 : decode cX3_boxLine 144 = .ok (.iload 5, 2) := by decide +kernel
theorem dX3_boxLine_146 : decode cX3_boxLine 146 = .ok (.iload 6, 2) := by decide +kernel
theorem dX3_boxLine_148 : decode cX3_boxLine 148 = .ok (.iload_n 3, 1) := by decide +kernel
theorem dX3_boxLine_149 : decode cX3_boxLine 149 = .ok (.ifCond .ne 7, 3) := by decide +kernel
theorem dX3_boxLine_152 : decode cX3_boxLine 152 = .ok (.iconst 1, 1) := by decide +kernel
theorem dX3_boxLine_153 : decode cX3_boxLine 153 = .ok (.goto 4, 3) := by decide +kernel
theorem dX3_boxLine_156 : decode cX3_boxLine 156 = .ok (.iconst 0, 1) := by decide +kernel
theorem dX3_boxLine_157 : decode cX3_boxLine 157 = .ok (.invokevirtual 69, 3) := by decide +kernel
theorem dX3_boxLine_160 : decode cX3_boxLine 160 = .ok (.istore 7, 2) := by decide +kernel
theorem dX3_boxLine_162 : decode cX3_boxLine 162 = .ok (.aload_n 0, 1) := by decide +kernel
theorem dX3_boxLine_163 : decode cX3_boxLine 163 = .ok (.getfield 9, 3) := by decide +kernel
theorem dX3_boxLine_166 : decode cX3_boxLine 166 = .ok (.sipush 137, 3) := by decide +kernel
theorem dX3_boxLine_169 : decode cX3_boxLine 169 = .ok (.invokevirtual 66, 3) := by decide +kernel
theorem dX3_boxLine_172 : decode cX3_boxLine 172 = .ok (.aload_n 0, 1) := by decide +kernel
theorem dX3_boxLine_173 : decode cX3_boxLine 173 = .ok (.getfield 15, 3) := by decide +kernel
theorem dX3_boxLine_176 : decode cX3_boxLine 176 = .ok (.getfield 73, 3) := by decide +kernel
theorem dX3_boxLine_179 : decode cX3_boxLine 179 = .ok (.iload_n 1, 1) := by decide +kernel
theorem dX3_boxLine_180 : decode cX3_boxLine 180 = .ok (.iconst 4, 1) := by decide +kernel
theorem dX3_boxLine_181 : decode cX3_boxLine 181 = .ok (.imul, 1) := by decide +kernel
theorem dX3_boxLine_182 : decode cX3_boxLine 182 = .ok (.iload_n 3, 1) := by decide +kernel
theorem dX3_boxLine_183 : decode cX3_boxLine 183 = .ok (.iadd, 1) := by decide +kernel
theorem dX3_boxLine_184 : decode cX3_boxLine 184 = .ok (.iload 7, 2) := by decide +kernel
theorem dX3_boxLine_186 : decode cX3_boxLine 186 = .ok (.iastore, 1) := by decide +kernel
theorem dX3_boxLine_187 : decode cX3_boxLine 187 = .ok (.aload_n 0, 1) := by decide +kernel
theorem dX3_boxLine_188 : decode cX3_boxLine 188 = .ok (.getfield 15, 3) := by decide +kernel
theorem dX3_boxLine_191 : decode cX3_boxLine 191 = .ok (.getfield 76, 3) := by decide +kernel
theorem dX3_boxLine_194 : decode cX3_boxLine 194 = .ok (.iload_n 1, 1) := by decide +kernel
theorem dX3_boxLine_195 : decode cX3_boxLine 195 = .ok (.iconst 4, 1) := by decide +kernel
theorem dX3_boxLine_196 : decode cX3_boxLine 196 = .ok (.imul, 1) := by decide +kernel
theorem dX3_boxLine_197 : decode cX3_boxLine 197 = .ok (.iload_n 3, 1) := by decide +kernel
theorem dX3_boxLine_198 : decode cX3_boxLine 198 = .ok (.iadd, 1) := by decide +kernel
theorem dX3_boxLine_199 : decode cX3_boxLine 199 = .ok (.aload_n 0, 1) := by decide +kernel
theorem dX3_boxLine_200 : decode cX3_boxLine 200 = .ok (.iload 7, 2) := by decide +kernel
theorem dX3_boxLine_202 : decode cX3_boxLine 202 = .ok (.iload 6, 2) := by decide +kernel
theorem dX3_boxLine_204 : decode cX3_boxLine 204 = .ok (.iload_n 3, 1) := by decide +kernel
theorem dX3_boxLine_205 : decode cX3_boxLine 205 = .ok (.ifCond .ne 7, 3) := by decide +kernel
theorem dX3_boxLine_208 : decode cX3_boxLine 208 = .ok (.iconst 1, 1) := by decide +kernel
theorem dX3_boxLine_209 : decode cX3_boxLine 209 = .ok (.goto 4, 3) := by decide +kernel
theorem dX3_boxLine_212 : decode cX3_boxLine 212 = .ok (.iconst 0, 1) := by decide +kernel
theorem dX3_boxLine_213 : decode cX3_boxLine 213 = .ok (.invokevirtual 69, 3) := by decide +kernel
theorem dX3_boxLine_216 : decode cX3_boxLine 216 = .ok (.iastore, 1) := by decide +kernel
theorem dX3_boxLine_217 : decode cX3_boxLine 217 = .ok (.iinc 3 1, 3) := by decide +kernel
theorem dX3_boxLine_220 : decode cX3_boxLine 220 = .ok (.goto (-147), 3) := by decide +kernel
theorem dX3_boxLine_223 : decode cX3_boxLine 223 = .ok (.aload_n 0, 1) := by decide +kernel
theorem dX3_boxLine_224 : decode cX3_boxLine 224 = .ok (.getfield 9, 3) := by decide +kernel
theorem dX3_boxLine_227 : decode cX3_boxLine 227 = .ok (.sipush 138, 3) := by decide +kernel
theorem dX3_boxLine_230 : decode cX3_boxLine 230 = .ok (.invokevirtual 66, 3) := by decide +kernel
theorem dX3_boxLine_233 : decode cX3_boxLine 233 = .ok (.aload_n 0, 1) := by decide +kernel
theorem dX3_boxLine_234 : decode cX3_boxLine 234 = .ok (.getfield 15, 3) := by decide +kernel
theorem dX3_boxLine_237 : decode cX3_boxLine 237 = .ok (.getfield 79, 3) := by decide +kernel
theorem dX3_boxLine_240 : decode cX3_boxLine 240 = .ok (.iload_n 1, 1) := by decide +kernel
theorem dX3_boxLine_241 : decode cX3_boxLine 241 = .ok (.aload_n 0, 1) := by decide +kernel
theorem dX3_boxLine_242 : decode cX3_boxLine 242 = .ok (.iconst 0, 1) := by decide +kernel
theorem dX3_boxLine_243 : decode cX3_boxLine 243 = .ok (.bipush 9, 2) := by decide +kernel
theorem dX3_boxLine_245 : decode cX3_boxLine 245 = .ok (.iconst 0, 1) := by decide +kernel
theorem dX3_boxLine_246 : decode cX3_boxLine 246 = .ok (.invokevirtual 69, 3) := by decide +kernel
theorem dX3_boxLine_249 : decode cX3_boxLine 249 = .ok (.iastore, 1) := by decide +kernel
theorem dX3_boxLine_250 : decode cX3_boxLine 250 = .ok (.aload_n 0, 1) := by decide +kernel
theorem dX3_boxLine_251 : decode cX3_boxLine 251 = .ok (.getfield 9, 3) := by decide +kernel
theorem dX3_boxLine_254 : decode cX3_boxLine 254 = .ok (.bipush 59, 2) := by decide +kernel
theorem dX3_boxLine_256 : decode cX3_boxLine 256 = .ok (.invokevirtual 66, 3) := by decide +kernel
theorem dX3_boxLine_259 : decode cX3_boxLine 259 = .ok (.aload_n 0, 1) := by decide +kernel
theorem dX3_boxLine_260 : decode cX3_boxLine 260 = .ok (.getfield 15, 3) := by decide +kernel
theorem dX3_boxLine_263 : decode cX3_boxLine 263 = .ok (.iload_n 1, 1) := by decide +kernel
theorem dX3_boxLine_264 : decode cX3_boxLine 264 = .ok (.iconst 1, 1) := by decide +kernel
theorem dX3_boxLine_265 : decode cX3_boxLine 265 = .ok (.iadd, 1) := by decide +kernel
theorem dX3_boxLine_266 : decode cX3_boxLine 266 = .ok (.putfield 30, 3) := by decide +kernel
theorem dX3_boxLine_269 : decode cX3_boxLine 269 = .ok (.return_, 1) := by decide +kernel
theorem dX3_takeNumber_0 : decode cX3_takeNumber 0 = .ok (.aload_n 0, 1) := by decide +kernel
theorem dX3_takeNumber_1 : decode cX3_takeNumber 1 = .ok (.getfield 9, 3) := by decide +kernel
theorem dX3_takeNumber_4 : decode cX3_takeNumber 4 = .ok (.getfield 82, 3) := by decide +kernel
theorem dX3_takeNumber_7 : decode cX3_takeNumber 7 = .ok (.istore 4, 2) := by decide +kernel
theorem dX3_takeNumber_9 : decode cX3_takeNumber 9 = .ok (.iload_n 3, 1) := by decide +kernel
theorem dX3_takeNumber_10 : decode cX3_takeNumber 10 = .ok (.ifCond .eq 19, 3) := by decide +kernel
theorem dX3_takeNumber_13 : decode cX3_takeNumber 13 = .ok (.aload_n 0, 1) := by decide +kernel
theorem dX3_takeNumber_14 : decode cX3_takeNumber 14 = .ok (.getfield 9, 3) := by decide +kernel
theorem dX3_takeNumber_17 : decode cX3_takeNumber 17 = .ok (.getfield 24, 3) := by decide +kernel
theorem dX3_takeNumber_20 : decode cX3_takeNumber 20 = .ok (.bipush 45, 2) := by decide +kernel
theorem dX3_takeNumber_22 : decode cX3_takeNumber 22 = .ok (.if_icmp .ne 7, 3) := by decide +kernel
theorem dX3_takeNumber_25 : decode cX3_takeNumber 25 = .ok (.iconst 1, 1) := by decide +kernel
theorem dX3_takeNumber_26 : decode cX3_takeNumber 26 = .ok (.goto 4, 3) := by decide +kernel
theorem dX3_takeNumber_29 : decode cX3_takeNumber 29 = .ok (.iconst 0, 1) := by decide +kernel
theorem dX3_takeNumber_30 : decode cX3_takeNumber 30 = .ok (.istore 5, 2) := by decide +kernel
theorem dX3_takeNumber_32 : decode cX3_takeNumber 32 = .ok (.iload 5, 2) := by decide +kernel
theorem dX3_takeNumber_34 : decode cX3_takeNumber 34 = .ok (.ifCond .eq 10, 3) := by decide +kernel
theorem dX3_takeNumber_37 : decode cX3_takeNumber 37 = .ok (.aload_n 0, 1) := by decide +kernel
theorem dX3_takeNumber_38 : decode cX3_takeNumber 38 = .ok (.getfield 9, 3) := by decide +kernel
theorem dX3_takeNumber_41 : decode cX3_takeNumber 41 = .ok (.invokevirtual 50, 3) := by decide +kernel
theorem dX3_takeNumber_44 : decode cX3_takeNumber 44 = .ok (.aload_n 0, 1) := by decide +kernel
theorem dX3_takeNumber_45 : decode cX3_takeNumber 45 = .ok (.getfield 9, 3) := by decide +kernel
theorem dX3_takeNumber_48 : decode cX3_takeNumber 48 = .ok (.getfield 24, 3) := by decide +kernel
theorem dX3_takeNumber_51 : decode cX3_takeNumber 51 = .ok (.iconst 2, 1) := by decide +kernel
theorem dX3_takeNumber_52 : decode cX3_takeNumber 52 = .ok (.if_icmp .eq 12, 3) := by decide +kernel
theorem dX3_takeNumber_55 : decode cX3_takeNumber 55 = .ok (.aload_n 0, 1) := by decide +kernel
theorem dX3_takeNumber_56 : decode cX3_takeNumber 56 = .ok (.getfield 9, 3) := by decide +kernel
theorem dX3_takeNumber_59 : decode cX3_takeNumber 59 = .ok (.invokevirtual 47, 3) := by decide +kernel
theorem dX3_takeNumber_62 : decode cX3_takeNumber 62 = .ok (.iload_n 1, 1) := by decide +kernel
theorem dX3_takeNumber_63 : decode cX3_takeNumber 63 = .ok (.ireturn, 1) := by decide +kernel
theorem dX3_takeNumber_64 : decode cX3_takeNumber 64 = .ok (.iload 5, 2) := by decide +kernel
theorem dX3_takeNumber_66 : decode cX3_takeNumber 66 = .ok (.ifCond .eq 14, 3) := by decide +kernel
theorem dX3_takeNumber_69 : decode cX3_takeNumber 69 = .ok (.aload_n 0, 1) := by decide +kernel
theorem dX3_takeNumber_70 : decode cX3_takeNumber 70 = .ok (.getfield 9, 3) := by decide +kernel
theorem dX3_takeNumber_73 : decode cX3_takeNumber 73 = .ok (.getfield 85, 3) := by decide +kernel
theorem dX3_takeNumber_76 : decode cX3_takeNumber 76 = .ok (.ineg, 1) := by decide +kernel
theorem dX3_takeNumber_77 : decode cX3_takeNumber 77 = .ok (.goto 10, 3) := by decide +kernel
theorem dX3_takeNumber_80 : decode cX3_takeNumber 80 = .ok (.aload_n 0, 1) := by decide +kernel
theorem dX3_takeNumber_81 : decode cX3_takeNumber 81 = .ok (.getfield 9, 3) := by decide +kernel
theorem dX3_takeNumber_84 : decode cX3_takeNumber 84 = .ok (.getfield 85, 3) := by decide +kernel
theorem dX3_takeNumber_87 : decode cX3_takeNumber 87 = .ok (.istore 6, 2) := by decide +kernel
theorem dX3_takeNumber_89 : decode cX3_takeNumber 89 = .ok (.iload 6, 2) := by decide +kernel
theorem dX3_takeNumber_91 : decode cX3_takeNumber 91 = .ok (.iload_n 1, 1) := by decide +kernel
theorem dX3_takeNumber_92 : decode cX3_takeNumber 92 = .ok (.if_icmp .lt 9, 3) := by decide +kernel
theorem dX3_takeNumber_95 : decode cX3_takeNumber 95 = .ok (.iload 6, 2) := by decide +kernel
theorem dX3_takeNumber_97 : decode cX3_takeNumber 97 = .ok (.iload_n 2, 1) := by decide +kernel
theorem dX3_takeNumber_98 : decode cX3_takeNumber 98 = .ok (.if_icmp .le 16, 3) := by decide +kernel
theorem dX3_takeNumber_101 : decode cX3_takeNumber 101 = .ok (.aload_n 0, 1) := by decide +kernel
theorem dX3_takeNumber_102 : decode cX3_takeNumber 102 = .ok (.getfield 9, 3) := by decide +kernel
theorem dX3_takeNumber_105 : decode cX3_takeNumber 105 = .ok (.iconst 4, 1) := by decide +kernel
theorem dX3_takeNumber_106 : decode cX3_takeNumber 106 = .ok (.iload 4, 2) := by decide +kernel
theorem dX3_takeNumber_108 : decode cX3_takeNumber 108 = .ok (.invokevirtual 88, 3) := by decide +kernel
theorem dX3_takeNumber_111 : decode cX3_takeNumber 111 = .ok (.goto 10, 3) := by decide +kernel
theorem dX3_takeNumber_114 : decode cX3_takeNumber 114 = .ok (.aload_n 0, 1) := by decide +kernel
theorem dX3_takeNumber_115 : decode cX3_takeNumber 115 = .ok (.getfield 9, 3) := by decide +kernel
theorem dX3_takeNumber_118 : decode cX3_takeNumber 118 = .ok (.invokevirtual 50, 3) := by decide +kernel
theorem dX3_takeNumber_121 : decode cX3_takeNumber 121 = .ok (.iload 6, 2) := by decide +kernel
theorem dX3_takeNumber_123 : decode cX3_takeNumber 123 = .ok (.ireturn, 1) := by decide +kernel
theorem dX3_newName_0 : decode cX3_newName 0 = .ok (.aload_n 0, 1) := by decide +kernel
theorem dX3_newName_1 : decode cX3_newName 1 = .ok (.getfield 9, 3) := by decide +kernel
theorem dX3_newName_4 : decode cX3_newName 4 = .ok (.getfield 24, 3) := by decide +kernel
theorem dX3_newName_7 : decode cX3_newName 7 = .ok (.iconst 3, 1) := by decide +kernel
theorem dX3_newName_8 : decode cX3_newName 8 = .ok (.if_icmp .eq 13, 3) := by decide +kernel
theorem dX3_newName_11 : decode cX3_newName 11 = .ok (.aload_n 0, 1) := by decide +kernel
theorem dX3_newName_12 : decode cX3_newName 12 = .ok (.getfield 9, 3) := by decide +kernel
theorem dX3_newName_15 : decode cX3_newName 15 = .ok (.invokevirtual 47, 3) := by decide +kernel
theorem dX3_newName_18 : decode cX3_newName 18 = .ok (.goto 62, 3) := by decide +kernel
theorem dX3_newName_21 : decode cX3_newName 21 = .ok (.aload_n 0, 1) := by decide +kernel
theorem dX3_newName_22 : decode cX3_newName 22 = .ok (.getfield 15, 3) := by decide +kernel
theorem dX3_newName_25 : decode cX3_newName 25 = .ok (.aload_n 0, 1) := by decide +kernel
theorem dX3_newName_26 : decode cX3_newName 26 = .ok (.getfield 9, 3) := by decide +kernel
theorem dX3_newName_29 : decode cX3_newName 29 = .ok (.getfield 92, 3) := by decide +kernel
theorem dX3_newName_32 : decode cX3_newName 32 = .ok (.invokevirtual 96, 3) := by decide +kernel
theorem dX3_newName_35 : decode cX3_newName 35 = .ok (.iconst (-1), 1) := by decide +kernel
theorem dX3_newName_36 : decode cX3_newName 36 = .ok (.if_icmp .eq 21, 3) := by decide +kernel
theorem dX3_newName_39 : decode cX3_newName 39 = .ok (.aload_n 0, 1) := by decide +kernel
theorem dX3_newName_40 : decode cX3_newName 40 = .ok (.getfield 9, 3) := by decide +kernel
theorem dX3_newName_43 : decode cX3_newName 43 = .ok (.iconst 3, 1) := by decide +kernel
theorem dX3_newName_44 : decode cX3_newName 44 = .ok (.aload_n 0, 1) := by decide +kernel
theorem dX3_newName_45 : decode cX3_newName 45 = .ok (.getfield 9, 3) := by decide +kernel
theorem dX3_newName_48 : decode cX3_newName 48 = .ok (.getfield 82, 3) := by decide +kernel
theorem dX3_newName_51 : decode cX3_newName 51 = .ok (.invokevirtual 88, 3) := by decide +kernel
theorem dX3_newName_54 : decode cX3_newName 54 = .ok (.goto 26, 3) := by decide +kernel
theorem dX3_newName_57 : decode cX3_newName 57 = .ok (.aload_n 0, 1) := by decide +kernel
theorem dX3_newName_58 : decode cX3_newName 58 = .ok (.getfield 15, 3) := by decide +kernel
theorem dX3_newName_61 : decode cX3_newName 61 = .ok (.getfield 100, 3) := by decide +kernel
theorem dX3_newName_64 : decode cX3_newName 64 = .ok (.iload_n 1, 1) := by decide +kernel
theorem dX3_newName_65 : decode cX3_newName 65 = .ok (.aload_n 0, 1) := by decide +kernel
theorem dX3_newName_66 : decode cX3_newName 66 = .ok (.getfield 9, 3) := by decide +kernel
theorem dX3_newName_69 : decode cX3_newName 69 = .ok (.getfield 92, 3) := by decide +kernel
theorem dX3_newName_72 : decode cX3_newName 72 = .ok (.lastore, 1) := by decide +kernel
theorem dX3_newName_73 : decode cX3_newName 73 = .ok (.aload_n 0, 1) := by decide +kernel
theorem dX3_newName_74 : decode cX3_newName 74 = .ok (.getfield 9, 3) := by decide +kernel
theorem dX3_newName_77 : decode cX3_newName 77 = .ok (.invokevirtual 50, 3) := by decide +kernel
theorem dX3_newName_80 : decode cX3_newName 80 = .ok (.return_, 1) := by decide +kernel
theorem dX3_otherLine_0 : decode cX3_otherLine 0 = .ok (.aload_n 0, 1) := by decide +kernel
theorem dX3_otherLine_1 : decode cX3_otherLine 1 = .ok (.getfield 15, 3) := by decide +kernel
theorem dX3_otherLine_4 : decode cX3_otherLine 4 = .ok (.getfield 40, 3) := by decide +kernel
theorem dX3_otherLine_7 : decode cX3_otherLine 7 = .ok (.istore_n 2, 1) := by decide +kernel
theorem dX3_otherLine_8 : decode cX3_otherLine 8 = .ok (.iload_n 1, 1) := by decide +kernel
theorem dX3_otherLine_9 : decode cX3_otherLine 9 = .ok (.sipush 139, 3) := by decide +kernel
theorem dX3_otherLine_12 : decode cX3_otherLine 12 = .ok (.if_icmp .eq 10, 3) := by decide +kernel
theorem dX3_otherLine_15 : decode cX3_otherLine 15 = .ok (.iload_n 1, 1) := by decide +kernel
theorem dX3_otherLine_16 : decode cX3_otherLine 16 = .ok (.sipush 140, 3) := by decide +kernel
theorem dX3_otherLine_19 : decode cX3_otherLine 19 = .ok (.if_icmp .ne 7, 3) := by decide +kernel
theorem dX3_otherLine_22 : decode cX3_otherLine 22 = .ok (.iconst 1, 1) := by decide +kernel
theorem dX3_otherLine_23 : decode cX3_otherLine 23 = .ok (.goto 4, 3) := by decide +kernel
theorem dX3_otherLine_26 : decode cX3_otherLine 26 = .ok (.iconst 0, 1) := by decide +kernel
theorem dX3_otherLine_27 : decode cX3_otherLine 27 = .ok (.istore_n 3, 1) := by decide +kernel
theorem dX3_otherLine_28 : decode cX3_otherLine 28 = .ok (.aload_n 0, 1) := by decide +kernel
theorem dX3_otherLine_29 : decode cX3_otherLine 29 = .ok (.getfield 9, 3) := by decide +kernel
theorem dX3_otherLine_32 : decode cX3_otherLine 32 = .ok (.invokevirtual 50, 3) := by decide +kernel
theorem dX3_otherLine_35 : decode cX3_otherLine 35 = .ok (.aload_n 0, 1) := by decide +kernel
theorem dX3_otherLine_36 : decode cX3_otherLine 36 = .ok (.getfield 15, 3) := by decide +kernel
theorem dX3_otherLine_39 : decode cX3_otherLine 39 = .ok (.getfield 104, 3) := by decide +kernel
theorem dX3_otherLine_42 : decode cX3_otherLine 42 = .ok (.iload_n 2, 1) := by decide +kernel
theorem dX3_otherLine_43 : decode cX3_otherLine 43 = .ok (.iload_n 1, 1) := by decide +kernel
theorem dX3_otherLine_44 : decode cX3_otherLine 44 = .ok (.iastore, 1) := by decide +kernel
theorem dX3_otherLine_45 : decode cX3_otherLine 45 = .ok (.aload_n 0, 1) := by decide +kernel
theorem dX3_otherLine_46 : decode cX3_otherLine 46 = .ok (.getfield 15, 3) := by decide +kernel
theorem dX3_otherLine_49 : decode cX3_otherLine 49 = .ok (.getfield 107, 3) := by decide +kernel
theorem dX3_otherLine_52 : decode cX3_otherLine 52 = .ok (.iload_n 2, 1) := by decide +kernel
theorem dX3_otherLine_53 : decode cX3_otherLine 53 = .ok (.iload_n 3, 1) := by decide +kernel
theorem dX3_otherLine_54 : decode cX3_otherLine 54 = .ok (.ifCond .ne 10, 3) := by decide +kernel
theorem dX3_otherLine_57 : decode cX3_otherLine 57 = .ok (.iload_n 1, 1) := by decide +kernel
theorem dX3_otherLine_58 : decode cX3_otherLine 58 = .ok (.sipush 142, 3) := by decide +kernel
theorem dX3_otherLine_61 : decode cX3_otherLine 61 = .ok (.if_icmp .ne 10, 3) := by decide +kernel
theorem dX3_otherLine_64 : decode cX3_otherLine 64 = .ok (.aload_n 0, 1) := by decide +kernel
theorem dX3_otherLine_65 : decode cX3_otherLine 65 = .ok (.invokevirtual 110, 3) := by decide +kernel
theorem dX3_otherLine_68 : decode cX3_otherLine 68 = .ok (.goto 4, 3) := by decide +kernel
theorem dX3_otherLine_71 : decode cX3_otherLine 71 = .ok (.iconst (-1), 1) := by decide +kernel
theorem dX3_otherLine_72 : decode cX3_otherLine 72 = .ok (.iastore, 1) := by decide +kernel
theorem dX3_otherLine_73 : decode cX3_otherLine 73 = .ok (.iload_n 3, 1) := by decide +kernel
theorem dX3_otherLine_74 : decode cX3_otherLine 74 = .ok (.ifCond .eq 51, 3) := by decide +kernel
theorem dX3_otherLine_77 : decode cX3_otherLine 77 = .ok (.aload_n 0, 1) := by decide +kernel
theorem dX3_otherLine_78 : decode cX3_otherLine 78 = .ok (.getfield 9, 3) := by decide +kernel
theorem dX3_otherLine_81 : decode cX3_otherLine 81 = .ok (.sipush 141, 3) := by decide +kernel
theorem dX3_otherLine_84 : decode cX3_otherLine 84 = .ok (.invokevirtual 66, 3) := by decide +kernel
theorem dX3_otherLine_87 : decode cX3_otherLine 87 = .ok (.aload_n 0, 1) := by decide +kernel
theorem dX3_otherLine_88 : decode cX3_otherLine 88 = .ok (.getfield 15, 3) := by decide +kernel
theorem dX3_otherLine_91 : decode cX3_otherLine 91 = .ok (.getfield 114, 3) := by decide +kernel
theorem dX3_otherLine_94 : decode cX3_otherLine 94 = .ok (.iload_n 2, 1) := by decide +kernel
theorem dX3_otherLine_95 : decode cX3_otherLine 95 = .ok (.aload_n 0, 1) := by decide +kernel
theorem dX3_otherLine_96 : decode cX3_otherLine 96 = .ok (.iconst 1, 1) := by decide +kernel
theorem dX3_otherLine_97 : decode cX3_otherLine 97 = .ok (.bipush 59, 2) := by decide +kernel
theorem dX3_otherLine_99 : decode cX3_otherLine 99 = .ok (.iconst 0, 1) := by decide +kernel
theorem dX3_otherLine_100 : decode cX3_otherLine 100 = .ok (.invokevirtual 69, 3) := by decide +kernel
theorem dX3_otherLine_103 : decode cX3_otherLine 103 = .ok (.iastore, 1) := by decide +kernel
theorem dX3_otherLine_104 : decode cX3_otherLine 104 = .ok (.aload_n 0, 1) := by decide +kernel
theorem dX3_otherLine_105 : decode cX3_otherLine 105 = .ok (.getfield 15, 3) := by decide +kernel
theorem dX3_otherLine_108 : decode cX3_otherLine 108 = .ok (.getfield 117, 3) := by decide +kernel
theorem dX3_otherLine_111 : decode cX3_otherLine 111 = .ok (.iload_n 2, 1) := by decide +kernel
theorem dX3_otherLine_112 : decode cX3_otherLine 112 = .ok (.aload_n 0, 1) := by decide +kernel
theorem dX3_otherLine_113 : decode cX3_otherLine 113 = .ok (.getfield 15, 3) := by decide +kernel
theorem dX3_otherLine_116 : decode cX3_otherLine 116 = .ok (.getfield 114, 3) := by decide +kernel
theorem dX3_otherLine_119 : decode cX3_otherLine 119 = .ok (.iload_n 2, 1) := by decide +kernel
theorem dX3_otherLine_120 : decode cX3_otherLine 120 = .ok (.iaload, 1) := by decide +kernel
theorem dX3_otherLine_121 : decode cX3_otherLine 121 = .ok (.iastore, 1) := by decide +kernel
theorem dX3_otherLine_122 : decode cX3_otherLine 122 = .ok (.goto 55, 3) := by decide +kernel
theorem dX3_otherLine_125 : decode cX3_otherLine 125 = .ok (.aload_n 0, 1) := by decide +kernel
theorem dX3_otherLine_126 : decode cX3_otherLine 126 = .ok (.getfield 15, 3) := by decide +kernel
theorem dX3_otherLine_129 : decode cX3_otherLine 129 = .ok (.getfield 114, 3) := by decide +kernel
theorem dX3_otherLine_132 : decode cX3_otherLine 132 = .ok (.iload_n 2, 1) := by decide +kernel
theorem dX3_otherLine_133 : decode cX3_otherLine 133 = .ok (.aload_n 0, 1) := by decide +kernel
theorem dX3_otherLine_134 : decode cX3_otherLine 134 = .ok (.iconst 0, 1) := by decide +kernel
theorem dX3_otherLine_135 : decode cX3_otherLine 135 = .ok (.bipush 59, 2) := by decide +kernel
theorem dX3_otherLine_137 : decode cX3_otherLine 137 = .ok (.iconst 0, 1) := by decide +kernel
theorem dX3_otherLine_138 : decode cX3_otherLine 138 = .ok (.invokevirtual 69, 3) := by decide +kernel
theorem dX3_otherLine_141 : decode cX3_otherLine 141 = .ok (.iastore, 1) := by decide +kernel
theorem dX3_otherLine_142 : decode cX3_otherLine 142 = .ok (.aload_n 0, 1) := by decide +kernel
theorem dX3_otherLine_143 : decode cX3_otherLine 143 = .ok (.getfield 9, 3) := by decide +kernel
theorem dX3_otherLine_146 : decode cX3_otherLine 146 = .ok (.sipush 137, 3) := by decide +kernel
theorem dX3_otherLine_149 : decode cX3_otherLine 149 = .ok (.invokevirtual 66, 3) := by decide +kernel
theorem dX3_otherLine_152 : decode cX3_otherLine 152 = .ok (.aload_n 0, 1) := by decide +kernel
theorem dX3_otherLine_153 : decode cX3_otherLine 153 = .ok (.getfield 15, 3) := by decide +kernel
theorem dX3_otherLine_156 : decode cX3_otherLine 156 = .ok (.getfield 117, 3) := by decide +kernel
theorem dX3_otherLine_159 : decode cX3_otherLine 159 = .ok (.iload_n 2, 1) := by decide +kernel
theorem dX3_otherLine_160 : decode cX3_otherLine 160 = .ok (.aload_n 0, 1) := by decide +kernel
theorem dX3_otherLine_161 : decode cX3_otherLine 161 = .ok (.aload_n 0, 1) := by decide +kernel
theorem dX3_otherLine_162 : decode cX3_otherLine 162 = .ok (.getfield 15, 3) := by decide +kernel
theorem dX3_otherLine_165 : decode cX3_otherLine 165 = .ok (.getfield 114, 3) := by decide +kernel
theorem dX3_otherLine_168 : decode cX3_otherLine 168 = .ok (.iload_n 2, 1) := by decide +kernel
theorem dX3_otherLine_169 : decode cX3_otherLine 169 = .ok (.iaload, 1) := by decide +kernel
theorem dX3_otherLine_170 : decode cX3_otherLine 170 = .ok (.bipush 59, 2) := by decide +kernel
theorem dX3_otherLine_172 : decode cX3_otherLine 172 = .ok (.iconst 0, 1) := by decide +kernel
theorem dX3_otherLine_173 : decode cX3_otherLine 173 = .ok (.invokevirtual 69, 3) := by decide +kernel
theorem dX3_otherLine_176 : decode cX3_otherLine 176 = .ok (.iastore, 1) := by decide +kernel
theorem dX3_otherLine_177 : decode cX3_otherLine 177 = .ok (.aload_n 0, 1) := by decide +kernel
theorem dX3_otherLine_178 : decode cX3_otherLine 178 = .ok (.getfield 9, 3) := by decide +kernel
theorem dX3_otherLine_181 : decode cX3_otherLine 181 = .ok (.bipush 59, 2) := by decide +kernel
theorem dX3_otherLine_183 : decode cX3_otherLine 183 = .ok (.invokevirtual 66, 3) := by decide +kernel
theorem dX3_otherLine_186 : decode cX3_otherLine 186 = .ok (.aload_n 0, 1) := by decide +kernel
theorem dX3_otherLine_187 : decode cX3_otherLine 187 = .ok (.getfield 15, 3) := by decide +kernel
theorem dX3_otherLine_190 : decode cX3_otherLine 190 = .ok (.iload_n 2, 1) := by decide +kernel
theorem dX3_otherLine_191 : decode cX3_otherLine 191 = .ok (.iconst 1, 1) := by decide +kernel
theorem dX3_otherLine_192 : decode cX3_otherLine 192 = .ok (.iadd, 1) := by decide +kernel
theorem dX3_otherLine_193 : decode cX3_otherLine 193 = .ok (.putfield 40, 3) := by decide +kernel
theorem dX3_otherLine_196 : decode cX3_otherLine 196 = .ok (.return_, 1) := by decide +kernel
theorem dX3_oldName_0 : decode cX3_oldName 0 = .ok (.iconst (-1), 1) := by decide +kernel
theorem dX3_oldName_1 : decode cX3_oldName 1 = .ok (.istore_n 1, 1) := by decide +kernel
theorem dX3_oldName_2 : decode cX3_oldName 2 = .ok (.aload_n 0, 1) := by decide +kernel
theorem dX3_oldName_3 : decode cX3_oldName 3 = .ok (.getfield 9, 3) := by decide +kernel
theorem dX3_oldName_6 : decode cX3_oldName 6 = .ok (.getfield 24, 3) := by decide +kernel
theorem dX3_oldName_9 : decode cX3_oldName 9 = .ok (.iconst 3, 1) := by decide +kernel
theorem dX3_oldName_10 : decode cX3_oldName 10 = .ok (.if_icmp .eq 13, 3) := by decide +kernel
theorem dX3_oldName_13 : decode cX3_oldName 13 = .ok (.aload_n 0, 1) := by decide +kernel
theorem dX3_oldName_14 : decode cX3_oldName 14 = .ok (.getfield 9, 3) := by decide +kernel
theorem dX3_oldName_17 : decode cX3_oldName 17 = .ok (.invokevirtual 47, 3) := by decide +kernel
theorem dX3_oldName_20 : decode cX3_oldName 20 = .ok (.goto 48, 3) := by decide +kernel
theorem dX3_oldName_23 : decode cX3_oldName 23 = .ok (.aload_n 0, 1) := by decide +kernel
theorem dX3_oldName_24 : decode cX3_oldName 24 = .ok (.getfield 15, 3) := by decide +kernel
theorem dX3_oldName_27 : decode cX3_oldName 27 = .ok (.aload_n 0, 1) := by decide +kernel
theorem dX3_oldName_28 : decode cX3_oldName 28 = .ok (.getfield 9, 3) := by decide +kernel
theorem dX3_oldName_31 : decode cX3_oldName 31 = .ok (.getfield 92, 3) := by decide +kernel
theorem dX3_oldName_34 : decode cX3_oldName 34 = .ok (.invokevirtual 96, 3) := by decide +kernel
theorem dX3_oldName_37 : decode cX3_oldName 37 = .ok (.istore_n 1, 1) := by decide +kernel
theorem dX3_oldName_38 : decode cX3_oldName 38 = .ok (.iload_n 1, 1) := by decide +kernel
theorem dX3_oldName_39 : decode cX3_oldName 39 = .ok (.iconst (-1), 1) := by decide +kernel
theorem dX3_oldName_40 : decode cX3_oldName 40 = .ok (.if_icmp .ne 21, 3) := by decide +kernel
theorem dX3_oldName_43 : decode cX3_oldName 43 = .ok (.aload_n 0, 1) := by decide +kernel
theorem dX3_oldName_44 : decode cX3_oldName 44 = .ok (.getfield 9, 3) := by decide +kernel
theorem dX3_oldName_47 : decode cX3_oldName 47 = .ok (.iconst 5, 1) := by decide +kernel
theorem dX3_oldName_48 : decode cX3_oldName 48 = .ok (.aload_n 0, 1) := by decide +kernel
theorem dX3_oldName_49 : decode cX3_oldName 49 = .ok (.getfield 9, 3) := by decide +kernel
theorem dX3_oldName_52 : decode cX3_oldName 52 = .ok (.getfield 82, 3) := by decide +kernel
theorem dX3_oldName_55 : decode cX3_oldName 55 = .ok (.invokevirtual 88, 3) := by decide +kernel
theorem dX3_oldName_58 : decode cX3_oldName 58 = .ok (.goto 10, 3) := by decide +kernel
theorem dX3_oldName_61 : decode cX3_oldName 61 = .ok (.aload_n 0, 1) := by decide +kernel
theorem dX3_oldName_62 : decode cX3_oldName 62 = .ok (.getfield 9, 3) := by decide +kernel
theorem dX3_oldName_65 : decode cX3_oldName 65 = .ok (.invokevirtual 50, 3) := by decide +kernel
theorem dX3_oldName_68 : decode cX3_oldName 68 = .ok (.iload_n 1, 1) := by decide +kernel
theorem dX3_oldName_69 : decode cX3_oldName 69 = .ok (.ireturn, 1) := by decide +kernel
theorem dX4_init_0 : decode cX4_init 0 = .ok (.aload_n 0, 1) := by decide +kernel
theorem dX4_init_1 : decode cX4_init 1 = .ok (.invokespecial 3, 3) := by decide +kernel
theorem dX4_init_4 : decode cX4_init 4 = .ok (.aload_n 0, 1) := by decide +kernel
theorem dX4_init_5 : decode cX4_init 5 = .ok (.aload_n 1, 1) := by decide +kernel
theorem dX4_init_6 : decode cX4_init 6 = .ok (.putfield 9, 3) := by decide +kernel
theorem dX4_init_9 : decode cX4_init 9 = .ok (.aload_n 0, 1) := by decide +kernel
theorem dX4_init_10 : decode cX4_init 10 = .ok (.aload_n 2, 1) := by decide +kernel
theorem dX4_init_11 : decode cX4_init 11 = .ok (.putfield 15, 3) := by decide +kernel
theorem dX4_init_14 : decode cX4_init 14 = .ok (.aload_n 0, 1) := by decide +kernel
theorem dX4_init_15 : decode cX4_init 15 = .ok (.sipush 240, 3) := by decide +kernel
theorem dX4_init_18 : decode cX4_init 18 = .ok (.newarray .int, 2) := by decide +kernel
theorem dX4_init_20 : decode cX4_init 20 = .ok (.putfield 19, 3) := by decide +kernel
theorem dX4_init_23 : decode cX4_init 23 = .ok (.aload_n 0, 1) := by decide +kernel
theorem dX4_init_24 : decode cX4_init 24 = .ok (.sipush 300, 3) := by decide +kernel
theorem dX4_init_27 : decode cX4_init 27 = .ok (.newarray .int, 2) := by decide +kernel
theorem dX4_init_29 : decode cX4_init 29 = .ok (.putfield 25, 3) := by decide +kernel
theorem dX4_init_32 : decode cX4_init 32 = .ok (.aload_n 0, 1) := by decide +kernel
theorem dX4_init_33 : decode cX4_init 33 = .ok (.sipush 300, 3) := by decide +kernel
theorem dX4_init_36 : decode cX4_init 36 = .ok (.newarray .int, 2) := by decide +kernel
theorem dX4_init_38 : decode cX4_init 38 = .ok (.putfield 28, 3) := by decide +kernel
theorem dX4_init_41 : decode cX4_init 41 = .ok (.return_, 1) := by decide +kernel
theorem dX4_at_0 : decode cX4_at 0 = .ok (.aload_n 0, 1) := by decide +kernel
theorem dX4_at_1 : decode cX4_at 1 = .ok (.getfield 31, 3) := by decide +kernel
theorem dX4_at_4 : decode cX4_at 4 = .ok (.ifCond .le 26, 3) := by decide +kernel
theorem dX4_at_7 : decode cX4_at 7 = .ok (.iload_n 1, 1) := by decide +kernel
theorem dX4_at_8 : decode cX4_at 8 = .ok (.aload_n 0, 1) := by decide +kernel
theorem dX4_at_9 : decode cX4_at 9 = .ok (.getfield 35, 3) := by decide +kernel
theorem dX4_at_12 : decode cX4_at 12 = .ok (.if_icmp .ne 18, 3) := by decide +kernel
theorem dX4_at_15 : decode cX4_at 15 = .ok (.aload_n 0, 1) := by decide +kernel
theorem dX4_at_16 : decode cX4_at 16 = .ok (.getfield 38, 3) := by decide +kernel
theorem dX4_at_19 : decode cX4_at 19 = .ok (.aload_n 0, 1) := by decide +kernel
theorem dX4_at_20 : decode cX4_at 20 = .ok (.getfield 9, 3) := by decide +kernel
theorem dX4_at_23 : decode cX4_at 23 = .ok (.getfield 41, 3) := by decide +kernel
theorem dX4_at_26 : decode cX4_at 26 = .ok (.if_icmp .ne 4, 3) := by decide +kernel
theorem dX4_at_29 : decode cX4_at 29 = .ok (.return_, 1) := by decide +kernel
theorem dX4_at_30 : decode cX4_at 30 = .ok (.aload_n 0, 1) := by decide +kernel
theorem dX4_at_31 : decode cX4_at 31 = .ok (.iload_n 1, 1) := by decide +kernel
theorem dX4_at_32 : decode cX4_at 32 = .ok (.putfield 35, 3) := by decide +kernel
theorem dX4_at_35 : decode cX4_at 35 = .ok (.aload_n 0, 1) := by decide +kernel
theorem dX4_at_36 : decode cX4_at 36 = .ok (.aload_n 0, 1) := by decide +kernel
theorem dX4_at_37 : decode cX4_at 37 = .ok (.getfield 9, 3) := by decide +kernel
theorem dX4_at_40 : decode cX4_at 40 = .ok (.getfield 41, 3) := by decide +kernel
theorem dX4_at_43 : decode cX4_at 43 = .ok (.putfield 38, 3) := by decide +kernel
theorem dX4_at_46 : decode cX4_at 46 = .ok (.aload_n 0, 1) := by decide +kernel
theorem dX4_at_47 : decode cX4_at 47 = .ok (.dup, 1) := by decide +kernel
theorem dX4_at_48 : decode cX4_at 48 = .ok (.getfield 31, 3) := by decide +kernel
theorem dX4_at_51 : decode cX4_at 51 = .ok (.iconst 1, 1) := by decide +kernel
theorem dX4_at_52 : decode cX4_at 52 = .ok (.iadd, 1) := by decide +kernel
theorem dX4_at_53 : decode cX4_at 53 = .ok (.putfield 31, 3) := by decide +kernel
theorem dX4_at_56 : decode cX4_at 56 = .ok (.aload_n 0, 1) := by decide +kernel
theorem dX4_at_57 : decode cX4_at 57 = .ok (.getfield 19, 3) := by decide +kernel
theorem dX4_at_60 : decode cX4_at 60 = .ok (.ldc 46, 2) := by decide +kernel
theorem dX4_at_62 : decode cX4_at 62 = .ok (.invokestatic 47, 3) := by decide +kernel
theorem dX4_at_65 : decode cX4_at 65 = .ok (.aload_n 0, 1) := by decide +kernel
theorem dX4_at_66 : decode cX4_at 66 = .ok (.getfield 25, 3) := by decide +kernel
theorem dX4_at_69 : decode cX4_at 69 = .ok (.ldc 46, 2) := by decide +kernel
theorem dX4_at_71 : decode cX4_at 71 = .ok (.invokestatic 47, 3) := by decide +kernel
theorem dX4_at_74 : decode cX4_at 74 = .ok (.aload_n 0, 1) := by decide +kernel
theorem dX4_at_75 : decode cX4_at 75 = .ok (.getfield 28, 3) := by decide +kernel
theorem dX4_at_78 : decode cX4_at 78 = .ok (.iconst (-1), 1) := by decide +kernel
theorem dX4_at_79 : decode cX4_at 79 = .ok (.invokestatic 47, 3) := by decide +kernel
theorem dX4_at_82 : decode cX4_at 82 = .ok (.iconst 0, 1) := by decide +kernel
theorem dX4_at_83 : decode cX4_at 83 = .ok (.istore_n 2, 1) := by decide +kernel
theorem dX4_at_84 : decode cX4_at 84 = .ok (.iload_n 2, 1) := by decide +kernel
theorem dX4_at_85 : decode cX4_at 85 = .ok (.aload_n 0, 1) := by decide +kernel
theorem dX4_at_86 : decode cX4_at 86 = .ok (.getfield 9, 3) := by decide +kernel
theorem dX4_at_89 : decode cX4_at 89 = .ok (.getfield 53, 3) := by decide +kernel
theorem dX4_at_92 : decode cX4_at 92 = .ok (.if_icmp .ge 26, 3) := by decide +kernel
theorem dX4_at_95 : decode cX4_at 95 = .ok (.aload_n 0, 1) := by decide +kernel
theorem dX4_at_96 : decode cX4_at 96 = .ok (.getfield 9, 3) := by decide +kernel
theorem dX4_at_99 : decode cX4_at 99 = .ok (.iload_n 2, 1) := by decide +kernel
theorem dX4_at_100 : decode cX4_at 100 = .ok (.iload_n 1, 1) := by decide +kernel
theorem dX4_at_101 : decode cX4_at 101 = .ok (.invokevirtual 56, 3) := by decide +kernel
theorem dX4_at_104 : decode cX4_at 104 = .ok (.ifCond .eq 8, 3) := by decide +kernel
theorem dX4_at_107 : decode cX4_at 107 = .ok (.aload_n 0, 1) := by decide +kernel
theorem dX4_at_108 : decode cX4_at 108 = .ok (.iload_n 2, 1) := by decide +kernel
theorem dX4_at_109 : decode cX4_at 109 = .ok (.invokevirtual 60, 3) := by decide +kernel
theorem dX4_at_112 : decode cX4_at 112 = .ok (.iinc 2 1, 3) := by decide +kernel
theorem dX4_at_115 : decode cX4_at 115 = .ok (.goto (-31), 3) := by decide +kernel
theorem dX4_at_118 : decode cX4_at 118 = .ok (.return_, 1) := by decide +kernel
theorem dX4_enter_0 : decode cX4_enter 0 = .ok (.aload_n 0, 1) := by decide +kernel
theorem dX4_enter_1 : decode cX4_enter 1 = .ok (.getfield 9, 3) := by decide +kernel
theorem dX4_enter_4 : decode cX4_enter 4 = .ok (.getfield 64, 3) := by decide +kernel
theorem dX4_enter_7 : decode cX4_enter 7 = .ok (.iload_n 1, 1) := by decide +kernel
theorem dX4_enter_8 : decode cX4_enter 8 = .ok (.iaload, 1) := by decide +kernel
theorem dX4_enter_9 : decode cX4_enter 9 = .ok (.istore_n 2, 1) := by decide +kernel
theorem dX4_enter_10 : decode cX4_enter 10 = .ok (.aload_n 0, 1) := by decide +kernel
theorem dX4_enter_11 : decode cX4_enter 11 = .ok (.getfield 9, 3) := by decide +kernel
theorem dX4_enter_14 : decode cX4_enter 14 = .ok (.getfield 67, 3) := by decide +kernel
theorem dX4_enter_17 : decode cX4_enter 17 = .ok (.iload_n 1, 1) := by decide +kernel
theorem dX4_enter_18 : decode cX4_enter 18 = .ok (.iaload, 1) := by decide +kernel
theorem dX4_enter_19 : decode cX4_enter 19 = .ok (.istore_n 3, 1) := by decide +kernel
theorem dX4_enter_20 : decode cX4_enter 20 = .ok (.aload_n 0, 1) := by decide +kernel
theorem dX4_enter_21 : decode cX4_enter 21 = .ok (.getfield 9, 3) := by decide +kernel
theorem dX4_enter_24 : decode cX4_enter 24 = .ok (.getfield 70, 3) := by decide +kernel
theorem dX4_enter_27 : decode cX4_enter 27 = .ok (.iload_n 1, 1) := by decide +kernel
theorem dX4_enter_28 : decode cX4_enter 28 = .ok (.iaload, 1) := by decide +kernel
theorem dX4_enter_29 : decode cX4_enter 29 = .ok (.istore 4, 2) := by decide +kernel
theorem dX4_enter_31 : decode cX4_enter 31 = .ok (.iload_n 2, 1) := by decide +kernel
theorem dX4_enter_32 : decode cX4_enter 32 = .ok (.bipush 60, 2) := by decide +kernel
theorem dX4_enter_34 : decode cX4_enter 34 = .ok (.imul, 1) := by decide +kernel
theorem dX4_enter_35 : decode cX4_enter 35 = .ok (.iload_n 3, 1) := by decide +kernel
theorem dX4_enter_36 : decode cX4_enter 36 = .ok (.iadd, 1) := by decide +kernel
theorem dX4_enter_37 : decode cX4_enter 37 = .ok (.istore 5, 2) := by decide +kernel
theorem dX4_enter_39 : decode cX4_enter 39 = .ok (.iload 4, 2) := by decide +kernel
theorem dX4_enter_41 : decode cX4_enter 41 = .ok (.iconst (-1), 1) := by decide +kernel
theorem dX4_enter_42 : decode cX4_enter 42 = .ok (.if_icmp .ne 22, 3) := by decide +kernel
theorem dX4_enter_45 : decode cX4_enter 45 = .ok (.aload_n 0, 1) := by decide +kernel
theorem dX4_enter_46 : decode cX4_enter 46 = .ok (.getfield 19, 3) := by decide +kernel
theorem dX4_enter_49 : decode cX4_enter 49 = .ok (.iload 5, 2) := by decide +kernel
theorem dX4_enter_51 : decode cX4_enter 51 = .ok (.aload_n 0, 1) := by decide +kernel
theorem dX4_enter_52 : decode cX4_enter 52 = .ok (.getfield 9, 3) := by decide +kernel
theorem dX4_enter_55 : decode cX4_enter 55 = .ok (.getfield 71, 3) := by decide +kernel
theorem dX4_enter_58 : decode cX4_enter 58 = .ok (.iload_n 1, 1) := by decide +kernel
theorem dX4_enter_59 : decode cX4_enter 59 = .ok (.iaload, 1) := by decide +kernel
theorem dX4_enter_60 : decode cX4_enter 60 = .ok (.iastore, 1) := by decide +kernel
theorem dX4_enter_61 : decode cX4_enter 61 = .ok (.goto 52, 3) := by decide +kernel
theorem dX4_enter_64 : decode cX4_enter 64 = .ok (.aload_n 0, 1) := by decide +kernel
theorem dX4_enter_65 : decode cX4_enter 65 = .ok (.getfield 9, 3) := by decide +kernel
theorem dX4_enter_68 : decode cX4_enter 68 = .ok (.iload 4, 2) := by decide +kernel
theorem dX4_enter_70 : decode cX4_enter 70 = .ok (.invokevirtual 74, 3) := by decide +kernel
theorem dX4_enter_73 : decode cX4_enter 73 = .ok (.ifCond .ne 40, 3) := by decide +kernel
theorem dX4_enter_76 : decode cX4_enter 76 = .ok (.aload_n 0, 1) := by decide +kernel
theorem dX4_enter_77 : decode cX4_enter 77 = .ok (.getfield 15, 3) := by decide +kernel
theorem dX4_enter_80 : decode cX4_enter 80 = .ok (.iload_n 2, 1) := by decide +kernel
theorem dX4_enter_81 : decode cX4_enter 81 = .ok (.iload_n 3, 1) := by decide +kernel
theorem dX4_enter_82 : decode cX4_enter 82 = .ok (.invokevirtual 78, 3) := by decide +kernel
theorem dX4_enter_85 : decode cX4_enter 85 = .ok (.ifCond .eq 28, 3) := by decide +kernel
theorem dX4_enter_88 : decode cX4_enter 88 = .ok (.aload_n 0, 1) := by decide +kernel
theorem dX4_enter_89 : decode cX4_enter 89 = .ok (.getfield 25, 3) := by decide +kernel
theorem dX4_enter_92 : decode cX4_enter 92 = .ok (.iload 5, 2) := by decide +kernel
theorem dX4_enter_94 : decode cX4_enter 94 = .ok (.aload_n 0, 1) := by decide +kernel
theorem dX4_enter_95 : decode cX4_enter 95 = .ok (.getfield 9, 3) := by decide +kernel
theorem dX4_enter_98 : decode cX4_enter 98 = .ok (.getfield 71, 3) := by decide +kernel
theorem dX4_enter_101 : decode cX4_enter 101 = .ok (.iload_n 1, 1) := by decide +kernel
theorem dX4_enter_102 : decode cX4_enter 102 = .ok (.iaload, 1) := by decide +kernel
theorem dX4_enter_103 : decode cX4_enter 103 = .ok (.iastore, 1) := by decide +kernel
theorem dX4_enter_104 : decode cX4_enter 104 = .ok (.aload_n 0, 1) := by decide +kernel
theorem dX4_enter_105 : decode cX4_enter 105 = .ok (.getfield 28, 3) := by decide +kernel
theorem dX4_enter_108 : decode cX4_enter 108 = .ok (.iload 5, 2) := by decide +kernel
theorem dX4_enter_110 : decode cX4_enter 110 = .ok (.iload 4, 2) := by decide +kernel
theorem dX4_enter_112 : decode cX4_enter 112 = .ok (.iastore, 1) := by decide +kernel
theorem dX4_enter_113 : decode cX4_enter 113 = .ok (.return_, 1) := by decide +kernel
theorem dX4_distant_0 : decode cX4_distant 0 = .ok (.iload_n 1, 1) := by decide +kernel
theorem dX4_distant_1 : decode cX4_distant 1 = .ok (.ifCond .lt 22, 3) := by decide +kernel
theorem dX4_distant_4 : decode cX4_distant 4 = .ok (.iload_n 1, 1) := by decide +kernel
theorem dX4_distant_5 : decode cX4_distant 5 = .ok (.iconst 4, 1) := by decide +kernel
theorem dX4_distant_6 : decode cX4_distant 6 = .ok (.if_icmp .ge 17, 3) := by decide +kernel
theorem dX4_distant_9 : decode cX4_distant 9 = .ok (.iload_n 2, 1) := by decide +kernel
theorem dX4_distant_10 : decode cX4_distant 10 = .ok (.ifCond .lt 13, 3) := by decide +kernel
theorem dX4_distant_13 : decode cX4_distant 13 = .ok (.iload_n 2, 1) := by decide +kernel
theorem dX4_distant_14 : decode cX4_distant 14 = .ok (.bipush 60, 2) := by decide +kernel
theorem dX4_distant_16 : decode cX4_distant 16 = .ok (.if_icmp .ge 7, 3) := by decide +kernel
theorem dX4_distant_19 : decode cX4_distant 19 = .ok (.iconst 1, 1) := by decide +kernel
theorem dX4_distant_20 : decode cX4_distant 20 = .ok (.goto 4, 3) := by decide +kernel
theorem dX4_distant_23 : decode cX4_distant 23 = .ok (.iconst 0, 1) := by decide +kernel
theorem dX4_distant_24 : decode cX4_distant 24 = .ok (.istore_n 3, 1) := by decide +kernel
theorem dX4_distant_25 : decode cX4_distant 25 = .ok (.iload_n 3, 1) := by decide +kernel
theorem dX4_distant_26 : decode cX4_distant 26 = .ok (.ifCond .eq 17, 3) := by decide +kernel
theorem dX4_distant_29 : decode cX4_distant 29 = .ok (.aload_n 0, 1) := by decide +kernel
theorem dX4_distant_30 : decode cX4_distant 30 = .ok (.getfield 19, 3) := by decide +kernel
theorem dX4_distant_33 : decode cX4_distant 33 = .ok (.iload_n 1, 1) := by decide +kernel
theorem dX4_distant_34 : decode cX4_distant 34 = .ok (.bipush 60, 2) := by decide +kernel
theorem dX4_distant_36 : decode cX4_distant 36 = .ok (.imul, 1) := by decide +kernel
theorem dX4_distant_37 : decode cX4_distant 37 = .ok (.iload_n 2, 1) := by decide +kernel
theorem dX4_distant_38 : decode cX4_distant 38 = .ok (.iadd, 1) := by decide +kernel
theorem dX4_distant_39 : decode cX4_distant 39 = .ok (.iaload, 1) := by decide +kernel
theorem dX4_distant_40 : decode cX4_distant 40 = .ok (.goto 5, 3) := by decide +kernel
theorem dX4_distant_43 : decode cX4_distant 43 = .ok (.ldc 46, 2) := by decide +kernel
theorem dX4_distant_45 : decode cX4_distant 45 = .ok (.ireturn, 1) := by decide +kernel
theorem dX4_number_0 : decode cX4_number 0 = .ok (.iload_n 1, 1) := by decide +kernel
theorem dX4_number_1 : decode cX4_number 1 = .ok (.ifCond .lt 28, 3) := by decide +kernel
theorem dX4_number_4 : decode cX4_number 4 = .ok (.iload_n 1, 1) := by decide +kernel
theorem dX4_number_5 : decode cX4_number 5 = .ok (.aload_n 0, 1) := by decide +kernel
theorem dX4_number_6 : decode cX4_number 6 = .ok (.getfield 15, 3) := by decide +kernel
theorem dX4_number_9 : decode cX4_number 9 = .ok (.getfield 81, 3) := by decide +kernel
theorem dX4_number_12 : decode cX4_number 12 = .ok (.if_icmp .ge 17, 3) := by decide +kernel
theorem dX4_number_15 : decode cX4_number 15 = .ok (.iload_n 2, 1) := by decide +kernel
theorem dX4_number_16 : decode cX4_number 16 = .ok (.ifCond .lt 13, 3) := by decide +kernel
theorem dX4_number_19 : decode cX4_number 19 = .ok (.iload_n 2, 1) := by decide +kernel
theorem dX4_number_20 : decode cX4_number 20 = .ok (.bipush 60, 2) := by decide +kernel
theorem dX4_number_22 : decode cX4_number 22 = .ok (.if_icmp .ge 7, 3) := by decide +kernel
theorem dX4_number_25 : decode cX4_number 25 = .ok (.iconst 1, 1) := by decide +kernel
theorem dX4_number_26 : decode cX4_number 26 = .ok (.goto 4, 3) := by decide +kernel
theorem dX4_number_29 : decode cX4_number 29 = .ok (.iconst 0, 1) := by decide +kernel
theorem dX4_number_30 : decode cX4_number 30 = .ok (.istore_n 3, 1) := by decide +kernel
theorem dX4_number_31 : decode cX4_number 31 = .ok (.iload_n 3, 1) := by decide +kernel
theorem dX4_number_32 : decode cX4_number 32 = .ok (.ifCond .eq 17, 3) := by decide +kernel
theorem dX4_number_35 : decode cX4_number 35 = .ok (.aload_n 0, 1) := by decide +kernel
theorem dX4_number_36 : decode cX4_number 36 = .ok (.getfield 25, 3) := by decide +kernel
theorem dX4_number_39 : decode cX4_number 39 = .ok (.iload_n 1, 1) := by decide +kernel
theorem dX4_number_40 : decode cX4_number 40 = .ok (.bipush 60, 2) := by decide +kernel
theorem dX4_number_42 : decode cX4_number 42 = .ok (.imul, 1) := by decide +kernel
theorem dX4_number_43 : decode cX4_number 43 = .ok (.iload_n 2, 1) := by decide +kernel
theorem dX4_number_44 : decode cX4_number 44 = .ok (.iadd, 1) := by decide +kernel
theorem dX4_number_45 : decode cX4_number 45 = .ok (.iaload, 1) := by decide +kernel
theorem dX4_number_46 : decode cX4_number 46 = .ok (.goto 5, 3) := by decide +kernel
theorem dX4_number_49 : decode cX4_number 49 = .ok (.ldc 46, 2) := by decide +kernel
theorem dX4_number_51 : decode cX4_number 51 = .ok (.ireturn, 1) := by decide +kernel
theorem dX4_readerOf_0 : decode cX4_readerOf 0 = .ok (.iload_n 1, 1) := by decide +kernel
theorem dX4_readerOf_1 : decode cX4_readerOf 1 = .ok (.ifCond .lt 28, 3) := by decide +kernel
theorem dX4_readerOf_4 : decode cX4_readerOf 4 = .ok (.iload_n 1, 1) := by decide +kernel
theorem dX4_readerOf_5 : decode cX4_readerOf 5 = .ok (.aload_n 0, 1) := by decide +kernel
theorem dX4_readerOf_6 : decode cX4_readerOf 6 = .ok (.getfield 15, 3) := by decide +kernel
theorem dX4_readerOf_9 : decode cX4_readerOf 9 = .ok (.getfield 81, 3) := by decide +kernel
theorem dX4_readerOf_12 : decode cX4_readerOf 12 = .ok (.if_icmp .ge 17, 3) := by decide +kernel
theorem dX4_readerOf_15 : decode cX4_readerOf 15 = .ok (.iload_n 2, 1) := by decide +kernel
theorem dX4_readerOf_16 : decode cX4_readerOf 16 = .ok (.ifCond .lt 13, 3) := by decide +kernel
theorem dX4_readerOf_19 : decode cX4_readerOf 19 = .ok (.iload_n 2, 1) := by decide +kernel
theorem dX4_readerOf_20 : decode cX4_readerOf 20 = .ok (.bipush 60, 2) := by decide +kernel
theorem dX4_readerOf_22 : decode cX4_readerOf 22 = .ok (.if_icmp .ge 7, 3) := by decide +kernel
theorem dX4_readerOf_25 : decode cX4_readerOf 25 = .ok (.iconst 1, 1) := by decide +kernel
theorem dX4_readerOf_26 : decode cX4_readerOf 26 = .ok (.goto 4, 3) := by decide +kernel
theorem dX4_readerOf_29 : decode cX4_readerOf 29 = .ok (.iconst 0, 1) := by decide +kernel
theorem dX4_readerOf_30 : decode cX4_readerOf 30 = .ok (.istore_n 3, 1) := by decide +kernel
theorem dX4_readerOf_31 : decode cX4_readerOf 31 = .ok (.iload_n 3, 1) := by decide +kernel
theorem dX4_readerOf_32 : decode cX4_readerOf 32 = .ok (.ifCond .eq 17, 3) := by decide +kernel
theorem dX4_readerOf_35 : decode cX4_readerOf 35 = .ok (.aload_n 0, 1) := by decide +kernel
theorem dX4_readerOf_36 : decode cX4_readerOf 36 = .ok (.getfield 28, 3) := by decide +kernel
theorem dX4_readerOf_39 : decode cX4_readerOf 39 = .ok (.iload_n 1, 1) := by decide +kernel
theorem dX4_readerOf_40 : decode cX4_readerOf 40 = .ok (.bipush 60, 2) := by decide +kernel
theorem dX4_readerOf_42 : decode cX4_readerOf 42 = .ok (.imul, 1) := by decide +kernel
theorem dX4_readerOf_43 : decode cX4_readerOf 43 = .ok (.iload_n 2, 1) := by decide +kernel
theorem dX4_readerOf_44 : decode cX4_readerOf 44 = .ok (.iadd, 1) := by decide +kernel
theorem dX4_readerOf_45 : decode cX4_readerOf 45 = .ok (.iaload, 1) := by decide +kernel
theorem dX4_readerOf_46 : decode cX4_readerOf 46 = .ok (.goto 4, 3) := by decide +kernel
theorem dX4_readerOf_49 : decode cX4_readerOf 49 = .ok (.iconst (-1), 1) := by decide +kernel
theorem dX4_readerOf_50 : decode cX4_readerOf 50 = .ok (.ireturn, 1) := by decide +kernel
theorem dX5_init_0 : decode cX5_init 0 = .ok (.aload_n 0, 1) := by decide +kernel
theorem dX5_init_1 : decode cX5_init 1 = .ok (.invokespecial 3, 3) := by decide +kernel
theorem dX5_init_4 : decode cX5_init 4 = .ok (.aload_n 0, 1) := by decide +kernel
theorem dX5_init_5 : decode cX5_init 5 = .ok (.aload_n 1, 1) := by decide +kernel
theorem dX5_init_6 : decode cX5_init 6 = .ok (.putfield 9, 3) := by decide +kernel
theorem dX5_init_9 : decode cX5_init 9 = .ok (.aload_n 0, 1) := by decide +kernel
theorem dX5_init_10 : decode cX5_init 10 = .ok (.aload_n 2, 1) := by decide +kernel
theorem dX5_init_11 : decode cX5_init 11 = .ok (.putfield 15, 3) := by decide +kernel
theorem dX5_init_14 : decode cX5_init 14 = .ok (.aload_n 0, 1) := by decide +kernel
theorem dX5_init_15 : decode cX5_init 15 = .ok (.aload_n 3, 1) := by decide +kernel
theorem dX5_init_16 : decode cX5_init 16 = .ok (.putfield 19, 3) := by decide +kernel
theorem dX5_init_19 : decode cX5_init 19 = .ok (.aload_n 0, 1) := by decide +kernel
theorem dX5_init_20 : decode cX5_init 20 = .ok (.iload 4, 2) := by decide +kernel
theorem dX5_init_22 : decode cX5_init 22 = .ok (.putfield 23, 3) := by decide +kernel
theorem dX5_init_25 : decode cX5_init 25 = .ok (.aload_n 0, 1) := by decide +kernel
theorem dX5_init_26 : decode cX5_init 26 = .ok (.bipush 60, 2) := by decide +kernel
theorem dX5_init_28 : decode cX5_init 28 = .ok (.newarray .int, 2) := by decide +kernel
theorem dX5_init_30 : decode cX5_init 30 = .ok (.putfield 27, 3) := by decide +kernel
theorem dX5_init_33 : decode cX5_init 33 = .ok (.aload_n 0, 1) := by decide +kernel
theorem dX5_init_34 : decode cX5_init 34 = .ok (.bipush 60, 2) := by decide +kernel
theorem dX5_init_36 : decode cX5_init 36 = .ok (.newarray .int, 2) := by decide +kernel
theorem dX5_init_38 : decode cX5_init 38 = .ok (.putfield 31, 3) := by decide +kernel
theorem dX5_init_41 : decode cX5_init 41 = .ok (.aload_n 0, 1) := by decide +kernel
theorem dX5_init_42 : decode cX5_init 42 = .ok (.sipush 660, 3) := by decide +kernel
theorem dX5_init_45 : decode cX5_init 45 = .ok (.newarray .int, 2) := by decide +kernel
theorem dX5_init_47 : decode cX5_init 47 = .ok (.putfield 34, 3) := by decide +kernel
theorem dX5_init_50 : decode cX5_init 50 = .ok (.aload_n 0, 1) := by decide +kernel
theorem dX5_init_51 : decode cX5_init 51 = .ok (.sipush 660, 3) := by decide +kernel
theorem dX5_init_54 : decode cX5_init 54 = .ok (.newarray .int, 2) := by decide +kernel
theorem dX5_init_56 : decode cX5_init 56 = .ok (.putfield 37, 3) := by decide +kernel
theorem dX5_init_59 : decode cX5_init 59 = .ok (.return_, 1) := by decide +kernel
theorem dX5_zeroOf_0 : decode cX5_zeroOf 0 = .ok (.iload_n 0, 1) := by decide +kernel
theorem dX5_zeroOf_1 : decode cX5_zeroOf 1 = .ok (.bipush 60, 2) := by decide +kernel
theorem dX5_zeroOf_3 : decode cX5_zeroOf 3 = .ok (.idiv, 1) := by decide +kernel
theorem dX5_zeroOf_4 : decode cX5_zeroOf 4 = .ok (.iconst 5, 1) := by decide +kernel
theorem dX5_zeroOf_5 : decode cX5_zeroOf 5 = .ok (.isub, 1) := by decide +kernel
theorem dX5_zeroOf_6 : decode cX5_zeroOf 6 = .ok (.ireturn, 1) := by decide +kernel
theorem dX5_slopeOf_0 : decode cX5_slopeOf 0 = .ok (.iload_n 0, 1) := by decide +kernel
theorem dX5_slopeOf_1 : decode cX5_slopeOf 1 = .ok (.bipush 12, 2) := by decide +kernel
theorem dX5_slopeOf_3 : decode cX5_slopeOf 3 = .ok (.idiv, 1) := by decide +kernel
theorem dX5_slopeOf_4 : decode cX5_slopeOf 4 = .ok (.iconst 5, 1) := by decide +kernel
theorem dX5_slopeOf_5 : decode cX5_slopeOf 5 = .ok (.irem, 1) := by decide +kernel
theorem dX5_slopeOf_6 : decode cX5_slopeOf 6 = .ok (.bipush 8, 2) := by decide +kernel
theorem dX5_slopeOf_8 : decode cX5_slopeOf 8 = .ok (.iadd, 1) := by decide +kernel
theorem dX5_slopeOf_9 : decode cX5_slopeOf 9 = .ok (.ireturn, 1) := by decide +kernel
theorem dX5_lagOf_0 : decode cX5_lagOf 0 = .ok (.iload_n 0, 1) := by decide +kernel
theorem dX5_lagOf_1 : decode cX5_lagOf 1 = .ok (.iconst 4, 1) := by decide +kernel
theorem dX5_lagOf_2 : decode cX5_lagOf 2 = .ok (.idiv, 1) := by decide +kernel
theorem dX5_lagOf_3 : decode cX5_lagOf 3 = .ok (.iconst 3, 1) := by decide +kernel
theorem dX5_lagOf_4 : decode cX5_lagOf 4 = .ok (.irem, 1) := by decide +kernel
theorem dX5_lagOf_5 : decode cX5_lagOf 5 = .ok (.ireturn, 1) := by decide +kernel
theorem dX5_tireOf_0 : decode cX5_tireOf 0 = .ok (.iload_n 0, 1) := by decide +kernel
theorem dX5_tireOf_1 : decode cX5_tireOf 1 = .ok (.iconst 4, 1) := by decide +kernel
theorem dX5_tireOf_2 : decode cX5_tireOf 2 = .ok (.irem, 1) := by decide +kernel
theorem dX5_tireOf_3 : decode cX5_tireOf 3 = .ok (.ireturn, 1) := by decide +kernel
theorem dX5_part_0 : decode cX5_part 0 = .ok (.iload_n 1, 1) := by decide +kernel
theorem dX5_part_1 : decode cX5_part 1 = .ok (.tableswitch 51 0 3 #[31, 36, 41, 46], 31) := by decide +kernel
theorem dX5_part_32 : decode cX5_part 32 = .ok (.iload_n 0, 1) := by decide +kernel
theorem dX5_part_33 : decode cX5_part 33 = .ok (.invokestatic 40, 3) := by decide +kernel
theorem dX5_part_36 : decode cX5_part 36 = .ok (.ireturn, 1) := by decide +kernel
theorem dX5_part_37 : decode cX5_part 37 = .ok (.iload_n 0, 1) := by decide +kernel
theorem dX5_part_38 : decode cX5_part 38 = .ok (.invokestatic 44, 3) := by decide +kernel
theorem dX5_part_41 : decode cX5_part 41 = .ok (.ireturn, 1) := by decide +kernel
theorem dX5_part_42 : decode cX5_part 42 = .ok (.iload_n 0, 1) := by decide +kernel
theorem dX5_part_43 : decode cX5_part 43 = .ok (.invokestatic 47, 3) := by decide +kernel
theorem dX5_part_46 : decode cX5_part 46 = .ok (.ireturn, 1) := by decide +kernel
theorem dX5_part_47 : decode cX5_part 47 = .ok (.iload_n 0, 1) := by decide +kernel
theorem dX5_part_48 : decode cX5_part 48 = .ok (.invokestatic 50, 3) := by decide +kernel
theorem dX5_part_51 : decode cX5_part 51 = .ok (.ireturn, 1) := by decide +kernel
theorem dX5_part_52 : decode cX5_part 52 = .ok (.ldc 53, 2) := by decide +kernel
theorem dX5_part_54 : decode cX5_part 54 = .ok (.ireturn, 1) := by decide +kernel
theorem dX5_fit_0 : decode cX5_fit 0 = .ok (.aload_n 0, 1) := by decide +kernel
theorem dX5_fit_1 : decode cX5_fit 1 = .ok (.getfield 54, 3) := by decide +kernel
theorem dX5_fit_4 : decode cX5_fit 4 = .ok (.aload_n 0, 1) := by decide +kernel
theorem dX5_fit_5 : decode cX5_fit 5 = .ok (.getfield 15, 3) := by decide +kernel
theorem dX5_fit_8 : decode cX5_fit 8 = .ok (.getfield 57, 3) := by decide +kernel
theorem dX5_fit_11 : decode cX5_fit 11 = .ok (.if_icmp .ne 20, 3) := by decide +kernel
theorem dX5_fit_14 : decode cX5_fit 14 = .ok (.aload_n 0, 1) := by decide +kernel
theorem dX5_fit_15 : decode cX5_fit 15 = .ok (.getfield 60, 3) := by decide +kernel
theorem dX5_fit_18 : decode cX5_fit 18 = .ok (.iload_n 1, 1) := by decide +kernel
theorem dX5_fit_19 : decode cX5_fit 19 = .ok (.if_icmp .gt 12, 3) := by decide +kernel
theorem dX5_fit_22 : decode cX5_fit 22 = .ok (.iload_n 1, 1) := by decide +kernel
theorem dX5_fit_23 : decode cX5_fit 23 = .ok (.aload_n 0, 1) := by decide +kernel
theorem dX5_fit_24 : decode cX5_fit 24 = .ok (.getfield 63, 3) := by decide +kernel
theorem dX5_fit_27 : decode cX5_fit 27 = .ok (.if_icmp .gt 4, 3) := by decide +kernel
theorem dX5_fit_30 : decode cX5_fit 30 = .ok (.return_, 1) := by decide +kernel
theorem dX5_fit_31 : decode cX5_fit 31 = .ok (.aload_n 0, 1) := by decide +kernel
theorem dX5_fit_32 : decode cX5_fit 32 = .ok (.aload_n 0, 1) := by decide +kernel
theorem dX5_fit_33 : decode cX5_fit 33 = .ok (.getfield 15, 3) := by decide +kernel
theorem dX5_fit_36 : decode cX5_fit 36 = .ok (.getfield 57, 3) := by decide +kernel
theorem dX5_fit_39 : decode cX5_fit 39 = .ok (.putfield 54, 3) := by decide +kernel
theorem dX5_fit_42 : decode cX5_fit 42 = .ok (.aload_n 0, 1) := by decide +kernel
theorem dX5_fit_43 : decode cX5_fit 43 = .ok (.aload_n 0, 1) := by decide +kernel
theorem dX5_fit_44 : decode cX5_fit 44 = .ok (.getfield 19, 3) := by decide +kernel
theorem dX5_fit_47 : decode cX5_fit 47 = .ok (.aload_n 0, 1) := by decide +kernel
theorem dX5_fit_48 : decode cX5_fit 48 = .ok (.getfield 23, 3) := by decide +kernel
theorem dX5_fit_51 : decode cX5_fit 51 = .ok (.iload_n 1, 1) := by decide +kernel
theorem dX5_fit_52 : decode cX5_fit 52 = .ok (.invokevirtual 66, 3) := by decide +kernel
theorem dX5_fit_55 : decode cX5_fit 55 = .ok (.putfield 60, 3) := by decide +kernel
theorem dX5_fit_58 : decode cX5_fit 58 = .ok (.aload_n 0, 1) := by decide +kernel
theorem dX5_fit_59 : decode cX5_fit 59 = .ok (.aload_n 0, 1) := by decide +kernel
theorem dX5_fit_60 : decode cX5_fit 60 = .ok (.getfield 19, 3) := by decide +kernel
theorem dX5_fit_63 : decode cX5_fit 63 = .ok (.aload_n 0, 1) := by decide +kernel
theorem dX5_fit_64 : decode cX5_fit 64 = .ok (.getfield 23, 3) := by decide +kernel
theorem dX5_fit_67 : decode cX5_fit 67 = .ok (.iload_n 1, 1) := by decide +kernel
theorem dX5_fit_68 : decode cX5_fit 68 = .ok (.invokevirtual 72, 3) := by decide +kernel
theorem dX5_fit_71 : decode cX5_fit 71 = .ok (.putfield 63, 3) := by decide +kernel
theorem dX5_fit_74 : decode cX5_fit 74 = .ok (.aload_n 0, 1) := by decide +kernel
theorem dX5_fit_75 : decode cX5_fit 75 = .ok (.invokevirtual 75, 3) := by decide +kernel
theorem dX5_fit_78 : decode cX5_fit 78 = .ok (.aload_n 0, 1) := by decide +kernel
theorem dX5_fit_79 : decode cX5_fit 79 = .ok (.getfield 34, 3) := by decide +kernel
theorem dX5_fit_82 : decode cX5_fit 82 = .ok (.iconst 0, 1) := by decide +kernel
theorem dX5_fit_83 : decode cX5_fit 83 = .ok (.invokestatic 78, 3) := by decide +kernel
theorem dX5_fit_86 : decode cX5_fit 86 = .ok (.aload_n 0, 1) := by decide +kernel
theorem dX5_fit_87 : decode cX5_fit 87 = .ok (.iconst (-1), 1) := by decide +kernel
theorem dX5_fit_88 : decode cX5_fit 88 = .ok (.putfield 84, 3) := by decide +kernel
theorem dX5_fit_91 : decode cX5_fit 91 = .ok (.aload_n 0, 1) := by decide +kernel
theorem dX5_fit_92 : decode cX5_fit 92 = .ok (.getfield 87, 3) := by decide +kernel
theorem dX5_fit_95 : decode cX5_fit 95 = .ok (.aload_n 0, 1) := by decide +kernel
theorem dX5_fit_96 : decode cX5_fit 96 = .ok (.getfield 19, 3) := by decide +kernel
theorem dX5_fit_99 : decode cX5_fit 99 = .ok (.aload_n 0, 1) := by decide +kernel
theorem dX5_fit_100 : decode cX5_fit 100 = .ok (.getfield 23, 3) := by decide +kernel
theorem dX5_fit_103 : decode cX5_fit 103 = .ok (.iconst 0, 1) := by decide +kernel
theorem dX5_fit_104 : decode cX5_fit 104 = .ok (.invokevirtual 90, 3) := by decide +kernel
theorem dX5_fit_107 : decode cX5_fit 107 = .ok (.aload_n 0, 1) := by decide +kernel
theorem dX5_fit_108 : decode cX5_fit 108 = .ok (.getfield 19, 3) := by decide +kernel
theorem dX5_fit_111 : decode cX5_fit 111 = .ok (.aload_n 0, 1) := by decide +kernel
theorem dX5_fit_112 : decode cX5_fit 112 = .ok (.getfield 23, 3) := by decide +kernel
theorem dX5_fit_115 : decode cX5_fit 115 = .ok (.iconst 0, 1) := by decide +kernel
theorem dX5_fit_116 : decode cX5_fit 116 = .ok (.invokevirtual 93, 3) := by decide +kernel
theorem dX5_fit_119 : decode cX5_fit 119 = .ok (.isub, 1) := by decide +kernel
theorem dX5_fit_120 : decode cX5_fit 120 = .ok (.iconst 1, 1) := by decide +kernel
theorem dX5_fit_121 : decode cX5_fit 121 = .ok (.iadd, 1) := by decide +kernel
theorem dX5_fit_122 : decode cX5_fit 122 = .ok (.imul, 1) := by decide +kernel
theorem dX5_fit_123 : decode cX5_fit 123 = .ok (.istore_n 2, 1) := by decide +kernel
theorem dX5_fit_124 : decode cX5_fit 124 = .ok (.aload_n 0, 1) := by decide +kernel
theorem dX5_fit_125 : decode cX5_fit 125 = .ok (.getfield 60, 3) := by decide +kernel
theorem dX5_fit_128 : decode cX5_fit 128 = .ok (.istore_n 3, 1) := by decide +kernel
theorem dX5_fit_129 : decode cX5_fit 129 = .ok (.iload_n 3, 1) := by decide +kernel
theorem dX5_fit_130 : decode cX5_fit 130 = .ok (.aload_n 0, 1) := by decide +kernel
theorem dX5_fit_131 : decode cX5_fit 131 = .ok (.getfield 63, 3) := by decide +kernel
theorem dX5_fit_134 : decode cX5_fit 134 = .ok (.if_icmp .gt 68, 3) := by decide +kernel
theorem dX5_fit_137 : decode cX5_fit 137 = .ok (.aload_n 0, 1) := by decide +kernel
theorem dX5_fit_138 : decode cX5_fit 138 = .ok (.getfield 15, 3) := by decide +kernel
theorem dX5_fit_141 : decode cX5_fit 141 = .ok (.aload_n 0, 1) := by decide +kernel
theorem dX5_fit_142 : decode cX5_fit 142 = .ok (.getfield 23, 3) := by decide +kernel
theorem dX5_fit_145 : decode cX5_fit 145 = .ok (.iload_n 3, 1) := by decide +kernel
theorem dX5_fit_146 : decode cX5_fit 146 = .ok (.invokevirtual 96, 3) := by decide +kernel
theorem dX5_fit_149 : decode cX5_fit 149 = .ok (.istore 4, 2) := by decide +kernel
theorem dX5_fit_151 : decode cX5_fit 151 = .ok (.iload 4, 2) := by decide +kernel
theorem dX5_fit_153 : decode cX5_fit 153 = .ok (.ldc 53, 2) := by decide +kernel
theorem dX5_fit_155 : decode cX5_fit 155 = .ok (.if_icmp .eq 41, 3) := by decide +kernel
theorem dX5_fit_158 : decode cX5_fit 158 = .ok (.aload_n 0, 1) := by decide +kernel
theorem dX5_fit_159 : decode cX5_fit 159 = .ok (.getfield 9, 3) := by decide +kernel
theorem dX5_fit_162 : decode cX5_fit 162 = .ok (.iload_n 3, 1) := by decide +kernel
theorem dX5_fit_163 : decode cX5_fit 163 = .ok (.invokevirtual 99, 3) := by decide +kernel
theorem dX5_fit_166 : decode cX5_fit 166 = .ok (.ifCond .eq 30, 3) := by decide +kernel
theorem dX5_fit_169 : decode cX5_fit 169 = .ok (.iload_n 2, 1) := by decide +kernel
theorem dX5_fit_170 : decode cX5_fit 170 = .ok (.aload_n 0, 1) := by decide +kernel
theorem dX5_fit_171 : decode cX5_fit 171 = .ok (.iload_n 3, 1) := by decide +kernel
theorem dX5_fit_172 : decode cX5_fit 172 = .ok (.iload 4, 2) := by decide +kernel
theorem dX5_fit_174 : decode cX5_fit 174 = .ok (.invokevirtual 105, 3) := by decide +kernel
theorem dX5_fit_177 : decode cX5_fit 177 = .ok (.isub, 1) := by decide +kernel
theorem dX5_fit_178 : decode cX5_fit 178 = .ok (.istore_n 2, 1) := by decide +kernel
theorem dX5_fit_179 : decode cX5_fit 179 = .ok (.iload_n 2, 1) := by decide +kernel
theorem dX5_fit_180 : decode cX5_fit 180 = .ok (.ifCond .ne 16, 3) := by decide +kernel
theorem dX5_fit_183 : decode cX5_fit 183 = .ok (.aload_n 0, 1) := by decide +kernel
theorem dX5_fit_184 : decode cX5_fit 184 = .ok (.getfield 84, 3) := by decide +kernel
theorem dX5_fit_187 : decode cX5_fit 187 = .ok (.iconst (-1), 1) := by decide +kernel
theorem dX5_fit_188 : decode cX5_fit 188 = .ok (.if_icmp .ne 8, 3) := by decide +kernel
theorem dX5_fit_191 : decode cX5_fit 191 = .ok (.aload_n 0, 1) := by decide +kernel
theorem dX5_fit_192 : decode cX5_fit 192 = .ok (.iload_n 3, 1) := by decide +kernel
theorem dX5_fit_193 : decode cX5_fit 193 = .ok (.putfield 84, 3) := by decide +kernel
theorem dX5_fit_196 : decode cX5_fit 196 = .ok (.iinc 3 1, 3) := by decide +kernel
theorem dX5_fit_199 : decode cX5_fit 199 = .ok (.goto (-70), 3) := by decide +kernel
theorem dX5_fit_202 : decode cX5_fit 202 = .ok (.aload_n 0, 1) := by decide +kernel
theorem dX5_fit_203 : decode cX5_fit 203 = .ok (.invokevirtual 108, 3) := by decide +kernel
theorem dX5_fit_206 : decode cX5_fit 206 = .ok (.return_, 1) := by decide +kernel
theorem dX5_listBends_0 : decode cX5_listBends 0 = .ok (.aload_n 0, 1) := by decide +kernel
theorem dX5_listBends_1 : decode cX5_listBends 1 = .ok (.iconst 0, 1) := by decide +kernel
theorem dX5_listBends_2 : decode cX5_listBends 2 = .ok (.putfield 87, 3) := by decide +kernel
theorem dX5_listBends_5 : decode cX5_listBends 5 = .ok (.aload_n 0, 1) := by decide +kernel
theorem dX5_listBends_6 : decode cX5_listBends 6 = .ok (.getfield 19, 3) := by decide +kernel
theorem dX5_listBends_9 : decode cX5_listBends 9 = .ok (.aload_n 0, 1) := by decide +kernel
theorem dX5_listBends_10 : decode cX5_listBends 10 = .ok (.getfield 23, 3) := by decide +kernel
theorem dX5_listBends_13 : decode cX5_listBends 13 = .ok (.iconst 1, 1) := by decide +kernel
theorem dX5_listBends_14 : decode cX5_listBends 14 = .ok (.invokevirtual 93, 3) := by decide +kernel
theorem dX5_listBends_17 : decode cX5_listBends 17 = .ok (.istore_n 1, 1) := by decide +kernel
theorem dX5_listBends_18 : decode cX5_listBends 18 = .ok (.iload_n 1, 1) := by decide +kernel
theorem dX5_listBends_19 : decode cX5_listBends 19 = .ok (.aload_n 0, 1) := by decide +kernel
theorem dX5_listBends_20 : decode cX5_listBends 20 = .ok (.getfield 19, 3) := by decide +kernel
theorem dX5_listBends_23 : decode cX5_listBends 23 = .ok (.aload_n 0, 1) := by decide +kernel
theorem dX5_listBends_24 : decode cX5_listBends 24 = .ok (.getfield 23, 3) := by decide +kernel
theorem dX5_listBends_27 : decode cX5_listBends 27 = .ok (.iconst 1, 1) := by decide +kernel
theorem dX5_listBends_28 : decode cX5_listBends 28 = .ok (.invokevirtual 90, 3) := by decide +kernel
theorem dX5_listBends_31 : decode cX5_listBends 31 = .ok (.if_icmp .gt 120, 3) := by decide +kernel
theorem dX5_listBends_34 : decode cX5_listBends 34 = .ok (.aload_n 0, 1) := by decide +kernel
theorem dX5_listBends_35 : decode cX5_listBends 35 = .ok (.getfield 19, 3) := by decide +kernel
theorem dX5_listBends_38 : decode cX5_listBends 38 = .ok (.aload_n 0, 1) := by decide +kernel
theorem dX5_listBends_39 : decode cX5_listBends 39 = .ok (.getfield 23, 3) := by decide +kernel
theorem dX5_listBends_42 : decode cX5_listBends 42 = .ok (.iconst 2, 1) := by decide +kernel
theorem dX5_listBends_43 : decode cX5_listBends 43 = .ok (.invokevirtual 93, 3) := by decide +kernel
theorem dX5_listBends_46 : decode cX5_listBends 46 = .ok (.istore_n 2, 1) := by decide +kernel
theorem dX5_listBends_47 : decode cX5_listBends 47 = .ok (.iload_n 2, 1) := by decide +kernel
theorem dX5_listBends_48 : decode cX5_listBends 48 = .ok (.aload_n 0, 1) := by decide +kernel
theorem dX5_listBends_49 : decode cX5_listBends 49 = .ok (.getfield 19, 3) := by decide +kernel
theorem dX5_listBends_52 : decode cX5_listBends 52 = .ok (.aload_n 0, 1) := by decide +kernel
theorem dX5_listBends_53 : decode cX5_listBends 53 = .ok (.getfield 23, 3) := by decide +kernel
theorem dX5_listBends_56 : decode cX5_listBends 56 = .ok (.iconst 2, 1) := by decide +kernel
theorem dX5_listBends_57 : decode cX5_listBends 57 = .ok (.invokevirtual 90, 3) := by decide +kernel
theorem dX5_listBends_60 : decode cX5_listBends 60 = .ok (.if_icmp .gt 85, 3) := by decide +kernel
theorem dX5_listBends_63 : decode cX5_listBends 63 = .ok (.aload_n 0, 1) := by decide +kernel
theorem dX5_listBends_64 : decode cX5_listBends 64 = .ok (.getfield 19, 3) := by decide +kernel
theorem dX5_listBends_67 : decode cX5_listBends 67 = .ok (.aload_n 0, 1) := by decide +kernel
theorem dX5_listBends_68 : decode cX5_listBends 68 = .ok (.getfield 23, 3) := by decide +kernel
theorem dX5_listBends_71 : decode cX5_listBends 71 = .ok (.iconst 3, 1) := by decide +kernel
theorem dX5_listBends_72 : decode cX5_listBends 72 = .ok (.invokevirtual 93, 3) := by decide +kernel
theorem dX5_listBends_75 : decode cX5_listBends 75 = .ok (.istore_n 3, 1) := by decide +kernel
theorem dX5_listBends_76 : decode cX5_listBends 76 = .ok (.iload_n 3, 1) := by decide +kernel
theorem dX5_listBends_77 : decode cX5_listBends 77 = .ok (.aload_n 0, 1) := by decide +kernel
theorem dX5_listBends_78 : decode cX5_listBends 78 = .ok (.getfield 19, 3) := by decide +kernel
theorem dX5_listBends_81 : decode cX5_listBends 81 = .ok (.aload_n 0, 1) := by decide +kernel
theorem dX5_listBends_82 : decode cX5_listBends 82 = .ok (.getfield 23, 3) := by decide +kernel
theorem dX5_listBends_85 : decode cX5_listBends 85 = .ok (.iconst 3, 1) := by decide +kernel
theorem dX5_listBends_86 : decode cX5_listBends 86 = .ok (.invokevirtual 90, 3) := by decide +kernel
theorem dX5_listBends_89 : decode cX5_listBends 89 = .ok (.if_icmp .gt 50, 3) := by decide +kernel
theorem dX5_listBends_92 : decode cX5_listBends 92 = .ok (.aload_n 0, 1) := by decide +kernel
theorem dX5_listBends_93 : decode cX5_listBends 93 = .ok (.getfield 87, 3) := by decide +kernel
theorem dX5_listBends_96 : decode cX5_listBends 96 = .ok (.bipush 60, 2) := by decide +kernel
theorem dX5_listBends_98 : decode cX5_listBends 98 = .ok (.if_icmp .ge 35, 3) := by decide +kernel
theorem dX5_listBends_101 : decode cX5_listBends 101 = .ok (.aload_n 0, 1) := by decide +kernel
theorem dX5_listBends_102 : decode cX5_listBends 102 = .ok (.getfield 27, 3) := by decide +kernel
theorem dX5_listBends_105 : decode cX5_listBends 105 = .ok (.aload_n 0, 1) := by decide +kernel
theorem dX5_listBends_106 : decode cX5_listBends 106 = .ok (.getfield 87, 3) := by decide +kernel
theorem dX5_listBends_109 : decode cX5_listBends 109 = .ok (.iload_n 1, 1) := by decide +kernel
theorem dX5_listBends_110 : decode cX5_listBends 110 = .ok (.bipush 8, 2) := by decide +kernel
theorem dX5_listBends_112 : decode cX5_listBends 112 = .ok (.isub, 1) := by decide +kernel
theorem dX5_listBends_113 : decode cX5_listBends 113 = .ok (.bipush 12, 2) := by decide +kernel
theorem dX5_listBends_115 : decode cX5_listBends 115 = .ok (.imul, 1) := by decide +kernel
theorem dX5_listBends_116 : decode cX5_listBends 116 = .ok (.iload_n 2, 1) := by decide +kernel
theorem dX5_listBends_117 : decode cX5_listBends 117 = .ok (.iconst 4, 1) := by decide +kernel
theorem dX5_listBends_118 : decode cX5_listBends 118 = .ok (.imul, 1) := by decide +kernel
theorem dX5_listBends_119 : decode cX5_listBends 119 = .ok (.iadd, 1) := by decide +kernel
theorem dX5_listBends_120 : decode cX5_listBends 120 = .ok (.iload_n 3, 1) := by decide +kernel
theorem dX5_listBends_121 : decode cX5_listBends 121 = .ok (.iadd, 1) := by decide +kernel
theorem dX5_listBends_122 : decode cX5_listBends 122 = .ok (.iastore, 1) := by decide +kernel
theorem dX5_listBends_123 : decode cX5_listBends 123 = .ok (.aload_n 0, 1) := by decide +kernel
theorem dX5_listBends_124 : decode cX5_listBends 124 = .ok (.dup, 1) := by decide +kernel
theorem dX5_listBends_125 : decode cX5_listBends 125 = .ok (.getfield 87, 3) := by decide +kernel
theorem dX5_listBends_128 : decode cX5_listBends 128 = .ok (.iconst 1, 1) := by decide +kernel
theorem dX5_listBends_129 : decode cX5_listBends 129 = .ok (.iadd, 1) := by decide +kernel
theorem dX5_listBends_130 : decode cX5_listBends 130 = .ok (.putfield 87, 3) := by decide +kernel
theorem dX5_listBends_133 : decode cX5_listBends 133 = .ok (.iinc 3 1, 3) := by decide +kernel
theorem dX5_listBends_136 : decode cX5_listBends 136 = .ok (.goto (-60), 3) := by decide +kernel
theorem dX5_listBends_139 : decode cX5_listBends 139 = .ok (.iinc 2 1, 3) := by decide +kernel
theorem dX5_listBends_142 : decode cX5_listBends 142 = .ok (.goto (-95), 3) := by decide +kernel
theorem dX5_listBends_145 : decode cX5_listBends 145 = .ok (.iinc 1 1, 3) := by decide +kernel
theorem dX5_listBends_148 : decode cX5_listBends 148 = .ok (.goto (-130), 3) := by decide +kernel
theorem dX5_listBends_151 : decode cX5_listBends 151 = .ok (.return_, 1) := by decide +kernel
theorem dX5_tryDay_0 : decode cX5_tryDay 0 = .ok (.aload_n 0, 1) := by decide +kernel
theorem dX5_tryDay_1 : decode cX5_tryDay 1 = .ok (.getfield 19, 3) := by decide +kernel
theorem dX5_tryDay_4 : decode cX5_tryDay 4 = .ok (.aload_n 0, 1) := by decide +kernel
theorem dX5_tryDay_5 : decode cX5_tryDay 5 = .ok (.getfield 23, 3) := by decide +kernel
theorem dX5_tryDay_8 : decode cX5_tryDay 8 = .ok (.iload_n 1, 1) := by decide +kernel
theorem dX5_tryDay_9 : decode cX5_tryDay 9 = .ok (.invokevirtual 111, 3) := by decide +kernel
theorem dX5_tryDay_12 : decode cX5_tryDay 12 = .ok (.istore_n 3, 1) := by decide +kernel
theorem dX5_tryDay_13 : decode cX5_tryDay 13 = .ok (.iconst 0, 1) := by decide +kernel
theorem dX5_tryDay_14 : decode cX5_tryDay 14 = .ok (.istore 4, 2) := by decide +kernel
theorem dX5_tryDay_16 : decode cX5_tryDay 16 = .ok (.iload 4, 2) := by decide +kernel
theorem dX5_tryDay_18 : decode cX5_tryDay 18 = .ok (.aload_n 0, 1) := by decide +kernel
theorem dX5_tryDay_19 : decode cX5_tryDay 19 = .ok (.getfield 87, 3) := by decide +kernel
theorem dX5_tryDay_22 : decode cX5_tryDay 22 = .ok (.if_icmp .ge 29, 3) := by decide +kernel
theorem dX5_tryDay_25 : decode cX5_tryDay 25 = .ok (.aload_n 0, 1) := by decide +kernel
theorem dX5_tryDay_26 : decode cX5_tryDay 26 = .ok (.getfield 31, 3) := by decide +kernel
theorem dX5_tryDay_29 : decode cX5_tryDay 29 = .ok (.iload 4, 2) := by decide +kernel
theorem dX5_tryDay_31 : decode cX5_tryDay 31 = .ok (.aload_n 0, 1) := by decide +kernel
theorem dX5_tryDay_32 : decode cX5_tryDay 32 = .ok (.aload_n 0, 1) := by decide +kernel
theorem dX5_tryDay_33 : decode cX5_tryDay 33 = .ok (.getfield 27, 3) := by decide +kernel
theorem dX5_tryDay_36 : decode cX5_tryDay 36 = .ok (.iload 4, 2) := by decide +kernel
theorem dX5_tryDay_38 : decode cX5_tryDay 38 = .ok (.iaload, 1) := by decide +kernel
theorem dX5_tryDay_39 : decode cX5_tryDay 39 = .ok (.iload_n 1, 1) := by decide +kernel
theorem dX5_tryDay_40 : decode cX5_tryDay 40 = .ok (.iload_n 3, 1) := by decide +kernel
theorem dX5_tryDay_41 : decode cX5_tryDay 41 = .ok (.invokevirtual 114, 3) := by decide +kernel
theorem dX5_tryDay_44 : decode cX5_tryDay 44 = .ok (.iastore, 1) := by decide +kernel
theorem dX5_tryDay_45 : decode cX5_tryDay 45 = .ok (.iinc 4 1, 3) := by decide +kernel
theorem dX5_tryDay_48 : decode cX5_tryDay 48 = .ok (.goto (-32), 3) := by decide +kernel
theorem dX5_tryDay_51 : decode cX5_tryDay 51 = .ok (.iconst 0, 1) := by decide +kernel
theorem dX5_tryDay_52 : decode cX5_tryDay 52 = .ok (.istore 4, 2) := by decide +kernel
theorem dX5_tryDay_54 : decode cX5_tryDay 54 = .ok (.iconst 0, 1) := by decide +kernel
theorem dX5_tryDay_55 : decode cX5_tryDay 55 = .ok (.istore 5, 2) := by decide +kernel
theorem dX5_tryDay_57 : decode cX5_tryDay 57 = .ok (.aload_n 0, 1) := by decide +kernel
theorem dX5_tryDay_58 : decode cX5_tryDay 58 = .ok (.getfield 19, 3) := by decide +kernel
theorem dX5_tryDay_61 : decode cX5_tryDay 61 = .ok (.aload_n 0, 1) := by decide +kernel
theorem dX5_tryDay_62 : decode cX5_tryDay 62 = .ok (.getfield 23, 3) := by decide +kernel
theorem dX5_tryDay_65 : decode cX5_tryDay 65 = .ok (.iconst 0, 1) := by decide +kernel
theorem dX5_tryDay_66 : decode cX5_tryDay 66 = .ok (.invokevirtual 93, 3) := by decide +kernel
theorem dX5_tryDay_69 : decode cX5_tryDay 69 = .ok (.istore 6, 2) := by decide +kernel
theorem dX5_tryDay_71 : decode cX5_tryDay 71 = .ok (.iload 6, 2) := by decide +kernel
theorem dX5_tryDay_73 : decode cX5_tryDay 73 = .ok (.aload_n 0, 1) := by decide +kernel
theorem dX5_tryDay_74 : decode cX5_tryDay 74 = .ok (.getfield 19, 3) := by decide +kernel
theorem dX5_tryDay_77 : decode cX5_tryDay 77 = .ok (.aload_n 0, 1) := by decide +kernel
theorem dX5_tryDay_78 : decode cX5_tryDay 78 = .ok (.getfield 23, 3) := by decide +kernel
theorem dX5_tryDay_81 : decode cX5_tryDay 81 = .ok (.iconst 0, 1) := by decide +kernel
theorem dX5_tryDay_82 : decode cX5_tryDay 82 = .ok (.invokevirtual 90, 3) := by decide +kernel
theorem dX5_tryDay_85 : decode cX5_tryDay 85 = .ok (.if_icmp .gt 106, 3) := by decide +kernel
theorem dX5_tryDay_88 : decode cX5_tryDay 88 = .ok (.iconst 0, 1) := by decide +kernel
theorem dX5_tryDay_89 : decode cX5_tryDay 89 = .ok (.istore 7, 2) := by decide +kernel
theorem dX5_tryDay_91 : decode cX5_tryDay 91 = .ok (.iload 7, 2) := by decide +kernel
theorem dX5_tryDay_93 : decode cX5_tryDay 93 = .ok (.aload_n 0, 1) := by decide +kernel
theorem dX5_tryDay_94 : decode cX5_tryDay 94 = .ok (.getfield 87, 3) := by decide +kernel
theorem dX5_tryDay_97 : decode cX5_tryDay 97 = .ok (.if_icmp .ge 88, 3) := by decide +kernel
theorem dX5_tryDay_100 : decode cX5_tryDay 100 = .ok (.iload 5, 2) := by decide +kernel
theorem dX5_tryDay_102 : decode cX5_tryDay 102 = .ok (.sipush 660, 3) := by decide +kernel
theorem dX5_tryDay_105 : decode cX5_tryDay 105 = .ok (.if_icmp .ge 80, 3) := by decide +kernel
theorem dX5_tryDay_108 : decode cX5_tryDay 108 = .ok (.aload_n 0, 1) := by decide +kernel
theorem dX5_tryDay_109 : decode cX5_tryDay 109 = .ok (.getfield 31, 3) := by decide +kernel
theorem dX5_tryDay_112 : decode cX5_tryDay 112 = .ok (.iload 7, 2) := by decide +kernel
theorem dX5_tryDay_114 : decode cX5_tryDay 114 = .ok (.iaload, 1) := by decide +kernel
theorem dX5_tryDay_115 : decode cX5_tryDay 115 = .ok (.ldc 53, 2) := by decide +kernel
theorem dX5_tryDay_117 : decode cX5_tryDay 117 = .ok (.if_icmp .eq 59, 3) := by decide +kernel
theorem dX5_tryDay_120 : decode cX5_tryDay 120 = .ok (.aload_n 0, 1) := by decide +kernel
theorem dX5_tryDay_121 : decode cX5_tryDay 121 = .ok (.getfield 19, 3) := by decide +kernel
theorem dX5_tryDay_124 : decode cX5_tryDay 124 = .ok (.aload_n 0, 1) := by decide +kernel
theorem dX5_tryDay_125 : decode cX5_tryDay 125 = .ok (.getfield 23, 3) := by decide +kernel
theorem dX5_tryDay_128 : decode cX5_tryDay 128 = .ok (.iload 6, 2) := by decide +kernel
theorem dX5_tryDay_130 : decode cX5_tryDay 130 = .ok (.aload_n 0, 1) := by decide +kernel
theorem dX5_tryDay_131 : decode cX5_tryDay 131 = .ok (.getfield 31, 3) := by decide +kernel
theorem dX5_tryDay_134 : decode cX5_tryDay 134 = .ok (.iload 7, 2) := by decide +kernel
theorem dX5_tryDay_136 : decode cX5_tryDay 136 = .ok (.iaload, 1) := by decide +kernel
theorem dX5_tryDay_137 : decode cX5_tryDay 137 = .ok (.iadd, 1) := by decide +kernel
theorem dX5_tryDay_138 : decode cX5_tryDay 138 = .ok (.iload_n 2, 1) := by decide +kernel
theorem dX5_tryDay_139 : decode cX5_tryDay 139 = .ok (.invokevirtual 118, 3) := by decide +kernel
theorem dX5_tryDay_142 : decode cX5_tryDay 142 = .ok (.ifCond .ne 34, 3) := by decide +kernel
theorem dX5_tryDay_145 : decode cX5_tryDay 145 = .ok (.iload 4, 2) := by decide +kernel
theorem dX5_tryDay_147 : decode cX5_tryDay 147 = .ok (.aload_n 0, 1) := by decide +kernel
theorem dX5_tryDay_148 : decode cX5_tryDay 148 = .ok (.getfield 34, 3) := by decide +kernel
theorem dX5_tryDay_151 : decode cX5_tryDay 151 = .ok (.iload 5, 2) := by decide +kernel
theorem dX5_tryDay_153 : decode cX5_tryDay 153 = .ok (.iaload, 1) := by decide +kernel
theorem dX5_tryDay_154 : decode cX5_tryDay 154 = .ok (.ifCond .ne 7, 3) := by decide +kernel
theorem dX5_tryDay_157 : decode cX5_tryDay 157 = .ok (.iconst 1, 1) := by decide +kernel
theorem dX5_tryDay_158 : decode cX5_tryDay 158 = .ok (.goto 4, 3) := by decide +kernel
theorem dX5_tryDay_161 : decode cX5_tryDay 161 = .ok (.iconst 0, 1) := by decide +kernel
theorem dX5_tryDay_162 : decode cX5_tryDay 162 = .ok (.iadd, 1) := by decide +kernel
theorem dX5_tryDay_163 : decode cX5_tryDay 163 = .ok (.istore 4, 2) := by decide +kernel
theorem dX5_tryDay_165 : decode cX5_tryDay 165 = .ok (.aload_n 0, 1) := by decide +kernel
theorem dX5_tryDay_166 : decode cX5_tryDay 166 = .ok (.getfield 34, 3) := by decide +kernel
theorem dX5_tryDay_169 : decode cX5_tryDay 169 = .ok (.iload 5, 2) := by decide +kernel
theorem dX5_tryDay_171 : decode cX5_tryDay 171 = .ok (.dup2, 1) := by decide +kernel
theorem dX5_tryDay_172 : decode cX5_tryDay 172 = .ok (.iaload, 1) := by decide +kernel
theorem dX5_tryDay_173 : decode cX5_tryDay 173 = .ok (.iconst 1, 1) := by decide +kernel
theorem dX5_tryDay_174 : decode cX5_tryDay 174 = .ok (.iadd, 1) := by decide +kernel
theorem dX5_tryDay_175 : decode cX5_tryDay 175 = .ok (.iastore, 1) := by decide +kernel
theorem dX5_tryDay_176 : decode cX5_tryDay 176 = .ok (.iinc 5 1, 3) := by decide +kernel
theorem dX5_tryDay_179 : decode cX5_tryDay 179 = .ok (.iinc 7 1, 3) := by decide +kernel
theorem dX5_tryDay_182 : decode cX5_tryDay 182 = .ok (.goto (-91), 3) := by decide +kernel
theorem dX5_tryDay_185 : decode cX5_tryDay 185 = .ok (.iinc 6 1, 3) := by decide +kernel
theorem dX5_tryDay_188 : decode cX5_tryDay 188 = .ok (.goto (-117), 3) := by decide +kernel
theorem dX5_tryDay_191 : decode cX5_tryDay 191 = .ok (.iload 4, 2) := by decide +kernel
theorem dX5_tryDay_193 : decode cX5_tryDay 193 = .ok (.ireturn, 1) := by decide +kernel
theorem dX5_choose_0 : decode cX5_choose 0 = .ok (.aload_n 0, 1) := by decide +kernel
theorem dX5_choose_1 : decode cX5_choose 1 = .ok (.getfield 87, 3) := by decide +kernel
theorem dX5_choose_4 : decode cX5_choose 4 = .ok (.aload_n 0, 1) := by decide +kernel
theorem dX5_choose_5 : decode cX5_choose 5 = .ok (.getfield 19, 3) := by decide +kernel
theorem dX5_choose_8 : decode cX5_choose 8 = .ok (.aload_n 0, 1) := by decide +kernel
theorem dX5_choose_9 : decode cX5_choose 9 = .ok (.getfield 23, 3) := by decide +kernel
theorem dX5_choose_12 : decode cX5_choose 12 = .ok (.iconst 0, 1) := by decide +kernel
theorem dX5_choose_13 : decode cX5_choose 13 = .ok (.invokevirtual 90, 3) := by decide +kernel
theorem dX5_choose_16 : decode cX5_choose 16 = .ok (.aload_n 0, 1) := by decide +kernel
theorem dX5_choose_17 : decode cX5_choose 17 = .ok (.getfield 19, 3) := by decide +kernel
theorem dX5_choose_20 : decode cX5_choose 20 = .ok (.aload_n 0, 1) := by decide +kernel
theorem dX5_choose_21 : decode cX5_choose 21 = .ok (.getfield 23, 3) := by decide +kernel
theorem dX5_choose_24 : decode cX5_choose 24 = .ok (.iconst 0, 1) := by decide +kernel
theorem dX5_choose_25 : decode cX5_choose 25 = .ok (.invokevirtual 93, 3) := by decide +kernel
theorem dX5_choose_28 : decode cX5_choose 28 = .ok (.isub, 1) := by decide +kernel
theorem dX5_choose_29 : decode cX5_choose 29 = .ok (.iconst 1, 1) := by decide +kernel
theorem dX5_choose_30 : decode cX5_choose 30 = .ok (.iadd, 1) := by decide +kernel
theorem dX5_choose_31 : decode cX5_choose 31 = .ok (.imul, 1) := by decide +kernel
theorem dX5_choose_32 : decode cX5_choose 32 = .ok (.istore_n 1, 1) := by decide +kernel
theorem dX5_choose_33 : decode cX5_choose 33 = .ok (.aload_n 0, 1) := by decide +kernel
theorem dX5_choose_34 : decode cX5_choose 34 = .ok (.bipush 60, 2) := by decide +kernel
theorem dX5_choose_36 : decode cX5_choose 36 = .ok (.putfield 122, 3) := by decide +kernel
theorem dX5_choose_39 : decode cX5_choose 39 = .ok (.iconst 0, 1) := by decide +kernel
theorem dX5_choose_40 : decode cX5_choose 40 = .ok (.istore_n 2, 1) := by decide +kernel
theorem dX5_choose_41 : decode cX5_choose 41 = .ok (.iload_n 2, 1) := by decide +kernel
theorem dX5_choose_42 : decode cX5_choose 42 = .ok (.iload_n 1, 1) := by decide +kernel
theorem dX5_choose_43 : decode cX5_choose 43 = .ok (.if_icmp .ge 33, 3) := by decide +kernel
theorem dX5_choose_46 : decode cX5_choose 46 = .ok (.iload_n 2, 1) := by decide +kernel
theorem dX5_choose_47 : decode cX5_choose 47 = .ok (.sipush 660, 3) := by decide +kernel
theorem dX5_choose_50 : decode cX5_choose 50 = .ok (.if_icmp .ge 26, 3) := by decide +kernel
theorem dX5_choose_53 : decode cX5_choose 53 = .ok (.aload_n 0, 1) := by decide +kernel
theorem dX5_choose_54 : decode cX5_choose 54 = .ok (.aload_n 0, 1) := by decide +kernel
theorem dX5_choose_55 : decode cX5_choose 55 = .ok (.getfield 122, 3) := by decide +kernel
theorem dX5_choose_58 : decode cX5_choose 58 = .ok (.aload_n 0, 1) := by decide +kernel
theorem dX5_choose_59 : decode cX5_choose 59 = .ok (.getfield 34, 3) := by decide +kernel
theorem dX5_choose_62 : decode cX5_choose 62 = .ok (.iload_n 2, 1) := by decide +kernel
theorem dX5_choose_63 : decode cX5_choose 63 = .ok (.iaload, 1) := by decide +kernel
theorem dX5_choose_64 : decode cX5_choose 64 = .ok (.invokestatic 125, 3) := by decide +kernel
theorem dX5_choose_67 : decode cX5_choose 67 = .ok (.putfield 122, 3) := by decide +kernel
theorem dX5_choose_70 : decode cX5_choose 70 = .ok (.iinc 2 1, 3) := by decide +kernel
theorem dX5_choose_73 : decode cX5_choose 73 = .ok (.goto (-32), 3) := by decide +kernel
theorem dX5_choose_76 : decode cX5_choose 76 = .ok (.aload_n 0, 1) := by decide +kernel
theorem dX5_choose_77 : decode cX5_choose 77 = .ok (.iconst 0, 1) := by decide +kernel
theorem dX5_choose_78 : decode cX5_choose 78 = .ok (.putfield 130, 3) := by decide +kernel
theorem dX5_choose_81 : decode cX5_choose 81 = .ok (.iconst 0, 1) := by decide +kernel
theorem dX5_choose_82 : decode cX5_choose 82 = .ok (.istore_n 2, 1) := by decide +kernel
theorem dX5_choose_83 : decode cX5_choose 83 = .ok (.aload_n 0, 1) := by decide +kernel
theorem dX5_choose_84 : decode cX5_choose 84 = .ok (.getfield 19, 3) := by decide +kernel
theorem dX5_choose_87 : decode cX5_choose 87 = .ok (.aload_n 0, 1) := by decide +kernel
theorem dX5_choose_88 : decode cX5_choose 88 = .ok (.getfield 23, 3) := by decide +kernel
theorem dX5_choose_91 : decode cX5_choose 91 = .ok (.iconst 0, 1) := by decide +kernel
theorem dX5_choose_92 : decode cX5_choose 92 = .ok (.invokevirtual 93, 3) := by decide +kernel
theorem dX5_choose_95 : decode cX5_choose 95 = .ok (.istore_n 3, 1) := by decide +kernel
theorem dX5_choose_96 : decode cX5_choose 96 = .ok (.iload_n 3, 1) := by decide +kernel
theorem dX5_choose_97 : decode cX5_choose 97 = .ok (.aload_n 0, 1) := by decide +kernel
theorem dX5_choose_98 : decode cX5_choose 98 = .ok (.getfield 19, 3) := by decide +kernel
theorem dX5_choose_101 : decode cX5_choose 101 = .ok (.aload_n 0, 1) := by decide +kernel
theorem dX5_choose_102 : decode cX5_choose 102 = .ok (.getfield 23, 3) := by decide +kernel
theorem dX5_choose_105 : decode cX5_choose 105 = .ok (.iconst 0, 1) := by decide +kernel
theorem dX5_choose_106 : decode cX5_choose 106 = .ok (.invokevirtual 90, 3) := by decide +kernel
theorem dX5_choose_109 : decode cX5_choose 109 = .ok (.if_icmp .gt 83, 3) := by decide +kernel
theorem dX5_choose_112 : decode cX5_choose 112 = .ok (.iconst 0, 1) := by decide +kernel
theorem dX5_choose_113 : decode cX5_choose 113 = .ok (.istore 4, 2) := by decide +kernel
theorem dX5_choose_115 : decode cX5_choose 115 = .ok (.iload 4, 2) := by decide +kernel
theorem dX5_choose_117 : decode cX5_choose 117 = .ok (.aload_n 0, 1) := by decide +kernel
theorem dX5_choose_118 : decode cX5_choose 118 = .ok (.getfield 87, 3) := by decide +kernel
theorem dX5_choose_121 : decode cX5_choose 121 = .ok (.if_icmp .ge 65, 3) := by decide +kernel
theorem dX5_choose_124 : decode cX5_choose 124 = .ok (.iload_n 2, 1) := by decide +kernel
theorem dX5_choose_125 : decode cX5_choose 125 = .ok (.sipush 660, 3) := by decide +kernel
theorem dX5_choose_128 : decode cX5_choose 128 = .ok (.if_icmp .ge 58, 3) := by decide +kernel
theorem dX5_choose_131 : decode cX5_choose 131 = .ok (.aload_n 0, 1) := by decide +kernel
theorem dX5_choose_132 : decode cX5_choose 132 = .ok (.getfield 34, 3) := by decide +kernel
theorem dX5_choose_135 : decode cX5_choose 135 = .ok (.iload_n 2, 1) := by decide +kernel
theorem dX5_choose_136 : decode cX5_choose 136 = .ok (.iaload, 1) := by decide +kernel
theorem dX5_choose_137 : decode cX5_choose 137 = .ok (.aload_n 0, 1) := by decide +kernel
theorem dX5_choose_138 : decode cX5_choose 138 = .ok (.getfield 122, 3) := by decide +kernel
theorem dX5_choose_141 : decode cX5_choose 141 = .ok (.if_icmp .ne 36, 3) := by decide +kernel
theorem dX5_choose_144 : decode cX5_choose 144 = .ok (.aload_n 0, 1) := by decide +kernel
theorem dX5_choose_145 : decode cX5_choose 145 = .ok (.getfield 37, 3) := by decide +kernel
theorem dX5_choose_148 : decode cX5_choose 148 = .ok (.aload_n 0, 1) := by decide +kernel
theorem dX5_choose_149 : decode cX5_choose 149 = .ok (.getfield 130, 3) := by decide +kernel
theorem dX5_choose_152 : decode cX5_choose 152 = .ok (.iload_n 3, 1) := by decide +kernel
theorem dX5_choose_153 : decode cX5_choose 153 = .ok (.iconst 5, 1) := by decide +kernel
theorem dX5_choose_154 : decode cX5_choose 154 = .ok (.iadd, 1) := by decide +kernel
theorem dX5_choose_155 : decode cX5_choose 155 = .ok (.bipush 60, 2) := by decide +kernel
theorem dX5_choose_157 : decode cX5_choose 157 = .ok (.imul, 1) := by decide +kernel
theorem dX5_choose_158 : decode cX5_choose 158 = .ok (.aload_n 0, 1) := by decide +kernel
theorem dX5_choose_159 : decode cX5_choose 159 = .ok (.getfield 27, 3) := by decide +kernel
theorem dX5_choose_162 : decode cX5_choose 162 = .ok (.iload 4, 2) := by decide +kernel
theorem dX5_choose_164 : decode cX5_choose 164 = .ok (.iaload, 1) := by decide +kernel
theorem dX5_choose_165 : decode cX5_choose 165 = .ok (.iadd, 1) := by decide +kernel
theorem dX5_choose_166 : decode cX5_choose 166 = .ok (.iastore, 1) := by decide +kernel
theorem dX5_choose_167 : decode cX5_choose 167 = .ok (.aload_n 0, 1) := by decide +kernel
theorem dX5_choose_168 : decode cX5_choose 168 = .ok (.dup, 1) := by decide +kernel
theorem dX5_choose_169 : decode cX5_choose 169 = .ok (.getfield 130, 3) := by decide +kernel
theorem dX5_choose_172 : decode cX5_choose 172 = .ok (.iconst 1, 1) := by decide +kernel
theorem dX5_choose_173 : decode cX5_choose 173 = .ok (.iadd, 1) := by decide +kernel
theorem dX5_choose_174 : decode cX5_choose 174 = .ok (.putfield 130, 3) := by decide +kernel
theorem dX5_choose_177 : decode cX5_choose 177 = .ok (.iinc 2 1, 3) := by decide +kernel
theorem dX5_choose_180 : decode cX5_choose 180 = .ok (.iinc 4 1, 3) := by decide +kernel
theorem dX5_choose_183 : decode cX5_choose 183 = .ok (.goto (-68), 3) := by decide +kernel
theorem dX5_choose_186 : decode cX5_choose 186 = .ok (.iinc 3 1, 3) := by decide +kernel
theorem dX5_choose_189 : decode cX5_choose 189 = .ok (.goto (-93), 3) := by decide +kernel
theorem dX5_choose_192 : decode cX5_choose 192 = .ok (.return_, 1) := by decide +kernel
theorem dX5_withoutZero_0 : decode cX5_withoutZero 0 = .ok (.aload_n 0, 1) := by decide +kernel
theorem dX5_withoutZero_1 : decode cX5_withoutZero 1 = .ok (.getfield 15, 3) := by decide +kernel
theorem dX5_withoutZero_4 : decode cX5_withoutZero 4 = .ok (.aload_n 0, 1) := by decide +kernel
theorem dX5_withoutZero_5 : decode cX5_withoutZero 5 = .ok (.getfield 19, 3) := by decide +kernel
theorem dX5_withoutZero_8 : decode cX5_withoutZero 8 = .ok (.getfield 133, 3) := by decide +kernel
theorem dX5_withoutZero_11 : decode cX5_withoutZero 11 = .ok (.aload_n 0, 1) := by decide +kernel
theorem dX5_withoutZero_12 : decode cX5_withoutZero 12 = .ok (.getfield 23, 3) := by decide +kernel
theorem dX5_withoutZero_15 : decode cX5_withoutZero 15 = .ok (.iaload, 1) := by decide +kernel
theorem dX5_withoutZero_16 : decode cX5_withoutZero 16 = .ok (.iload_n 2, 1) := by decide +kernel
theorem dX5_withoutZero_17 : decode cX5_withoutZero 17 = .ok (.iload_n 1, 1) := by decide +kernel
theorem dX5_withoutZero_18 : decode cX5_withoutZero 18 = .ok (.invokestatic 47, 3) := by decide +kernel
theorem dX5_withoutZero_21 : decode cX5_withoutZero 21 = .ok (.isub, 1) := by decide +kernel
theorem dX5_withoutZero_22 : decode cX5_withoutZero 22 = .ok (.invokevirtual 136, 3) := by decide +kernel
theorem dX5_withoutZero_25 : decode cX5_withoutZero 25 = .ok (.istore 4, 2) := by decide +kernel
theorem dX5_withoutZero_27 : decode cX5_withoutZero 27 = .ok (.iload 4, 2) := by decide +kernel
theorem dX5_withoutZero_29 : decode cX5_withoutZero 29 = .ok (.ldc 53, 2) := by decide +kernel
theorem dX5_withoutZero_31 : decode cX5_withoutZero 31 = .ok (.if_icmp .ne 6, 3) := by decide +kernel
theorem dX5_withoutZero_34 : decode cX5_withoutZero 34 = .ok (.ldc 53, 2) := by decide +kernel
theorem dX5_withoutZero_36 : decode cX5_withoutZero 36 = .ok (.ireturn, 1) := by decide +kernel
theorem dX5_withoutZero_37 : decode cX5_withoutZero 37 = .ok (.iload_n 1, 1) := by decide +kernel
theorem dX5_withoutZero_38 : decode cX5_withoutZero 38 = .ok (.invokestatic 44, 3) := by decide +kernel
theorem dX5_withoutZero_41 : decode cX5_withoutZero 41 = .ok (.iload 4, 2) := by decide +kernel
theorem dX5_withoutZero_43 : decode cX5_withoutZero 43 = .ok (.imul, 1) := by decide +kernel
theorem dX5_withoutZero_44 : decode cX5_withoutZero 44 = .ok (.bipush 10, 2) := by decide +kernel
theorem dX5_withoutZero_46 : decode cX5_withoutZero 46 = .ok (.invokestatic 139, 3) := by decide +kernel
theorem dX5_withoutZero_49 : decode cX5_withoutZero 49 = .ok (.iload_n 1, 1) := by decide +kernel
theorem dX5_withoutZero_50 : decode cX5_withoutZero 50 = .ok (.invokestatic 50, 3) := by decide +kernel
theorem dX5_withoutZero_53 : decode cX5_withoutZero 53 = .ok (.iload_n 3, 1) := by decide +kernel
theorem dX5_withoutZero_54 : decode cX5_withoutZero 54 = .ok (.imul, 1) := by decide +kernel
theorem dX5_withoutZero_55 : decode cX5_withoutZero 55 = .ok (.bipush 10, 2) := by decide +kernel
theorem dX5_withoutZero_57 : decode cX5_withoutZero 57 = .ok (.idiv, 1) := by decide +kernel
theorem dX5_withoutZero_58 : decode cX5_withoutZero 58 = .ok (.iadd, 1) := by decide +kernel
theorem dX5_withoutZero_59 : decode cX5_withoutZero 59 = .ok (.ireturn, 1) := by decide +kernel
theorem dX5_by_0 : decode cX5_by 0 = .ok (.aload_n 0, 1) := by decide +kernel
theorem dX5_by_1 : decode cX5_by 1 = .ok (.iload_n 1, 1) := by decide +kernel
theorem dX5_by_2 : decode cX5_by 2 = .ok (.iload_n 2, 1) := by decide +kernel
theorem dX5_by_3 : decode cX5_by 3 = .ok (.iload_n 3, 1) := by decide +kernel
theorem dX5_by_4 : decode cX5_by 4 = .ok (.invokevirtual 114, 3) := by decide +kernel
theorem dX5_by_7 : decode cX5_by 7 = .ok (.istore 4, 2) := by decide +kernel
theorem dX5_by_9 : decode cX5_by 9 = .ok (.iload 4, 2) := by decide +kernel
theorem dX5_by_11 : decode cX5_by 11 = .ok (.ldc 53, 2) := by decide +kernel
theorem dX5_by_13 : decode cX5_by 13 = .ok (.if_icmp .ne 6, 3) := by decide +kernel
theorem dX5_by_16 : decode cX5_by 16 = .ok (.ldc 53, 2) := by decide +kernel
theorem dX5_by_18 : decode cX5_by 18 = .ok (.ireturn, 1) := by decide +kernel
theorem dX5_by_19 : decode cX5_by 19 = .ok (.iload_n 1, 1) := by decide +kernel
theorem dX5_by_20 : decode cX5_by 20 = .ok (.invokestatic 40, 3) := by decide +kernel
theorem dX5_by_23 : decode cX5_by 23 = .ok (.iload 4, 2) := by decide +kernel
theorem dX5_by_25 : decode cX5_by 25 = .ok (.iadd, 1) := by decide +kernel
theorem dX5_by_26 : decode cX5_by 26 = .ok (.istore 5, 2) := by decide +kernel
theorem dX5_by_28 : decode cX5_by 28 = .ok (.aload_n 0, 1) := by decide +kernel
theorem dX5_by_29 : decode cX5_by 29 = .ok (.getfield 19, 3) := by decide +kernel
theorem dX5_by_32 : decode cX5_by 32 = .ok (.aload_n 0, 1) := by decide +kernel
theorem dX5_by_33 : decode cX5_by 33 = .ok (.getfield 23, 3) := by decide +kernel
theorem dX5_by_36 : decode cX5_by 36 = .ok (.invokevirtual 142, 3) := by decide +kernel
theorem dX5_by_39 : decode cX5_by 39 = .ok (.ifCond .eq 13, 3) := by decide +kernel
theorem dX5_by_42 : decode cX5_by 42 = .ok (.iload 5, 2) := by decide +kernel
theorem dX5_by_44 : decode cX5_by 44 = .ok (.bipush 16, 2) := by decide +kernel
theorem dX5_by_46 : decode cX5_by 46 = .ok (.invokestatic 145, 3) := by decide +kernel
theorem dX5_by_49 : decode cX5_by 49 = .ok (.goto 5, 3) := by decide +kernel
theorem dX5_by_52 : decode cX5_by 52 = .ok (.iload 5, 2) := by decide +kernel
theorem dX5_by_54 : decode cX5_by 54 = .ok (.ireturn, 1) := by decide +kernel
theorem dX5_byFirst_0 : decode cX5_byFirst 0 = .ok (.aload_n 0, 1) := by decide +kernel
theorem dX5_byFirst_1 : decode cX5_byFirst 1 = .ok (.getfield 130, 3) := by decide +kernel
theorem dX5_byFirst_4 : decode cX5_byFirst 4 = .ok (.ifCond .le 29, 3) := by decide +kernel
theorem dX5_byFirst_7 : decode cX5_byFirst 7 = .ok (.aload_n 0, 1) := by decide +kernel
theorem dX5_byFirst_8 : decode cX5_byFirst 8 = .ok (.aload_n 0, 1) := by decide +kernel
theorem dX5_byFirst_9 : decode cX5_byFirst 9 = .ok (.getfield 37, 3) := by decide +kernel
theorem dX5_byFirst_12 : decode cX5_byFirst 12 = .ok (.iconst 0, 1) := by decide +kernel
theorem dX5_byFirst_13 : decode cX5_byFirst 13 = .ok (.iaload, 1) := by decide +kernel
theorem dX5_byFirst_14 : decode cX5_byFirst 14 = .ok (.iload_n 1, 1) := by decide +kernel
theorem dX5_byFirst_15 : decode cX5_byFirst 15 = .ok (.aload_n 0, 1) := by decide +kernel
theorem dX5_byFirst_16 : decode cX5_byFirst 16 = .ok (.getfield 19, 3) := by decide +kernel
theorem dX5_byFirst_19 : decode cX5_byFirst 19 = .ok (.aload_n 0, 1) := by decide +kernel
theorem dX5_byFirst_20 : decode cX5_byFirst 20 = .ok (.getfield 23, 3) := by decide +kernel
theorem dX5_byFirst_23 : decode cX5_byFirst 23 = .ok (.iload_n 1, 1) := by decide +kernel
theorem dX5_byFirst_24 : decode cX5_byFirst 24 = .ok (.invokevirtual 111, 3) := by decide +kernel
theorem dX5_byFirst_27 : decode cX5_byFirst 27 = .ok (.invokevirtual 148, 3) := by decide +kernel
theorem dX5_byFirst_30 : decode cX5_byFirst 30 = .ok (.goto 5, 3) := by decide +kernel
theorem dX5_byFirst_33 : decode cX5_byFirst 33 = .ok (.ldc 53, 2) := by decide +kernel
theorem dX5_byFirst_35 : decode cX5_byFirst 35 = .ok (.ireturn, 1) := by decide +kernel
theorem dX5_extreme_0 : decode cX5_extreme 0 = .ok (.aload_n 0, 1) := by decide +kernel
theorem dX5_extreme_1 : decode cX5_extreme 1 = .ok (.getfield 19, 3) := by decide +kernel
theorem dX5_extreme_4 : decode cX5_extreme 4 = .ok (.aload_n 0, 1) := by decide +kernel
theorem dX5_extreme_5 : decode cX5_extreme 5 = .ok (.getfield 23, 3) := by decide +kernel
theorem dX5_extreme_8 : decode cX5_extreme 8 = .ok (.iload_n 1, 1) := by decide +kernel
theorem dX5_extreme_9 : decode cX5_extreme 9 = .ok (.invokevirtual 111, 3) := by decide +kernel
theorem dX5_extreme_12 : decode cX5_extreme 12 = .ok (.istore_n 3, 1) := by decide +kernel
theorem dX5_extreme_13 : decode cX5_extreme 13 = .ok (.ldc 53, 2) := by decide +kernel
theorem dX5_extreme_15 : decode cX5_extreme 15 = .ok (.istore 4, 2) := by decide +kernel
theorem dX5_extreme_17 : decode cX5_extreme 17 = .ok (.iconst 0, 1) := by decide +kernel
theorem dX5_extreme_18 : decode cX5_extreme 18 = .ok (.istore 5, 2) := by decide +kernel
theorem dX5_extreme_20 : decode cX5_extreme 20 = .ok (.iload 5, 2) := by decide +kernel
theorem dX5_extreme_22 : decode cX5_extreme 22 = .ok (.aload_n 0, 1) := by decide +kernel
theorem dX5_extreme_23 : decode cX5_extreme 23 = .ok (.getfield 130, 3) := by decide +kernel
theorem dX5_extreme_26 : decode cX5_extreme 26 = .ok (.if_icmp .ge 85, 3) := by decide +kernel
theorem dX5_extreme_29 : decode cX5_extreme 29 = .ok (.aload_n 0, 1) := by decide +kernel
theorem dX5_extreme_30 : decode cX5_extreme 30 = .ok (.aload_n 0, 1) := by decide +kernel
theorem dX5_extreme_31 : decode cX5_extreme 31 = .ok (.getfield 37, 3) := by decide +kernel
theorem dX5_extreme_34 : decode cX5_extreme 34 = .ok (.iload 5, 2) := by decide +kernel
theorem dX5_extreme_36 : decode cX5_extreme 36 = .ok (.iaload, 1) := by decide +kernel
theorem dX5_extreme_37 : decode cX5_extreme 37 = .ok (.iload_n 1, 1) := by decide +kernel
theorem dX5_extreme_38 : decode cX5_extreme 38 = .ok (.iload_n 3, 1) := by decide +kernel
theorem dX5_extreme_39 : decode cX5_extreme 39 = .ok (.invokevirtual 148, 3) := by decide +kernel
theorem dX5_extreme_42 : decode cX5_extreme 42 = .ok (.istore 6, 2) := by decide +kernel
theorem dX5_extreme_44 : decode cX5_extreme 44 = .ok (.iload 6, 2) := by decide +kernel
theorem dX5_extreme_46 : decode cX5_extreme 46 = .ok (.ldc 53, 2) := by decide +kernel
theorem dX5_extreme_48 : decode cX5_extreme 48 = .ok (.if_icmp .eq 57, 3) := by decide +kernel
theorem dX5_extreme_51 : decode cX5_extreme 51 = .ok (.iload_n 2, 1) := by decide +kernel
theorem dX5_extreme_52 : decode cX5_extreme 52 = .ok (.ifCond .eq 18, 3) := by decide +kernel
theorem dX5_extreme_55 : decode cX5_extreme 55 = .ok (.iload 6, 2) := by decide +kernel
theorem dX5_extreme_57 : decode cX5_extreme 57 = .ok (.iload 4, 2) := by decide +kernel
theorem dX5_extreme_59 : decode cX5_extreme 59 = .ok (.if_icmp .le 7, 3) := by decide +kernel
theorem dX5_extreme_62 : decode cX5_extreme 62 = .ok (.iconst 1, 1) := by decide +kernel
theorem dX5_extreme_63 : decode cX5_extreme 63 = .ok (.goto 19, 3) := by decide +kernel
theorem dX5_extreme_66 : decode cX5_extreme 66 = .ok (.iconst 0, 1) := by decide +kernel
theorem dX5_extreme_67 : decode cX5_extreme 67 = .ok (.goto 15, 3) := by decide +kernel
theorem dX5_extreme_70 : decode cX5_extreme 70 = .ok (.iload 6, 2) := by decide +kernel
theorem dX5_extreme_72 : decode cX5_extreme 72 = .ok (.iload 4, 2) := by decide +kernel
theorem dX5_extreme_74 : decode cX5_extreme 74 = .ok (.if_icmp .ge 7, 3) := by decide +kernel
theorem dX5_extreme_77 : decode cX5_extreme 77 = .ok (.iconst 1, 1) := by decide +kernel
theorem dX5_extreme_78 : decode cX5_extreme 78 = .ok (.goto 4, 3) := by decide +kernel
theorem dX5_extreme_81 : decode cX5_extreme 81 = .ok (.iconst 0, 1) := by decide +kernel
theorem dX5_extreme_82 : decode cX5_extreme 82 = .ok (.istore 7, 2) := by decide +kernel
theorem dX5_extreme_84 : decode cX5_extreme 84 = .ok (.iload 4, 2) := by decide +kernel
theorem dX5_extreme_86 : decode cX5_extreme 86 = .ok (.ldc 53, 2) := by decide +kernel
theorem dX5_extreme_88 : decode cX5_extreme 88 = .ok (.if_icmp .eq 8, 3) := by decide +kernel
theorem dX5_extreme_91 : decode cX5_extreme 91 = .ok (.iload 7, 2) := by decide +kernel
theorem dX5_extreme_93 : decode cX5_extreme 93 = .ok (.ifCond .eq 8, 3) := by decide +kernel
theorem dX5_extreme_96 : decode cX5_extreme 96 = .ok (.iload 6, 2) := by decide +kernel
theorem dX5_extreme_98 : decode cX5_extreme 98 = .ok (.goto 5, 3) := by decide +kernel
theorem dX5_extreme_101 : decode cX5_extreme 101 = .ok (.iload 4, 2) := by decide +kernel
theorem dX5_extreme_103 : decode cX5_extreme 103 = .ok (.istore 4, 2) := by decide +kernel
theorem dX5_extreme_105 : decode cX5_extreme 105 = .ok (.iinc 5 1, 3) := by decide +kernel
theorem dX5_extreme_108 : decode cX5_extreme 108 = .ok (.goto (-88), 3) := by decide +kernel
theorem dX5_extreme_111 : decode cX5_extreme 111 = .ok (.iload 4, 2) := by decide +kernel
theorem dX5_extreme_113 : decode cX5_extreme 113 = .ok (.ireturn, 1) := by decide +kernel
theorem dX6_init_0 : decode cX6_init 0 = .ok (.aload_n 0, 1) := by decide +kernel
theorem dX6_init_1 : decode cX6_init 1 = .ok (.invokespecial 3, 3) := by decide +kernel
theorem dX6_init_4 : decode cX6_init 4 = .ok (.aload_n 0, 1) := by decide +kernel
theorem dX6_init_5 : decode cX6_init 5 = .ok (.bipush 6, 2) := by decide +kernel
theorem dX6_init_7 : decode cX6_init 7 = .ok (.newarray .int, 2) := by decide +kernel
theorem dX6_init_9 : decode cX6_init 9 = .ok (.putfield 11, 3) := by decide +kernel
theorem dX6_init_12 : decode cX6_init 12 = .ok (.aload_n 0, 1) := by decide +kernel
theorem dX6_init_13 : decode cX6_init 13 = .ok (.bipush 6, 2) := by decide +kernel
theorem dX6_init_15 : decode cX6_init 15 = .ok (.newarray .int, 2) := by decide +kernel
theorem dX6_init_17 : decode cX6_init 17 = .ok (.putfield 15, 3) := by decide +kernel
theorem dX6_init_20 : decode cX6_init 20 = .ok (.aload_n 0, 1) := by decide +kernel
theorem dX6_init_21 : decode cX6_init 21 = .ok (.sipush 500, 3) := by decide +kernel
theorem dX6_init_24 : decode cX6_init 24 = .ok (.newarray .int, 2) := by decide +kernel
theorem dX6_init_26 : decode cX6_init 26 = .ok (.putfield 18, 3) := by decide +kernel
theorem dX6_init_29 : decode cX6_init 29 = .ok (.aload_n 0, 1) := by decide +kernel
theorem dX6_init_30 : decode cX6_init 30 = .ok (.bipush 60, 2) := by decide +kernel
theorem dX6_init_32 : decode cX6_init 32 = .ok (.newarray .int, 2) := by decide +kernel
theorem dX6_init_34 : decode cX6_init 34 = .ok (.putfield 21, 3) := by decide +kernel
theorem dX6_init_37 : decode cX6_init 37 = .ok (.return_, 1) := by decide +kernel
theorem dX6_clear_0 : decode cX6_clear 0 = .ok (.aload_n 0, 1) := by decide +kernel
theorem dX6_clear_1 : decode cX6_clear 1 = .ok (.iconst 0, 1) := by decide +kernel
theorem dX6_clear_2 : decode cX6_clear 2 = .ok (.putfield 24, 3) := by decide +kernel
theorem dX6_clear_5 : decode cX6_clear 5 = .ok (.aload_n 0, 1) := by decide +kernel
theorem dX6_clear_6 : decode cX6_clear 6 = .ok (.iconst 0, 1) := by decide +kernel
theorem dX6_clear_7 : decode cX6_clear 7 = .ok (.putfield 28, 3) := by decide +kernel
theorem dX6_clear_10 : decode cX6_clear 10 = .ok (.return_, 1) := by decide +kernel
theorem dX6_become_0 : decode cX6_become 0 = .ok (.aload_n 0, 1) := by decide +kernel
theorem dX6_become_1 : decode cX6_become 1 = .ok (.aload_n 1, 1) := by decide +kernel
theorem dX6_become_2 : decode cX6_become 2 = .ok (.getfield 24, 3) := by decide +kernel
theorem dX6_become_5 : decode cX6_become 5 = .ok (.putfield 24, 3) := by decide +kernel
theorem dX6_become_8 : decode cX6_become 8 = .ok (.aload_n 0, 1) := by decide +kernel
theorem dX6_become_9 : decode cX6_become 9 = .ok (.aload_n 1, 1) := by decide +kernel
theorem dX6_become_10 : decode cX6_become 10 = .ok (.getfield 28, 3) := by decide +kernel
theorem dX6_become_13 : decode cX6_become 13 = .ok (.putfield 28, 3) := by decide +kernel
theorem dX6_become_16 : decode cX6_become 16 = .ok (.aload_n 1, 1) := by decide +kernel
theorem dX6_become_17 : decode cX6_become 17 = .ok (.getfield 11, 3) := by decide +kernel
theorem dX6_become_20 : decode cX6_become 20 = .ok (.iconst 0, 1) := by decide +kernel
theorem dX6_become_21 : decode cX6_become 21 = .ok (.aload_n 0, 1) := by decide +kernel
theorem dX6_become_22 : decode cX6_become 22 = .ok (.getfield 11, 3) := by decide +kernel
theorem dX6_become_25 : decode cX6_become 25 = .ok (.iconst 0, 1) := by decide +kernel
theorem dX6_become_26 : decode cX6_become 26 = .ok (.bipush 6, 2) := by decide +kernel
theorem dX6_become_28 : decode cX6_become 28 = .ok (.invokestatic 31, 3) := by decide +kernel
theorem dX6_become_31 : decode cX6_become 31 = .ok (.aload_n 1, 1) := by decide +kernel
theorem dX6_become_32 : decode cX6_become 32 = .ok (.getfield 15, 3) := by decide +kernel
theorem dX6_become_35 : decode cX6_become 35 = .ok (.iconst 0, 1) := by decide +kernel
theorem dX6_become_36 : decode cX6_become 36 = .ok (.aload_n 0, 1) := by decide +kernel
theorem dX6_become_37 : decode cX6_become 37 = .ok (.getfield 15, 3) := by decide +kernel
theorem dX6_become_40 : decode cX6_become 40 = .ok (.iconst 0, 1) := by decide +kernel
theorem dX6_become_41 : decode cX6_become 41 = .ok (.bipush 6, 2) := by decide +kernel
theorem dX6_become_43 : decode cX6_become 43 = .ok (.invokestatic 31, 3) := by decide +kernel
theorem dX6_become_46 : decode cX6_become 46 = .ok (.aload_n 1, 1) := by decide +kernel
theorem dX6_become_47 : decode cX6_become 47 = .ok (.getfield 18, 3) := by decide +kernel
theorem dX6_become_50 : decode cX6_become 50 = .ok (.iconst 0, 1) := by decide +kernel
theorem dX6_become_51 : decode cX6_become 51 = .ok (.aload_n 0, 1) := by decide +kernel
theorem dX6_become_52 : decode cX6_become 52 = .ok (.getfield 18, 3) := by decide +kernel
theorem dX6_become_55 : decode cX6_become 55 = .ok (.iconst 0, 1) := by decide +kernel
theorem dX6_become_56 : decode cX6_become 56 = .ok (.sipush 500, 3) := by decide +kernel
theorem dX6_become_59 : decode cX6_become 59 = .ok (.invokestatic 31, 3) := by decide +kernel
theorem dX6_become_62 : decode cX6_become 62 = .ok (.return_, 1) := by decide +kernel
theorem dX6_addStep_0 : decode cX6_addStep 0 = .ok (.aload_n 0, 1) := by decide +kernel
theorem dX6_addStep_1 : decode cX6_addStep 1 = .ok (.getfield 28, 3) := by decide +kernel
theorem dX6_addStep_4 : decode cX6_addStep 4 = .ok (.sipush 500, 3) := by decide +kernel
theorem dX6_addStep_7 : decode cX6_addStep 7 = .ok (.if_icmp .ge 28, 3) := by decide +kernel
theorem dX6_addStep_10 : decode cX6_addStep 10 = .ok (.aload_n 0, 1) := by decide +kernel
theorem dX6_addStep_11 : decode cX6_addStep 11 = .ok (.getfield 18, 3) := by decide +kernel
theorem dX6_addStep_14 : decode cX6_addStep 14 = .ok (.aload_n 0, 1) := by decide +kernel
theorem dX6_addStep_15 : decode cX6_addStep 15 = .ok (.getfield 28, 3) := by decide +kernel
theorem dX6_addStep_18 : decode cX6_addStep 18 = .ok (.iload_n 1, 1) := by decide +kernel
theorem dX6_addStep_19 : decode cX6_addStep 19 = .ok (.bipush 16, 2) := by decide +kernel
theorem dX6_addStep_21 : decode cX6_addStep 21 = .ok (.ishl, 1) := by decide +kernel
theorem dX6_addStep_22 : decode cX6_addStep 22 = .ok (.iload_n 2, 1) := by decide +kernel
theorem dX6_addStep_23 : decode cX6_addStep 23 = .ok (.ior, 1) := by decide +kernel
theorem dX6_addStep_24 : decode cX6_addStep 24 = .ok (.iastore, 1) := by decide +kernel
theorem dX6_addStep_25 : decode cX6_addStep 25 = .ok (.aload_n 0, 1) := by decide +kernel
theorem dX6_addStep_26 : decode cX6_addStep 26 = .ok (.dup, 1) := by decide +kernel
theorem dX6_addStep_27 : decode cX6_addStep 27 = .ok (.getfield 28, 3) := by decide +kernel
theorem dX6_addStep_30 : decode cX6_addStep 30 = .ok (.iconst 1, 1) := by decide +kernel
theorem dX6_addStep_31 : decode cX6_addStep 31 = .ok (.iadd, 1) := by decide +kernel
theorem dX6_addStep_32 : decode cX6_addStep 32 = .ok (.putfield 28, 3) := by decide +kernel
theorem dX6_addStep_35 : decode cX6_addStep 35 = .ok (.return_, 1) := by decide +kernel
theorem dX6_close_0 : decode cX6_close 0 = .ok (.aload_n 0, 1) := by decide +kernel
theorem dX6_close_1 : decode cX6_close 1 = .ok (.getfield 24, 3) := by decide +kernel
theorem dX6_close_4 : decode cX6_close 4 = .ok (.bipush 6, 2) := by decide +kernel
theorem dX6_close_6 : decode cX6_close 6 = .ok (.if_icmp .ge 44, 3) := by decide +kernel
theorem dX6_close_9 : decode cX6_close 9 = .ok (.aload_n 0, 1) := by decide +kernel
theorem dX6_close_10 : decode cX6_close 10 = .ok (.getfield 11, 3) := by decide +kernel
theorem dX6_close_13 : decode cX6_close 13 = .ok (.aload_n 0, 1) := by decide +kernel
theorem dX6_close_14 : decode cX6_close 14 = .ok (.getfield 24, 3) := by decide +kernel
theorem dX6_close_17 : decode cX6_close 17 = .ok (.iload_n 1, 1) := by decide +kernel
theorem dX6_close_18 : decode cX6_close 18 = .ok (.ifCond .eq 7, 3) := by decide +kernel
theorem dX6_close_21 : decode cX6_close 21 = .ok (.iconst 1, 1) := by decide +kernel
theorem dX6_close_22 : decode cX6_close 22 = .ok (.goto 4, 3) := by decide +kernel
theorem dX6_close_25 : decode cX6_close 25 = .ok (.iconst 0, 1) := by decide +kernel
theorem dX6_close_26 : decode cX6_close 26 = .ok (.iastore, 1) := by decide +kernel
theorem dX6_close_27 : decode cX6_close 27 = .ok (.aload_n 0, 1) := by decide +kernel
theorem dX6_close_28 : decode cX6_close 28 = .ok (.getfield 15, 3) := by decide +kernel
theorem dX6_close_31 : decode cX6_close 31 = .ok (.aload_n 0, 1) := by decide +kernel
theorem dX6_close_32 : decode cX6_close 32 = .ok (.getfield 24, 3) := by decide +kernel
theorem dX6_close_35 : decode cX6_close 35 = .ok (.aload_n 0, 1) := by decide +kernel
theorem dX6_close_36 : decode cX6_close 36 = .ok (.getfield 28, 3) := by decide +kernel
theorem dX6_close_39 : decode cX6_close 39 = .ok (.iastore, 1) := by decide +kernel
theorem dX6_close_40 : decode cX6_close 40 = .ok (.aload_n 0, 1) := by decide +kernel
theorem dX6_close_41 : decode cX6_close 41 = .ok (.dup, 1) := by decide +kernel
theorem dX6_close_42 : decode cX6_close 42 = .ok (.getfield 24, 3) := by decide +kernel
theorem dX6_close_45 : decode cX6_close 45 = .ok (.iconst 1, 1) := by decide +kernel
theorem dX6_close_46 : decode cX6_close 46 = .ok (.iadd, 1) := by decide +kernel
theorem dX6_close_47 : decode cX6_close 47 = .ok (.putfield 24, 3) := by decide +kernel
theorem dX6_close_50 : decode cX6_close 50 = .ok (.return_, 1) := by decide +kernel
theorem dX6_holds_0 : decode cX6_holds 0 = .ok (.iconst 0, 1) := by decide +kernel
theorem dX6_holds_1 : decode cX6_holds 1 = .ok (.istore 4, 2) := by decide +kernel
theorem dX6_holds_3 : decode cX6_holds 3 = .ok (.iload_n 1, 1) := by decide +kernel
theorem dX6_holds_4 : decode cX6_holds 4 = .ok (.ifCond .ne 7, 3) := by decide +kernel
theorem dX6_holds_7 : decode cX6_holds 7 = .ok (.iconst 0, 1) := by decide +kernel
theorem dX6_holds_8 : decode cX6_holds 8 = .ok (.goto 11, 3) := by decide +kernel
theorem dX6_holds_11 : decode cX6_holds 11 = .ok (.aload_n 0, 1) := by decide +kernel
theorem dX6_holds_12 : decode cX6_holds 12 = .ok (.getfield 15, 3) := by decide +kernel
theorem dX6_holds_15 : decode cX6_holds 15 = .ok (.iload_n 1, 1) := by decide +kernel
theorem dX6_holds_16 : decode cX6_holds 16 = .ok (.iconst 1, 1) := by decide +kernel
theorem dX6_holds_17 : decode cX6_holds 17 = .ok (.isub, 1) := by decide +kernel
theorem dX6_holds_18 : decode cX6_holds 18 = .ok (.iaload, 1) := by decide +kernel
theorem dX6_holds_19 : decode cX6_holds 19 = .ok (.istore 5, 2) := by decide +kernel
theorem dX6_holds_21 : decode cX6_holds 21 = .ok (.iload 5, 2) := by decide +kernel
theorem dX6_holds_23 : decode cX6_holds 23 = .ok (.aload_n 0, 1) := by decide +kernel
theorem dX6_holds_24 : decode cX6_holds 24 = .ok (.getfield 15, 3) := by decide +kernel
theorem dX6_holds_27 : decode cX6_holds 27 = .ok (.iload_n 1, 1) := by decide +kernel
theorem dX6_holds_28 : decode cX6_holds 28 = .ok (.iaload, 1) := by decide +kernel
theorem dX6_holds_29 : decode cX6_holds 29 = .ok (.if_icmp .ge 163, 3) := by decide +kernel
theorem dX6_holds_32 : decode cX6_holds 32 = .ok (.aload_n 0, 1) := by decide +kernel
theorem dX6_holds_33 : decode cX6_holds 33 = .ok (.getfield 18, 3) := by decide +kernel
theorem dX6_holds_36 : decode cX6_holds 36 = .ok (.iload 5, 2) := by decide +kernel
theorem dX6_holds_38 : decode cX6_holds 38 = .ok (.iaload, 1) := by decide +kernel
theorem dX6_holds_39 : decode cX6_holds 39 = .ok (.bipush 16, 2) := by decide +kernel
theorem dX6_holds_41 : decode cX6_holds 41 = .ok (.ishr, 1) := by decide +kernel
theorem dX6_holds_42 : decode cX6_holds 42 = .ok (.istore 6, 2) := by decide +kernel
theorem dX6_holds_44 : decode cX6_holds 44 = .ok (.iload 6, 2) := by decide +kernel
theorem dX6_holds_46 : decode cX6_holds 46 = .ok (.invokestatic 37, 3) := by decide +kernel
theorem dX6_holds_49 : decode cX6_holds 49 = .ok (.ifCond .eq 53, 3) := by decide +kernel
theorem dX6_holds_52 : decode cX6_holds 52 = .ok (.iload 6, 2) := by decide +kernel
theorem dX6_holds_54 : decode cX6_holds 54 = .ok (.aload_n 0, 1) := by decide +kernel
theorem dX6_holds_55 : decode cX6_holds 55 = .ok (.getfield 18, 3) := by decide +kernel
theorem dX6_holds_58 : decode cX6_holds 58 = .ok (.iload 5, 2) := by decide +kernel
theorem dX6_holds_60 : decode cX6_holds 60 = .ok (.iaload, 1) := by decide +kernel
theorem dX6_holds_61 : decode cX6_holds 61 = .ok (.ldc 41, 2) := by decide +kernel
theorem dX6_holds_63 : decode cX6_holds 63 = .ok (.iand, 1) := by decide +kernel
theorem dX6_holds_64 : decode cX6_holds 64 = .ok (.iload_n 2, 1) := by decide +kernel
theorem dX6_holds_65 : decode cX6_holds 65 = .ok (.aload_n 3, 1) := by decide +kernel
theorem dX6_holds_66 : decode cX6_holds 66 = .ok (.invokestatic 42, 3) := by decide +kernel
theorem dX6_holds_69 : decode cX6_holds 69 = .ok (.istore 7, 2) := by decide +kernel
theorem dX6_holds_71 : decode cX6_holds 71 = .ok (.iload 7, 2) := by decide +kernel
theorem dX6_holds_73 : decode cX6_holds 73 = .ok (.ldc 46, 2) := by decide +kernel
theorem dX6_holds_75 : decode cX6_holds 75 = .ok (.if_icmp .eq 10, 3) := by decide +kernel
theorem dX6_holds_78 : decode cX6_holds 78 = .ok (.iload 4, 2) := by decide +kernel
theorem dX6_holds_80 : decode cX6_holds 80 = .ok (.bipush 60, 2) := by decide +kernel
theorem dX6_holds_82 : decode cX6_holds 82 = .ok (.if_icmp .lt 5, 3) := by decide +kernel
theorem dX6_holds_85 : decode cX6_holds 85 = .ok (.iconst 0, 1) := by decide +kernel
theorem dX6_holds_86 : decode cX6_holds 86 = .ok (.ireturn, 1) := by decide +kernel
theorem dX6_holds_87 : decode cX6_holds 87 = .ok (.aload_n 0, 1) := by decide +kernel
theorem dX6_holds_88 : decode cX6_holds 88 = .ok (.getfield 21, 3) := by decide +kernel
theorem dX6_holds_91 : decode cX6_holds 91 = .ok (.iload 4, 2) := by decide +kernel
theorem dX6_holds_93 : decode cX6_holds 93 = .ok (.iload 7, 2) := by decide +kernel
theorem dX6_holds_95 : decode cX6_holds 95 = .ok (.iastore, 1) := by decide +kernel
theorem dX6_holds_96 : decode cX6_holds 96 = .ok (.iinc 4 1, 3) := by decide +kernel
theorem dX6_holds_99 : decode cX6_holds 99 = .ok (.goto 87, 3) := by decide +kernel
theorem dX6_holds_102 : decode cX6_holds 102 = .ok (.iload 6, 2) := by decide +kernel
theorem dX6_holds_104 : decode cX6_holds 104 = .ok (.sipush 153, 3) := by decide +kernel
theorem dX6_holds_107 : decode cX6_holds 107 = .ok (.if_icmp .ne 40, 3) := by decide +kernel
theorem dX6_holds_110 : decode cX6_holds 110 = .ok (.iload 4, 2) := by decide +kernel
theorem dX6_holds_112 : decode cX6_holds 112 = .ok (.ifCond .le 35, 3) := by decide +kernel
theorem dX6_holds_115 : decode cX6_holds 115 = .ok (.aload_n 0, 1) := by decide +kernel
theorem dX6_holds_116 : decode cX6_holds 116 = .ok (.getfield 21, 3) := by decide +kernel
theorem dX6_holds_119 : decode cX6_holds 119 = .ok (.iload 4, 2) := by decide +kernel
theorem dX6_holds_121 : decode cX6_holds 121 = .ok (.iconst 1, 1) := by decide +kernel
theorem dX6_holds_122 : decode cX6_holds 122 = .ok (.isub, 1) := by decide +kernel
theorem dX6_holds_123 : decode cX6_holds 123 = .ok (.aload_n 0, 1) := by decide +kernel
theorem dX6_holds_124 : decode cX6_holds 124 = .ok (.getfield 21, 3) := by decide +kernel
theorem dX6_holds_127 : decode cX6_holds 127 = .ok (.iload 4, 2) := by decide +kernel
theorem dX6_holds_129 : decode cX6_holds 129 = .ok (.iconst 1, 1) := by decide +kernel
theorem dX6_holds_130 : decode cX6_holds 130 = .ok (.isub, 1) := by decide +kernel
theorem dX6_holds_131 : decode cX6_holds 131 = .ok (.iaload, 1) := by decide +kernel
theorem dX6_holds_132 : decode cX6_holds 132 = .ok (.ifCond .ne 7, 3) := by decide +kernel
theorem dX6_holds_135 : decode cX6_holds 135 = .ok (.iconst 1, 1) := by decide +kernel
theorem dX6_holds_136 : decode cX6_holds 136 = .ok (.goto 4, 3) := by decide +kernel
theorem dX6_holds_139 : decode cX6_holds 139 = .ok (.iconst 0, 1) := by decide +kernel
theorem dX6_holds_140 : decode cX6_holds 140 = .ok (.invokestatic 49, 3) := by decide +kernel
theorem dX6_holds_143 : decode cX6_holds 143 = .ok (.iastore, 1) := by decide +kernel
theorem dX6_holds_144 : decode cX6_holds 144 = .ok (.goto 42, 3) := by decide +kernel
theorem dX6_holds_147 : decode cX6_holds 147 = .ok (.iload 4, 2) := by decide +kernel
theorem dX6_holds_149 : decode cX6_holds 149 = .ok (.iconst 1, 1) := by decide +kernel
theorem dX6_holds_150 : decode cX6_holds 150 = .ok (.if_icmp .le 36, 3) := by decide +kernel
theorem dX6_holds_153 : decode cX6_holds 153 = .ok (.iinc 4 (-1), 3) := by decide +kernel
theorem dX6_holds_156 : decode cX6_holds 156 = .ok (.aload_n 0, 1) := by decide +kernel
theorem dX6_holds_157 : decode cX6_holds 157 = .ok (.getfield 21, 3) := by decide +kernel
theorem dX6_holds_160 : decode cX6_holds 160 = .ok (.iload 4, 2) := by decide +kernel
theorem dX6_holds_162 : decode cX6_holds 162 = .ok (.iconst 1, 1) := by decide +kernel
theorem dX6_holds_163 : decode cX6_holds 163 = .ok (.isub, 1) := by decide +kernel
theorem dX6_holds_164 : decode cX6_holds 164 = .ok (.iload 6, 2) := by decide +kernel
theorem dX6_holds_166 : decode cX6_holds 166 = .ok (.aload_n 0, 1) := by decide +kernel
theorem dX6_holds_167 : decode cX6_holds 167 = .ok (.getfield 21, 3) := by decide +kernel
theorem dX6_holds_170 : decode cX6_holds 170 = .ok (.iload 4, 2) := by decide +kernel
theorem dX6_holds_172 : decode cX6_holds 172 = .ok (.iconst 1, 1) := by decide +kernel
theorem dX6_holds_173 : decode cX6_holds 173 = .ok (.isub, 1) := by decide +kernel
theorem dX6_holds_174 : decode cX6_holds 174 = .ok (.iaload, 1) := by decide +kernel
theorem dX6_holds_175 : decode cX6_holds 175 = .ok (.aload_n 0, 1) := by decide +kernel
theorem dX6_holds_176 : decode cX6_holds 176 = .ok (.getfield 21, 3) := by decide +kernel
theorem dX6_holds_179 : decode cX6_holds 179 = .ok (.iload 4, 2) := by decide +kernel
theorem dX6_holds_181 : decode cX6_holds 181 = .ok (.iaload, 1) := by decide +kernel
theorem dX6_holds_182 : decode cX6_holds 182 = .ok (.invokestatic 53, 3) := by decide +kernel
theorem dX6_holds_185 : decode cX6_holds 185 = .ok (.iastore, 1) := by decide +kernel
theorem dX6_holds_186 : decode cX6_holds 186 = .ok (.iinc 5 1, 3) := by decide +kernel
theorem dX6_holds_189 : decode cX6_holds 189 = .ok (.goto (-168), 3) := by decide +kernel
theorem dX6_holds_192 : decode cX6_holds 192 = .ok (.iload 4, 2) := by decide +kernel
theorem dX6_holds_194 : decode cX6_holds 194 = .ok (.ifCond .le 19, 3) := by decide +kernel
theorem dX6_holds_197 : decode cX6_holds 197 = .ok (.aload_n 0, 1) := by decide +kernel
theorem dX6_holds_198 : decode cX6_holds 198 = .ok (.getfield 21, 3) := by decide +kernel
theorem dX6_holds_201 : decode cX6_holds 201 = .ok (.iload 4, 2) := by decide +kernel
theorem dX6_holds_203 : decode cX6_holds 203 = .ok (.iconst 1, 1) := by decide +kernel
theorem dX6_holds_204 : decode cX6_holds 204 = .ok (.isub, 1) := by decide +kernel
theorem dX6_holds_205 : decode cX6_holds 205 = .ok (.iaload, 1) := by decide +kernel
theorem dX6_holds_206 : decode cX6_holds 206 = .ok (.ifCond .eq 7, 3) := by decide +kernel
theorem dX6_holds_209 : decode cX6_holds 209 = .ok (.iconst 1, 1) := by decide +kernel
theorem dX6_holds_210 : decode cX6_holds 210 = .ok (.goto 4, 3) := by decide +kernel
theorem dX6_holds_213 : decode cX6_holds 213 = .ok (.iconst 0, 1) := by decide +kernel
theorem dX6_holds_214 : decode cX6_holds 214 = .ok (.ireturn, 1) := by decide +kernel
theorem dX6_isUnit_0 : decode cX6_isUnit 0 = .ok (.iload_n 0, 1) := by decide +kernel
theorem dX6_isUnit_1 : decode cX6_isUnit 1 = .ok (.iconst 2, 1) := by decide +kernel
theorem dX6_isUnit_2 : decode cX6_isUnit 2 = .ok (.if_icmp .eq 22, 3) := by decide +kernel
theorem dX6_isUnit_5 : decode cX6_isUnit 5 = .ok (.iload_n 0, 1) := by decide +kernel
theorem dX6_isUnit_6 : decode cX6_isUnit 6 = .ok (.iconst 3, 1) := by decide +kernel
theorem dX6_isUnit_7 : decode cX6_isUnit 7 = .ok (.if_icmp .eq 17, 3) := by decide +kernel
theorem dX6_isUnit_10 : decode cX6_isUnit 10 = .ok (.iload_n 0, 1) := by decide +kernel
theorem dX6_isUnit_11 : decode cX6_isUnit 11 = .ok (.sipush 149, 3) := by decide +kernel
theorem dX6_isUnit_14 : decode cX6_isUnit 14 = .ok (.if_icmp .eq 10, 3) := by decide +kernel
theorem dX6_isUnit_17 : decode cX6_isUnit 17 = .ok (.iload_n 0, 1) := by decide +kernel
theorem dX6_isUnit_18 : decode cX6_isUnit 18 = .ok (.sipush 150, 3) := by decide +kernel
theorem dX6_isUnit_21 : decode cX6_isUnit 21 = .ok (.if_icmp .ne 7, 3) := by decide +kernel
theorem dX6_isUnit_24 : decode cX6_isUnit 24 = .ok (.iconst 1, 1) := by decide +kernel
theorem dX6_isUnit_25 : decode cX6_isUnit 25 = .ok (.goto 4, 3) := by decide +kernel
theorem dX6_isUnit_28 : decode cX6_isUnit 28 = .ok (.iconst 0, 1) := by decide +kernel
theorem dX6_isUnit_29 : decode cX6_isUnit 29 = .ok (.ireturn, 1) := by decide +kernel
theorem dX6_unit_0 : decode cX6_unit 0 = .ok (.iload_n 0, 1) := by decide +kernel
theorem dX6_unit_1 : decode cX6_unit 1 = .ok (.lookupswitch 53 #[(3, 35), (149, 42), (150, 51)], 35) := by decide +kernel
theorem dX6_unit_36 : decode cX6_unit 36 = .ok (.aload_n 3, 1) := by decide +kernel
theorem dX6_unit_37 : decode cX6_unit 37 = .ok (.iload_n 1, 1) := by decide +kernel
theorem dX6_unit_38 : decode cX6_unit 38 = .ok (.iload_n 2, 1) := by decide +kernel
theorem dX6_unit_39 : decode cX6_unit 39 = .ok (.invokevirtual 57, 3) := by decide +kernel
theorem dX6_unit_42 : decode cX6_unit 42 = .ok (.ireturn, 1) := by decide +kernel
theorem dX6_unit_43 : decode cX6_unit 43 = .ok (.aload_n 3, 1) := by decide +kernel
theorem dX6_unit_44 : decode cX6_unit 44 = .ok (.iload_n 1, 1) := by decide +kernel
theorem dX6_unit_45 : decode cX6_unit 45 = .ok (.iload_n 2, 1) := by decide +kernel
theorem dX6_unit_46 : decode cX6_unit 46 = .ok (.iconst 1, 1) := by decide +kernel
theorem dX6_unit_47 : decode cX6_unit 47 = .ok (.isub, 1) := by decide +kernel
theorem dX6_unit_48 : decode cX6_unit 48 = .ok (.invokevirtual 57, 3) := by decide +kernel
theorem dX6_unit_51 : decode cX6_unit 51 = .ok (.ireturn, 1) := by decide +kernel
theorem dX6_unit_52 : decode cX6_unit 52 = .ok (.iload_n 2, 1) := by decide +kernel
theorem dX6_unit_53 : decode cX6_unit 53 = .ok (.ireturn, 1) := by decide +kernel
theorem dX6_unit_54 : decode cX6_unit 54 = .ok (.iload_n 1, 1) := by decide +kernel
theorem dX6_unit_55 : decode cX6_unit 55 = .ok (.ireturn, 1) := by decide +kernel
theorem dX6_joined_0 : decode cX6_joined 0 = .ok (.iload_n 0, 1) := by decide +kernel
theorem dX6_joined_1 : decode cX6_joined 1 = .ok (.lookupswitch 138 #[(42, 117), (43, 109), (45, 113), (60, 67), (61, 95), (62, 81), (151, 121)], 67) := by decide +kernel
theorem dX6_joined_68 : decode cX6_joined 68 = .ok (.iload_n 1, 1) := by decide +kernel
theorem dX6_joined_69 : decode cX6_joined 69 = .ok (.iload_n 2, 1) := by decide +kernel
theorem dX6_joined_70 : decode cX6_joined 70 = .ok (.if_icmp .ge 7, 3) := by decide +kernel
theorem dX6_joined_73 : decode cX6_joined 73 = .ok (.iconst 1, 1) := by decide +kernel
theorem dX6_joined_74 : decode cX6_joined 74 = .ok (.goto 4, 3) := by decide +kernel
theorem dX6_joined_77 : decode cX6_joined 77 = .ok (.iconst 0, 1) := by decide +kernel
theorem dX6_joined_78 : decode cX6_joined 78 = .ok (.invokestatic 49, 3) := by decide +kernel
theorem dX6_joined_81 : decode cX6_joined 81 = .ok (.ireturn, 1) := by decide +kernel
theorem dX6_joined_82 : decode cX6_joined 82 = .ok (.iload_n 1, 1) := by decide +kernel
theorem dX6_joined_83 : decode cX6_joined 83 = .ok (.iload_n 2, 1) := by decide +kernel
theorem dX6_joined_84 : decode cX6_joined 84 = .ok (.if_icmp .le 7, 3) := by decide +kernel
theorem dX6_joined_87 : decode cX6_joined 87 = .ok (.iconst 1, 1) := by decide +kernel
theorem dX6_joined_88 : decode cX6_joined 88 = .ok (.goto 4, 3) := by decide +kernel
theorem dX6_joined_91 : decode cX6_joined 91 = .ok (.iconst 0, 1) := by decide +kernel
theorem dX6_joined_92 : decode cX6_joined 92 = .ok (.invokestatic 49, 3) := by decide +kernel
theorem dX6_joined_95 : decode cX6_joined 95 = .ok (.ireturn, 1) := by decide +kernel
theorem dX6_joined_96 : decode cX6_joined 96 = .ok (.iload_n 1, 1) := by decide +kernel
theorem dX6_joined_97 : decode cX6_joined 97 = .ok (.iload_n 2, 1) := by decide +kernel
theorem dX6_joined_98 : decode cX6_joined 98 = .ok (.if_icmp .ne 7, 3) := by decide +kernel
theorem dX6_joined_101 : decode cX6_joined 101 = .ok (.iconst 1, 1) := by decide +kernel
theorem dX6_joined_102 : decode cX6_joined 102 = .ok (.goto 4, 3) := by decide +kernel
theorem dX6_joined_105 : decode cX6_joined 105 = .ok (.iconst 0, 1) := by decide +kernel
theorem dX6_joined_106 : decode cX6_joined 106 = .ok (.invokestatic 49, 3) := by decide +kernel
theorem dX6_joined_109 : decode cX6_joined 109 = .ok (.ireturn, 1) := by decide +kernel
theorem dX6_joined_110 : decode cX6_joined 110 = .ok (.iload_n 1, 1) := by decide +kernel
theorem dX6_joined_111 : decode cX6_joined 111 = .ok (.iload_n 2, 1) := by decide +kernel
theorem dX6_joined_112 : decode cX6_joined 112 = .ok (.iadd, 1) := by decide +kernel
theorem dX6_joined_113 : decode cX6_joined 113 = .ok (.ireturn, 1) := by decide +kernel
theorem dX6_joined_114 : decode cX6_joined 114 = .ok (.iload_n 1, 1) := by decide +kernel
theorem dX6_joined_115 : decode cX6_joined 115 = .ok (.iload_n 2, 1) := by decide +kernel
theorem dX6_joined_116 : decode cX6_joined 116 = .ok (.isub, 1) := by decide +kernel
theorem dX6_joined_117 : decode cX6_joined 117 = .ok (.ireturn, 1) := by decide +kernel
theorem dX6_joined_118 : decode cX6_joined 118 = .ok (.iload_n 1, 1) := by decide +kernel
theorem dX6_joined_119 : decode cX6_joined 119 = .ok (.iload_n 2, 1) := by decide +kernel
theorem dX6_joined_120 : decode cX6_joined 120 = .ok (.imul, 1) := by decide +kernel
theorem dX6_joined_121 : decode cX6_joined 121 = .ok (.ireturn, 1) := by decide +kernel
theorem dX6_joined_122 : decode cX6_joined 122 = .ok (.iload_n 1, 1) := by decide +kernel
theorem dX6_joined_123 : decode cX6_joined 123 = .ok (.ifCond .eq 11, 3) := by decide +kernel
theorem dX6_joined_126 : decode cX6_joined 126 = .ok (.iload_n 2, 1) := by decide +kernel
theorem dX6_joined_127 : decode cX6_joined 127 = .ok (.ifCond .eq 7, 3) := by decide +kernel
theorem dX6_joined_130 : decode cX6_joined 130 = .ok (.iconst 1, 1) := by decide +kernel
theorem dX6_joined_131 : decode cX6_joined 131 = .ok (.goto 4, 3) := by decide +kernel
theorem dX6_joined_134 : decode cX6_joined 134 = .ok (.iconst 0, 1) := by decide +kernel
theorem dX6_joined_135 : decode cX6_joined 135 = .ok (.invokestatic 49, 3) := by decide +kernel
theorem dX6_joined_138 : decode cX6_joined 138 = .ok (.ireturn, 1) := by decide +kernel
theorem dX6_joined_139 : decode cX6_joined 139 = .ok (.iload_n 1, 1) := by decide +kernel
theorem dX6_joined_140 : decode cX6_joined 140 = .ok (.ifCond .ne 7, 3) := by decide +kernel
theorem dX6_joined_143 : decode cX6_joined 143 = .ok (.iload_n 2, 1) := by decide +kernel
theorem dX6_joined_144 : decode cX6_joined 144 = .ok (.ifCond .eq 7, 3) := by decide +kernel
theorem dX6_joined_147 : decode cX6_joined 147 = .ok (.iconst 1, 1) := by decide +kernel
theorem dX6_joined_148 : decode cX6_joined 148 = .ok (.goto 4, 3) := by decide +kernel
theorem dX6_joined_151 : decode cX6_joined 151 = .ok (.iconst 0, 1) := by decide +kernel
theorem dX6_joined_152 : decode cX6_joined 152 = .ok (.invokestatic 49, 3) := by decide +kernel
theorem dX6_joined_155 : decode cX6_joined 155 = .ok (.ireturn, 1) := by decide +kernel
theorem dX6_bit_0 : decode cX6_bit 0 = .ok (.iload_n 0, 1) := by decide +kernel
theorem dX6_bit_1 : decode cX6_bit 1 = .ok (.ifCond .eq 7, 3) := by decide +kernel
theorem dX6_bit_4 : decode cX6_bit 4 = .ok (.iconst 1, 1) := by decide +kernel
theorem dX6_bit_5 : decode cX6_bit 5 = .ok (.goto 4, 3) := by decide +kernel
theorem dX6_bit_8 : decode cX6_bit 8 = .ok (.iconst 0, 1) := by decide +kernel
theorem dX6_bit_9 : decode cX6_bit 9 = .ok (.ireturn, 1) := by decide +kernel
theorem dX7_init_0 : decode cX7_init 0 = .ok (.aload_n 0, 1) := by decide +kernel
theorem dX7_init_1 : decode cX7_init 1 = .ok (.invokespecial 3, 3) := by decide +kernel
theorem dX7_init_4 : decode cX7_init 4 = .ok (.aload_n 0, 1) := by decide +kernel
theorem dX7_init_5 : decode cX7_init 5 = .ok (.aload_n 1, 1) := by decide +kernel
theorem dX7_init_6 : decode cX7_init 6 = .ok (.putfield 9, 3) := by decide +kernel
theorem dX7_init_9 : decode cX7_init 9 = .ok (.aload_n 0, 1) := by decide +kernel
theorem dX7_init_10 : decode cX7_init 10 = .ok (.aload_n 2, 1) := by decide +kernel
theorem dX7_init_11 : decode cX7_init 11 = .ok (.putfield 15, 3) := by decide +kernel
theorem dX7_init_14 : decode cX7_init 14 = .ok (.aload_n 0, 1) := by decide +kernel
theorem dX7_init_15 : decode cX7_init 15 = .ok (.aload_n 3, 1) := by decide +kernel
theorem dX7_init_16 : decode cX7_init 16 = .ok (.putfield 19, 3) := by decide +kernel
theorem dX7_init_19 : decode cX7_init 19 = .ok (.return_, 1) := by decide +kernel
theorem dX7_parse_0 : decode cX7_parse 0 = .ok (.aload_n 0, 1) := by decide +kernel
theorem dX7_parse_1 : decode cX7_parse 1 = .ok (.getfield 19, 3) := by decide +kernel
theorem dX7_parse_4 : decode cX7_parse 4 = .ok (.invokevirtual 23, 3) := by decide +kernel
theorem dX7_parse_7 : decode cX7_parse 7 = .ok (.aload_n 0, 1) := by decide +kernel
theorem dX7_parse_8 : decode cX7_parse 8 = .ok (.iconst 0, 1) := by decide +kernel
theorem dX7_parse_9 : decode cX7_parse 9 = .ok (.putfield 28, 3) := by decide +kernel
theorem dX7_parse_12 : decode cX7_parse 12 = .ok (.iconst 0, 1) := by decide +kernel
theorem dX7_parse_13 : decode cX7_parse 13 = .ok (.istore_n 1, 1) := by decide +kernel
theorem dX7_parse_14 : decode cX7_parse 14 = .ok (.iload_n 1, 1) := by decide +kernel
theorem dX7_parse_15 : decode cX7_parse 15 = .ok (.sipush 500, 3) := by decide +kernel
theorem dX7_parse_18 : decode cX7_parse 18 = .ok (.if_icmp .ge 58, 3) := by decide +kernel
theorem dX7_parse_21 : decode cX7_parse 21 = .ok (.aload_n 0, 1) := by decide +kernel
theorem dX7_parse_22 : decode cX7_parse 22 = .ok (.getfield 9, 3) := by decide +kernel
theorem dX7_parse_25 : decode cX7_parse 25 = .ok (.getfield 32, 3) := by decide +kernel
theorem dX7_parse_28 : decode cX7_parse 28 = .ok (.ifCond .eq 48, 3) := by decide +kernel
theorem dX7_parse_31 : decode cX7_parse 31 = .ok (.aload_n 0, 1) := by decide +kernel
theorem dX7_parse_32 : decode cX7_parse 32 = .ok (.getfield 9, 3) := by decide +kernel
theorem dX7_parse_35 : decode cX7_parse 35 = .ok (.getfield 32, 3) := by decide +kernel
theorem dX7_parse_38 : decode cX7_parse 38 = .ok (.sipush 145, 3) := by decide +kernel
theorem dX7_parse_41 : decode cX7_parse 41 = .ok (.if_icmp .ne 15, 3) := by decide +kernel
theorem dX7_parse_44 : decode cX7_parse 44 = .ok (.aload_n 0, 1) := by decide +kernel
theorem dX7_parse_45 : decode cX7_parse 45 = .ok (.getfield 19, 3) := by decide +kernel
theorem dX7_parse_48 : decode cX7_parse 48 = .ok (.getfield 37, 3) := by decide +kernel
theorem dX7_parse_51 : decode cX7_parse 51 = .ok (.bipush 6, 2) := by decide +kernel
theorem dX7_parse_53 : decode cX7_parse 53 = .ok (.if_icmp .lt 13, 3) := by decide +kernel
theorem dX7_parse_56 : decode cX7_parse 56 = .ok (.aload_n 0, 1) := by decide +kernel
theorem dX7_parse_57 : decode cX7_parse 57 = .ok (.getfield 9, 3) := by decide +kernel
theorem dX7_parse_60 : decode cX7_parse 60 = .ok (.invokevirtual 40, 3) := by decide +kernel
theorem dX7_parse_63 : decode cX7_parse 63 = .ok (.goto 7, 3) := by decide +kernel
theorem dX7_parse_66 : decode cX7_parse 66 = .ok (.aload_n 0, 1) := by decide +kernel
theorem dX7_parse_67 : decode cX7_parse 67 = .ok (.invokevirtual 43, 3) := by decide +kernel
theorem dX7_parse_70 : decode cX7_parse 70 = .ok (.iinc 1 1, 3) := by decide +kernel
theorem dX7_parse_73 : decode cX7_parse 73 = .ok (.goto (-59), 3) := by decide +kernel
theorem dX7_parse_76 : decode cX7_parse 76 = .ok (.return_, 1) := by decide +kernel
theorem dX7_oneRule_0 : decode cX7_oneRule 0 = .ok (.aload_n 0, 1) := by decide +kernel
theorem dX7_oneRule_1 : decode cX7_oneRule 1 = .ok (.getfield 9, 3) := by decide +kernel
theorem dX7_oneRule_4 : decode cX7_oneRule 4 = .ok (.invokevirtual 46, 3) := by decide +kernel
theorem dX7_oneRule_7 : decode cX7_oneRule 7 = .ok (.aload_n 0, 1) := by decide +kernel
theorem dX7_oneRule_8 : decode cX7_oneRule 8 = .ok (.iconst 0, 1) := by decide +kernel
theorem dX7_oneRule_9 : decode cX7_oneRule 9 = .ok (.invokevirtual 49, 3) := by decide +kernel
theorem dX7_oneRule_12 : decode cX7_oneRule 12 = .ok (.aload_n 0, 1) := by decide +kernel
theorem dX7_oneRule_13 : decode cX7_oneRule 13 = .ok (.getfield 9, 3) := by decide +kernel
theorem dX7_oneRule_16 : decode cX7_oneRule 16 = .ok (.sipush 146, 3) := by decide +kernel
theorem dX7_oneRule_19 : decode cX7_oneRule 19 = .ok (.invokevirtual 53, 3) := by decide +kernel
theorem dX7_oneRule_22 : decode cX7_oneRule 22 = .ok (.aload_n 0, 1) := by decide +kernel
theorem dX7_oneRule_23 : decode cX7_oneRule 23 = .ok (.getfield 9, 3) := by decide +kernel
theorem dX7_oneRule_26 : decode cX7_oneRule 26 = .ok (.getfield 32, 3) := by decide +kernel
theorem dX7_oneRule_29 : decode cX7_oneRule 29 = .ok (.sipush 147, 3) := by decide +kernel
theorem dX7_oneRule_32 : decode cX7_oneRule 32 = .ok (.if_icmp .ne 7, 3) := by decide +kernel
theorem dX7_oneRule_35 : decode cX7_oneRule 35 = .ok (.iconst 1, 1) := by decide +kernel
theorem dX7_oneRule_36 : decode cX7_oneRule 36 = .ok (.goto 4, 3) := by decide +kernel
theorem dX7_oneRule_39 : decode cX7_oneRule 39 = .ok (.iconst 0, 1) := by decide +kernel
theorem dX7_oneRule_40 : decode cX7_oneRule 40 = .ok (.istore_n 1, 1) := by decide +kernel
theorem dX7_oneRule_41 : decode cX7_oneRule 41 = .ok (.aload_n 0, 1) := by decide +kernel
theorem dX7_oneRule_42 : decode cX7_oneRule 42 = .ok (.getfield 9, 3) := by decide +kernel
theorem dX7_oneRule_45 : decode cX7_oneRule 45 = .ok (.iload_n 1, 1) := by decide +kernel
theorem dX7_oneRule_46 : decode cX7_oneRule 46 = .ok (.ifCond .eq 9, 3) := by decide +kernel
theorem dX7_oneRule_49 : decode cX7_oneRule 49 = .ok (.sipush 147, 3) := by decide +kernel
theorem dX7_oneRule_52 : decode cX7_oneRule 52 = .ok (.goto 6, 3) := by decide +kernel
theorem dX7_oneRule_55 : decode cX7_oneRule 55 = .ok (.sipush 148, 3) := by decide +kernel
theorem dX7_oneRule_58 : decode cX7_oneRule 58 = .ok (.invokevirtual 53, 3) := by decide +kernel
theorem dX7_oneRule_61 : decode cX7_oneRule 61 = .ok (.aload_n 0, 1) := by decide +kernel
theorem dX7_oneRule_62 : decode cX7_oneRule 62 = .ok (.getfield 9, 3) := by decide +kernel
theorem dX7_oneRule_65 : decode cX7_oneRule 65 = .ok (.bipush 59, 2) := by decide +kernel
theorem dX7_oneRule_67 : decode cX7_oneRule 67 = .ok (.invokevirtual 53, 3) := by decide +kernel
theorem dX7_oneRule_70 : decode cX7_oneRule 70 = .ok (.aload_n 0, 1) := by decide +kernel
theorem dX7_oneRule_71 : decode cX7_oneRule 71 = .ok (.getfield 19, 3) := by decide +kernel
theorem dX7_oneRule_74 : decode cX7_oneRule 74 = .ok (.iload_n 1, 1) := by decide +kernel
theorem dX7_oneRule_75 : decode cX7_oneRule 75 = .ok (.invokevirtual 56, 3) := by decide +kernel
theorem dX7_oneRule_78 : decode cX7_oneRule 78 = .ok (.return_, 1) := by decide +kernel
theorem dX7_either_0 : decode cX7_either 0 = .ok (.aload_n 0, 1) := by decide +kernel
theorem dX7_either_1 : decode cX7_either 1 = .ok (.iload_n 1, 1) := by decide +kernel
theorem dX7_either_2 : decode cX7_either 2 = .ok (.invokevirtual 60, 3) := by decide +kernel
theorem dX7_either_5 : decode cX7_either 5 = .ok (.iconst 0, 1) := by decide +kernel
theorem dX7_either_6 : decode cX7_either 6 = .ok (.istore_n 2, 1) := by decide +kernel
theorem dX7_either_7 : decode cX7_either 7 = .ok (.iload_n 2, 1) := by decide +kernel
theorem dX7_either_8 : decode cX7_either 8 = .ok (.sipush 500, 3) := by decide +kernel
theorem dX7_either_11 : decode cX7_either 11 = .ok (.if_icmp .ge 45, 3) := by decide +kernel
theorem dX7_either_14 : decode cX7_either 14 = .ok (.aload_n 0, 1) := by decide +kernel
theorem dX7_either_15 : decode cX7_either 15 = .ok (.getfield 9, 3) := by decide +kernel
theorem dX7_either_18 : decode cX7_either 18 = .ok (.getfield 32, 3) := by decide +kernel
theorem dX7_either_21 : decode cX7_either 21 = .ok (.sipush 152, 3) := by decide +kernel
theorem dX7_either_24 : decode cX7_either 24 = .ok (.if_icmp .ne 32, 3) := by decide +kernel
theorem dX7_either_27 : decode cX7_either 27 = .ok (.aload_n 0, 1) := by decide +kernel
theorem dX7_either_28 : decode cX7_either 28 = .ok (.getfield 9, 3) := by decide +kernel
theorem dX7_either_31 : decode cX7_either 31 = .ok (.invokevirtual 46, 3) := by decide +kernel
theorem dX7_either_34 : decode cX7_either 34 = .ok (.aload_n 0, 1) := by decide +kernel
theorem dX7_either_35 : decode cX7_either 35 = .ok (.iload_n 1, 1) := by decide +kernel
theorem dX7_either_36 : decode cX7_either 36 = .ok (.invokevirtual 60, 3) := by decide +kernel
theorem dX7_either_39 : decode cX7_either 39 = .ok (.aload_n 0, 1) := by decide +kernel
theorem dX7_either_40 : decode cX7_either 40 = .ok (.getfield 19, 3) := by decide +kernel
theorem dX7_either_43 : decode cX7_either 43 = .ok (.sipush 152, 3) := by decide +kernel
theorem dX7_either_46 : decode cX7_either 46 = .ok (.iconst 0, 1) := by decide +kernel
theorem dX7_either_47 : decode cX7_either 47 = .ok (.invokevirtual 63, 3) := by decide +kernel
theorem dX7_either_50 : decode cX7_either 50 = .ok (.iinc 2 1, 3) := by decide +kernel
theorem dX7_either_53 : decode cX7_either 53 = .ok (.goto (-46), 3) := by decide +kernel
theorem dX7_either_56 : decode cX7_either 56 = .ok (.return_, 1) := by decide +kernel
theorem dX7_both_0 : decode cX7_both 0 = .ok (.aload_n 0, 1) := by decide +kernel
theorem dX7_both_1 : decode cX7_both 1 = .ok (.iload_n 1, 1) := by decide +kernel
theorem dX7_both_2 : decode cX7_both 2 = .ok (.invokevirtual 67, 3) := by decide +kernel
theorem dX7_both_5 : decode cX7_both 5 = .ok (.iconst 0, 1) := by decide +kernel
theorem dX7_both_6 : decode cX7_both 6 = .ok (.istore_n 2, 1) := by decide +kernel
theorem dX7_both_7 : decode cX7_both 7 = .ok (.iload_n 2, 1) := by decide +kernel
theorem dX7_both_8 : decode cX7_both 8 = .ok (.sipush 500, 3) := by decide +kernel
theorem dX7_both_11 : decode cX7_both 11 = .ok (.if_icmp .ge 45, 3) := by decide +kernel
theorem dX7_both_14 : decode cX7_both 14 = .ok (.aload_n 0, 1) := by decide +kernel
theorem dX7_both_15 : decode cX7_both 15 = .ok (.getfield 9, 3) := by decide +kernel
theorem dX7_both_18 : decode cX7_both 18 = .ok (.getfield 32, 3) := by decide +kernel
theorem dX7_both_21 : decode cX7_both 21 = .ok (.sipush 151, 3) := by decide +kernel
theorem dX7_both_24 : decode cX7_both 24 = .ok (.if_icmp .ne 32, 3) := by decide +kernel
theorem dX7_both_27 : decode cX7_both 27 = .ok (.aload_n 0, 1) := by decide +kernel
theorem dX7_both_28 : decode cX7_both 28 = .ok (.getfield 9, 3) := by decide +kernel
theorem dX7_both_31 : decode cX7_both 31 = .ok (.invokevirtual 46, 3) := by decide +kernel
theorem dX7_both_34 : decode cX7_both 34 = .ok (.aload_n 0, 1) := by decide +kernel
theorem dX7_both_35 : decode cX7_both 35 = .ok (.iload_n 1, 1) := by decide +kernel
theorem dX7_both_36 : decode cX7_both 36 = .ok (.invokevirtual 67, 3) := by decide +kernel
theorem dX7_both_39 : decode cX7_both 39 = .ok (.aload_n 0, 1) := by decide +kernel
theorem dX7_both_40 : decode cX7_both 40 = .ok (.getfield 19, 3) := by decide +kernel
theorem dX7_both_43 : decode cX7_both 43 = .ok (.sipush 151, 3) := by decide +kernel
theorem dX7_both_46 : decode cX7_both 46 = .ok (.iconst 0, 1) := by decide +kernel
theorem dX7_both_47 : decode cX7_both 47 = .ok (.invokevirtual 63, 3) := by decide +kernel
theorem dX7_both_50 : decode cX7_both 50 = .ok (.iinc 2 1, 3) := by decide +kernel
theorem dX7_both_53 : decode cX7_both 53 = .ok (.goto (-46), 3) := by decide +kernel
theorem dX7_both_56 : decode cX7_both 56 = .ok (.return_, 1) := by decide +kernel
theorem dX7_one_0 : decode cX7_one 0 = .ok (.aload_n 0, 1) := by decide +kernel
theorem dX7_one_1 : decode cX7_one 1 = .ok (.getfield 9, 3) := by decide +kernel
theorem dX7_one_4 : decode cX7_one 4 = .ok (.getfield 32, 3) := by decide +kernel
theorem dX7_one_7 : decode cX7_one 7 = .ok (.sipush 153, 3) := by decide +kernel
theorem dX7_one_10 : decode cX7_one 10 = .ok (.if_icmp .ne 43, 3) := by decide +kernel
theorem dX7_one_13 : decode cX7_one 13 = .ok (.iload_n 1, 1) := by decide +kernel
theorem dX7_one_14 : decode cX7_one 14 = .ok (.bipush 6, 2) := by decide +kernel
theorem dX7_one_16 : decode cX7_one 16 = .ok (.if_icmp .le 11, 3) := by decide +kernel
theorem dX7_one_19 : decode cX7_one 19 = .ok (.aload_n 0, 1) := by decide +kernel
theorem dX7_one_20 : decode cX7_one 20 = .ok (.getfield 9, 3) := by decide +kernel
theorem dX7_one_23 : decode cX7_one 23 = .ok (.invokevirtual 40, 3) := by decide +kernel
theorem dX7_one_26 : decode cX7_one 26 = .ok (.return_, 1) := by decide +kernel
theorem dX7_one_27 : decode cX7_one 27 = .ok (.aload_n 0, 1) := by decide +kernel
theorem dX7_one_28 : decode cX7_one 28 = .ok (.getfield 9, 3) := by decide +kernel
theorem dX7_one_31 : decode cX7_one 31 = .ok (.invokevirtual 46, 3) := by decide +kernel
theorem dX7_one_34 : decode cX7_one 34 = .ok (.aload_n 0, 1) := by decide +kernel
theorem dX7_one_35 : decode cX7_one 35 = .ok (.iload_n 1, 1) := by decide +kernel
theorem dX7_one_36 : decode cX7_one 36 = .ok (.iconst 1, 1) := by decide +kernel
theorem dX7_one_37 : decode cX7_one 37 = .ok (.iadd, 1) := by decide +kernel
theorem dX7_one_38 : decode cX7_one 38 = .ok (.invokevirtual 67, 3) := by decide +kernel
theorem dX7_one_41 : decode cX7_one 41 = .ok (.aload_n 0, 1) := by decide +kernel
theorem dX7_one_42 : decode cX7_one 42 = .ok (.getfield 19, 3) := by decide +kernel
theorem dX7_one_45 : decode cX7_one 45 = .ok (.sipush 153, 3) := by decide +kernel
theorem dX7_one_48 : decode cX7_one 48 = .ok (.iconst 0, 1) := by decide +kernel
theorem dX7_one_49 : decode cX7_one 49 = .ok (.invokevirtual 63, 3) := by decide +kernel
theorem dX7_one_52 : decode cX7_one 52 = .ok (.return_, 1) := by decide +kernel
theorem dX7_one_53 : decode cX7_one 53 = .ok (.aload_n 0, 1) := by decide +kernel
theorem dX7_one_54 : decode cX7_one 54 = .ok (.iload_n 1, 1) := by decide +kernel
theorem dX7_one_55 : decode cX7_one 55 = .ok (.invokevirtual 70, 3) := by decide +kernel
theorem dX7_one_58 : decode cX7_one 58 = .ok (.aload_n 0, 1) := by decide +kernel
theorem dX7_one_59 : decode cX7_one 59 = .ok (.getfield 9, 3) := by decide +kernel
theorem dX7_one_62 : decode cX7_one 62 = .ok (.getfield 32, 3) := by decide +kernel
theorem dX7_one_65 : decode cX7_one 65 = .ok (.istore_n 2, 1) := by decide +kernel
theorem dX7_one_66 : decode cX7_one 66 = .ok (.iload_n 2, 1) := by decide +kernel
theorem dX7_one_67 : decode cX7_one 67 = .ok (.bipush 60, 2) := by decide +kernel
theorem dX7_one_69 : decode cX7_one 69 = .ok (.if_icmp .eq 15, 3) := by decide +kernel
theorem dX7_one_72 : decode cX7_one 72 = .ok (.iload_n 2, 1) := by decide +kernel
theorem dX7_one_73 : decode cX7_one 73 = .ok (.bipush 62, 2) := by decide +kernel
theorem dX7_one_75 : decode cX7_one 75 = .ok (.if_icmp .eq 9, 3) := by decide +kernel
theorem dX7_one_78 : decode cX7_one 78 = .ok (.iload_n 2, 1) := by decide +kernel
theorem dX7_one_79 : decode cX7_one 79 = .ok (.bipush 61, 2) := by decide +kernel
theorem dX7_one_81 : decode cX7_one 81 = .ok (.if_icmp .ne 24, 3) := by decide +kernel
theorem dX7_one_84 : decode cX7_one 84 = .ok (.aload_n 0, 1) := by decide +kernel
theorem dX7_one_85 : decode cX7_one 85 = .ok (.getfield 9, 3) := by decide +kernel
theorem dX7_one_88 : decode cX7_one 88 = .ok (.invokevirtual 46, 3) := by decide +kernel
theorem dX7_one_91 : decode cX7_one 91 = .ok (.aload_n 0, 1) := by decide +kernel
theorem dX7_one_92 : decode cX7_one 92 = .ok (.iload_n 1, 1) := by decide +kernel
theorem dX7_one_93 : decode cX7_one 93 = .ok (.invokevirtual 70, 3) := by decide +kernel
theorem dX7_one_96 : decode cX7_one 96 = .ok (.aload_n 0, 1) := by decide +kernel
theorem dX7_one_97 : decode cX7_one 97 = .ok (.getfield 19, 3) := by decide +kernel
theorem dX7_one_100 : decode cX7_one 100 = .ok (.iload_n 2, 1) := by decide +kernel
theorem dX7_one_101 : decode cX7_one 101 = .ok (.iconst 0, 1) := by decide +kernel
theorem dX7_one_102 : decode cX7_one 102 = .ok (.invokevirtual 63, 3) := by decide +kernel
theorem dX7_one_105 : decode cX7_one 105 = .ok (.return_, 1) := by decide +kernel
theorem dX7_addition_0 : decode cX7_addition 0 = .ok (.aload_n 0, 1) := by decide +kernel
theorem dX7_addition_1 : decode cX7_addition 1 = .ok (.iload_n 1, 1) := by decide +kernel
theorem dX7_addition_2 : decode cX7_addition 2 = .ok (.invokevirtual 73, 3) := by decide +kernel
theorem dX7_addition_5 : decode cX7_addition 5 = .ok (.iconst 0, 1) := by decide +kernel
theorem dX7_addition_6 : decode cX7_addition 6 = .ok (.istore_n 2, 1) := by decide +kernel
theorem dX7_addition_7 : decode cX7_addition 7 = .ok (.iload_n 2, 1) := by decide +kernel
theorem dX7_addition_8 : decode cX7_addition 8 = .ok (.sipush 500, 3) := by decide +kernel
theorem dX7_addition_11 : decode cX7_addition 11 = .ok (.if_icmp .ge 62, 3) := by decide +kernel
theorem dX7_addition_14 : decode cX7_addition 14 = .ok (.aload_n 0, 1) := by decide +kernel
theorem dX7_addition_15 : decode cX7_addition 15 = .ok (.getfield 9, 3) := by decide +kernel
theorem dX7_addition_18 : decode cX7_addition 18 = .ok (.getfield 32, 3) := by decide +kernel
theorem dX7_addition_21 : decode cX7_addition 21 = .ok (.bipush 43, 2) := by decide +kernel
theorem dX7_addition_23 : decode cX7_addition 23 = .ok (.if_icmp .eq 15, 3) := by decide +kernel
theorem dX7_addition_26 : decode cX7_addition 26 = .ok (.aload_n 0, 1) := by decide +kernel
theorem dX7_addition_27 : decode cX7_addition 27 = .ok (.getfield 9, 3) := by decide +kernel
theorem dX7_addition_30 : decode cX7_addition 30 = .ok (.getfield 32, 3) := by decide +kernel
theorem dX7_addition_33 : decode cX7_addition 33 = .ok (.bipush 45, 2) := by decide +kernel
theorem dX7_addition_35 : decode cX7_addition 35 = .ok (.if_icmp .ne 38, 3) := by decide +kernel
theorem dX7_addition_38 : decode cX7_addition 38 = .ok (.aload_n 0, 1) := by decide +kernel
theorem dX7_addition_39 : decode cX7_addition 39 = .ok (.getfield 9, 3) := by decide +kernel
theorem dX7_addition_42 : decode cX7_addition 42 = .ok (.getfield 32, 3) := by decide +kernel
theorem dX7_addition_45 : decode cX7_addition 45 = .ok (.istore_n 3, 1) := by decide +kernel
theorem dX7_addition_46 : decode cX7_addition 46 = .ok (.aload_n 0, 1) := by decide +kernel
theorem dX7_addition_47 : decode cX7_addition 47 = .ok (.getfield 9, 3) := by decide +kernel
theorem dX7_addition_50 : decode cX7_addition 50 = .ok (.invokevirtual 46, 3) := by decide +kernel
theorem dX7_addition_53 : decode cX7_addition 53 = .ok (.aload_n 0, 1) := by decide +kernel
theorem dX7_addition_54 : decode cX7_addition 54 = .ok (.iload_n 1, 1) := by decide +kernel
theorem dX7_addition_55 : decode cX7_addition 55 = .ok (.invokevirtual 73, 3) := by decide +kernel
theorem dX7_addition_58 : decode cX7_addition 58 = .ok (.aload_n 0, 1) := by decide +kernel
theorem dX7_addition_59 : decode cX7_addition 59 = .ok (.getfield 19, 3) := by decide +kernel
theorem dX7_addition_62 : decode cX7_addition 62 = .ok (.iload_n 3, 1) := by decide +kernel
theorem dX7_addition_63 : decode cX7_addition 63 = .ok (.iconst 0, 1) := by decide +kernel
theorem dX7_addition_64 : decode cX7_addition 64 = .ok (.invokevirtual 63, 3) := by decide +kernel
theorem dX7_addition_67 : decode cX7_addition 67 = .ok (.iinc 2 1, 3) := by decide +kernel
theorem dX7_addition_70 : decode cX7_addition 70 = .ok (.goto (-63), 3) := by decide +kernel
theorem dX7_addition_73 : decode cX7_addition 73 = .ok (.return_, 1) := by decide +kernel
theorem dX7_term_0 : decode cX7_term 0 = .ok (.aload_n 0, 1) := by decide +kernel
theorem dX7_term_1 : decode cX7_term 1 = .ok (.iload_n 1, 1) := by decide +kernel
theorem dX7_term_2 : decode cX7_term 2 = .ok (.invokevirtual 76, 3) := by decide +kernel
theorem dX7_term_5 : decode cX7_term 5 = .ok (.iconst 0, 1) := by decide +kernel
theorem dX7_term_6 : decode cX7_term 6 = .ok (.istore_n 2, 1) := by decide +kernel
theorem dX7_term_7 : decode cX7_term 7 = .ok (.iload_n 2, 1) := by decide +kernel
theorem dX7_term_8 : decode cX7_term 8 = .ok (.sipush 500, 3) := by decide +kernel
theorem dX7_term_11 : decode cX7_term 11 = .ok (.if_icmp .ge 43, 3) := by decide +kernel
theorem dX7_term_14 : decode cX7_term 14 = .ok (.aload_n 0, 1) := by decide +kernel
theorem dX7_term_15 : decode cX7_term 15 = .ok (.getfield 9, 3) := by decide +kernel
theorem dX7_term_18 : decode cX7_term 18 = .ok (.getfield 32, 3) := by decide +kernel
theorem dX7_term_21 : decode cX7_term 21 = .ok (.bipush 42, 2) := by decide +kernel
theorem dX7_term_23 : decode cX7_term 23 = .ok (.if_icmp .ne 31, 3) := by decide +kernel
theorem dX7_term_26 : decode cX7_term 26 = .ok (.aload_n 0, 1) := by decide +kernel
theorem dX7_term_27 : decode cX7_term 27 = .ok (.getfield 9, 3) := by decide +kernel
theorem dX7_term_30 : decode cX7_term 30 = .ok (.invokevirtual 46, 3) := by decide +kernel
theorem dX7_term_33 : decode cX7_term 33 = .ok (.aload_n 0, 1) := by decide +kernel
theorem dX7_term_34 : decode cX7_term 34 = .ok (.iload_n 1, 1) := by decide +kernel
theorem dX7_term_35 : decode cX7_term 35 = .ok (.invokevirtual 76, 3) := by decide +kernel
theorem dX7_term_38 : decode cX7_term 38 = .ok (.aload_n 0, 1) := by decide +kernel
theorem dX7_term_39 : decode cX7_term 39 = .ok (.getfield 19, 3) := by decide +kernel
theorem dX7_term_42 : decode cX7_term 42 = .ok (.bipush 42, 2) := by decide +kernel
theorem dX7_term_44 : decode cX7_term 44 = .ok (.iconst 0, 1) := by decide +kernel
theorem dX7_term_45 : decode cX7_term 45 = .ok (.invokevirtual 63, 3) := by decide +kernel
theorem dX7_term_48 : decode cX7_term 48 = .ok (.iinc 2 1, 3) := by decide +kernel
theorem dX7_term_51 : decode cX7_term 51 = .ok (.goto (-44), 3) := by decide +kernel
theorem dX7_term_54 : decode cX7_term 54 = .ok (.return_, 1) := by decide +kernel
theorem dX7_unit_0 : decode cX7_unit 0 = .ok (.aload_n 0, 1) := by decide +kernel
theorem dX7_unit_1 : decode cX7_unit 1 = .ok (.getfield 9, 3) := by decide +kernel
theorem dX7_unit_4 : decode cX7_unit 4 = .ok (.getfield 32, 3) := by decide +kernel
theorem dX7_unit_7 : decode cX7_unit 7 = .ok (.istore_n 2, 1) := by decide +kernel
theorem dX7_unit_8 : decode cX7_unit 8 = .ok (.aload_n 0, 1) := by decide +kernel
theorem dX7_unit_9 : decode cX7_unit 9 = .ok (.getfield 28, 3) := by decide +kernel
theorem dX7_unit_12 : decode cX7_unit 12 = .ok (.bipush 60, 2) := by decide +kernel
theorem dX7_unit_14 : decode cX7_unit 14 = .ok (.if_icmp .lt 11, 3) := by decide +kernel
theorem dX7_unit_17 : decode cX7_unit 17 = .ok (.aload_n 0, 1) := by decide +kernel
theorem dX7_unit_18 : decode cX7_unit 18 = .ok (.getfield 9, 3) := by decide +kernel
theorem dX7_unit_21 : decode cX7_unit 21 = .ok (.invokevirtual 40, 3) := by decide +kernel
theorem dX7_unit_24 : decode cX7_unit 24 = .ok (.return_, 1) := by decide +kernel
theorem dX7_unit_25 : decode cX7_unit 25 = .ok (.aload_n 0, 1) := by decide +kernel
theorem dX7_unit_26 : decode cX7_unit 26 = .ok (.dup, 1) := by decide +kernel
theorem dX7_unit_27 : decode cX7_unit 27 = .ok (.getfield 28, 3) := by decide +kernel
theorem dX7_unit_30 : decode cX7_unit 30 = .ok (.iconst 1, 1) := by decide +kernel
theorem dX7_unit_31 : decode cX7_unit 31 = .ok (.iadd, 1) := by decide +kernel
theorem dX7_unit_32 : decode cX7_unit 32 = .ok (.putfield 28, 3) := by decide +kernel
theorem dX7_unit_35 : decode cX7_unit 35 = .ok (.iload_n 2, 1) := by decide +kernel
theorem dX7_unit_36 : decode cX7_unit 36 = .ok (.iconst 2, 1) := by decide +kernel
theorem dX7_unit_37 : decode cX7_unit 37 = .ok (.if_icmp .eq 10, 3) := by decide +kernel
theorem dX7_unit_40 : decode cX7_unit 40 = .ok (.iload_n 2, 1) := by decide +kernel
theorem dX7_unit_41 : decode cX7_unit 41 = .ok (.sipush 150, 3) := by decide +kernel
theorem dX7_unit_44 : decode cX7_unit 44 = .ok (.if_icmp .ne 39, 3) := by decide +kernel
theorem dX7_unit_47 : decode cX7_unit 47 = .ok (.aload_n 0, 1) := by decide +kernel
theorem dX7_unit_48 : decode cX7_unit 48 = .ok (.getfield 19, 3) := by decide +kernel
theorem dX7_unit_51 : decode cX7_unit 51 = .ok (.iload_n 2, 1) := by decide +kernel
theorem dX7_unit_52 : decode cX7_unit 52 = .ok (.iload_n 2, 1) := by decide +kernel
theorem dX7_unit_53 : decode cX7_unit 53 = .ok (.sipush 150, 3) := by decide +kernel
theorem dX7_unit_56 : decode cX7_unit 56 = .ok (.if_icmp .ne 7, 3) := by decide +kernel
theorem dX7_unit_59 : decode cX7_unit 59 = .ok (.iconst 0, 1) := by decide +kernel
theorem dX7_unit_60 : decode cX7_unit 60 = .ok (.goto 10, 3) := by decide +kernel
theorem dX7_unit_63 : decode cX7_unit 63 = .ok (.aload_n 0, 1) := by decide +kernel
theorem dX7_unit_64 : decode cX7_unit 64 = .ok (.getfield 9, 3) := by decide +kernel
theorem dX7_unit_67 : decode cX7_unit 67 = .ok (.getfield 79, 3) := by decide +kernel
theorem dX7_unit_70 : decode cX7_unit 70 = .ok (.invokevirtual 63, 3) := by decide +kernel
theorem dX7_unit_73 : decode cX7_unit 73 = .ok (.aload_n 0, 1) := by decide +kernel
theorem dX7_unit_74 : decode cX7_unit 74 = .ok (.getfield 9, 3) := by decide +kernel
theorem dX7_unit_77 : decode cX7_unit 77 = .ok (.invokevirtual 46, 3) := by decide +kernel
theorem dX7_unit_80 : decode cX7_unit 80 = .ok (.goto 83, 3) := by decide +kernel
theorem dX7_unit_83 : decode cX7_unit 83 = .ok (.iload_n 2, 1) := by decide +kernel
theorem dX7_unit_84 : decode cX7_unit 84 = .ok (.iconst 3, 1) := by decide +kernel
theorem dX7_unit_85 : decode cX7_unit 85 = .ok (.if_icmp .ne 11, 3) := by decide +kernel
theorem dX7_unit_88 : decode cX7_unit 88 = .ok (.aload_n 0, 1) := by decide +kernel
theorem dX7_unit_89 : decode cX7_unit 89 = .ok (.iload_n 2, 1) := by decide +kernel
theorem dX7_unit_90 : decode cX7_unit 90 = .ok (.invokevirtual 82, 3) := by decide +kernel
theorem dX7_unit_93 : decode cX7_unit 93 = .ok (.goto 70, 3) := by decide +kernel
theorem dX7_unit_96 : decode cX7_unit 96 = .ok (.iload_n 2, 1) := by decide +kernel
theorem dX7_unit_97 : decode cX7_unit 97 = .ok (.sipush 149, 3) := by decide +kernel
theorem dX7_unit_100 : decode cX7_unit 100 = .ok (.if_icmp .ne 18, 3) := by decide +kernel
theorem dX7_unit_103 : decode cX7_unit 103 = .ok (.aload_n 0, 1) := by decide +kernel
theorem dX7_unit_104 : decode cX7_unit 104 = .ok (.getfield 9, 3) := by decide +kernel
theorem dX7_unit_107 : decode cX7_unit 107 = .ok (.invokevirtual 46, 3) := by decide +kernel
theorem dX7_unit_110 : decode cX7_unit 110 = .ok (.aload_n 0, 1) := by decide +kernel
theorem dX7_unit_111 : decode cX7_unit 111 = .ok (.iload_n 2, 1) := by decide +kernel
theorem dX7_unit_112 : decode cX7_unit 112 = .ok (.invokevirtual 82, 3) := by decide +kernel
theorem dX7_unit_115 : decode cX7_unit 115 = .ok (.goto 48, 3) := by decide +kernel
theorem dX7_unit_118 : decode cX7_unit 118 = .ok (.iload_n 2, 1) := by decide +kernel
theorem dX7_unit_119 : decode cX7_unit 119 = .ok (.bipush 40, 2) := by decide +kernel
theorem dX7_unit_121 : decode cX7_unit 121 = .ok (.if_icmp .ne 35, 3) := by decide +kernel
theorem dX7_unit_124 : decode cX7_unit 124 = .ok (.iload_n 1, 1) := by decide +kernel
theorem dX7_unit_125 : decode cX7_unit 125 = .ok (.bipush 6, 2) := by decide +kernel
theorem dX7_unit_127 : decode cX7_unit 127 = .ok (.if_icmp .gt 29, 3) := by decide +kernel
theorem dX7_unit_130 : decode cX7_unit 130 = .ok (.aload_n 0, 1) := by decide +kernel
theorem dX7_unit_131 : decode cX7_unit 131 = .ok (.getfield 9, 3) := by decide +kernel
theorem dX7_unit_134 : decode cX7_unit 134 = .ok (.invokevirtual 46, 3) := by decide +kernel
theorem dX7_unit_137 : decode cX7_unit 137 = .ok (.aload_n 0, 1) := by decide +kernel
theorem dX7_unit_138 : decode cX7_unit 138 = .ok (.iload_n 1, 1) := by decide +kernel
theorem dX7_unit_139 : decode cX7_unit 139 = .ok (.iconst 1, 1) := by decide +kernel
theorem dX7_unit_140 : decode cX7_unit 140 = .ok (.iadd, 1) := by decide +kernel
theorem dX7_unit_141 : decode cX7_unit 141 = .ok (.invokevirtual 49, 3) := by decide +kernel
theorem dX7_unit_144 : decode cX7_unit 144 = .ok (.aload_n 0, 1) := by decide +kernel
theorem dX7_unit_145 : decode cX7_unit 145 = .ok (.getfield 9, 3) := by decide +kernel
theorem dX7_unit_148 : decode cX7_unit 148 = .ok (.bipush 41, 2) := by decide +kernel
theorem dX7_unit_150 : decode cX7_unit 150 = .ok (.invokevirtual 53, 3) := by decide +kernel
theorem dX7_unit_153 : decode cX7_unit 153 = .ok (.goto 10, 3) := by decide +kernel
theorem dX7_unit_156 : decode cX7_unit 156 = .ok (.aload_n 0, 1) := by decide +kernel
theorem dX7_unit_157 : decode cX7_unit 157 = .ok (.getfield 9, 3) := by decide +kernel
theorem dX7_unit_160 : decode cX7_unit 160 = .ok (.invokevirtual 40, 3) := by decide +kernel
theorem dX7_unit_163 : decode cX7_unit 163 = .ok (.return_, 1) := by decide +kernel
theorem dX7_name_0 : decode cX7_name 0 = .ok (.aload_n 0, 1) := by decide +kernel
theorem dX7_name_1 : decode cX7_name 1 = .ok (.getfield 9, 3) := by decide +kernel
theorem dX7_name_4 : decode cX7_name 4 = .ok (.getfield 32, 3) := by decide +kernel
theorem dX7_name_7 : decode cX7_name 7 = .ok (.iconst 3, 1) := by decide +kernel
theorem dX7_name_8 : decode cX7_name 8 = .ok (.if_icmp .eq 11, 3) := by decide +kernel
theorem dX7_name_11 : decode cX7_name 11 = .ok (.aload_n 0, 1) := by decide +kernel
theorem dX7_name_12 : decode cX7_name 12 = .ok (.getfield 9, 3) := by decide +kernel
theorem dX7_name_15 : decode cX7_name 15 = .ok (.invokevirtual 40, 3) := by decide +kernel
theorem dX7_name_18 : decode cX7_name 18 = .ok (.return_, 1) := by decide +kernel
theorem dX7_name_19 : decode cX7_name 19 = .ok (.aload_n 0, 1) := by decide +kernel
theorem dX7_name_20 : decode cX7_name 20 = .ok (.getfield 15, 3) := by decide +kernel
theorem dX7_name_23 : decode cX7_name 23 = .ok (.aload_n 0, 1) := by decide +kernel
theorem dX7_name_24 : decode cX7_name 24 = .ok (.getfield 9, 3) := by decide +kernel
theorem dX7_name_27 : decode cX7_name 27 = .ok (.getfield 85, 3) := by decide +kernel
theorem dX7_name_30 : decode cX7_name 30 = .ok (.invokevirtual 89, 3) := by decide +kernel
theorem dX7_name_33 : decode cX7_name 33 = .ok (.istore_n 2, 1) := by decide +kernel
theorem dX7_name_34 : decode cX7_name 34 = .ok (.iload_n 2, 1) := by decide +kernel
theorem dX7_name_35 : decode cX7_name 35 = .ok (.iconst (-1), 1) := by decide +kernel
theorem dX7_name_36 : decode cX7_name 36 = .ok (.if_icmp .ne 21, 3) := by decide +kernel
theorem dX7_name_39 : decode cX7_name 39 = .ok (.aload_n 0, 1) := by decide +kernel
theorem dX7_name_40 : decode cX7_name 40 = .ok (.getfield 9, 3) := by decide +kernel
theorem dX7_name_43 : decode cX7_name 43 = .ok (.iconst 5, 1) := by decide +kernel
theorem dX7_name_44 : decode cX7_name 44 = .ok (.aload_n 0, 1) := by decide +kernel
theorem dX7_name_45 : decode cX7_name 45 = .ok (.getfield 9, 3) := by decide +kernel
theorem dX7_name_48 : decode cX7_name 48 = .ok (.getfield 95, 3) := by decide +kernel
theorem dX7_name_51 : decode cX7_name 51 = .ok (.invokevirtual 98, 3) := by decide +kernel
theorem dX7_name_54 : decode cX7_name 54 = .ok (.goto 19, 3) := by decide +kernel
theorem dX7_name_57 : decode cX7_name 57 = .ok (.aload_n 0, 1) := by decide +kernel
theorem dX7_name_58 : decode cX7_name 58 = .ok (.getfield 19, 3) := by decide +kernel
theorem dX7_name_61 : decode cX7_name 61 = .ok (.iload_n 1, 1) := by decide +kernel
theorem dX7_name_62 : decode cX7_name 62 = .ok (.iload_n 2, 1) := by decide +kernel
theorem dX7_name_63 : decode cX7_name 63 = .ok (.invokevirtual 63, 3) := by decide +kernel
theorem dX7_name_66 : decode cX7_name 66 = .ok (.aload_n 0, 1) := by decide +kernel
theorem dX7_name_67 : decode cX7_name 67 = .ok (.getfield 9, 3) := by decide +kernel
theorem dX7_name_70 : decode cX7_name 70 = .ok (.invokevirtual 46, 3) := by decide +kernel
theorem dX7_name_73 : decode cX7_name 73 = .ok (.return_, 1) := by decide +kernel
theorem dX8_init_0 : decode cX8_init 0 = .ok (.aload_n 0, 1) := by decide +kernel
theorem dX8_init_1 : decode cX8_init 1 = .ok (.invokespecial 3, 3) := by decide +kernel
theorem dX8_init_4 : decode cX8_init 4 = .ok (.aload_n 0, 1) := by decide +kernel
theorem dX8_init_5 : decode cX8_init 5 = .ok (.aload_n 1, 1) := by decide +kernel
theorem dX8_init_6 : decode cX8_init 6 = .ok (.putfield 9, 3) := by decide +kernel
theorem dX8_init_9 : decode cX8_init 9 = .ok (.aload_n 0, 1) := by decide +kernel
theorem dX8_init_10 : decode cX8_init 10 = .ok (.aload_n 2, 1) := by decide +kernel
theorem dX8_init_11 : decode cX8_init 11 = .ok (.putfield 15, 3) := by decide +kernel
theorem dX8_init_14 : decode cX8_init 14 = .ok (.aload_n 0, 1) := by decide +kernel
theorem dX8_init_15 : decode cX8_init 15 = .ok (.aload_n 3, 1) := by decide +kernel
theorem dX8_init_16 : decode cX8_init 16 = .ok (.putfield 19, 3) := by decide +kernel
theorem dX8_init_19 : decode cX8_init 19 = .ok (.aload_n 0, 1) := by decide +kernel
theorem dX8_init_20 : decode cX8_init 20 = .ok (.bipush 60, 2) := by decide +kernel
theorem dX8_init_22 : decode cX8_init 22 = .ok (.newarray .int, 2) := by decide +kernel
theorem dX8_init_24 : decode cX8_init 24 = .ok (.putfield 23, 3) := by decide +kernel
theorem dX8_init_27 : decode cX8_init 27 = .ok (.aload_n 0, 1) := by decide +kernel
theorem dX8_init_28 : decode cX8_init 28 = .ok (.bipush 60, 2) := by decide +kernel
theorem dX8_init_30 : decode cX8_init 30 = .ok (.newarray .int, 2) := by decide +kernel
theorem dX8_init_32 : decode cX8_init 32 = .ok (.putfield 27, 3) := by decide +kernel
theorem dX8_init_35 : decode cX8_init 35 = .ok (.return_, 1) := by decide +kernel
theorem dX8_find_0 : decode cX8_find 0 = .ok (.aload_n 0, 1) := by decide +kernel
theorem dX8_find_1 : decode cX8_find 1 = .ok (.ldc 30, 2) := by decide +kernel
theorem dX8_find_3 : decode cX8_find 3 = .ok (.putfield 31, 3) := by decide +kernel
theorem dX8_find_6 : decode cX8_find 6 = .ok (.aload_n 0, 1) := by decide +kernel
theorem dX8_find_7 : decode cX8_find 7 = .ok (.ldc 30, 2) := by decide +kernel
theorem dX8_find_9 : decode cX8_find 9 = .ok (.putfield 35, 3) := by decide +kernel
theorem dX8_find_12 : decode cX8_find 12 = .ok (.aload_n 0, 1) := by decide +kernel
theorem dX8_find_13 : decode cX8_find 13 = .ok (.getfield 19, 3) := by decide +kernel
theorem dX8_find_16 : decode cX8_find 16 = .ok (.iload_n 1, 1) := by decide +kernel
theorem dX8_find_17 : decode cX8_find 17 = .ok (.iconst 2, 1) := by decide +kernel
theorem dX8_find_18 : decode cX8_find 18 = .ok (.invokevirtual 40, 3) := by decide +kernel
theorem dX8_find_21 : decode cX8_find 21 = .ok (.istore_n 3, 1) := by decide +kernel
theorem dX8_find_22 : decode cX8_find 22 = .ok (.iload_n 3, 1) := by decide +kernel
theorem dX8_find_23 : decode cX8_find 23 = .ok (.aload_n 0, 1) := by decide +kernel
theorem dX8_find_24 : decode cX8_find 24 = .ok (.getfield 19, 3) := by decide +kernel
theorem dX8_find_27 : decode cX8_find 27 = .ok (.iload_n 1, 1) := by decide +kernel
theorem dX8_find_28 : decode cX8_find 28 = .ok (.iconst 2, 1) := by decide +kernel
theorem dX8_find_29 : decode cX8_find 29 = .ok (.invokevirtual 44, 3) := by decide +kernel
theorem dX8_find_32 : decode cX8_find 32 = .ok (.if_icmp .gt 50, 3) := by decide +kernel
theorem dX8_find_35 : decode cX8_find 35 = .ok (.aload_n 0, 1) := by decide +kernel
theorem dX8_find_36 : decode cX8_find 36 = .ok (.getfield 15, 3) := by decide +kernel
theorem dX8_find_39 : decode cX8_find 39 = .ok (.iload_n 1, 1) := by decide +kernel
theorem dX8_find_40 : decode cX8_find 40 = .ok (.iload_n 2, 1) := by decide +kernel
theorem dX8_find_41 : decode cX8_find 41 = .ok (.iload_n 3, 1) := by decide +kernel
theorem dX8_find_42 : decode cX8_find 42 = .ok (.iadd, 1) := by decide +kernel
theorem dX8_find_43 : decode cX8_find 43 = .ok (.invokevirtual 47, 3) := by decide +kernel
theorem dX8_find_46 : decode cX8_find 46 = .ok (.istore 4, 2) := by decide +kernel
theorem dX8_find_48 : decode cX8_find 48 = .ok (.iload 4, 2) := by decide +kernel
theorem dX8_find_50 : decode cX8_find 50 = .ok (.ldc 30, 2) := by decide +kernel
theorem dX8_find_52 : decode cX8_find 52 = .ok (.if_icmp .eq 24, 3) := by decide +kernel
theorem dX8_find_55 : decode cX8_find 55 = .ok (.aload_n 0, 1) := by decide +kernel
theorem dX8_find_56 : decode cX8_find 56 = .ok (.getfield 9, 3) := by decide +kernel
theorem dX8_find_59 : decode cX8_find 59 = .ok (.iload_n 1, 1) := by decide +kernel
theorem dX8_find_60 : decode cX8_find 60 = .ok (.aaload, 1) := by decide +kernel
theorem dX8_find_61 : decode cX8_find 61 = .ok (.iload_n 2, 1) := by decide +kernel
theorem dX8_find_62 : decode cX8_find 62 = .ok (.iload_n 3, 1) := by decide +kernel
theorem dX8_find_63 : decode cX8_find 63 = .ok (.iadd, 1) := by decide +kernel
theorem dX8_find_64 : decode cX8_find 64 = .ok (.invokevirtual 52, 3) := by decide +kernel
theorem dX8_find_67 : decode cX8_find 67 = .ok (.aload_n 0, 1) := by decide +kernel
theorem dX8_find_68 : decode cX8_find 68 = .ok (.iload_n 1, 1) := by decide +kernel
theorem dX8_find_69 : decode cX8_find 69 = .ok (.iload_n 2, 1) := by decide +kernel
theorem dX8_find_70 : decode cX8_find 70 = .ok (.iload_n 3, 1) := by decide +kernel
theorem dX8_find_71 : decode cX8_find 71 = .ok (.iload 4, 2) := by decide +kernel
theorem dX8_find_73 : decode cX8_find 73 = .ok (.invokevirtual 58, 3) := by decide +kernel
theorem dX8_find_76 : decode cX8_find 76 = .ok (.iinc 3 1, 3) := by decide +kernel
theorem dX8_find_79 : decode cX8_find 79 = .ok (.goto (-57), 3) := by decide +kernel
theorem dX8_find_82 : decode cX8_find 82 = .ok (.aload_n 0, 1) := by decide +kernel
theorem dX8_find_83 : decode cX8_find 83 = .ok (.getfield 31, 3) := by decide +kernel
theorem dX8_find_86 : decode cX8_find 86 = .ok (.ldc 30, 2) := by decide +kernel
theorem dX8_find_88 : decode cX8_find 88 = .ok (.if_icmp .eq 7, 3) := by decide +kernel
theorem dX8_find_91 : decode cX8_find 91 = .ok (.iconst 1, 1) := by decide +kernel
theorem dX8_find_92 : decode cX8_find 92 = .ok (.goto 4, 3) := by decide +kernel
theorem dX8_find_95 : decode cX8_find 95 = .ok (.iconst 0, 1) := by decide +kernel
theorem dX8_find_96 : decode cX8_find 96 = .ok (.ireturn, 1) := by decide +kernel
theorem dX8_widen_0 : decode cX8_widen 0 = .ok (.aload_n 0, 1) := by decide +kernel
theorem dX8_widen_1 : decode cX8_widen 1 = .ok (.getfield 19, 3) := by decide +kernel
theorem dX8_widen_4 : decode cX8_widen 4 = .ok (.iload_n 1, 1) := by decide +kernel
theorem dX8_widen_5 : decode cX8_widen 5 = .ok (.iload_n 2, 1) := by decide +kernel
theorem dX8_widen_6 : decode cX8_widen 6 = .ok (.iload_n 3, 1) := by decide +kernel
theorem dX8_widen_7 : decode cX8_widen 7 = .ok (.iadd, 1) := by decide +kernel
theorem dX8_widen_8 : decode cX8_widen 8 = .ok (.invokevirtual 62, 3) := by decide +kernel
theorem dX8_widen_11 : decode cX8_widen 11 = .ok (.istore 5, 2) := by decide +kernel
theorem dX8_widen_13 : decode cX8_widen 13 = .ok (.iconst 0, 1) := by decide +kernel
theorem dX8_widen_14 : decode cX8_widen 14 = .ok (.istore 6, 2) := by decide +kernel
theorem dX8_widen_16 : decode cX8_widen 16 = .ok (.iload 6, 2) := by decide +kernel
theorem dX8_widen_18 : decode cX8_widen 18 = .ok (.aload_n 0, 1) := by decide +kernel
theorem dX8_widen_19 : decode cX8_widen 19 = .ok (.getfield 9, 3) := by decide +kernel
theorem dX8_widen_22 : decode cX8_widen 22 = .ok (.iload_n 1, 1) := by decide +kernel
theorem dX8_widen_23 : decode cX8_widen 23 = .ok (.aaload, 1) := by decide +kernel
theorem dX8_widen_24 : decode cX8_widen 24 = .ok (.getfield 65, 3) := by decide +kernel
theorem dX8_widen_27 : decode cX8_widen 27 = .ok (.if_icmp .ge 88, 3) := by decide +kernel
theorem dX8_widen_30 : decode cX8_widen 30 = .ok (.aload_n 0, 1) := by decide +kernel
theorem dX8_widen_31 : decode cX8_widen 31 = .ok (.getfield 9, 3) := by decide +kernel
theorem dX8_widen_34 : decode cX8_widen 34 = .ok (.iload_n 1, 1) := by decide +kernel
theorem dX8_widen_35 : decode cX8_widen 35 = .ok (.aaload, 1) := by decide +kernel
theorem dX8_widen_36 : decode cX8_widen 36 = .ok (.getfield 68, 3) := by decide +kernel
theorem dX8_widen_39 : decode cX8_widen 39 = .ok (.iload 6, 2) := by decide +kernel
theorem dX8_widen_41 : decode cX8_widen 41 = .ok (.iaload, 1) := by decide +kernel
theorem dX8_widen_42 : decode cX8_widen 42 = .ok (.istore 7, 2) := by decide +kernel
theorem dX8_widen_44 : decode cX8_widen 44 = .ok (.iload 7, 2) := by decide +kernel
theorem dX8_widen_46 : decode cX8_widen 46 = .ok (.invokestatic 71, 3) := by decide +kernel
theorem dX8_widen_49 : decode cX8_widen 49 = .ok (.iload_n 3, 1) := by decide +kernel
theorem dX8_widen_50 : decode cX8_widen 50 = .ok (.if_icmp .ne 59, 3) := by decide +kernel
theorem dX8_widen_53 : decode cX8_widen 53 = .ok (.iload 7, 2) := by decide +kernel
theorem dX8_widen_55 : decode cX8_widen 55 = .ok (.invokestatic 75, 3) := by decide +kernel
theorem dX8_widen_58 : decode cX8_widen 58 = .ok (.iload 7, 2) := by decide +kernel
theorem dX8_widen_60 : decode cX8_widen 60 = .ok (.invokestatic 78, 3) := by decide +kernel
theorem dX8_widen_63 : decode cX8_widen 63 = .ok (.iload 5, 2) := by decide +kernel
theorem dX8_widen_65 : decode cX8_widen 65 = .ok (.imul, 1) := by decide +kernel
theorem dX8_widen_66 : decode cX8_widen 66 = .ok (.bipush 10, 2) := by decide +kernel
theorem dX8_widen_68 : decode cX8_widen 68 = .ok (.idiv, 1) := by decide +kernel
theorem dX8_widen_69 : decode cX8_widen 69 = .ok (.iadd, 1) := by decide +kernel
theorem dX8_widen_70 : decode cX8_widen 70 = .ok (.istore 8, 2) := by decide +kernel
theorem dX8_widen_72 : decode cX8_widen 72 = .ok (.aload_n 0, 1) := by decide +kernel
theorem dX8_widen_73 : decode cX8_widen 73 = .ok (.getfield 19, 3) := by decide +kernel
theorem dX8_widen_76 : decode cX8_widen 76 = .ok (.iload_n 1, 1) := by decide +kernel
theorem dX8_widen_77 : decode cX8_widen 77 = .ok (.invokevirtual 81, 3) := by decide +kernel
theorem dX8_widen_80 : decode cX8_widen 80 = .ok (.ifCond .eq 15, 3) := by decide +kernel
theorem dX8_widen_83 : decode cX8_widen 83 = .ok (.aload_n 0, 1) := by decide +kernel
theorem dX8_widen_84 : decode cX8_widen 84 = .ok (.iload_n 1, 1) := by decide +kernel
theorem dX8_widen_85 : decode cX8_widen 85 = .ok (.iload 8, 2) := by decide +kernel
theorem dX8_widen_87 : decode cX8_widen 87 = .ok (.iload 4, 2) := by decide +kernel
theorem dX8_widen_89 : decode cX8_widen 89 = .ok (.invokevirtual 85, 3) := by decide +kernel
theorem dX8_widen_92 : decode cX8_widen 92 = .ok (.goto 17, 3) := by decide +kernel
theorem dX8_widen_95 : decode cX8_widen 95 = .ok (.aload_n 0, 1) := by decide +kernel
theorem dX8_widen_96 : decode cX8_widen 96 = .ok (.iload_n 1, 1) := by decide +kernel
theorem dX8_widen_97 : decode cX8_widen 97 = .ok (.iload 8, 2) := by decide +kernel
theorem dX8_widen_99 : decode cX8_widen 99 = .ok (.iload 7, 2) := by decide +kernel
theorem dX8_widen_101 : decode cX8_widen 101 = .ok (.invokestatic 89, 3) := by decide +kernel
theorem dX8_widen_104 : decode cX8_widen 104 = .ok (.iload 4, 2) := by decide +kernel
theorem dX8_widen_106 : decode cX8_widen 106 = .ok (.invokevirtual 92, 3) := by decide +kernel
theorem dX8_widen_109 : decode cX8_widen 109 = .ok (.iinc 6 1, 3) := by decide +kernel
theorem dX8_widen_112 : decode cX8_widen 112 = .ok (.goto (-96), 3) := by decide +kernel
theorem dX8_widen_115 : decode cX8_widen 115 = .ok (.return_, 1) := by decide +kernel
theorem dX8_widenRound_0 : decode cX8_widenRound 0 = .ok (.iconst 0, 1) := by decide +kernel
theorem dX8_widenRound_1 : decode cX8_widenRound 1 = .ok (.istore 4, 2) := by decide +kernel
theorem dX8_widenRound_3 : decode cX8_widenRound 3 = .ok (.iload 4, 2) := by decide +kernel
theorem dX8_widenRound_5 : decode cX8_widenRound 5 = .ok (.bipush 16, 2) := by decide +kernel
theorem dX8_widenRound_7 : decode cX8_widenRound 7 = .ok (.if_icmp .ge 38, 3) := by decide +kernel
theorem dX8_widenRound_10 : decode cX8_widenRound 10 = .ok (.aload_n 0, 1) := by decide +kernel
theorem dX8_widenRound_11 : decode cX8_widenRound 11 = .ok (.getfield 19, 3) := by decide +kernel
theorem dX8_widenRound_14 : decode cX8_widenRound 14 = .ok (.iload_n 1, 1) := by decide +kernel
theorem dX8_widenRound_15 : decode cX8_widenRound 15 = .ok (.iload_n 2, 1) := by decide +kernel
theorem dX8_widenRound_16 : decode cX8_widenRound 16 = .ok (.iload 4, 2) := by decide +kernel
theorem dX8_widenRound_18 : decode cX8_widenRound 18 = .ok (.iadd, 1) := by decide +kernel
theorem dX8_widenRound_19 : decode cX8_widenRound 19 = .ok (.bipush 16, 2) := by decide +kernel
theorem dX8_widenRound_21 : decode cX8_widenRound 21 = .ok (.invokestatic 95, 3) := by decide +kernel
theorem dX8_widenRound_24 : decode cX8_widenRound 24 = .ok (.iload_n 3, 1) := by decide +kernel
theorem dX8_widenRound_25 : decode cX8_widenRound 25 = .ok (.invokevirtual 100, 3) := by decide +kernel
theorem dX8_widenRound_28 : decode cX8_widenRound 28 = .ok (.ifCond .eq 11, 3) := by decide +kernel
theorem dX8_widenRound_31 : decode cX8_widenRound 31 = .ok (.aload_n 0, 1) := by decide +kernel
theorem dX8_widenRound_32 : decode cX8_widenRound 32 = .ok (.iload 4, 2) := by decide +kernel
theorem dX8_widenRound_34 : decode cX8_widenRound 34 = .ok (.iload 4, 2) := by decide +kernel
theorem dX8_widenRound_36 : decode cX8_widenRound 36 = .ok (.invokevirtual 104, 3) := by decide +kernel
theorem dX8_widenRound_39 : decode cX8_widenRound 39 = .ok (.iinc 4 1, 3) := by decide +kernel
theorem dX8_widenRound_42 : decode cX8_widenRound 42 = .ok (.goto (-39), 3) := by decide +kernel
theorem dX8_widenRound_45 : decode cX8_widenRound 45 = .ok (.return_, 1) := by decide +kernel
theorem dX8_widenStraight_0 : decode cX8_widenStraight 0 = .ok (.aload_n 0, 1) := by decide +kernel
theorem dX8_widenStraight_1 : decode cX8_widenStraight 1 = .ok (.getfield 19, 3) := by decide +kernel
theorem dX8_widenStraight_4 : decode cX8_widenStraight 4 = .ok (.getfield 108, 3) := by decide +kernel
theorem dX8_widenStraight_7 : decode cX8_widenStraight 7 = .ok (.iload_n 1, 1) := by decide +kernel
theorem dX8_widenStraight_8 : decode cX8_widenStraight 8 = .ok (.iaload, 1) := by decide +kernel
theorem dX8_widenStraight_9 : decode cX8_widenStraight 9 = .ok (.istore 5, 2) := by decide +kernel
theorem dX8_widenStraight_11 : decode cX8_widenStraight 11 = .ok (.aload_n 0, 1) := by decide +kernel
theorem dX8_widenStraight_12 : decode cX8_widenStraight 12 = .ok (.getfield 19, 3) := by decide +kernel
theorem dX8_widenStraight_15 : decode cX8_widenStraight 15 = .ok (.getfield 111, 3) := by decide +kernel
theorem dX8_widenStraight_18 : decode cX8_widenStraight 18 = .ok (.iload_n 1, 1) := by decide +kernel
theorem dX8_widenStraight_19 : decode cX8_widenStraight 19 = .ok (.iaload, 1) := by decide +kernel
theorem dX8_widenStraight_20 : decode cX8_widenStraight 20 = .ok (.istore 6, 2) := by decide +kernel
theorem dX8_widenStraight_22 : decode cX8_widenStraight 22 = .ok (.iload 4, 2) := by decide +kernel
theorem dX8_widenStraight_24 : decode cX8_widenStraight 24 = .ok (.iload 6, 2) := by decide +kernel
theorem dX8_widenStraight_26 : decode cX8_widenStraight 26 = .ok (.isub, 1) := by decide +kernel
theorem dX8_widenStraight_27 : decode cX8_widenStraight 27 = .ok (.iload_n 2, 1) := by decide +kernel
theorem dX8_widenStraight_28 : decode cX8_widenStraight 28 = .ok (.isub, 1) := by decide +kernel
theorem dX8_widenStraight_29 : decode cX8_widenStraight 29 = .ok (.iload_n 3, 1) := by decide +kernel
theorem dX8_widenStraight_30 : decode cX8_widenStraight 30 = .ok (.invokestatic 114, 3) := by decide +kernel
theorem dX8_widenStraight_33 : decode cX8_widenStraight 33 = .ok (.istore 7, 2) := by decide +kernel
theorem dX8_widenStraight_35 : decode cX8_widenStraight 35 = .ok (.iload 4, 2) := by decide +kernel
theorem dX8_widenStraight_37 : decode cX8_widenStraight 37 = .ok (.iload 6, 2) := by decide +kernel
theorem dX8_widenStraight_39 : decode cX8_widenStraight 39 = .ok (.iadd, 1) := by decide +kernel
theorem dX8_widenStraight_40 : decode cX8_widenStraight 40 = .ok (.iload_n 2, 1) := by decide +kernel
theorem dX8_widenStraight_41 : decode cX8_widenStraight 41 = .ok (.isub, 1) := by decide +kernel
theorem dX8_widenStraight_42 : decode cX8_widenStraight 42 = .ok (.iconst 1, 1) := by decide +kernel
theorem dX8_widenStraight_43 : decode cX8_widenStraight 43 = .ok (.iadd, 1) := by decide +kernel
theorem dX8_widenStraight_44 : decode cX8_widenStraight 44 = .ok (.iload_n 3, 1) := by decide +kernel
theorem dX8_widenStraight_45 : decode cX8_widenStraight 45 = .ok (.invokestatic 114, 3) := by decide +kernel
theorem dX8_widenStraight_48 : decode cX8_widenStraight 48 = .ok (.iconst 1, 1) := by decide +kernel
theorem dX8_widenStraight_49 : decode cX8_widenStraight 49 = .ok (.isub, 1) := by decide +kernel
theorem dX8_widenStraight_50 : decode cX8_widenStraight 50 = .ok (.istore 8, 2) := by decide +kernel
theorem dX8_widenStraight_52 : decode cX8_widenStraight 52 = .ok (.iload 7, 2) := by decide +kernel
theorem dX8_widenStraight_54 : decode cX8_widenStraight 54 = .ok (.getstatic 117, 3) := by decide +kernel
theorem dX8_widenStraight_57 : decode cX8_widenStraight 57 = .ok (.iload 5, 2) := by decide +kernel
theorem dX8_widenStraight_59 : decode cX8_widenStraight 59 = .ok (.iaload, 1) := by decide +kernel
theorem dX8_widenStraight_60 : decode cX8_widenStraight 60 = .ok (.invokestatic 120, 3) := by decide +kernel
theorem dX8_widenStraight_63 : decode cX8_widenStraight 63 = .ok (.istore 7, 2) := by decide +kernel
theorem dX8_widenStraight_65 : decode cX8_widenStraight 65 = .ok (.iload 8, 2) := by decide +kernel
theorem dX8_widenStraight_67 : decode cX8_widenStraight 67 = .ok (.getstatic 123, 3) := by decide +kernel
theorem dX8_widenStraight_70 : decode cX8_widenStraight 70 = .ok (.iload 5, 2) := by decide +kernel
theorem dX8_widenStraight_72 : decode cX8_widenStraight 72 = .ok (.iaload, 1) := by decide +kernel
theorem dX8_widenStraight_73 : decode cX8_widenStraight 73 = .ok (.invokestatic 126, 3) := by decide +kernel
theorem dX8_widenStraight_76 : decode cX8_widenStraight 76 = .ok (.istore 8, 2) := by decide +kernel
theorem dX8_widenStraight_78 : decode cX8_widenStraight 78 = .ok (.iload 7, 2) := by decide +kernel
theorem dX8_widenStraight_80 : decode cX8_widenStraight 80 = .ok (.iload 8, 2) := by decide +kernel
theorem dX8_widenStraight_82 : decode cX8_widenStraight 82 = .ok (.if_icmp .gt 11, 3) := by decide +kernel
theorem dX8_widenStraight_85 : decode cX8_widenStraight 85 = .ok (.aload_n 0, 1) := by decide +kernel
theorem dX8_widenStraight_86 : decode cX8_widenStraight 86 = .ok (.iload 7, 2) := by decide +kernel
theorem dX8_widenStraight_88 : decode cX8_widenStraight 88 = .ok (.iload 8, 2) := by decide +kernel
theorem dX8_widenStraight_90 : decode cX8_widenStraight 90 = .ok (.invokevirtual 104, 3) := by decide +kernel
theorem dX8_widenStraight_93 : decode cX8_widenStraight 93 = .ok (.return_, 1) := by decide +kernel
theorem dX8_firstReaching_0 : decode cX8_firstReaching 0 = .ok (.iload_n 1, 1) := by decide +kernel
theorem dX8_firstReaching_1 : decode cX8_firstReaching 1 = .ok (.ifCond .le 15, 3) := by decide +kernel
theorem dX8_firstReaching_4 : decode cX8_firstReaching 4 = .ok (.bipush (-10), 2) := by decide +kernel
theorem dX8_firstReaching_6 : decode cX8_firstReaching 6 = .ok (.iload_n 0, 1) := by decide +kernel
theorem dX8_firstReaching_7 : decode cX8_firstReaching 7 = .ok (.imul, 1) := by decide +kernel
theorem dX8_firstReaching_8 : decode cX8_firstReaching 8 = .ok (.iload_n 1, 1) := by decide +kernel
theorem dX8_firstReaching_9 : decode cX8_firstReaching 9 = .ok (.invokestatic 129, 3) := by decide +kernel
theorem dX8_firstReaching_12 : decode cX8_firstReaching 12 = .ok (.ineg, 1) := by decide +kernel
theorem dX8_firstReaching_13 : decode cX8_firstReaching 13 = .ok (.goto 4, 3) := by decide +kernel
theorem dX8_firstReaching_16 : decode cX8_firstReaching 16 = .ok (.iconst 0, 1) := by decide +kernel
theorem dX8_firstReaching_17 : decode cX8_firstReaching 17 = .ok (.ireturn, 1) := by decide +kernel
theorem dX8_include_0 : decode cX8_include 0 = .ok (.aload_n 0, 1) := by decide +kernel
theorem dX8_include_1 : decode cX8_include 1 = .ok (.aload_n 0, 1) := by decide +kernel
theorem dX8_include_2 : decode cX8_include 2 = .ok (.getfield 31, 3) := by decide +kernel
theorem dX8_include_5 : decode cX8_include 5 = .ok (.ldc 30, 2) := by decide +kernel
theorem dX8_include_7 : decode cX8_include 7 = .ok (.if_icmp .ne 7, 3) := by decide +kernel
theorem dX8_include_10 : decode cX8_include 10 = .ok (.iload_n 1, 1) := by decide +kernel
theorem dX8_include_11 : decode cX8_include 11 = .ok (.goto 11, 3) := by decide +kernel
theorem dX8_include_14 : decode cX8_include 14 = .ok (.aload_n 0, 1) := by decide +kernel
theorem dX8_include_15 : decode cX8_include 15 = .ok (.getfield 31, 3) := by decide +kernel
theorem dX8_include_18 : decode cX8_include 18 = .ok (.iload_n 1, 1) := by decide +kernel
theorem dX8_include_19 : decode cX8_include 19 = .ok (.invokestatic 126, 3) := by decide +kernel
theorem dX8_include_22 : decode cX8_include 22 = .ok (.putfield 31, 3) := by decide +kernel
theorem dX8_include_25 : decode cX8_include 25 = .ok (.aload_n 0, 1) := by decide +kernel
theorem dX8_include_26 : decode cX8_include 26 = .ok (.aload_n 0, 1) := by decide +kernel
theorem dX8_include_27 : decode cX8_include 27 = .ok (.getfield 35, 3) := by decide +kernel
theorem dX8_include_30 : decode cX8_include 30 = .ok (.iload_n 2, 1) := by decide +kernel
theorem dX8_include_31 : decode cX8_include 31 = .ok (.invokestatic 120, 3) := by decide +kernel
theorem dX8_include_34 : decode cX8_include 34 = .ok (.putfield 35, 3) := by decide +kernel
theorem dX8_include_37 : decode cX8_include 37 = .ok (.return_, 1) := by decide +kernel
theorem dX8_surest_0 : decode cX8_surest 0 = .ok (.iload_n 2, 1) := by decide +kernel
theorem dX8_surest_1 : decode cX8_surest 1 = .ok (.istore 4, 2) := by decide +kernel
theorem dX8_surest_3 : decode cX8_surest 3 = .ok (.iload 4, 2) := by decide +kernel
theorem dX8_surest_5 : decode cX8_surest 5 = .ok (.iload_n 3, 1) := by decide +kernel
theorem dX8_surest_6 : decode cX8_surest 6 = .ok (.if_icmp .gt 39, 3) := by decide +kernel
theorem dX8_surest_9 : decode cX8_surest 9 = .ok (.aload_n 0, 1) := by decide +kernel
theorem dX8_surest_10 : decode cX8_surest 10 = .ok (.iload_n 1, 1) := by decide +kernel
theorem dX8_surest_11 : decode cX8_surest 11 = .ok (.iload 4, 2) := by decide +kernel
theorem dX8_surest_13 : decode cX8_surest 13 = .ok (.invokevirtual 132, 3) := by decide +kernel
theorem dX8_surest_16 : decode cX8_surest 16 = .ok (.pop, 1) := by decide +kernel
theorem dX8_surest_17 : decode cX8_surest 17 = .ok (.aload_n 0, 1) := by decide +kernel
theorem dX8_surest_18 : decode cX8_surest 18 = .ok (.getfield 23, 3) := by decide +kernel
theorem dX8_surest_21 : decode cX8_surest 21 = .ok (.iload 4, 2) := by decide +kernel
theorem dX8_surest_23 : decode cX8_surest 23 = .ok (.aload_n 0, 1) := by decide +kernel
theorem dX8_surest_24 : decode cX8_surest 24 = .ok (.getfield 31, 3) := by decide +kernel
theorem dX8_surest_27 : decode cX8_surest 27 = .ok (.iastore, 1) := by decide +kernel
theorem dX8_surest_28 : decode cX8_surest 28 = .ok (.aload_n 0, 1) := by decide +kernel
theorem dX8_surest_29 : decode cX8_surest 29 = .ok (.getfield 27, 3) := by decide +kernel
theorem dX8_surest_32 : decode cX8_surest 32 = .ok (.iload 4, 2) := by decide +kernel
theorem dX8_surest_34 : decode cX8_surest 34 = .ok (.aload_n 0, 1) := by decide +kernel
theorem dX8_surest_35 : decode cX8_surest 35 = .ok (.getfield 35, 3) := by decide +kernel
theorem dX8_surest_38 : decode cX8_surest 38 = .ok (.iastore, 1) := by decide +kernel
theorem dX8_surest_39 : decode cX8_surest 39 = .ok (.iinc 4 1, 3) := by decide +kernel
theorem dX8_surest_42 : decode cX8_surest 42 = .ok (.goto (-39), 3) := by decide +kernel
theorem dX8_surest_45 : decode cX8_surest 45 = .ok (.iload_n 2, 1) := by decide +kernel
theorem dX8_surest_46 : decode cX8_surest 46 = .ok (.istore 4, 2) := by decide +kernel
theorem dX8_surest_48 : decode cX8_surest 48 = .ok (.iload 4, 2) := by decide +kernel
theorem dX8_surest_50 : decode cX8_surest 50 = .ok (.iload_n 3, 1) := by decide +kernel
theorem dX8_surest_51 : decode cX8_surest 51 = .ok (.if_icmp .gt 53, 3) := by decide +kernel
theorem dX8_surest_54 : decode cX8_surest 54 = .ok (.aload_n 0, 1) := by decide +kernel
theorem dX8_surest_55 : decode cX8_surest 55 = .ok (.iload 4, 2) := by decide +kernel
theorem dX8_surest_57 : decode cX8_surest 57 = .ok (.iload_n 2, 1) := by decide +kernel
theorem dX8_surest_58 : decode cX8_surest 58 = .ok (.iload_n 3, 1) := by decide +kernel
theorem dX8_surest_59 : decode cX8_surest 59 = .ok (.invokevirtual 136, 3) := by decide +kernel
theorem dX8_surest_62 : decode cX8_surest 62 = .ok (.istore 5, 2) := by decide +kernel
theorem dX8_surest_64 : decode cX8_surest 64 = .ok (.aload_n 0, 1) := by decide +kernel
theorem dX8_surest_65 : decode cX8_surest 65 = .ok (.getfield 23, 3) := by decide +kernel
theorem dX8_surest_68 : decode cX8_surest 68 = .ok (.iload 4, 2) := by decide +kernel
theorem dX8_surest_70 : decode cX8_surest 70 = .ok (.iaload, 1) := by decide +kernel
theorem dX8_surest_71 : decode cX8_surest 71 = .ok (.ldc 30, 2) := by decide +kernel
theorem dX8_surest_73 : decode cX8_surest 73 = .ok (.if_icmp .eq 25, 3) := by decide +kernel
theorem dX8_surest_76 : decode cX8_surest 76 = .ok (.iload 5, 2) := by decide +kernel
theorem dX8_surest_78 : decode cX8_surest 78 = .ok (.ldc 30, 2) := by decide +kernel
theorem dX8_surest_80 : decode cX8_surest 80 = .ok (.if_icmp .eq 18, 3) := by decide +kernel
theorem dX8_surest_83 : decode cX8_surest 83 = .ok (.aload_n 0, 1) := by decide +kernel
theorem dX8_surest_84 : decode cX8_surest 84 = .ok (.getfield 23, 3) := by decide +kernel
theorem dX8_surest_87 : decode cX8_surest 87 = .ok (.iload 4, 2) := by decide +kernel
theorem dX8_surest_89 : decode cX8_surest 89 = .ok (.iaload, 1) := by decide +kernel
theorem dX8_surest_90 : decode cX8_surest 90 = .ok (.iload 5, 2) := by decide +kernel
theorem dX8_surest_92 : decode cX8_surest 92 = .ok (.if_icmp .lt 6, 3) := by decide +kernel
theorem dX8_surest_95 : decode cX8_surest 95 = .ok (.iload 4, 2) := by decide +kernel
theorem dX8_surest_97 : decode cX8_surest 97 = .ok (.ireturn, 1) := by decide +kernel
theorem dX8_surest_98 : decode cX8_surest 98 = .ok (.iinc 4 1, 3) := by decide +kernel
theorem dX8_surest_101 : decode cX8_surest 101 = .ok (.goto (-53), 3) := by decide +kernel
theorem dX8_surest_104 : decode cX8_surest 104 = .ok (.iconst (-1), 1) := by decide +kernel
theorem dX8_surest_105 : decode cX8_surest 105 = .ok (.ireturn, 1) := by decide +kernel
theorem dX8_greatestBeside_0 : decode cX8_greatestBeside 0 = .ok (.ldc 30, 2) := by decide +kernel
theorem dX8_greatestBeside_2 : decode cX8_greatestBeside 2 = .ok (.istore 4, 2) := by decide +kernel
theorem dX8_greatestBeside_4 : decode cX8_greatestBeside 4 = .ok (.iload_n 2, 1) := by decide +kernel
theorem dX8_greatestBeside_5 : decode cX8_greatestBeside 5 = .ok (.istore 5, 2) := by decide +kernel
theorem dX8_greatestBeside_7 : decode cX8_greatestBeside 7 = .ok (.iload 5, 2) := by decide +kernel
theorem dX8_greatestBeside_9 : decode cX8_greatestBeside 9 = .ok (.iload_n 3, 1) := by decide +kernel
theorem dX8_greatestBeside_10 : decode cX8_greatestBeside 10 = .ok (.if_icmp .gt 29, 3) := by decide +kernel
theorem dX8_greatestBeside_13 : decode cX8_greatestBeside 13 = .ok (.iload 5, 2) := by decide +kernel
theorem dX8_greatestBeside_15 : decode cX8_greatestBeside 15 = .ok (.iload_n 1, 1) := by decide +kernel
theorem dX8_greatestBeside_16 : decode cX8_greatestBeside 16 = .ok (.if_icmp .eq 17, 3) := by decide +kernel
theorem dX8_greatestBeside_19 : decode cX8_greatestBeside 19 = .ok (.iload 4, 2) := by decide +kernel
theorem dX8_greatestBeside_21 : decode cX8_greatestBeside 21 = .ok (.aload_n 0, 1) := by decide +kernel
theorem dX8_greatestBeside_22 : decode cX8_greatestBeside 22 = .ok (.getfield 27, 3) := by decide +kernel
theorem dX8_greatestBeside_25 : decode cX8_greatestBeside 25 = .ok (.iload 5, 2) := by decide +kernel
theorem dX8_greatestBeside_27 : decode cX8_greatestBeside 27 = .ok (.iaload, 1) := by decide +kernel
theorem dX8_greatestBeside_28 : decode cX8_greatestBeside 28 = .ok (.invokestatic 120, 3) := by decide +kernel
theorem dX8_greatestBeside_31 : decode cX8_greatestBeside 31 = .ok (.istore 4, 2) := by decide +kernel
theorem dX8_greatestBeside_33 : decode cX8_greatestBeside 33 = .ok (.iinc 5 1, 3) := by decide +kernel
theorem dX8_greatestBeside_36 : decode cX8_greatestBeside 36 = .ok (.goto (-29), 3) := by decide +kernel
theorem dX8_greatestBeside_39 : decode cX8_greatestBeside 39 = .ok (.iload 4, 2) := by decide +kernel
theorem dX8_greatestBeside_41 : decode cX8_greatestBeside 41 = .ok (.ireturn, 1) := by decide +kernel
theorem dX8_liar_0 : decode cX8_liar 0 = .ok (.iconst 0, 1) := by decide +kernel
theorem dX8_liar_1 : decode cX8_liar 1 = .ok (.istore_n 3, 1) := by decide +kernel
theorem dX8_liar_2 : decode cX8_liar 2 = .ok (.iload_n 3, 1) := by decide +kernel
theorem dX8_liar_3 : decode cX8_liar 3 = .ok (.aload_n 0, 1) := by decide +kernel
theorem dX8_liar_4 : decode cX8_liar 4 = .ok (.getfield 19, 3) := by decide +kernel
theorem dX8_liar_7 : decode cX8_liar 7 = .ok (.getfield 140, 3) := by decide +kernel
theorem dX8_liar_10 : decode cX8_liar 10 = .ok (.if_icmp .ge 78, 3) := by decide +kernel
theorem dX8_liar_13 : decode cX8_liar 13 = .ok (.aload_n 0, 1) := by decide +kernel
theorem dX8_liar_14 : decode cX8_liar 14 = .ok (.getfield 19, 3) := by decide +kernel
theorem dX8_liar_17 : decode cX8_liar 17 = .ok (.getfield 108, 3) := by decide +kernel
theorem dX8_liar_20 : decode cX8_liar 20 = .ok (.iload_n 3, 1) := by decide +kernel
theorem dX8_liar_21 : decode cX8_liar 21 = .ok (.iaload, 1) := by decide +kernel
theorem dX8_liar_22 : decode cX8_liar 22 = .ok (.iload_n 1, 1) := by decide +kernel
theorem dX8_liar_23 : decode cX8_liar 23 = .ok (.if_icmp .ne 16, 3) := by decide +kernel
theorem dX8_liar_26 : decode cX8_liar 26 = .ok (.aload_n 0, 1) := by decide +kernel
theorem dX8_liar_27 : decode cX8_liar 27 = .ok (.iload_n 3, 1) := by decide +kernel
theorem dX8_liar_28 : decode cX8_liar 28 = .ok (.iload_n 2, 1) := by decide +kernel
theorem dX8_liar_29 : decode cX8_liar 29 = .ok (.invokevirtual 132, 3) := by decide +kernel
theorem dX8_liar_32 : decode cX8_liar 32 = .ok (.ifCond .eq 7, 3) := by decide +kernel
theorem dX8_liar_35 : decode cX8_liar 35 = .ok (.iconst 1, 1) := by decide +kernel
theorem dX8_liar_36 : decode cX8_liar 36 = .ok (.goto 4, 3) := by decide +kernel
theorem dX8_liar_39 : decode cX8_liar 39 = .ok (.iconst 0, 1) := by decide +kernel
theorem dX8_liar_40 : decode cX8_liar 40 = .ok (.istore 4, 2) := by decide +kernel
theorem dX8_liar_42 : decode cX8_liar 42 = .ok (.aload_n 0, 1) := by decide +kernel
theorem dX8_liar_43 : decode cX8_liar 43 = .ok (.getfield 23, 3) := by decide +kernel
theorem dX8_liar_46 : decode cX8_liar 46 = .ok (.iload_n 3, 1) := by decide +kernel
theorem dX8_liar_47 : decode cX8_liar 47 = .ok (.iload 4, 2) := by decide +kernel
theorem dX8_liar_49 : decode cX8_liar 49 = .ok (.ifCond .eq 10, 3) := by decide +kernel
theorem dX8_liar_52 : decode cX8_liar 52 = .ok (.aload_n 0, 1) := by decide +kernel
theorem dX8_liar_53 : decode cX8_liar 53 = .ok (.getfield 31, 3) := by decide +kernel
theorem dX8_liar_56 : decode cX8_liar 56 = .ok (.goto 5, 3) := by decide +kernel
theorem dX8_liar_59 : decode cX8_liar 59 = .ok (.ldc 30, 2) := by decide +kernel
theorem dX8_liar_61 : decode cX8_liar 61 = .ok (.iastore, 1) := by decide +kernel
theorem dX8_liar_62 : decode cX8_liar 62 = .ok (.aload_n 0, 1) := by decide +kernel
theorem dX8_liar_63 : decode cX8_liar 63 = .ok (.getfield 27, 3) := by decide +kernel
theorem dX8_liar_66 : decode cX8_liar 66 = .ok (.iload_n 3, 1) := by decide +kernel
theorem dX8_liar_67 : decode cX8_liar 67 = .ok (.iload 4, 2) := by decide +kernel
theorem dX8_liar_69 : decode cX8_liar 69 = .ok (.ifCond .eq 10, 3) := by decide +kernel
theorem dX8_liar_72 : decode cX8_liar 72 = .ok (.aload_n 0, 1) := by decide +kernel
theorem dX8_liar_73 : decode cX8_liar 73 = .ok (.getfield 35, 3) := by decide +kernel
theorem dX8_liar_76 : decode cX8_liar 76 = .ok (.goto 5, 3) := by decide +kernel
theorem dX8_liar_79 : decode cX8_liar 79 = .ok (.ldc 30, 2) := by decide +kernel
theorem dX8_liar_81 : decode cX8_liar 81 = .ok (.iastore, 1) := by decide +kernel
theorem dX8_liar_82 : decode cX8_liar 82 = .ok (.iinc 3 1, 3) := by decide +kernel
theorem dX8_liar_85 : decode cX8_liar 85 = .ok (.goto (-83), 3) := by decide +kernel
theorem dX8_liar_88 : decode cX8_liar 88 = .ok (.iconst 0, 1) := by decide +kernel
theorem dX8_liar_89 : decode cX8_liar 89 = .ok (.istore_n 3, 1) := by decide +kernel
theorem dX8_liar_90 : decode cX8_liar 90 = .ok (.iload_n 3, 1) := by decide +kernel
theorem dX8_liar_91 : decode cX8_liar 91 = .ok (.aload_n 0, 1) := by decide +kernel
theorem dX8_liar_92 : decode cX8_liar 92 = .ok (.getfield 19, 3) := by decide +kernel
theorem dX8_liar_95 : decode cX8_liar 95 = .ok (.getfield 140, 3) := by decide +kernel
theorem dX8_liar_98 : decode cX8_liar 98 = .ok (.if_icmp .ge 30, 3) := by decide +kernel
theorem dX8_liar_101 : decode cX8_liar 101 = .ok (.aload_n 0, 1) := by decide +kernel
theorem dX8_liar_102 : decode cX8_liar 102 = .ok (.getfield 23, 3) := by decide +kernel
theorem dX8_liar_105 : decode cX8_liar 105 = .ok (.iload_n 3, 1) := by decide +kernel
theorem dX8_liar_106 : decode cX8_liar 106 = .ok (.iaload, 1) := by decide +kernel
theorem dX8_liar_107 : decode cX8_liar 107 = .ok (.ldc 30, 2) := by decide +kernel
theorem dX8_liar_109 : decode cX8_liar 109 = .ok (.if_icmp .eq 13, 3) := by decide +kernel
theorem dX8_liar_112 : decode cX8_liar 112 = .ok (.aload_n 0, 1) := by decide +kernel
theorem dX8_liar_113 : decode cX8_liar 113 = .ok (.iload_n 3, 1) := by decide +kernel
theorem dX8_liar_114 : decode cX8_liar 114 = .ok (.invokevirtual 143, 3) := by decide +kernel
theorem dX8_liar_117 : decode cX8_liar 117 = .ok (.ifCond .eq 5, 3) := by decide +kernel
theorem dX8_liar_120 : decode cX8_liar 120 = .ok (.iload_n 3, 1) := by decide +kernel
theorem dX8_liar_121 : decode cX8_liar 121 = .ok (.ireturn, 1) := by decide +kernel
theorem dX8_liar_122 : decode cX8_liar 122 = .ok (.iinc 3 1, 3) := by decide +kernel
theorem dX8_liar_125 : decode cX8_liar 125 = .ok (.goto (-35), 3) := by decide +kernel
theorem dX8_liar_128 : decode cX8_liar 128 = .ok (.iconst (-1), 1) := by decide +kernel
theorem dX8_liar_129 : decode cX8_liar 129 = .ok (.ireturn, 1) := by decide +kernel
theorem dX8_isBesideTwo_0 : decode cX8_isBesideTwo 0 = .ok (.iconst 0, 1) := by decide +kernel
theorem dX8_isBesideTwo_1 : decode cX8_isBesideTwo 1 = .ok (.istore_n 2, 1) := by decide +kernel
theorem dX8_isBesideTwo_2 : decode cX8_isBesideTwo 2 = .ok (.iload_n 2, 1) := by decide +kernel
theorem dX8_isBesideTwo_3 : decode cX8_isBesideTwo 3 = .ok (.aload_n 0, 1) := by decide +kernel
theorem dX8_isBesideTwo_4 : decode cX8_isBesideTwo 4 = .ok (.getfield 19, 3) := by decide +kernel
theorem dX8_isBesideTwo_7 : decode cX8_isBesideTwo 7 = .ok (.getfield 140, 3) := by decide +kernel
theorem dX8_isBesideTwo_10 : decode cX8_isBesideTwo 10 = .ok (.if_icmp .ge 59, 3) := by decide +kernel
theorem dX8_isBesideTwo_13 : decode cX8_isBesideTwo 13 = .ok (.iload_n 2, 1) := by decide +kernel
theorem dX8_isBesideTwo_14 : decode cX8_isBesideTwo 14 = .ok (.iconst 1, 1) := by decide +kernel
theorem dX8_isBesideTwo_15 : decode cX8_isBesideTwo 15 = .ok (.iadd, 1) := by decide +kernel
theorem dX8_isBesideTwo_16 : decode cX8_isBesideTwo 16 = .ok (.istore_n 3, 1) := by decide +kernel
theorem dX8_isBesideTwo_17 : decode cX8_isBesideTwo 17 = .ok (.iload_n 3, 1) := by decide +kernel
theorem dX8_isBesideTwo_18 : decode cX8_isBesideTwo 18 = .ok (.aload_n 0, 1) := by decide +kernel
theorem dX8_isBesideTwo_19 : decode cX8_isBesideTwo 19 = .ok (.getfield 19, 3) := by decide +kernel
theorem dX8_isBesideTwo_22 : decode cX8_isBesideTwo 22 = .ok (.getfield 140, 3) := by decide +kernel
theorem dX8_isBesideTwo_25 : decode cX8_isBesideTwo 25 = .ok (.if_icmp .ge 38, 3) := by decide +kernel
theorem dX8_isBesideTwo_28 : decode cX8_isBesideTwo 28 = .ok (.aload_n 0, 1) := by decide +kernel
theorem dX8_isBesideTwo_29 : decode cX8_isBesideTwo 29 = .ok (.iload_n 1, 1) := by decide +kernel
theorem dX8_isBesideTwo_30 : decode cX8_isBesideTwo 30 = .ok (.iload_n 2, 1) := by decide +kernel
theorem dX8_isBesideTwo_31 : decode cX8_isBesideTwo 31 = .ok (.invokevirtual 146, 3) := by decide +kernel
theorem dX8_isBesideTwo_34 : decode cX8_isBesideTwo 34 = .ok (.ifCond .eq 23, 3) := by decide +kernel
theorem dX8_isBesideTwo_37 : decode cX8_isBesideTwo 37 = .ok (.aload_n 0, 1) := by decide +kernel
theorem dX8_isBesideTwo_38 : decode cX8_isBesideTwo 38 = .ok (.iload_n 1, 1) := by decide +kernel
theorem dX8_isBesideTwo_39 : decode cX8_isBesideTwo 39 = .ok (.iload_n 3, 1) := by decide +kernel
theorem dX8_isBesideTwo_40 : decode cX8_isBesideTwo 40 = .ok (.invokevirtual 146, 3) := by decide +kernel
theorem dX8_isBesideTwo_43 : decode cX8_isBesideTwo 43 = .ok (.ifCond .eq 14, 3) := by decide +kernel
theorem dX8_isBesideTwo_46 : decode cX8_isBesideTwo 46 = .ok (.aload_n 0, 1) := by decide +kernel
theorem dX8_isBesideTwo_47 : decode cX8_isBesideTwo 47 = .ok (.iload_n 2, 1) := by decide +kernel
theorem dX8_isBesideTwo_48 : decode cX8_isBesideTwo 48 = .ok (.iload_n 3, 1) := by decide +kernel
theorem dX8_isBesideTwo_49 : decode cX8_isBesideTwo 49 = .ok (.invokevirtual 146, 3) := by decide +kernel
theorem dX8_isBesideTwo_52 : decode cX8_isBesideTwo 52 = .ok (.ifCond .ne 5, 3) := by decide +kernel
theorem dX8_isBesideTwo_55 : decode cX8_isBesideTwo 55 = .ok (.iconst 1, 1) := by decide +kernel
theorem dX8_isBesideTwo_56 : decode cX8_isBesideTwo 56 = .ok (.ireturn, 1) := by decide +kernel
theorem dX8_isBesideTwo_57 : decode cX8_isBesideTwo 57 = .ok (.iinc 3 1, 3) := by decide +kernel
theorem dX8_isBesideTwo_60 : decode cX8_isBesideTwo 60 = .ok (.goto (-43), 3) := by decide +kernel
theorem dX8_isBesideTwo_63 : decode cX8_isBesideTwo 63 = .ok (.iinc 2 1, 3) := by decide +kernel
theorem dX8_isBesideTwo_66 : decode cX8_isBesideTwo 66 = .ok (.goto (-64), 3) := by decide +kernel
theorem dX8_isBesideTwo_69 : decode cX8_isBesideTwo 69 = .ok (.iconst 0, 1) := by decide +kernel
theorem dX8_isBesideTwo_70 : decode cX8_isBesideTwo 70 = .ok (.ireturn, 1) := by decide +kernel
theorem dX8_isApart_0 : decode cX8_isApart 0 = .ok (.aload_n 0, 1) := by decide +kernel
theorem dX8_isApart_1 : decode cX8_isApart 1 = .ok (.getfield 23, 3) := by decide +kernel
theorem dX8_isApart_4 : decode cX8_isApart 4 = .ok (.iload_n 1, 1) := by decide +kernel
theorem dX8_isApart_5 : decode cX8_isApart 5 = .ok (.iaload, 1) := by decide +kernel
theorem dX8_isApart_6 : decode cX8_isApart 6 = .ok (.ldc 30, 2) := by decide +kernel
theorem dX8_isApart_8 : decode cX8_isApart 8 = .ok (.if_icmp .eq 18, 3) := by decide +kernel
theorem dX8_isApart_11 : decode cX8_isApart 11 = .ok (.aload_n 0, 1) := by decide +kernel
theorem dX8_isApart_12 : decode cX8_isApart 12 = .ok (.getfield 23, 3) := by decide +kernel
theorem dX8_isApart_15 : decode cX8_isApart 15 = .ok (.iload_n 2, 1) := by decide +kernel
theorem dX8_isApart_16 : decode cX8_isApart 16 = .ok (.iaload, 1) := by decide +kernel
theorem dX8_isApart_17 : decode cX8_isApart 17 = .ok (.ldc 30, 2) := by decide +kernel
theorem dX8_isApart_19 : decode cX8_isApart 19 = .ok (.if_icmp .eq 7, 3) := by decide +kernel
theorem dX8_isApart_22 : decode cX8_isApart 22 = .ok (.iconst 1, 1) := by decide +kernel
theorem dX8_isApart_23 : decode cX8_isApart 23 = .ok (.goto 4, 3) := by decide +kernel
theorem dX8_isApart_26 : decode cX8_isApart 26 = .ok (.iconst 0, 1) := by decide +kernel
theorem dX8_isApart_27 : decode cX8_isApart 27 = .ok (.istore_n 3, 1) := by decide +kernel
theorem dX8_isApart_28 : decode cX8_isApart 28 = .ok (.iload_n 3, 1) := by decide +kernel
theorem dX8_isApart_29 : decode cX8_isApart 29 = .ok (.ifCond .eq 37, 3) := by decide +kernel
theorem dX8_isApart_32 : decode cX8_isApart 32 = .ok (.aload_n 0, 1) := by decide +kernel
theorem dX8_isApart_33 : decode cX8_isApart 33 = .ok (.getfield 27, 3) := by decide +kernel
theorem dX8_isApart_36 : decode cX8_isApart 36 = .ok (.iload_n 1, 1) := by decide +kernel
theorem dX8_isApart_37 : decode cX8_isApart 37 = .ok (.iaload, 1) := by decide +kernel
theorem dX8_isApart_38 : decode cX8_isApart 38 = .ok (.aload_n 0, 1) := by decide +kernel
theorem dX8_isApart_39 : decode cX8_isApart 39 = .ok (.getfield 23, 3) := by decide +kernel
theorem dX8_isApart_42 : decode cX8_isApart 42 = .ok (.iload_n 2, 1) := by decide +kernel
theorem dX8_isApart_43 : decode cX8_isApart 43 = .ok (.iaload, 1) := by decide +kernel
theorem dX8_isApart_44 : decode cX8_isApart 44 = .ok (.if_icmp .lt 18, 3) := by decide +kernel
theorem dX8_isApart_47 : decode cX8_isApart 47 = .ok (.aload_n 0, 1) := by decide +kernel
theorem dX8_isApart_48 : decode cX8_isApart 48 = .ok (.getfield 27, 3) := by decide +kernel
theorem dX8_isApart_51 : decode cX8_isApart 51 = .ok (.iload_n 2, 1) := by decide +kernel
theorem dX8_isApart_52 : decode cX8_isApart 52 = .ok (.iaload, 1) := by decide +kernel
theorem dX8_isApart_53 : decode cX8_isApart 53 = .ok (.aload_n 0, 1) := by decide +kernel
theorem dX8_isApart_54 : decode cX8_isApart 54 = .ok (.getfield 23, 3) := by decide +kernel
theorem dX8_isApart_57 : decode cX8_isApart 57 = .ok (.iload_n 1, 1) := by decide +kernel
theorem dX8_isApart_58 : decode cX8_isApart 58 = .ok (.iaload, 1) := by decide +kernel
theorem dX8_isApart_59 : decode cX8_isApart 59 = .ok (.if_icmp .ge 7, 3) := by decide +kernel
theorem dX8_isApart_62 : decode cX8_isApart 62 = .ok (.iconst 1, 1) := by decide +kernel
theorem dX8_isApart_63 : decode cX8_isApart 63 = .ok (.goto 4, 3) := by decide +kernel
theorem dX8_isApart_66 : decode cX8_isApart 66 = .ok (.iconst 0, 1) := by decide +kernel
theorem dX8_isApart_67 : decode cX8_isApart 67 = .ok (.ireturn, 1) := by decide +kernel
theorem dX9_init_0 : decode cX9_init 0 = .ok (.aload_n 0, 1) := by decide +kernel
theorem dX9_init_1 : decode cX9_init 1 = .ok (.invokespecial 1, 3) := by decide +kernel
theorem dX9_init_4 : decode cX9_init 4 = .ok (.aload_n 0, 1) := by decide +kernel
theorem dX9_init_5 : decode cX9_init 5 = .ok (.aload_n 1, 1) := by decide +kernel
theorem dX9_init_6 : decode cX9_init 6 = .ok (.putfield 7, 3) := by decide +kernel
theorem dX9_init_9 : decode cX9_init 9 = .ok (.aload_n 0, 1) := by decide +kernel
theorem dX9_init_10 : decode cX9_init 10 = .ok (.ldc 13, 2) := by decide +kernel
theorem dX9_init_12 : decode cX9_init 12 = .ok (.putfield 15, 3) := by decide +kernel
theorem dX9_init_15 : decode cX9_init 15 = .ok (.aload_n 0, 1) := by decide +kernel
theorem dX9_init_16 : decode cX9_init 16 = .ok (.bipush 26, 2) := by decide +kernel
theorem dX9_init_18 : decode cX9_init 18 = .ok (.newarray .long, 2) := by decide +kernel
theorem dX9_init_20 : decode cX9_init 20 = .ok (.putfield 19, 3) := by decide +kernel
theorem dX9_init_23 : decode cX9_init 23 = .ok (.iconst 0, 1) := by decide +kernel
theorem dX9_init_24 : decode cX9_init 24 = .ok (.istore_n 2, 1) := by decide +kernel
theorem dX9_init_25 : decode cX9_init 25 = .ok (.iconst 0, 1) := by decide +kernel
theorem dX9_init_26 : decode cX9_init 26 = .ok (.istore_n 3, 1) := by decide +kernel
theorem dX9_init_27 : decode cX9_init 27 = .ok (.iload_n 3, 1) := by decide +kernel
theorem dX9_init_28 : decode cX9_init 28 = .ok (.ldc 23, 2) := by decide +kernel
theorem dX9_init_30 : decode cX9_init 30 = .ok (.invokevirtual 25, 3) := by decide +kernel
theorem dX9_init_33 : decode cX9_init 33 = .ok (.if_icmp .ge 53, 3) := by decide +kernel
theorem dX9_init_36 : decode cX9_init 36 = .ok (.ldc 23, 2) := by decide +kernel
theorem dX9_init_38 : decode cX9_init 38 = .ok (.iload_n 3, 1) := by decide +kernel
theorem dX9_init_39 : decode cX9_init 39 = .ok (.invokevirtual 31, 3) := by decide +kernel
theorem dX9_init_42 : decode cX9_init 42 = .ok (.istore 4, 2) := by decide +kernel
theorem dX9_init_44 : decode cX9_init 44 = .ok (.iload 4, 2) := by decide +kernel
theorem dX9_init_46 : decode cX9_init 46 = .ok (.bipush 32, 2) := by decide +kernel
theorem dX9_init_48 : decode cX9_init 48 = .ok (.if_icmp .ne 9, 3) := by decide +kernel
theorem dX9_init_51 : decode cX9_init 51 = .ok (.iinc 2 1, 3) := by decide +kernel
theorem dX9_init_54 : decode cX9_init 54 = .ok (.goto 26, 3) := by decide +kernel
theorem dX9_init_57 : decode cX9_init 57 = .ok (.iload_n 2, 1) := by decide +kernel
theorem dX9_init_58 : decode cX9_init 58 = .ok (.bipush 26, 2) := by decide +kernel
theorem dX9_init_60 : decode cX9_init 60 = .ok (.if_icmp .ge 20, 3) := by decide +kernel
theorem dX9_init_63 : decode cX9_init 63 = .ok (.aload_n 0, 1) := by decide +kernel
theorem dX9_init_64 : decode cX9_init 64 = .ok (.getfield 19, 3) := by decide +kernel
theorem dX9_init_67 : decode cX9_init 67 = .ok (.iload_n 2, 1) := by decide +kernel
theorem dX9_init_68 : decode cX9_init 68 = .ok (.aload_n 0, 1) := by decide +kernel
theorem dX9_init_69 : decode cX9_init 69 = .ok (.getfield 19, 3) := by decide +kernel
theorem dX9_init_72 : decode cX9_init 72 = .ok (.iload_n 2, 1) := by decide +kernel
theorem dX9_init_73 : decode cX9_init 73 = .ok (.laload, 1) := by decide +kernel
theorem dX9_init_74 : decode cX9_init 74 = .ok (.iload 4, 2) := by decide +kernel
theorem dX9_init_76 : decode cX9_init 76 = .ok (.invokestatic 35, 3) := by decide +kernel
theorem dX9_init_79 : decode cX9_init 79 = .ok (.lastore, 1) := by decide +kernel
theorem dX9_init_80 : decode cX9_init 80 = .ok (.iinc 3 1, 3) := by decide +kernel
theorem dX9_init_83 : decode cX9_init 83 = .ok (.goto (-56), 3) := by decide +kernel
theorem dX9_init_86 : decode cX9_init 86 = .ok (.return_, 1) := by decide +kernel
theorem dX9_longer_0 : decode cX9_longer 0 = .ok (.lload_n 0, 1) := by decide +kernel
theorem dX9_longer_1 : decode cX9_longer 1 = .ok (.ldc2_w 39, 3) := by decide +kernel
theorem dX9_longer_4 : decode cX9_longer 4 = .ok (.lmul, 1) := by decide +kernel
theorem dX9_longer_5 : decode cX9_longer 5 = .ok (.iload_n 2, 1) := by decide +kernel
theorem dX9_longer_6 : decode cX9_longer 6 = .ok (.bipush 97, 2) := by decide +kernel
theorem dX9_longer_8 : decode cX9_longer 8 = .ok (.isub, 1) := by decide +kernel
theorem dX9_longer_9 : decode cX9_longer 9 = .ok (.iconst 1, 1) := by decide +kernel
theorem dX9_longer_10 : decode cX9_longer 10 = .ok (.iadd, 1) := by decide +kernel
theorem dX9_longer_11 : decode cX9_longer 11 = .ok (.i2l, 1) := by decide +kernel
theorem dX9_longer_12 : decode cX9_longer 12 = .ok (.ladd, 1) := by decide +kernel
theorem dX9_longer_13 : decode cX9_longer 13 = .ok (.lreturn, 1) := by decide +kernel
theorem dX9_open_0 : decode cX9_open 0 = .ok (.aload_n 0, 1) := by decide +kernel
theorem dX9_open_1 : decode cX9_open 1 = .ok (.iload_n 1, 1) := by decide +kernel
theorem dX9_open_2 : decode cX9_open 2 = .ok (.aload_n 0, 1) := by decide +kernel
theorem dX9_open_3 : decode cX9_open 3 = .ok (.getfield 7, 3) := by decide +kernel
theorem dX9_open_6 : decode cX9_open 6 = .ok (.arraylength, 1) := by decide +kernel
theorem dX9_open_7 : decode cX9_open 7 = .ok (.invokestatic 41, 3) := by decide +kernel
theorem dX9_open_10 : decode cX9_open 10 = .ok (.putfield 47, 3) := by decide +kernel
theorem dX9_open_13 : decode cX9_open 13 = .ok (.aload_n 0, 1) := by decide +kernel
theorem dX9_open_14 : decode cX9_open 14 = .ok (.aload_n 2, 1) := by decide +kernel
theorem dX9_open_15 : decode cX9_open 15 = .ok (.putfield 15, 3) := by decide +kernel
theorem dX9_open_18 : decode cX9_open 18 = .ok (.aload_n 0, 1) := by decide +kernel
theorem dX9_open_19 : decode cX9_open 19 = .ok (.iconst 0, 1) := by decide +kernel
theorem dX9_open_20 : decode cX9_open 20 = .ok (.putfield 50, 3) := by decide +kernel
theorem dX9_open_23 : decode cX9_open 23 = .ok (.aload_n 0, 1) := by decide +kernel
theorem dX9_open_24 : decode cX9_open 24 = .ok (.iconst 0, 1) := by decide +kernel
theorem dX9_open_25 : decode cX9_open 25 = .ok (.putfield 53, 3) := by decide +kernel
theorem dX9_open_28 : decode cX9_open 28 = .ok (.aload_n 0, 1) := by decide +kernel
theorem dX9_open_29 : decode cX9_open 29 = .ok (.iconst (-1), 1) := by decide +kernel
theorem dX9_open_30 : decode cX9_open 30 = .ok (.putfield 58, 3) := by decide +kernel
theorem dX9_open_33 : decode cX9_open 33 = .ok (.aload_n 0, 1) := by decide +kernel
theorem dX9_open_34 : decode cX9_open 34 = .ok (.invokevirtual 61, 3) := by decide +kernel
theorem dX9_open_37 : decode cX9_open 37 = .ok (.return_, 1) := by decide +kernel
theorem dX9_step_0 : decode cX9_step 0 = .ok (.aload_n 0, 1) := by decide +kernel
theorem dX9_step_1 : decode cX9_step 1 = .ok (.getfield 50, 3) := by decide +kernel
theorem dX9_step_4 : decode cX9_step 4 = .ok (.aload_n 0, 1) := by decide +kernel
theorem dX9_step_5 : decode cX9_step 5 = .ok (.getfield 47, 3) := by decide +kernel
theorem dX9_step_8 : decode cX9_step 8 = .ok (.if_icmp .ge 44, 3) := by decide +kernel
theorem dX9_step_11 : decode cX9_step 11 = .ok (.aload_n 0, 1) := by decide +kernel
theorem dX9_step_12 : decode cX9_step 12 = .ok (.getfield 7, 3) := by decide +kernel
theorem dX9_step_15 : decode cX9_step 15 = .ok (.aload_n 0, 1) := by decide +kernel
theorem dX9_step_16 : decode cX9_step 16 = .ok (.getfield 50, 3) := by decide +kernel
theorem dX9_step_19 : decode cX9_step 19 = .ok (.baload, 1) := by decide +kernel
theorem dX9_step_20 : decode cX9_step 20 = .ok (.bipush 32, 2) := by decide +kernel
theorem dX9_step_22 : decode cX9_step 22 = .ok (.if_icmp .eq 17, 3) := by decide +kernel
theorem dX9_step_25 : decode cX9_step 25 = .ok (.aload_n 0, 1) := by decide +kernel
theorem dX9_step_26 : decode cX9_step 26 = .ok (.getfield 7, 3) := by decide +kernel
theorem dX9_step_29 : decode cX9_step 29 = .ok (.aload_n 0, 1) := by decide +kernel
theorem dX9_step_30 : decode cX9_step 30 = .ok (.getfield 50, 3) := by decide +kernel
theorem dX9_step_33 : decode cX9_step 33 = .ok (.baload, 1) := by decide +kernel
theorem dX9_step_34 : decode cX9_step 34 = .ok (.bipush 10, 2) := by decide +kernel
theorem dX9_step_36 : decode cX9_step 36 = .ok (.if_icmp .ne 16, 3) := by decide +kernel
theorem dX9_step_39 : decode cX9_step 39 = .ok (.aload_n 0, 1) := by decide +kernel
theorem dX9_step_40 : decode cX9_step 40 = .ok (.dup, 1) := by decide +kernel
theorem dX9_step_41 : decode cX9_step 41 = .ok (.getfield 50, 3) := by decide +kernel
theorem dX9_step_44 : decode cX9_step 44 = .ok (.iconst 1, 1) := by decide +kernel
theorem dX9_step_45 : decode cX9_step 45 = .ok (.iadd, 1) := by decide +kernel
theorem dX9_step_46 : decode cX9_step 46 = .ok (.putfield 50, 3) := by decide +kernel
theorem dX9_step_49 : decode cX9_step 49 = .ok (.goto (-49), 3) := by decide +kernel
theorem dX9_step_52 : decode cX9_step 52 = .ok (.aload_n 0, 1) := by decide +kernel
theorem dX9_step_53 : decode cX9_step 53 = .ok (.aload_n 0, 1) := by decide +kernel
theorem dX9_step_54 : decode cX9_step 54 = .ok (.getfield 50, 3) := by decide +kernel
theorem dX9_step_57 : decode cX9_step 57 = .ok (.putfield 64, 3) := by decide +kernel
theorem dX9_step_60 : decode cX9_step 60 = .ok (.aload_n 0, 1) := by decide +kernel
theorem dX9_step_61 : decode cX9_step 61 = .ok (.getfield 50, 3) := by decide +kernel
theorem dX9_step_64 : decode cX9_step 64 = .ok (.aload_n 0, 1) := by decide +kernel
theorem dX9_step_65 : decode cX9_step 65 = .ok (.getfield 47, 3) := by decide +kernel
theorem dX9_step_68 : decode cX9_step 68 = .ok (.if_icmp .lt 9, 3) := by decide +kernel
theorem dX9_step_71 : decode cX9_step 71 = .ok (.aload_n 0, 1) := by decide +kernel
theorem dX9_step_72 : decode cX9_step 72 = .ok (.iconst 0, 1) := by decide +kernel
theorem dX9_step_73 : decode cX9_step 73 = .ok (.putfield 67, 3) := by decide +kernel
theorem dX9_step_76 : decode cX9_step 76 = .ok (.return_, 1) := by decide +kernel
theorem dX9_step_77 : decode cX9_step 77 = .ok (.aload_n 0, 1) := by decide +kernel
theorem dX9_step_78 : decode cX9_step 78 = .ok (.getfield 7, 3) := by decide +kernel
theorem dX9_step_81 : decode cX9_step 81 = .ok (.aload_n 0, 1) := by decide +kernel
theorem dX9_step_82 : decode cX9_step 82 = .ok (.getfield 50, 3) := by decide +kernel
theorem dX9_step_85 : decode cX9_step 85 = .ok (.baload, 1) := by decide +kernel
theorem dX9_step_86 : decode cX9_step 86 = .ok (.sipush 255, 3) := by decide +kernel
theorem dX9_step_89 : decode cX9_step 89 = .ok (.iand, 1) := by decide +kernel
theorem dX9_step_90 : decode cX9_step 90 = .ok (.istore_n 1, 1) := by decide +kernel
theorem dX9_step_91 : decode cX9_step 91 = .ok (.iload_n 1, 1) := by decide +kernel
theorem dX9_step_92 : decode cX9_step 92 = .ok (.bipush 97, 2) := by decide +kernel
theorem dX9_step_94 : decode cX9_step 94 = .ok (.if_icmp .lt 16, 3) := by decide +kernel
theorem dX9_step_97 : decode cX9_step 97 = .ok (.iload_n 1, 1) := by decide +kernel
theorem dX9_step_98 : decode cX9_step 98 = .ok (.bipush 122, 2) := by decide +kernel
theorem dX9_step_100 : decode cX9_step 100 = .ok (.if_icmp .gt 10, 3) := by decide +kernel
theorem dX9_step_103 : decode cX9_step 103 = .ok (.aload_n 0, 1) := by decide +kernel
theorem dX9_step_104 : decode cX9_step 104 = .ok (.invokevirtual 70, 3) := by decide +kernel
theorem dX9_step_107 : decode cX9_step 107 = .ok (.goto 53, 3) := by decide +kernel
theorem dX9_step_110 : decode cX9_step 110 = .ok (.iload_n 1, 1) := by decide +kernel
theorem dX9_step_111 : decode cX9_step 111 = .ok (.bipush 48, 2) := by decide +kernel
theorem dX9_step_113 : decode cX9_step 113 = .ok (.if_icmp .lt 16, 3) := by decide +kernel
theorem dX9_step_116 : decode cX9_step 116 = .ok (.iload_n 1, 1) := by decide +kernel
theorem dX9_step_117 : decode cX9_step 117 = .ok (.bipush 57, 2) := by decide +kernel
theorem dX9_step_119 : decode cX9_step 119 = .ok (.if_icmp .gt 10, 3) := by decide +kernel
theorem dX9_step_122 : decode cX9_step 122 = .ok (.aload_n 0, 1) := by decide +kernel
theorem dX9_step_123 : decode cX9_step 123 = .ok (.invokevirtual 73, 3) := by decide +kernel
theorem dX9_step_126 : decode cX9_step 126 = .ok (.goto 34, 3) := by decide +kernel
theorem dX9_step_129 : decode cX9_step 129 = .ok (.aload_n 0, 1) := by decide +kernel
theorem dX9_step_130 : decode cX9_step 130 = .ok (.aload_n 0, 1) := by decide +kernel
theorem dX9_step_131 : decode cX9_step 131 = .ok (.getfield 15, 3) := by decide +kernel
theorem dX9_step_134 : decode cX9_step 134 = .ok (.iload_n 1, 1) := by decide +kernel
theorem dX9_step_135 : decode cX9_step 135 = .ok (.i2c, 1) := by decide +kernel
theorem dX9_step_136 : decode cX9_step 136 = .ok (.invokevirtual 76, 3) := by decide +kernel
theorem dX9_step_139 : decode cX9_step 139 = .ok (.ifCond .lt 7, 3) := by decide +kernel
theorem dX9_step_142 : decode cX9_step 142 = .ok (.iload_n 1, 1) := by decide +kernel
theorem dX9_step_143 : decode cX9_step 143 = .ok (.goto 4, 3) := by decide +kernel
theorem dX9_step_146 : decode cX9_step 146 = .ok (.iconst 1, 1) := by decide +kernel
theorem dX9_step_147 : decode cX9_step 147 = .ok (.putfield 67, 3) := by decide +kernel
theorem dX9_step_150 : decode cX9_step 150 = .ok (.aload_n 0, 1) := by decide +kernel
theorem dX9_step_151 : decode cX9_step 151 = .ok (.dup, 1) := by decide +kernel
theorem dX9_step_152 : decode cX9_step 152 = .ok (.getfield 50, 3) := by decide +kernel
theorem dX9_step_155 : decode cX9_step 155 = .ok (.iconst 1, 1) := by decide +kernel
theorem dX9_step_156 : decode cX9_step 156 = .ok (.iadd, 1) := by decide +kernel
theorem dX9_step_157 : decode cX9_step 157 = .ok (.putfield 50, 3) := by decide +kernel
theorem dX9_step_160 : decode cX9_step 160 = .ok (.return_, 1) := by decide +kernel
theorem dX9_takeWord_0 : decode cX9_takeWord 0 = .ok (.aload_n 0, 1) := by decide +kernel
theorem dX9_takeWord_1 : decode cX9_takeWord 1 = .ok (.lconst 0, 1) := by decide +kernel
theorem dX9_takeWord_2 : decode cX9_takeWord 2 = .ok (.putfield 80, 3) := by decide +kernel
theorem dX9_takeWord_5 : decode cX9_takeWord 5 = .ok (.aload_n 0, 1) := by decide +kernel
theorem dX9_takeWord_6 : decode cX9_takeWord 6 = .ok (.getfield 50, 3) := by decide +kernel
theorem dX9_takeWord_9 : decode cX9_takeWord 9 = .ok (.aload_n 0, 1) := by decide +kernel
theorem dX9_takeWord_10 : decode cX9_takeWord 10 = .ok (.getfield 47, 3) := by decide +kernel
theorem dX9_takeWord_13 : decode cX9_takeWord 13 = .ok (.if_icmp .ge 64, 3) := by decide +kernel
theorem dX9_takeWord_16 : decode cX9_takeWord 16 = .ok (.aload_n 0, 1) := by decide +kernel
theorem dX9_takeWord_17 : decode cX9_takeWord 17 = .ok (.getfield 7, 3) := by decide +kernel
theorem dX9_takeWord_20 : decode cX9_takeWord 20 = .ok (.aload_n 0, 1) := by decide +kernel
theorem dX9_takeWord_21 : decode cX9_takeWord 21 = .ok (.getfield 50, 3) := by decide +kernel
theorem dX9_takeWord_24 : decode cX9_takeWord 24 = .ok (.baload, 1) := by decide +kernel
theorem dX9_takeWord_25 : decode cX9_takeWord 25 = .ok (.bipush 97, 2) := by decide +kernel
theorem dX9_takeWord_27 : decode cX9_takeWord 27 = .ok (.if_icmp .lt 50, 3) := by decide +kernel
theorem dX9_takeWord_30 : decode cX9_takeWord 30 = .ok (.aload_n 0, 1) := by decide +kernel
theorem dX9_takeWord_31 : decode cX9_takeWord 31 = .ok (.getfield 7, 3) := by decide +kernel
theorem dX9_takeWord_34 : decode cX9_takeWord 34 = .ok (.aload_n 0, 1) := by decide +kernel
theorem dX9_takeWord_35 : decode cX9_takeWord 35 = .ok (.getfield 50, 3) := by decide +kernel
theorem dX9_takeWord_38 : decode cX9_takeWord 38 = .ok (.baload, 1) := by decide +kernel
theorem dX9_takeWord_39 : decode cX9_takeWord 39 = .ok (.bipush 122, 2) := by decide +kernel
theorem dX9_takeWord_41 : decode cX9_takeWord 41 = .ok (.if_icmp .gt 36, 3) := by decide +kernel
theorem dX9_takeWord_44 : decode cX9_takeWord 44 = .ok (.aload_n 0, 1) := by decide +kernel
theorem dX9_takeWord_45 : decode cX9_takeWord 45 = .ok (.aload_n 0, 1) := by decide +kernel
theorem dX9_takeWord_46 : decode cX9_takeWord 46 = .ok (.getfield 80, 3) := by decide +kernel
theorem dX9_takeWord_49 : decode cX9_takeWord 49 = .ok (.aload_n 0, 1) := by decide +kernel
theorem dX9_takeWord_50 : decode cX9_takeWord 50 = .ok (.getfield 7, 3) := by decide +kernel
theorem dX9_takeWord_53 : decode cX9_takeWord 53 = .ok (.aload_n 0, 1) := by decide +kernel
theorem dX9_takeWord_54 : decode cX9_takeWord 54 = .ok (.getfield 50, 3) := by decide +kernel
theorem dX9_takeWord_57 : decode cX9_takeWord 57 = .ok (.baload, 1) := by decide +kernel
theorem dX9_takeWord_58 : decode cX9_takeWord 58 = .ok (.invokestatic 35, 3) := by decide +kernel
theorem dX9_takeWord_61 : decode cX9_takeWord 61 = .ok (.putfield 80, 3) := by decide +kernel
theorem dX9_takeWord_64 : decode cX9_takeWord 64 = .ok (.aload_n 0, 1) := by decide +kernel
theorem dX9_takeWord_65 : decode cX9_takeWord 65 = .ok (.dup, 1) := by decide +kernel
theorem dX9_takeWord_66 : decode cX9_takeWord 66 = .ok (.getfield 50, 3) := by decide +kernel
theorem dX9_takeWord_69 : decode cX9_takeWord 69 = .ok (.iconst 1, 1) := by decide +kernel
theorem dX9_takeWord_70 : decode cX9_takeWord 70 = .ok (.iadd, 1) := by decide +kernel
theorem dX9_takeWord_71 : decode cX9_takeWord 71 = .ok (.putfield 50, 3) := by decide +kernel
theorem dX9_takeWord_74 : decode cX9_takeWord 74 = .ok (.goto (-69), 3) := by decide +kernel
theorem dX9_takeWord_77 : decode cX9_takeWord 77 = .ok (.aload_n 0, 1) := by decide +kernel
theorem dX9_takeWord_78 : decode cX9_takeWord 78 = .ok (.aload_n 0, 1) := by decide +kernel
theorem dX9_takeWord_79 : decode cX9_takeWord 79 = .ok (.getfield 50, 3) := by decide +kernel
theorem dX9_takeWord_82 : decode cX9_takeWord 82 = .ok (.aload_n 0, 1) := by decide +kernel
theorem dX9_takeWord_83 : decode cX9_takeWord 83 = .ok (.getfield 64, 3) := by decide +kernel
theorem dX9_takeWord_86 : decode cX9_takeWord 86 = .ok (.isub, 1) := by decide +kernel
theorem dX9_takeWord_87 : decode cX9_takeWord 87 = .ok (.bipush 8, 2) := by decide +kernel
theorem dX9_takeWord_89 : decode cX9_takeWord 89 = .ok (.if_icmp .le 7, 3) := by decide +kernel
theorem dX9_takeWord_92 : decode cX9_takeWord 92 = .ok (.iconst 1, 1) := by decide +kernel
theorem dX9_takeWord_93 : decode cX9_takeWord 93 = .ok (.goto 7, 3) := by decide +kernel
theorem dX9_takeWord_96 : decode cX9_takeWord 96 = .ok (.aload_n 0, 1) := by decide +kernel
theorem dX9_takeWord_97 : decode cX9_takeWord 97 = .ok (.invokevirtual 84, 3) := by decide +kernel
theorem dX9_takeWord_100 : decode cX9_takeWord 100 = .ok (.putfield 67, 3) := by decide +kernel
theorem dX9_takeWord_103 : decode cX9_takeWord 103 = .ok (.return_, 1) := by decide +kernel
theorem dX9_kindOfWord_0 : decode cX9_kindOfWord 0 = .ok (.iconst 0, 1) := by decide +kernel
theorem dX9_kindOfWord_1 : decode cX9_kindOfWord 1 = .ok (.istore_n 1, 1) := by decide +kernel
theorem dX9_kindOfWord_2 : decode cX9_kindOfWord 2 = .ok (.iload_n 1, 1) := by decide +kernel
theorem dX9_kindOfWord_3 : decode cX9_kindOfWord 3 = .ok (.bipush 26, 2) := by decide +kernel
theorem dX9_kindOfWord_5 : decode cX9_kindOfWord 5 = .ok (.if_icmp .ge 29, 3) := by decide +kernel
theorem dX9_kindOfWord_8 : decode cX9_kindOfWord 8 = .ok (.aload_n 0, 1) := by decide +kernel
theorem dX9_kindOfWord_9 : decode cX9_kindOfWord 9 = .ok (.getfield 19, 3) := by decide +kernel
theorem dX9_kindOfWord_12 : decode cX9_kindOfWord 12 = .ok (.iload_n 1, 1) := by decide +kernel
theorem dX9_kindOfWord_13 : decode cX9_kindOfWord 13 = .ok (.laload, 1) := by decide +kernel
theorem dX9_kindOfWord_14 : decode cX9_kindOfWord 14 = .ok (.aload_n 0, 1) := by decide +kernel
theorem dX9_kindOfWord_15 : decode cX9_kindOfWord 15 = .ok (.getfield 80, 3) := by decide +kernel
theorem dX9_kindOfWord_18 : decode cX9_kindOfWord 18 = .ok (.lcmp, 1) := by decide +kernel
theorem dX9_kindOfWord_19 : decode cX9_kindOfWord 19 = .ok (.ifCond .ne 9, 3) := by decide +kernel
theorem dX9_kindOfWord_22 : decode cX9_kindOfWord 22 = .ok (.sipush 128, 3) := by decide +kernel
theorem dX9_kindOfWord_25 : decode cX9_kindOfWord 25 = .ok (.iload_n 1, 1) := by decide +kernel
theorem dX9_kindOfWord_26 : decode cX9_kindOfWord 26 = .ok (.iadd, 1) := by decide +kernel
theorem dX9_kindOfWord_27 : decode cX9_kindOfWord 27 = .ok (.ireturn, 1) := by decide +kernel
theorem dX9_kindOfWord_28 : decode cX9_kindOfWord 28 = .ok (.iinc 1 1, 3) := by decide +kernel
theorem dX9_kindOfWord_31 : decode cX9_kindOfWord 31 = .ok (.goto (-29), 3) := by decide +kernel
theorem dX9_kindOfWord_34 : decode cX9_kindOfWord 34 = .ok (.iconst 3, 1) := by decide +kernel
theorem dX9_kindOfWord_35 : decode cX9_kindOfWord 35 = .ok (.ireturn, 1) := by decide +kernel
theorem dX9_takeNumber_0 : decode cX9_takeNumber 0 = .ok (.aload_n 0, 1) := by decide +kernel
theorem dX9_takeNumber_1 : decode cX9_takeNumber 1 = .ok (.iconst 0, 1) := by decide +kernel
theorem dX9_takeNumber_2 : decode cX9_takeNumber 2 = .ok (.putfield 87, 3) := by decide +kernel
theorem dX9_takeNumber_5 : decode cX9_takeNumber 5 = .ok (.aload_n 0, 1) := by decide +kernel
theorem dX9_takeNumber_6 : decode cX9_takeNumber 6 = .ok (.getfield 50, 3) := by decide +kernel
theorem dX9_takeNumber_9 : decode cX9_takeNumber 9 = .ok (.aload_n 0, 1) := by decide +kernel
theorem dX9_takeNumber_10 : decode cX9_takeNumber 10 = .ok (.getfield 47, 3) := by decide +kernel
theorem dX9_takeNumber_13 : decode cX9_takeNumber 13 = .ok (.if_icmp .ge 68, 3) := by decide +kernel
theorem dX9_takeNumber_16 : decode cX9_takeNumber 16 = .ok (.aload_n 0, 1) := by decide +kernel
theorem dX9_takeNumber_17 : decode cX9_takeNumber 17 = .ok (.getfield 7, 3) := by decide +kernel
theorem dX9_takeNumber_20 : decode cX9_takeNumber 20 = .ok (.aload_n 0, 1) := by decide +kernel
theorem dX9_takeNumber_21 : decode cX9_takeNumber 21 = .ok (.getfield 50, 3) := by decide +kernel
theorem dX9_takeNumber_24 : decode cX9_takeNumber 24 = .ok (.baload, 1) := by decide +kernel
theorem dX9_takeNumber_25 : decode cX9_takeNumber 25 = .ok (.bipush 48, 2) := by decide +kernel
theorem dX9_takeNumber_27 : decode cX9_takeNumber 27 = .ok (.if_icmp .lt 54, 3) := by decide +kernel
theorem dX9_takeNumber_30 : decode cX9_takeNumber 30 = .ok (.aload_n 0, 1) := by decide +kernel
theorem dX9_takeNumber_31 : decode cX9_takeNumber 31 = .ok (.getfield 7, 3) := by decide +kernel
theorem dX9_takeNumber_34 : decode cX9_takeNumber 34 = .ok (.aload_n 0, 1) := by decide +kernel
theorem dX9_takeNumber_35 : decode cX9_takeNumber 35 = .ok (.getfield 50, 3) := by decide +kernel
theorem dX9_takeNumber_38 : decode cX9_takeNumber 38 = .ok (.baload, 1) := by decide +kernel
theorem dX9_takeNumber_39 : decode cX9_takeNumber 39 = .ok (.bipush 57, 2) := by decide +kernel
theorem dX9_takeNumber_41 : decode cX9_takeNumber 41 = .ok (.if_icmp .gt 40, 3) := by decide +kernel
theorem dX9_takeNumber_44 : decode cX9_takeNumber 44 = .ok (.aload_n 0, 1) := by decide +kernel
theorem dX9_takeNumber_45 : decode cX9_takeNumber 45 = .ok (.aload_n 0, 1) := by decide +kernel
theorem dX9_takeNumber_46 : decode cX9_takeNumber 46 = .ok (.getfield 87, 3) := by decide +kernel
theorem dX9_takeNumber_49 : decode cX9_takeNumber 49 = .ok (.bipush 10, 2) := by decide +kernel
theorem dX9_takeNumber_51 : decode cX9_takeNumber 51 = .ok (.imul, 1) := by decide +kernel
theorem dX9_takeNumber_52 : decode cX9_takeNumber 52 = .ok (.aload_n 0, 1) := by decide +kernel
theorem dX9_takeNumber_53 : decode cX9_takeNumber 53 = .ok (.getfield 7, 3) := by decide +kernel
theorem dX9_takeNumber_56 : decode cX9_takeNumber 56 = .ok (.aload_n 0, 1) := by decide +kernel
theorem dX9_takeNumber_57 : decode cX9_takeNumber 57 = .ok (.getfield 50, 3) := by decide +kernel
theorem dX9_takeNumber_60 : decode cX9_takeNumber 60 = .ok (.baload, 1) := by decide +kernel
theorem dX9_takeNumber_61 : decode cX9_takeNumber 61 = .ok (.bipush 48, 2) := by decide +kernel
theorem dX9_takeNumber_63 : decode cX9_takeNumber 63 = .ok (.isub, 1) := by decide +kernel
theorem dX9_takeNumber_64 : decode cX9_takeNumber 64 = .ok (.iadd, 1) := by decide +kernel
theorem dX9_takeNumber_65 : decode cX9_takeNumber 65 = .ok (.putfield 87, 3) := by decide +kernel
theorem dX9_takeNumber_68 : decode cX9_takeNumber 68 = .ok (.aload_n 0, 1) := by decide +kernel
theorem dX9_takeNumber_69 : decode cX9_takeNumber 69 = .ok (.dup, 1) := by decide +kernel
theorem dX9_takeNumber_70 : decode cX9_takeNumber 70 = .ok (.getfield 50, 3) := by decide +kernel
theorem dX9_takeNumber_73 : decode cX9_takeNumber 73 = .ok (.iconst 1, 1) := by decide +kernel
theorem dX9_takeNumber_74 : decode cX9_takeNumber 74 = .ok (.iadd, 1) := by decide +kernel
theorem dX9_takeNumber_75 : decode cX9_takeNumber 75 = .ok (.putfield 50, 3) := by decide +kernel
theorem dX9_takeNumber_78 : decode cX9_takeNumber 78 = .ok (.goto (-73), 3) := by decide +kernel
theorem dX9_takeNumber_81 : decode cX9_takeNumber 81 = .ok (.aload_n 0, 1) := by decide +kernel
theorem dX9_takeNumber_82 : decode cX9_takeNumber 82 = .ok (.getfield 50, 3) := by decide +kernel
theorem dX9_takeNumber_85 : decode cX9_takeNumber 85 = .ok (.aload_n 0, 1) := by decide +kernel
theorem dX9_takeNumber_86 : decode cX9_takeNumber 86 = .ok (.getfield 47, 3) := by decide +kernel
theorem dX9_takeNumber_89 : decode cX9_takeNumber 89 = .ok (.if_icmp .ge 35, 3) := by decide +kernel
theorem dX9_takeNumber_92 : decode cX9_takeNumber 92 = .ok (.aload_n 0, 1) := by decide +kernel
theorem dX9_takeNumber_93 : decode cX9_takeNumber 93 = .ok (.getfield 7, 3) := by decide +kernel
theorem dX9_takeNumber_96 : decode cX9_takeNumber 96 = .ok (.aload_n 0, 1) := by decide +kernel
theorem dX9_takeNumber_97 : decode cX9_takeNumber 97 = .ok (.getfield 50, 3) := by decide +kernel
theorem dX9_takeNumber_100 : decode cX9_takeNumber 100 = .ok (.baload, 1) := by decide +kernel
theorem dX9_takeNumber_101 : decode cX9_takeNumber 101 = .ok (.bipush 97, 2) := by decide +kernel
theorem dX9_takeNumber_103 : decode cX9_takeNumber 103 = .ok (.if_icmp .lt 21, 3) := by decide +kernel
theorem dX9_takeNumber_106 : decode cX9_takeNumber 106 = .ok (.aload_n 0, 1) := by decide +kernel
theorem dX9_takeNumber_107 : decode cX9_takeNumber 107 = .ok (.getfield 7, 3) := by decide +kernel
theorem dX9_takeNumber_110 : decode cX9_takeNumber 110 = .ok (.aload_n 0, 1) := by decide +kernel
theorem dX9_takeNumber_111 : decode cX9_takeNumber 111 = .ok (.getfield 50, 3) := by decide +kernel
theorem dX9_takeNumber_114 : decode cX9_takeNumber 114 = .ok (.baload, 1) := by decide +kernel
theorem dX9_takeNumber_115 : decode cX9_takeNumber 115 = .ok (.bipush 122, 2) := by decide +kernel
theorem dX9_takeNumber_117 : decode cX9_takeNumber 117 = .ok (.if_icmp .gt 7, 3) := by decide +kernel
theorem dX9_takeNumber_120 : decode cX9_takeNumber 120 = .ok (.iconst 1, 1) := by decide +kernel
theorem dX9_takeNumber_121 : decode cX9_takeNumber 121 = .ok (.goto 4, 3) := by decide +kernel
theorem dX9_takeNumber_124 : decode cX9_takeNumber 124 = .ok (.iconst 0, 1) := by decide +kernel
theorem dX9_takeNumber_125 : decode cX9_takeNumber 125 = .ok (.istore_n 1, 1) := by decide +kernel
theorem dX9_takeNumber_126 : decode cX9_takeNumber 126 = .ok (.aload_n 0, 1) := by decide +kernel
theorem dX9_takeNumber_127 : decode cX9_takeNumber 127 = .ok (.aload_n 0, 1) := by decide +kernel
theorem dX9_takeNumber_128 : decode cX9_takeNumber 128 = .ok (.getfield 50, 3) := by decide +kernel
theorem dX9_takeNumber_131 : decode cX9_takeNumber 131 = .ok (.aload_n 0, 1) := by decide +kernel
theorem dX9_takeNumber_132 : decode cX9_takeNumber 132 = .ok (.getfield 64, 3) := by decide +kernel
theorem dX9_takeNumber_135 : decode cX9_takeNumber 135 = .ok (.isub, 1) := by decide +kernel
theorem dX9_takeNumber_136 : decode cX9_takeNumber 136 = .ok (.iconst 4, 1) := by decide +kernel
theorem dX9_takeNumber_137 : decode cX9_takeNumber 137 = .ok (.if_icmp .gt 7, 3) := by decide +kernel
theorem dX9_takeNumber_140 : decode cX9_takeNumber 140 = .ok (.iload_n 1, 1) := by decide +kernel
theorem dX9_takeNumber_141 : decode cX9_takeNumber 141 = .ok (.ifCond .eq 7, 3) := by decide +kernel
theorem dX9_takeNumber_144 : decode cX9_takeNumber 144 = .ok (.iconst 1, 1) := by decide +kernel
theorem dX9_takeNumber_145 : decode cX9_takeNumber 145 = .ok (.goto 4, 3) := by decide +kernel
theorem dX9_takeNumber_148 : decode cX9_takeNumber 148 = .ok (.iconst 2, 1) := by decide +kernel
theorem dX9_takeNumber_149 : decode cX9_takeNumber 149 = .ok (.putfield 67, 3) := by decide +kernel
theorem dX9_takeNumber_152 : decode cX9_takeNumber 152 = .ok (.return_, 1) := by decide +kernel
theorem dX9_take_0 : decode cX9_take 0 = .ok (.aload_n 0, 1) := by decide +kernel
theorem dX9_take_1 : decode cX9_take 1 = .ok (.getfield 67, 3) := by decide +kernel
theorem dX9_take_4 : decode cX9_take 4 = .ok (.iload_n 1, 1) := by decide +kernel
theorem dX9_take_5 : decode cX9_take 5 = .ok (.if_icmp .ne 10, 3) := by decide +kernel
theorem dX9_take_8 : decode cX9_take 8 = .ok (.aload_n 0, 1) := by decide +kernel
theorem dX9_take_9 : decode cX9_take 9 = .ok (.invokevirtual 61, 3) := by decide +kernel
theorem dX9_take_12 : decode cX9_take 12 = .ok (.goto 7, 3) := by decide +kernel
theorem dX9_take_15 : decode cX9_take 15 = .ok (.aload_n 0, 1) := by decide +kernel
theorem dX9_take_16 : decode cX9_take 16 = .ok (.invokevirtual 90, 3) := by decide +kernel
theorem dX9_take_19 : decode cX9_take 19 = .ok (.return_, 1) := by decide +kernel
theorem dX9_refuse_0 : decode cX9_refuse 0 = .ok (.aload_n 0, 1) := by decide +kernel
theorem dX9_refuse_1 : decode cX9_refuse 1 = .ok (.aload_n 0, 1) := by decide +kernel
theorem dX9_refuse_2 : decode cX9_refuse 2 = .ok (.getfield 67, 3) := by decide +kernel
theorem dX9_refuse_5 : decode cX9_refuse 5 = .ok (.iconst 1, 1) := by decide +kernel
theorem dX9_refuse_6 : decode cX9_refuse 6 = .ok (.if_icmp .ne 7, 3) := by decide +kernel
theorem dX9_refuse_9 : decode cX9_refuse 9 = .ok (.iconst 1, 1) := by decide +kernel
theorem dX9_refuse_10 : decode cX9_refuse 10 = .ok (.goto 4, 3) := by decide +kernel
theorem dX9_refuse_13 : decode cX9_refuse 13 = .ok (.iconst 2, 1) := by decide +kernel
theorem dX9_refuse_14 : decode cX9_refuse 14 = .ok (.aload_n 0, 1) := by decide +kernel
theorem dX9_refuse_15 : decode cX9_refuse 15 = .ok (.getfield 64, 3) := by decide +kernel
theorem dX9_refuse_18 : decode cX9_refuse 18 = .ok (.invokevirtual 93, 3) := by decide +kernel
theorem dX9_refuse_21 : decode cX9_refuse 21 = .ok (.return_, 1) := by decide +kernel
theorem dX9_fail_0 : decode cX9_fail 0 = .ok (.aload_n 0, 1) := by decide +kernel
theorem dX9_fail_1 : decode cX9_fail 1 = .ok (.getfield 53, 3) := by decide +kernel
theorem dX9_fail_4 : decode cX9_fail 4 = .ok (.ifCond .ne 13, 3) := by decide +kernel
theorem dX9_fail_7 : decode cX9_fail 7 = .ok (.aload_n 0, 1) := by decide +kernel
theorem dX9_fail_8 : decode cX9_fail 8 = .ok (.iload_n 1, 1) := by decide +kernel
theorem dX9_fail_9 : decode cX9_fail 9 = .ok (.putfield 53, 3) := by decide +kernel
theorem dX9_fail_12 : decode cX9_fail 12 = .ok (.aload_n 0, 1) := by decide +kernel
theorem dX9_fail_13 : decode cX9_fail 13 = .ok (.iload_n 2, 1) := by decide +kernel
theorem dX9_fail_14 : decode cX9_fail 14 = .ok (.putfield 58, 3) := by decide +kernel
theorem dX9_fail_17 : decode cX9_fail 17 = .ok (.aload_n 0, 1) := by decide +kernel
theorem dX9_fail_18 : decode cX9_fail 18 = .ok (.iconst 0, 1) := by decide +kernel
theorem dX9_fail_19 : decode cX9_fail 19 = .ok (.putfield 67, 3) := by decide +kernel
theorem dX9_fail_22 : decode cX9_fail 22 = .ok (.return_, 1) := by decide +kernel
theorem dX10_init_0 : decode cX10_init 0 = .ok (.aload_n 0, 1) := by decide +kernel
theorem dX10_init_1 : decode cX10_init 1 = .ok (.invokespecial 3, 3) := by decide +kernel
theorem dX10_init_4 : decode cX10_init 4 = .ok (.aload_n 0, 1) := by decide +kernel
theorem dX10_init_5 : decode cX10_init 5 = .ok (.aload_n 1, 1) := by decide +kernel
theorem dX10_init_6 : decode cX10_init 6 = .ok (.putfield 9, 3) := by decide +kernel
theorem dX10_init_9 : decode cX10_init 9 = .ok (.aload_n 0, 1) := by decide +kernel
theorem dX10_init_10 : decode cX10_init 10 = .ok (.aload_n 2, 1) := by decide +kernel
theorem dX10_init_11 : decode cX10_init 11 = .ok (.putfield 15, 3) := by decide +kernel
theorem dX10_init_14 : decode cX10_init 14 = .ok (.aload_n 0, 1) := by decide +kernel
theorem dX10_init_15 : decode cX10_init 15 = .ok (.aload_n 3, 1) := by decide +kernel
theorem dX10_init_16 : decode cX10_init 16 = .ok (.putfield 19, 3) := by decide +kernel
theorem dX10_init_19 : decode cX10_init 19 = .ok (.aload_n 0, 1) := by decide +kernel
theorem dX10_init_20 : decode cX10_init 20 = .ok (.bipush 6, 2) := by decide +kernel
theorem dX10_init_22 : decode cX10_init 22 = .ok (.newarray .int, 2) := by decide +kernel
theorem dX10_init_24 : decode cX10_init 24 = .ok (.putfield 25, 3) := by decide +kernel
theorem dX10_init_27 : decode cX10_init 27 = .ok (.aload_n 0, 1) := by decide +kernel
theorem dX10_init_28 : decode cX10_init 28 = .ok (.bipush 6, 2) := by decide +kernel
theorem dX10_init_30 : decode cX10_init 30 = .ok (.newarray .int, 2) := by decide +kernel
theorem dX10_init_32 : decode cX10_init 32 = .ok (.putfield 29, 3) := by decide +kernel
theorem dX10_init_35 : decode cX10_init 35 = .ok (.aload_n 0, 1) := by decide +kernel
theorem dX10_init_36 : decode cX10_init 36 = .ok (.bipush 60, 2) := by decide +kernel
theorem dX10_init_38 : decode cX10_init 38 = .ok (.newarray .int, 2) := by decide +kernel
theorem dX10_init_40 : decode cX10_init 40 = .ok (.putfield 32, 3) := by decide +kernel
theorem dX10_init_43 : decode cX10_init 43 = .ok (.aload_n 0, 1) := by decide +kernel
theorem dX10_init_44 : decode cX10_init 44 = .ok (.bipush 60, 2) := by decide +kernel
theorem dX10_init_46 : decode cX10_init 46 = .ok (.newarray .int, 2) := by decide +kernel
theorem dX10_init_48 : decode cX10_init 48 = .ok (.putfield 35, 3) := by decide +kernel
theorem dX10_init_51 : decode cX10_init 51 = .ok (.return_, 1) := by decide +kernel
theorem dX10_ruleFor_0 : decode cX10_ruleFor 0 = .ok (.iconst 0, 1) := by decide +kernel
theorem dX10_ruleFor_1 : decode cX10_ruleFor 1 = .ok (.istore_n 2, 1) := by decide +kernel
theorem dX10_ruleFor_2 : decode cX10_ruleFor 2 = .ok (.iload_n 2, 1) := by decide +kernel
theorem dX10_ruleFor_3 : decode cX10_ruleFor 3 = .ok (.aload_n 0, 1) := by decide +kernel
theorem dX10_ruleFor_4 : decode cX10_ruleFor 4 = .ok (.getfield 9, 3) := by decide +kernel
theorem dX10_ruleFor_7 : decode cX10_ruleFor 7 = .ok (.getfield 38, 3) := by decide +kernel
theorem dX10_ruleFor_10 : decode cX10_ruleFor 10 = .ok (.if_icmp .ge 27, 3) := by decide +kernel
theorem dX10_ruleFor_13 : decode cX10_ruleFor 13 = .ok (.aload_n 0, 1) := by decide +kernel
theorem dX10_ruleFor_14 : decode cX10_ruleFor 14 = .ok (.getfield 9, 3) := by decide +kernel
theorem dX10_ruleFor_17 : decode cX10_ruleFor 17 = .ok (.iload_n 2, 1) := by decide +kernel
theorem dX10_ruleFor_18 : decode cX10_ruleFor 18 = .ok (.iload_n 1, 1) := by decide +kernel
theorem dX10_ruleFor_19 : decode cX10_ruleFor 19 = .ok (.aload_n 0, 1) := by decide +kernel
theorem dX10_ruleFor_20 : decode cX10_ruleFor 20 = .ok (.getfield 15, 3) := by decide +kernel
theorem dX10_ruleFor_23 : decode cX10_ruleFor 23 = .ok (.invokevirtual 42, 3) := by decide +kernel
theorem dX10_ruleFor_26 : decode cX10_ruleFor 26 = .ok (.ifCond .eq 5, 3) := by decide +kernel
theorem dX10_ruleFor_29 : decode cX10_ruleFor 29 = .ok (.iload_n 2, 1) := by decide +kernel
theorem dX10_ruleFor_30 : decode cX10_ruleFor 30 = .ok (.ireturn, 1) := by decide +kernel
theorem dX10_ruleFor_31 : decode cX10_ruleFor 31 = .ok (.iinc 2 1, 3) := by decide +kernel
theorem dX10_ruleFor_34 : decode cX10_ruleFor 34 = .ok (.goto (-32), 3) := by decide +kernel
theorem dX10_ruleFor_37 : decode cX10_ruleFor 37 = .ok (.iconst (-1), 1) := by decide +kernel
theorem dX10_ruleFor_38 : decode cX10_ruleFor 38 = .ok (.ireturn, 1) := by decide +kernel
theorem dX10_run_0 : decode cX10_run 0 = .ok (.aload_n 0, 1) := by decide +kernel
theorem dX10_run_1 : decode cX10_run 1 = .ok (.iconst 0, 1) := by decide +kernel
theorem dX10_run_2 : decode cX10_run 2 = .ok (.putfield 46, 3) := by decide +kernel
theorem dX10_run_5 : decode cX10_run 5 = .ok (.aload_n 0, 1) := by decide +kernel
theorem dX10_run_6 : decode cX10_run 6 = .ok (.iconst 0, 1) := by decide +kernel
theorem dX10_run_7 : decode cX10_run 7 = .ok (.putfield 49, 3) := by decide +kernel
theorem dX10_run_10 : decode cX10_run 10 = .ok (.aload_n 0, 1) := by decide +kernel
theorem dX10_run_11 : decode cX10_run 11 = .ok (.iconst 0, 1) := by decide +kernel
theorem dX10_run_12 : decode cX10_run 12 = .ok (.putfield 52, 3) := by decide +kernel
theorem dX10_run_15 : decode cX10_run 15 = .ok (.aload_n 0, 1) := by decide +kernel
theorem dX10_run_16 : decode cX10_run 16 = .ok (.iconst 0, 1) := by decide +kernel
theorem dX10_run_17 : decode cX10_run 17 = .ok (.putfield 55, 3) := by decide +kernel
theorem dX10_run_20 : decode cX10_run 20 = .ok (.aload_n 0, 1) := by decide +kernel
theorem dX10_run_21 : decode cX10_run 21 = .ok (.getfield 25, 3) := by decide +kernel
theorem dX10_run_24 : decode cX10_run 24 = .ok (.iconst 0, 1) := by decide +kernel
theorem dX10_run_25 : decode cX10_run 25 = .ok (.invokestatic 58, 3) := by decide +kernel
theorem dX10_run_28 : decode cX10_run 28 = .ok (.aload_n 0, 1) := by decide +kernel
theorem dX10_run_29 : decode cX10_run 29 = .ok (.getfield 29, 3) := by decide +kernel
theorem dX10_run_32 : decode cX10_run 32 = .ok (.iconst 0, 1) := by decide +kernel
theorem dX10_run_33 : decode cX10_run 33 = .ok (.invokestatic 58, 3) := by decide +kernel
theorem dX10_run_36 : decode cX10_run 36 = .ok (.iconst 0, 1) := by decide +kernel
theorem dX10_run_37 : decode cX10_run 37 = .ok (.istore_n 1, 1) := by decide +kernel
theorem dX10_run_38 : decode cX10_run 38 = .ok (.iload_n 1, 1) := by decide +kernel
theorem dX10_run_39 : decode cX10_run 39 = .ok (.bipush 60, 2) := by decide +kernel
theorem dX10_run_41 : decode cX10_run 41 = .ok (.if_icmp .ge 52, 3) := by decide +kernel
theorem dX10_run_44 : decode cX10_run 44 = .ok (.aload_n 0, 1) := by decide +kernel
theorem dX10_run_45 : decode cX10_run 45 = .ok (.getfield 15, 3) := by decide +kernel
theorem dX10_run_48 : decode cX10_run 48 = .ok (.iconst 2, 1) := by decide +kernel
theorem dX10_run_49 : decode cX10_run 49 = .ok (.iload_n 1, 1) := by decide +kernel
theorem dX10_run_50 : decode cX10_run 50 = .ok (.iconst 1, 1) := by decide +kernel
theorem dX10_run_51 : decode cX10_run 51 = .ok (.iadd, 1) := by decide +kernel
theorem dX10_run_52 : decode cX10_run 52 = .ok (.invokevirtual 64, 3) := by decide +kernel
theorem dX10_run_55 : decode cX10_run 55 = .ok (.istore_n 2, 1) := by decide +kernel
theorem dX10_run_56 : decode cX10_run 56 = .ok (.iload_n 2, 1) := by decide +kernel
theorem dX10_run_57 : decode cX10_run 57 = .ok (.ldc 70, 2) := by decide +kernel
theorem dX10_run_59 : decode cX10_run 59 = .ok (.if_icmp .eq 28, 3) := by decide +kernel
theorem dX10_run_62 : decode cX10_run 62 = .ok (.aload_n 0, 1) := by decide +kernel
theorem dX10_run_63 : decode cX10_run 63 = .ok (.getfield 19, 3) := by decide +kernel
theorem dX10_run_66 : decode cX10_run 66 = .ok (.iload_n 1, 1) := by decide +kernel
theorem dX10_run_67 : decode cX10_run 67 = .ok (.invokevirtual 71, 3) := by decide +kernel
theorem dX10_run_70 : decode cX10_run 70 = .ok (.ifCond .ne 17, 3) := by decide +kernel
theorem dX10_run_73 : decode cX10_run 73 = .ok (.aload_n 0, 1) := by decide +kernel
theorem dX10_run_74 : decode cX10_run 74 = .ok (.iload_n 1, 1) := by decide +kernel
theorem dX10_run_75 : decode cX10_run 75 = .ok (.iload_n 2, 1) := by decide +kernel
theorem dX10_run_76 : decode cX10_run 76 = .ok (.ifCond .le 7, 3) := by decide +kernel
theorem dX10_run_79 : decode cX10_run 79 = .ok (.iconst 1, 1) := by decide +kernel
theorem dX10_run_80 : decode cX10_run 80 = .ok (.goto 4, 3) := by decide +kernel
theorem dX10_run_83 : decode cX10_run 83 = .ok (.iconst 0, 1) := by decide +kernel
theorem dX10_run_84 : decode cX10_run 84 = .ok (.invokevirtual 77, 3) := by decide +kernel
theorem dX10_run_87 : decode cX10_run 87 = .ok (.iinc 1 1, 3) := by decide +kernel
theorem dX10_run_90 : decode cX10_run 90 = .ok (.goto (-52), 3) := by decide +kernel
theorem dX10_run_93 : decode cX10_run 93 = .ok (.return_, 1) := by decide +kernel
theorem dX10_tryDay_0 : decode cX10_tryDay 0 = .ok (.aload_n 0, 1) := by decide +kernel
theorem dX10_tryDay_1 : decode cX10_tryDay 1 = .ok (.iload_n 1, 1) := by decide +kernel
theorem dX10_tryDay_2 : decode cX10_tryDay 2 = .ok (.invokevirtual 81, 3) := by decide +kernel
theorem dX10_tryDay_5 : decode cX10_tryDay 5 = .ok (.istore_n 3, 1) := by decide +kernel
theorem dX10_tryDay_6 : decode cX10_tryDay 6 = .ok (.iload_n 3, 1) := by decide +kernel
theorem dX10_tryDay_7 : decode cX10_tryDay 7 = .ok (.iconst (-1), 1) := by decide +kernel
theorem dX10_tryDay_8 : decode cX10_tryDay 8 = .ok (.if_icmp .ne 4, 3) := by decide +kernel
theorem dX10_tryDay_11 : decode cX10_tryDay 11 = .ok (.return_, 1) := by decide +kernel
theorem dX10_tryDay_12 : decode cX10_tryDay 12 = .ok (.aload_n 0, 1) := by decide +kernel
theorem dX10_tryDay_13 : decode cX10_tryDay 13 = .ok (.getfield 9, 3) := by decide +kernel
theorem dX10_tryDay_16 : decode cX10_tryDay 16 = .ok (.getfield 85, 3) := by decide +kernel
theorem dX10_tryDay_19 : decode cX10_tryDay 19 = .ok (.iload_n 3, 1) := by decide +kernel
theorem dX10_tryDay_20 : decode cX10_tryDay 20 = .ok (.iaload, 1) := by decide +kernel
theorem dX10_tryDay_21 : decode cX10_tryDay 21 = .ok (.iload_n 2, 1) := by decide +kernel
theorem dX10_tryDay_22 : decode cX10_tryDay 22 = .ok (.if_icmp .ne 7, 3) := by decide +kernel
theorem dX10_tryDay_25 : decode cX10_tryDay 25 = .ok (.iconst 1, 1) := by decide +kernel
theorem dX10_tryDay_26 : decode cX10_tryDay 26 = .ok (.goto 4, 3) := by decide +kernel
theorem dX10_tryDay_29 : decode cX10_tryDay 29 = .ok (.iconst 0, 1) := by decide +kernel
theorem dX10_tryDay_30 : decode cX10_tryDay 30 = .ok (.istore 4, 2) := by decide +kernel
theorem dX10_tryDay_32 : decode cX10_tryDay 32 = .ok (.aload_n 0, 1) := by decide +kernel
theorem dX10_tryDay_33 : decode cX10_tryDay 33 = .ok (.dup, 1) := by decide +kernel
theorem dX10_tryDay_34 : decode cX10_tryDay 34 = .ok (.getfield 46, 3) := by decide +kernel
theorem dX10_tryDay_37 : decode cX10_tryDay 37 = .ok (.iconst 1, 1) := by decide +kernel
theorem dX10_tryDay_38 : decode cX10_tryDay 38 = .ok (.iadd, 1) := by decide +kernel
theorem dX10_tryDay_39 : decode cX10_tryDay 39 = .ok (.putfield 46, 3) := by decide +kernel
theorem dX10_tryDay_42 : decode cX10_tryDay 42 = .ok (.aload_n 0, 1) := by decide +kernel
theorem dX10_tryDay_43 : decode cX10_tryDay 43 = .ok (.dup, 1) := by decide +kernel
theorem dX10_tryDay_44 : decode cX10_tryDay 44 = .ok (.getfield 49, 3) := by decide +kernel
theorem dX10_tryDay_47 : decode cX10_tryDay 47 = .ok (.iload 4, 2) := by decide +kernel
theorem dX10_tryDay_49 : decode cX10_tryDay 49 = .ok (.iadd, 1) := by decide +kernel
theorem dX10_tryDay_50 : decode cX10_tryDay 50 = .ok (.putfield 49, 3) := by decide +kernel
theorem dX10_tryDay_53 : decode cX10_tryDay 53 = .ok (.aload_n 0, 1) := by decide +kernel
theorem dX10_tryDay_54 : decode cX10_tryDay 54 = .ok (.dup, 1) := by decide +kernel
theorem dX10_tryDay_55 : decode cX10_tryDay 55 = .ok (.getfield 52, 3) := by decide +kernel
theorem dX10_tryDay_58 : decode cX10_tryDay 58 = .ok (.iload_n 2, 1) := by decide +kernel
theorem dX10_tryDay_59 : decode cX10_tryDay 59 = .ok (.iadd, 1) := by decide +kernel
theorem dX10_tryDay_60 : decode cX10_tryDay 60 = .ok (.putfield 52, 3) := by decide +kernel
theorem dX10_tryDay_63 : decode cX10_tryDay 63 = .ok (.aload_n 0, 1) := by decide +kernel
theorem dX10_tryDay_64 : decode cX10_tryDay 64 = .ok (.dup, 1) := by decide +kernel
theorem dX10_tryDay_65 : decode cX10_tryDay 65 = .ok (.getfield 55, 3) := by decide +kernel
theorem dX10_tryDay_68 : decode cX10_tryDay 68 = .ok (.aload_n 0, 1) := by decide +kernel
theorem dX10_tryDay_69 : decode cX10_tryDay 69 = .ok (.getfield 9, 3) := by decide +kernel
theorem dX10_tryDay_72 : decode cX10_tryDay 72 = .ok (.getfield 85, 3) := by decide +kernel
theorem dX10_tryDay_75 : decode cX10_tryDay 75 = .ok (.iload_n 3, 1) := by decide +kernel
theorem dX10_tryDay_76 : decode cX10_tryDay 76 = .ok (.iaload, 1) := by decide +kernel
theorem dX10_tryDay_77 : decode cX10_tryDay 77 = .ok (.iadd, 1) := by decide +kernel
theorem dX10_tryDay_78 : decode cX10_tryDay 78 = .ok (.putfield 55, 3) := by decide +kernel
theorem dX10_tryDay_81 : decode cX10_tryDay 81 = .ok (.aload_n 0, 1) := by decide +kernel
theorem dX10_tryDay_82 : decode cX10_tryDay 82 = .ok (.getfield 25, 3) := by decide +kernel
theorem dX10_tryDay_85 : decode cX10_tryDay 85 = .ok (.iload_n 3, 1) := by decide +kernel
theorem dX10_tryDay_86 : decode cX10_tryDay 86 = .ok (.dup2, 1) := by decide +kernel
theorem dX10_tryDay_87 : decode cX10_tryDay 87 = .ok (.iaload, 1) := by decide +kernel
theorem dX10_tryDay_88 : decode cX10_tryDay 88 = .ok (.iconst 1, 1) := by decide +kernel
theorem dX10_tryDay_89 : decode cX10_tryDay 89 = .ok (.iadd, 1) := by decide +kernel
theorem dX10_tryDay_90 : decode cX10_tryDay 90 = .ok (.iastore, 1) := by decide +kernel
theorem dX10_tryDay_91 : decode cX10_tryDay 91 = .ok (.aload_n 0, 1) := by decide +kernel
theorem dX10_tryDay_92 : decode cX10_tryDay 92 = .ok (.getfield 29, 3) := by decide +kernel
theorem dX10_tryDay_95 : decode cX10_tryDay 95 = .ok (.iload_n 3, 1) := by decide +kernel
theorem dX10_tryDay_96 : decode cX10_tryDay 96 = .ok (.dup2, 1) := by decide +kernel
theorem dX10_tryDay_97 : decode cX10_tryDay 97 = .ok (.iaload, 1) := by decide +kernel
theorem dX10_tryDay_98 : decode cX10_tryDay 98 = .ok (.iload 4, 2) := by decide +kernel
theorem dX10_tryDay_100 : decode cX10_tryDay 100 = .ok (.iadd, 1) := by decide +kernel
theorem dX10_tryDay_101 : decode cX10_tryDay 101 = .ok (.iastore, 1) := by decide +kernel
theorem dX10_tryDay_102 : decode cX10_tryDay 102 = .ok (.return_, 1) := by decide +kernel
theorem dX10_worth_0 : decode cX10_worth 0 = .ok (.aload_n 0, 1) := by decide +kernel
theorem dX10_worth_1 : decode cX10_worth 1 = .ok (.getfield 49, 3) := by decide +kernel
theorem dX10_worth_4 : decode cX10_worth 4 = .ok (.aload_n 0, 1) := by decide +kernel
theorem dX10_worth_5 : decode cX10_worth 5 = .ok (.getfield 52, 3) := by decide +kernel
theorem dX10_worth_8 : decode cX10_worth 8 = .ok (.aload_n 0, 1) := by decide +kernel
theorem dX10_worth_9 : decode cX10_worth 9 = .ok (.getfield 46, 3) := by decide +kernel
theorem dX10_worth_12 : decode cX10_worth 12 = .ok (.aload_n 0, 1) := by decide +kernel
theorem dX10_worth_13 : decode cX10_worth 13 = .ok (.getfield 52, 3) := by decide +kernel
theorem dX10_worth_16 : decode cX10_worth 16 = .ok (.isub, 1) := by decide +kernel
theorem dX10_worth_17 : decode cX10_worth 17 = .ok (.invokestatic 88, 3) := by decide +kernel
theorem dX10_worth_20 : decode cX10_worth 20 = .ok (.isub, 1) := by decide +kernel
theorem dX10_worth_21 : decode cX10_worth 21 = .ok (.ireturn, 1) := by decide +kernel
theorem dX10_chance_0 : decode cX10_chance 0 = .ok (.aload_n 0, 1) := by decide +kernel
theorem dX10_chance_1 : decode cX10_chance 1 = .ok (.getfield 46, 3) := by decide +kernel
theorem dX10_chance_4 : decode cX10_chance 4 = .ok (.aload_n 0, 1) := by decide +kernel
theorem dX10_chance_5 : decode cX10_chance 5 = .ok (.getfield 52, 3) := by decide +kernel
theorem dX10_chance_8 : decode cX10_chance 8 = .ok (.invokestatic 93, 3) := by decide +kernel
theorem dX10_chance_11 : decode cX10_chance 11 = .ok (.lstore_n 2, 1) := by decide +kernel
theorem dX10_chance_12 : decode cX10_chance 12 = .ok (.lconst 0, 1) := by decide +kernel
theorem dX10_chance_13 : decode cX10_chance 13 = .ok (.lstore 4, 2) := by decide +kernel
theorem dX10_chance_15 : decode cX10_chance 15 = .ok (.iconst 0, 1) := by decide +kernel
theorem dX10_chance_16 : decode cX10_chance 16 = .ok (.istore 6, 2) := by decide +kernel
theorem dX10_chance_18 : decode cX10_chance 18 = .ok (.iload 6, 2) := by decide +kernel
theorem dX10_chance_20 : decode cX10_chance 20 = .ok (.aload_n 0, 1) := by decide +kernel
theorem dX10_chance_21 : decode cX10_chance 21 = .ok (.getfield 55, 3) := by decide +kernel
theorem dX10_chance_24 : decode cX10_chance 24 = .ok (.if_icmp .gt 78, 3) := by decide +kernel
theorem dX10_chance_27 : decode cX10_chance 27 = .ok (.aload_n 0, 1) := by decide +kernel
theorem dX10_chance_28 : decode cX10_chance 28 = .ok (.getfield 52, 3) := by decide +kernel
theorem dX10_chance_31 : decode cX10_chance 31 = .ok (.iload 6, 2) := by decide +kernel
theorem dX10_chance_33 : decode cX10_chance 33 = .ok (.isub, 1) := by decide +kernel
theorem dX10_chance_34 : decode cX10_chance 34 = .ok (.istore 7, 2) := by decide +kernel
theorem dX10_chance_36 : decode cX10_chance 36 = .ok (.aload_n 0, 1) := by decide +kernel
theorem dX10_chance_37 : decode cX10_chance 37 = .ok (.getfield 46, 3) := by decide +kernel
theorem dX10_chance_40 : decode cX10_chance 40 = .ok (.aload_n 0, 1) := by decide +kernel
theorem dX10_chance_41 : decode cX10_chance 41 = .ok (.getfield 55, 3) := by decide +kernel
theorem dX10_chance_44 : decode cX10_chance 44 = .ok (.isub, 1) := by decide +kernel
theorem dX10_chance_45 : decode cX10_chance 45 = .ok (.istore 8, 2) := by decide +kernel
theorem dX10_chance_47 : decode cX10_chance 47 = .ok (.iload 7, 2) := by decide +kernel
theorem dX10_chance_49 : decode cX10_chance 49 = .ok (.ifCond .lt 47, 3) := by decide +kernel
theorem dX10_chance_52 : decode cX10_chance 52 = .ok (.iload 7, 2) := by decide +kernel
theorem dX10_chance_54 : decode cX10_chance 54 = .ok (.iload 8, 2) := by decide +kernel
theorem dX10_chance_56 : decode cX10_chance 56 = .ok (.if_icmp .gt 40, 3) := by decide +kernel
theorem dX10_chance_59 : decode cX10_chance 59 = .ok (.iload 6, 2) := by decide +kernel
theorem dX10_chance_61 : decode cX10_chance 61 = .ok (.iload 8, 2) := by decide +kernel
theorem dX10_chance_63 : decode cX10_chance 63 = .ok (.iadd, 1) := by decide +kernel
theorem dX10_chance_64 : decode cX10_chance 64 = .ok (.iload 7, 2) := by decide +kernel
theorem dX10_chance_66 : decode cX10_chance 66 = .ok (.isub, 1) := by decide +kernel
theorem dX10_chance_67 : decode cX10_chance 67 = .ok (.aload_n 0, 1) := by decide +kernel
theorem dX10_chance_68 : decode cX10_chance 68 = .ok (.getfield 49, 3) := by decide +kernel
theorem dX10_chance_71 : decode cX10_chance 71 = .ok (.if_icmp .lt 25, 3) := by decide +kernel
theorem dX10_chance_74 : decode cX10_chance 74 = .ok (.lload 4, 2) := by decide +kernel
theorem dX10_chance_76 : decode cX10_chance 76 = .ok (.aload_n 0, 1) := by decide +kernel
theorem dX10_chance_77 : decode cX10_chance 77 = .ok (.getfield 55, 3) := by decide +kernel
theorem dX10_chance_80 : decode cX10_chance 80 = .ok (.iload 6, 2) := by decide +kernel
theorem dX10_chance_82 : decode cX10_chance 82 = .ok (.invokestatic 93, 3) := by decide +kernel
theorem dX10_chance_85 : decode cX10_chance 85 = .ok (.iload 8, 2) := by decide +kernel
theorem dX10_chance_87 : decode cX10_chance 87 = .ok (.iload 7, 2) := by decide +kernel
theorem dX10_chance_89 : decode cX10_chance 89 = .ok (.invokestatic 93, 3) := by decide +kernel
theorem dX10_chance_92 : decode cX10_chance 92 = .ok (.lmul, 1) := by decide +kernel
theorem dX10_chance_93 : decode cX10_chance 93 = .ok (.ladd, 1) := by decide +kernel
theorem dX10_chance_94 : decode cX10_chance 94 = .ok (.lstore 4, 2) := by decide +kernel
theorem dX10_chance_96 : decode cX10_chance 96 = .ok (.iinc 6 1, 3) := by decide +kernel
theorem dX10_chance_99 : decode cX10_chance 99 = .ok (.goto (-81), 3) := by decide +kernel
theorem dX10_chance_102 : decode cX10_chance 102 = .ok (.lload 4, 2) := by decide +kernel
theorem dX10_chance_104 : decode cX10_chance 104 = .ok (.lload_n 2, 1) := by decide +kernel
theorem dX10_chance_105 : decode cX10_chance 105 = .ok (.invokestatic 97, 3) := by decide +kernel
theorem dX10_chance_108 : decode cX10_chance 108 = .ok (.lstore 6, 2) := by decide +kernel
theorem dX10_chance_110 : decode cX10_chance 110 = .ok (.lload 6, 2) := by decide +kernel
theorem dX10_chance_112 : decode cX10_chance 112 = .ok (.lconst 0, 1) := by decide +kernel
theorem dX10_chance_113 : decode cX10_chance 113 = .ok (.lcmp, 1) := by decide +kernel
theorem dX10_chance_114 : decode cX10_chance 114 = .ok (.ifCond .ne 7, 3) := by decide +kernel
theorem dX10_chance_117 : decode cX10_chance 117 = .ok (.ldc2_w 101, 3) := by decide +kernel
theorem dX10_chance_120 : decode cX10_chance 120 = .ok (.lreturn, 1) := by decide +kernel
theorem dX10_chance_121 : decode cX10_chance 121 = .ok (.iload_n 1, 1) := by decide +kernel
theorem dX10_chance_122 : decode cX10_chance 122 = .ok (.ifCond .ne 11, 3) := by decide +kernel
theorem dX10_chance_125 : decode cX10_chance 125 = .ok (.lload 4, 2) := by decide +kernel
theorem dX10_chance_127 : decode cX10_chance 127 = .ok (.lload 6, 2) := by decide +kernel
theorem dX10_chance_129 : decode cX10_chance 129 = .ok (.ldiv, 1) := by decide +kernel
theorem dX10_chance_130 : decode cX10_chance 130 = .ok (.goto 7, 3) := by decide +kernel
theorem dX10_chance_133 : decode cX10_chance 133 = .ok (.lload_n 2, 1) := by decide +kernel
theorem dX10_chance_134 : decode cX10_chance 134 = .ok (.lload 6, 2) := by decide +kernel
theorem dX10_chance_136 : decode cX10_chance 136 = .ok (.ldiv, 1) := by decide +kernel
theorem dX10_chance_137 : decode cX10_chance 137 = .ok (.lreturn, 1) := by decide +kernel
theorem dX10_choices_0 : decode cX10_choices 0 = .ok (.lconst 1, 1) := by decide +kernel
theorem dX10_choices_1 : decode cX10_choices 1 = .ok (.lstore_n 2, 1) := by decide +kernel
theorem dX10_choices_2 : decode cX10_choices 2 = .ok (.iconst 1, 1) := by decide +kernel
theorem dX10_choices_3 : decode cX10_choices 3 = .ok (.istore 4, 2) := by decide +kernel
theorem dX10_choices_5 : decode cX10_choices 5 = .ok (.iload 4, 2) := by decide +kernel
theorem dX10_choices_7 : decode cX10_choices 7 = .ok (.iload_n 1, 1) := by decide +kernel
theorem dX10_choices_8 : decode cX10_choices 8 = .ok (.if_icmp .gt 23, 3) := by decide +kernel
theorem dX10_choices_11 : decode cX10_choices 11 = .ok (.lload_n 2, 1) := by decide +kernel
theorem dX10_choices_12 : decode cX10_choices 12 = .ok (.iload_n 0, 1) := by decide +kernel
theorem dX10_choices_13 : decode cX10_choices 13 = .ok (.iload_n 1, 1) := by decide +kernel
theorem dX10_choices_14 : decode cX10_choices 14 = .ok (.isub, 1) := by decide +kernel
theorem dX10_choices_15 : decode cX10_choices 15 = .ok (.iload 4, 2) := by decide +kernel
theorem dX10_choices_17 : decode cX10_choices 17 = .ok (.iadd, 1) := by decide +kernel
theorem dX10_choices_18 : decode cX10_choices 18 = .ok (.i2l, 1) := by decide +kernel
theorem dX10_choices_19 : decode cX10_choices 19 = .ok (.lmul, 1) := by decide +kernel
theorem dX10_choices_20 : decode cX10_choices 20 = .ok (.iload 4, 2) := by decide +kernel
theorem dX10_choices_22 : decode cX10_choices 22 = .ok (.i2l, 1) := by decide +kernel
theorem dX10_choices_23 : decode cX10_choices 23 = .ok (.ldiv, 1) := by decide +kernel
theorem dX10_choices_24 : decode cX10_choices 24 = .ok (.lstore_n 2, 1) := by decide +kernel
theorem dX10_choices_25 : decode cX10_choices 25 = .ok (.iinc 4 1, 3) := by decide +kernel
theorem dX10_choices_28 : decode cX10_choices 28 = .ok (.goto (-23), 3) := by decide +kernel
theorem dX10_choices_31 : decode cX10_choices 31 = .ok (.lload_n 2, 1) := by decide +kernel
theorem dX10_choices_32 : decode cX10_choices 32 = .ok (.lreturn, 1) := by decide +kernel
theorem dX10_commonDivisor_0 : decode cX10_commonDivisor 0 = .ok (.lload_n 0, 1) := by decide +kernel
theorem dX10_commonDivisor_1 : decode cX10_commonDivisor 1 = .ok (.lstore 4, 2) := by decide +kernel
theorem dX10_commonDivisor_3 : decode cX10_commonDivisor 3 = .ok (.lload_n 2, 1) := by decide +kernel
theorem dX10_commonDivisor_4 : decode cX10_commonDivisor 4 = .ok (.lstore 6, 2) := by decide +kernel
theorem dX10_commonDivisor_6 : decode cX10_commonDivisor 6 = .ok (.iconst 0, 1) := by decide +kernel
theorem dX10_commonDivisor_7 : decode cX10_commonDivisor 7 = .ok (.istore 8, 2) := by decide +kernel
theorem dX10_commonDivisor_9 : decode cX10_commonDivisor 9 = .ok (.iload 8, 2) := by decide +kernel
theorem dX10_commonDivisor_11 : decode cX10_commonDivisor 11 = .ok (.sipush 200, 3) := by decide +kernel
theorem dX10_commonDivisor_14 : decode cX10_commonDivisor 14 = .ok (.if_icmp .ge 31, 3) := by decide +kernel
theorem dX10_commonDivisor_17 : decode cX10_commonDivisor 17 = .ok (.lload 6, 2) := by decide +kernel
theorem dX10_commonDivisor_19 : decode cX10_commonDivisor 19 = .ok (.lconst 0, 1) := by decide +kernel
theorem dX10_commonDivisor_20 : decode cX10_commonDivisor 20 = .ok (.lcmp, 1) := by decide +kernel
theorem dX10_commonDivisor_21 : decode cX10_commonDivisor 21 = .ok (.ifCond .eq 24, 3) := by decide +kernel
theorem dX10_commonDivisor_24 : decode cX10_commonDivisor 24 = .ok (.lload 4, 2) := by decide +kernel
theorem dX10_commonDivisor_26 : decode cX10_commonDivisor 26 = .ok (.lload 6, 2) := by decide +kernel
theorem dX10_commonDivisor_28 : decode cX10_commonDivisor 28 = .ok (.lrem, 1) := by decide +kernel
theorem dX10_commonDivisor_29 : decode cX10_commonDivisor 29 = .ok (.lstore 9, 2) := by decide +kernel
theorem dX10_commonDivisor_31 : decode cX10_commonDivisor 31 = .ok (.lload 6, 2) := by decide +kernel
theorem dX10_commonDivisor_33 : decode cX10_commonDivisor 33 = .ok (.lstore 4, 2) := by decide +kernel
theorem dX10_commonDivisor_35 : decode cX10_commonDivisor 35 = .ok (.lload 9, 2) := by decide +kernel
theorem dX10_commonDivisor_37 : decode cX10_commonDivisor 37 = .ok (.lstore 6, 2) := by decide +kernel
theorem dX10_commonDivisor_39 : decode cX10_commonDivisor 39 = .ok (.iinc 8 1, 3) := by decide +kernel
theorem dX10_commonDivisor_42 : decode cX10_commonDivisor 42 = .ok (.goto (-33), 3) := by decide +kernel
theorem dX10_commonDivisor_45 : decode cX10_commonDivisor 45 = .ok (.lload 4, 2) := by decide +kernel
theorem dX10_commonDivisor_47 : decode cX10_commonDivisor 47 = .ok (.lreturn, 1) := by decide +kernel
theorem dX10_learn_0 : decode cX10_learn 0 = .ok (.aload_n 0, 1) := by decide +kernel
theorem dX10_learn_1 : decode cX10_learn 1 = .ok (.iload_n 1, 1) := by decide +kernel
theorem dX10_learn_2 : decode cX10_learn 2 = .ok (.iconst 1, 1) := by decide +kernel
theorem dX10_learn_3 : decode cX10_learn 3 = .ok (.invokevirtual 103, 3) := by decide +kernel
theorem dX10_learn_6 : decode cX10_learn 6 = .ok (.aload_n 0, 1) := by decide +kernel
theorem dX10_learn_7 : decode cX10_learn 7 = .ok (.getfield 107, 3) := by decide +kernel
theorem dX10_learn_10 : decode cX10_learn 10 = .ok (.ifCond .ne 6, 3) := by decide +kernel
theorem dX10_learn_13 : decode cX10_learn 13 = .ok (.ldc 70, 2) := by decide +kernel
theorem dX10_learn_15 : decode cX10_learn 15 = .ok (.ireturn, 1) := by decide +kernel
theorem dX10_learn_16 : decode cX10_learn 16 = .ok (.iconst 0, 1) := by decide +kernel
theorem dX10_learn_17 : decode cX10_learn 17 = .ok (.istore_n 3, 1) := by decide +kernel
theorem dX10_learn_18 : decode cX10_learn 18 = .ok (.bipush (-50), 2) := by decide +kernel
theorem dX10_learn_20 : decode cX10_learn 20 = .ok (.istore 4, 2) := by decide +kernel
theorem dX10_learn_22 : decode cX10_learn 22 = .ok (.iconst (-1), 1) := by decide +kernel
theorem dX10_learn_23 : decode cX10_learn 23 = .ok (.istore 5, 2) := by decide +kernel
theorem dX10_learn_25 : decode cX10_learn 25 = .ok (.iconst 0, 1) := by decide +kernel
theorem dX10_learn_26 : decode cX10_learn 26 = .ok (.istore 6, 2) := by decide +kernel
theorem dX10_learn_28 : decode cX10_learn 28 = .ok (.iload 6, 2) := by decide +kernel
theorem dX10_learn_30 : decode cX10_learn 30 = .ok (.iconst 2, 1) := by decide +kernel
theorem dX10_learn_31 : decode cX10_learn 31 = .ok (.if_icmp .ge 54, 3) := by decide +kernel
theorem dX10_learn_34 : decode cX10_learn 34 = .ok (.bipush (-50), 2) := by decide +kernel
theorem dX10_learn_36 : decode cX10_learn 36 = .ok (.istore 7, 2) := by decide +kernel
theorem dX10_learn_38 : decode cX10_learn 38 = .ok (.iload 7, 2) := by decide +kernel
theorem dX10_learn_40 : decode cX10_learn 40 = .ok (.bipush 110, 2) := by decide +kernel
theorem dX10_learn_42 : decode cX10_learn 42 = .ok (.if_icmp .gt 37, 3) := by decide +kernel
theorem dX10_learn_45 : decode cX10_learn 45 = .ok (.aload_n 0, 1) := by decide +kernel
theorem dX10_learn_46 : decode cX10_learn 46 = .ok (.iload 6, 2) := by decide +kernel
theorem dX10_learn_48 : decode cX10_learn 48 = .ok (.iload 7, 2) := by decide +kernel
theorem dX10_learn_50 : decode cX10_learn 50 = .ok (.invokevirtual 110, 3) := by decide +kernel
theorem dX10_learn_53 : decode cX10_learn 53 = .ok (.istore 8, 2) := by decide +kernel
theorem dX10_learn_55 : decode cX10_learn 55 = .ok (.iload 8, 2) := by decide +kernel
theorem dX10_learn_57 : decode cX10_learn 57 = .ok (.iload 5, 2) := by decide +kernel
theorem dX10_learn_59 : decode cX10_learn 59 = .ok (.if_icmp .le 14, 3) := by decide +kernel
theorem dX10_learn_62 : decode cX10_learn 62 = .ok (.iload 8, 2) := by decide +kernel
theorem dX10_learn_64 : decode cX10_learn 64 = .ok (.istore 5, 2) := by decide +kernel
theorem dX10_learn_66 : decode cX10_learn 66 = .ok (.iload 6, 2) := by decide +kernel
theorem dX10_learn_68 : decode cX10_learn 68 = .ok (.istore_n 3, 1) := by decide +kernel
theorem dX10_learn_69 : decode cX10_learn 69 = .ok (.iload 7, 2) := by decide +kernel
theorem dX10_learn_71 : decode cX10_learn 71 = .ok (.istore 4, 2) := by decide +kernel
theorem dX10_learn_73 : decode cX10_learn 73 = .ok (.iinc 7 1, 3) := by decide +kernel
theorem dX10_learn_76 : decode cX10_learn 76 = .ok (.goto (-38), 3) := by decide +kernel
theorem dX10_learn_79 : decode cX10_learn 79 = .ok (.iinc 6 1, 3) := by decide +kernel
theorem dX10_learn_82 : decode cX10_learn 82 = .ok (.goto (-54), 3) := by decide +kernel
theorem dX10_learn_85 : decode cX10_learn 85 = .ok (.iload_n 2, 1) := by decide +kernel
theorem dX10_learn_86 : decode cX10_learn 86 = .ok (.iconst 2, 1) := by decide +kernel
theorem dX10_learn_87 : decode cX10_learn 87 = .ok (.if_icmp .ge 14, 3) := by decide +kernel
theorem dX10_learn_90 : decode cX10_learn 90 = .ok (.iload_n 2, 1) := by decide +kernel
theorem dX10_learn_91 : decode cX10_learn 91 = .ok (.ifCond .ne 8, 3) := by decide +kernel
theorem dX10_learn_94 : decode cX10_learn 94 = .ok (.iload 4, 2) := by decide +kernel
theorem dX10_learn_96 : decode cX10_learn 96 = .ok (.goto 4, 3) := by decide +kernel
theorem dX10_learn_99 : decode cX10_learn 99 = .ok (.iload_n 3, 1) := by decide +kernel
theorem dX10_learn_100 : decode cX10_learn 100 = .ok (.ireturn, 1) := by decide +kernel
theorem dX10_learn_101 : decode cX10_learn 101 = .ok (.iload_n 2, 1) := by decide +kernel
theorem dX10_learn_102 : decode cX10_learn 102 = .ok (.iconst 2, 1) := by decide +kernel
theorem dX10_learn_103 : decode cX10_learn 103 = .ok (.if_icmp .ne 6, 3) := by decide +kernel
theorem dX10_learn_106 : decode cX10_learn 106 = .ok (.iload 5, 2) := by decide +kernel
theorem dX10_learn_108 : decode cX10_learn 108 = .ok (.ireturn, 1) := by decide +kernel
theorem dX10_learn_109 : decode cX10_learn 109 = .ok (.aload_n 0, 1) := by decide +kernel
theorem dX10_learn_110 : decode cX10_learn 110 = .ok (.iload_n 1, 1) := by decide +kernel
theorem dX10_learn_111 : decode cX10_learn 111 = .ok (.iconst 0, 1) := by decide +kernel
theorem dX10_learn_112 : decode cX10_learn 112 = .ok (.invokevirtual 103, 3) := by decide +kernel
theorem dX10_learn_115 : decode cX10_learn 115 = .ok (.iload_n 2, 1) := by decide +kernel
theorem dX10_learn_116 : decode cX10_learn 116 = .ok (.iconst 3, 1) := by decide +kernel
theorem dX10_learn_117 : decode cX10_learn 117 = .ok (.if_icmp .ne 13, 3) := by decide +kernel
theorem dX10_learn_120 : decode cX10_learn 120 = .ok (.aload_n 0, 1) := by decide +kernel
theorem dX10_learn_121 : decode cX10_learn 121 = .ok (.iload_n 3, 1) := by decide +kernel
theorem dX10_learn_122 : decode cX10_learn 122 = .ok (.iload 4, 2) := by decide +kernel
theorem dX10_learn_124 : decode cX10_learn 124 = .ok (.invokevirtual 110, 3) := by decide +kernel
theorem dX10_learn_127 : decode cX10_learn 127 = .ok (.goto 7, 3) := by decide +kernel
theorem dX10_learn_130 : decode cX10_learn 130 = .ok (.aload_n 0, 1) := by decide +kernel
theorem dX10_learn_131 : decode cX10_learn 131 = .ok (.getfield 107, 3) := by decide +kernel
theorem dX10_learn_134 : decode cX10_learn 134 = .ok (.ireturn, 1) := by decide +kernel
theorem dX10_gather_0 : decode cX10_gather 0 = .ok (.aload_n 0, 1) := by decide +kernel
theorem dX10_gather_1 : decode cX10_gather 1 = .ok (.iconst 0, 1) := by decide +kernel
theorem dX10_gather_2 : decode cX10_gather 2 = .ok (.putfield 107, 3) := by decide +kernel
theorem dX10_gather_5 : decode cX10_gather 5 = .ok (.iconst 0, 1) := by decide +kernel
theorem dX10_gather_6 : decode cX10_gather 6 = .ok (.istore_n 3, 1) := by decide +kernel
theorem dX10_gather_7 : decode cX10_gather 7 = .ok (.iload_n 3, 1) := by decide +kernel
theorem dX10_gather_8 : decode cX10_gather 8 = .ok (.bipush 60, 2) := by decide +kernel
theorem dX10_gather_10 : decode cX10_gather 10 = .ok (.if_icmp .ge 103, 3) := by decide +kernel
theorem dX10_gather_13 : decode cX10_gather 13 = .ok (.aload_n 0, 1) := by decide +kernel
theorem dX10_gather_14 : decode cX10_gather 14 = .ok (.getfield 15, 3) := by decide +kernel
theorem dX10_gather_17 : decode cX10_gather 17 = .ok (.iload_n 1, 1) := by decide +kernel
theorem dX10_gather_18 : decode cX10_gather 18 = .ok (.iload_n 3, 1) := by decide +kernel
theorem dX10_gather_19 : decode cX10_gather 19 = .ok (.invokevirtual 113, 3) := by decide +kernel
theorem dX10_gather_22 : decode cX10_gather 22 = .ok (.istore 4, 2) := by decide +kernel
theorem dX10_gather_24 : decode cX10_gather 24 = .ok (.aload_n 0, 1) := by decide +kernel
theorem dX10_gather_25 : decode cX10_gather 25 = .ok (.getfield 15, 3) := by decide +kernel
theorem dX10_gather_28 : decode cX10_gather 28 = .ok (.iconst 2, 1) := by decide +kernel
theorem dX10_gather_29 : decode cX10_gather 29 = .ok (.iload_n 3, 1) := by decide +kernel
theorem dX10_gather_30 : decode cX10_gather 30 = .ok (.iconst 1, 1) := by decide +kernel
theorem dX10_gather_31 : decode cX10_gather 31 = .ok (.iadd, 1) := by decide +kernel
theorem dX10_gather_32 : decode cX10_gather 32 = .ok (.invokevirtual 64, 3) := by decide +kernel
theorem dX10_gather_35 : decode cX10_gather 35 = .ok (.istore 5, 2) := by decide +kernel
theorem dX10_gather_37 : decode cX10_gather 37 = .ok (.iload 4, 2) := by decide +kernel
theorem dX10_gather_39 : decode cX10_gather 39 = .ok (.ldc 70, 2) := by decide +kernel
theorem dX10_gather_41 : decode cX10_gather 41 = .ok (.if_icmp .eq 14, 3) := by decide +kernel
theorem dX10_gather_44 : decode cX10_gather 44 = .ok (.iload 5, 2) := by decide +kernel
theorem dX10_gather_46 : decode cX10_gather 46 = .ok (.ldc 70, 2) := by decide +kernel
theorem dX10_gather_48 : decode cX10_gather 48 = .ok (.if_icmp .eq 7, 3) := by decide +kernel
theorem dX10_gather_51 : decode cX10_gather 51 = .ok (.iconst 1, 1) := by decide +kernel
theorem dX10_gather_52 : decode cX10_gather 52 = .ok (.goto 4, 3) := by decide +kernel
theorem dX10_gather_55 : decode cX10_gather 55 = .ok (.iconst 0, 1) := by decide +kernel
theorem dX10_gather_56 : decode cX10_gather 56 = .ok (.istore 6, 2) := by decide +kernel
theorem dX10_gather_58 : decode cX10_gather 58 = .ok (.iload 6, 2) := by decide +kernel
theorem dX10_gather_60 : decode cX10_gather 60 = .ok (.ifCond .eq 47, 3) := by decide +kernel
theorem dX10_gather_63 : decode cX10_gather 63 = .ok (.aload_n 0, 1) := by decide +kernel
theorem dX10_gather_64 : decode cX10_gather 64 = .ok (.getfield 19, 3) := by decide +kernel
theorem dX10_gather_67 : decode cX10_gather 67 = .ok (.iload_n 3, 1) := by decide +kernel
theorem dX10_gather_68 : decode cX10_gather 68 = .ok (.invokevirtual 71, 3) := by decide +kernel
theorem dX10_gather_71 : decode cX10_gather 71 = .ok (.iload_n 2, 1) := by decide +kernel
theorem dX10_gather_72 : decode cX10_gather 72 = .ok (.if_icmp .ne 35, 3) := by decide +kernel
theorem dX10_gather_75 : decode cX10_gather 75 = .ok (.aload_n 0, 1) := by decide +kernel
theorem dX10_gather_76 : decode cX10_gather 76 = .ok (.getfield 32, 3) := by decide +kernel
theorem dX10_gather_79 : decode cX10_gather 79 = .ok (.aload_n 0, 1) := by decide +kernel
theorem dX10_gather_80 : decode cX10_gather 80 = .ok (.getfield 107, 3) := by decide +kernel
theorem dX10_gather_83 : decode cX10_gather 83 = .ok (.iload 4, 2) := by decide +kernel
theorem dX10_gather_85 : decode cX10_gather 85 = .ok (.iastore, 1) := by decide +kernel
theorem dX10_gather_86 : decode cX10_gather 86 = .ok (.aload_n 0, 1) := by decide +kernel
theorem dX10_gather_87 : decode cX10_gather 87 = .ok (.getfield 35, 3) := by decide +kernel
theorem dX10_gather_90 : decode cX10_gather 90 = .ok (.aload_n 0, 1) := by decide +kernel
theorem dX10_gather_91 : decode cX10_gather 91 = .ok (.getfield 107, 3) := by decide +kernel
theorem dX10_gather_94 : decode cX10_gather 94 = .ok (.iload 5, 2) := by decide +kernel
theorem dX10_gather_96 : decode cX10_gather 96 = .ok (.iastore, 1) := by decide +kernel
theorem dX10_gather_97 : decode cX10_gather 97 = .ok (.aload_n 0, 1) := by decide +kernel
theorem dX10_gather_98 : decode cX10_gather 98 = .ok (.dup, 1) := by decide +kernel
theorem dX10_gather_99 : decode cX10_gather 99 = .ok (.getfield 107, 3) := by decide +kernel
theorem dX10_gather_102 : decode cX10_gather 102 = .ok (.iconst 1, 1) := by decide +kernel
theorem dX10_gather_103 : decode cX10_gather 103 = .ok (.iadd, 1) := by decide +kernel
theorem dX10_gather_104 : decode cX10_gather 104 = .ok (.putfield 107, 3) := by decide +kernel
theorem dX10_gather_107 : decode cX10_gather 107 = .ok (.iinc 3 1, 3) := by decide +kernel
theorem dX10_gather_110 : decode cX10_gather 110 = .ok (.goto (-103), 3) := by decide +kernel
theorem dX10_gather_113 : decode cX10_gather 113 = .ok (.return_, 1) := by decide +kernel
theorem dX10_hitsBy_0 : decode cX10_hitsBy 0 = .ok (.iconst 0, 1) := by decide +kernel
theorem dX10_hitsBy_1 : decode cX10_hitsBy 1 = .ok (.istore_n 3, 1) := by decide +kernel
theorem dX10_hitsBy_2 : decode cX10_hitsBy 2 = .ok (.iconst 0, 1) := by decide +kernel
theorem dX10_hitsBy_3 : decode cX10_hitsBy 3 = .ok (.istore 4, 2) := by decide +kernel
theorem dX10_hitsBy_5 : decode cX10_hitsBy 5 = .ok (.iload 4, 2) := by decide +kernel
theorem dX10_hitsBy_7 : decode cX10_hitsBy 7 = .ok (.aload_n 0, 1) := by decide +kernel
theorem dX10_hitsBy_8 : decode cX10_hitsBy 8 = .ok (.getfield 107, 3) := by decide +kernel
theorem dX10_hitsBy_11 : decode cX10_hitsBy 11 = .ok (.if_icmp .ge 78, 3) := by decide +kernel
theorem dX10_hitsBy_14 : decode cX10_hitsBy 14 = .ok (.iload_n 1, 1) := by decide +kernel
theorem dX10_hitsBy_15 : decode cX10_hitsBy 15 = .ok (.ifCond .ne 22, 3) := by decide +kernel
theorem dX10_hitsBy_18 : decode cX10_hitsBy 18 = .ok (.aload_n 0, 1) := by decide +kernel
theorem dX10_hitsBy_19 : decode cX10_hitsBy 19 = .ok (.getfield 32, 3) := by decide +kernel
theorem dX10_hitsBy_22 : decode cX10_hitsBy 22 = .ok (.iload 4, 2) := by decide +kernel
theorem dX10_hitsBy_24 : decode cX10_hitsBy 24 = .ok (.iaload, 1) := by decide +kernel
theorem dX10_hitsBy_25 : decode cX10_hitsBy 25 = .ok (.iload_n 2, 1) := by decide +kernel
theorem dX10_hitsBy_26 : decode cX10_hitsBy 26 = .ok (.if_icmp .le 7, 3) := by decide +kernel
theorem dX10_hitsBy_29 : decode cX10_hitsBy 29 = .ok (.iconst 1, 1) := by decide +kernel
theorem dX10_hitsBy_30 : decode cX10_hitsBy 30 = .ok (.goto 23, 3) := by decide +kernel
theorem dX10_hitsBy_33 : decode cX10_hitsBy 33 = .ok (.iconst 0, 1) := by decide +kernel
theorem dX10_hitsBy_34 : decode cX10_hitsBy 34 = .ok (.goto 19, 3) := by decide +kernel
theorem dX10_hitsBy_37 : decode cX10_hitsBy 37 = .ok (.aload_n 0, 1) := by decide +kernel
theorem dX10_hitsBy_38 : decode cX10_hitsBy 38 = .ok (.getfield 32, 3) := by decide +kernel
theorem dX10_hitsBy_41 : decode cX10_hitsBy 41 = .ok (.iload 4, 2) := by decide +kernel
theorem dX10_hitsBy_43 : decode cX10_hitsBy 43 = .ok (.iaload, 1) := by decide +kernel
theorem dX10_hitsBy_44 : decode cX10_hitsBy 44 = .ok (.iload_n 2, 1) := by decide +kernel
theorem dX10_hitsBy_45 : decode cX10_hitsBy 45 = .ok (.if_icmp .ge 7, 3) := by decide +kernel
theorem dX10_hitsBy_48 : decode cX10_hitsBy 48 = .ok (.iconst 1, 1) := by decide +kernel
theorem dX10_hitsBy_49 : decode cX10_hitsBy 49 = .ok (.goto 4, 3) := by decide +kernel
theorem dX10_hitsBy_52 : decode cX10_hitsBy 52 = .ok (.iconst 0, 1) := by decide +kernel
theorem dX10_hitsBy_53 : decode cX10_hitsBy 53 = .ok (.istore 5, 2) := by decide +kernel
theorem dX10_hitsBy_55 : decode cX10_hitsBy 55 = .ok (.iload_n 3, 1) := by decide +kernel
theorem dX10_hitsBy_56 : decode cX10_hitsBy 56 = .ok (.iload 5, 2) := by decide +kernel
theorem dX10_hitsBy_58 : decode cX10_hitsBy 58 = .ok (.aload_n 0, 1) := by decide +kernel
theorem dX10_hitsBy_59 : decode cX10_hitsBy 59 = .ok (.getfield 35, 3) := by decide +kernel
theorem dX10_hitsBy_62 : decode cX10_hitsBy 62 = .ok (.iload 4, 2) := by decide +kernel
theorem dX10_hitsBy_64 : decode cX10_hitsBy 64 = .ok (.iaload, 1) := by decide +kernel
theorem dX10_hitsBy_65 : decode cX10_hitsBy 65 = .ok (.ifCond .le 7, 3) := by decide +kernel
theorem dX10_hitsBy_68 : decode cX10_hitsBy 68 = .ok (.iconst 1, 1) := by decide +kernel
theorem dX10_hitsBy_69 : decode cX10_hitsBy 69 = .ok (.goto 4, 3) := by decide +kernel
theorem dX10_hitsBy_72 : decode cX10_hitsBy 72 = .ok (.iconst 0, 1) := by decide +kernel
theorem dX10_hitsBy_73 : decode cX10_hitsBy 73 = .ok (.if_icmp .ne 7, 3) := by decide +kernel
theorem dX10_hitsBy_76 : decode cX10_hitsBy 76 = .ok (.iconst 1, 1) := by decide +kernel
theorem dX10_hitsBy_77 : decode cX10_hitsBy 77 = .ok (.goto 4, 3) := by decide +kernel
theorem dX10_hitsBy_80 : decode cX10_hitsBy 80 = .ok (.iconst 0, 1) := by decide +kernel
theorem dX10_hitsBy_81 : decode cX10_hitsBy 81 = .ok (.iadd, 1) := by decide +kernel
theorem dX10_hitsBy_82 : decode cX10_hitsBy 82 = .ok (.istore_n 3, 1) := by decide +kernel
theorem dX10_hitsBy_83 : decode cX10_hitsBy 83 = .ok (.iinc 4 1, 3) := by decide +kernel
theorem dX10_hitsBy_86 : decode cX10_hitsBy 86 = .ok (.goto (-81), 3) := by decide +kernel
theorem dX10_hitsBy_89 : decode cX10_hitsBy 89 = .ok (.iload_n 3, 1) := by decide +kernel
theorem dX10_hitsBy_90 : decode cX10_hitsBy 90 = .ok (.ireturn, 1) := by decide +kernel
theorem dX11_init_0 : decode cX11_init 0 = .ok (.aload_n 0, 1) := by decide +kernel
theorem dX11_init_1 : decode cX11_init 1 = .ok (.invokespecial 1, 3) := by decide +kernel
theorem dX11_init_4 : decode cX11_init 4 = .ok (.aload_n 0, 1) := by decide +kernel
theorem dX11_init_5 : decode cX11_init 5 = .ok (.sipush 800, 3) := by decide +kernel
theorem dX11_init_8 : decode cX11_init 8 = .ok (.newarray .byte, 2) := by decide +kernel
theorem dX11_init_10 : decode cX11_init 10 = .ok (.putfield 9, 3) := by decide +kernel
theorem dX11_init_13 : decode cX11_init 13 = .ok (.aload_n 0, 1) := by decide +kernel
theorem dX11_init_14 : decode cX11_init 14 = .ok (.iconst (-1), 1) := by decide +kernel
theorem dX11_init_15 : decode cX11_init 15 = .ok (.putfield 13, 3) := by decide +kernel
theorem dX11_init_18 : decode cX11_init 18 = .ok (.aload_n 0, 1) := by decide +kernel
theorem dX11_init_19 : decode cX11_init 19 = .ok (.new 17, 3) := by decide +kernel
theorem dX11_init_22 : decode cX11_init 22 = .ok (.dup, 1) := by decide +kernel
theorem dX11_init_23 : decode cX11_init 23 = .ok (.aload_n 0, 1) := by decide +kernel
theorem dX11_init_24 : decode cX11_init 24 = .ok (.getfield 9, 3) := by decide +kernel
theorem dX11_init_27 : decode cX11_init 27 = .ok (.invokespecial 19, 3) := by decide +kernel
theorem dX11_init_30 : decode cX11_init 30 = .ok (.putfield 22, 3) := by decide +kernel
theorem dX11_init_33 : decode cX11_init 33 = .ok (.aload_n 0, 1) := by decide +kernel
theorem dX11_init_34 : decode cX11_init 34 = .ok (.new 26, 3) := by decide +kernel
theorem dX11_init_37 : decode cX11_init 37 = .ok (.dup, 1) := by decide +kernel
theorem dX11_init_38 : decode cX11_init 38 = .ok (.invokespecial 28, 3) := by decide +kernel
theorem dX11_init_41 : decode cX11_init 41 = .ok (.putfield 29, 3) := by decide +kernel
theorem dX11_init_44 : decode cX11_init 44 = .ok (.aload_n 0, 1) := by decide +kernel
theorem dX11_init_45 : decode cX11_init 45 = .ok (.new 26, 3) := by decide +kernel
theorem dX11_init_48 : decode cX11_init 48 = .ok (.dup, 1) := by decide +kernel
theorem dX11_init_49 : decode cX11_init 49 = .ok (.invokespecial 28, 3) := by decide +kernel
theorem dX11_init_52 : decode cX11_init 52 = .ok (.putfield 33, 3) := by decide +kernel
theorem dX11_init_55 : decode cX11_init 55 = .ok (.aload_n 0, 1) := by decide +kernel
theorem dX11_init_56 : decode cX11_init 56 = .ok (.new 36, 3) := by decide +kernel
theorem dX11_init_59 : decode cX11_init 59 = .ok (.dup, 1) := by decide +kernel
theorem dX11_init_60 : decode cX11_init 60 = .ok (.aload_n 0, 1) := by decide +kernel
theorem dX11_init_61 : decode cX11_init 61 = .ok (.getfield 22, 3) := by decide +kernel
theorem dX11_init_64 : decode cX11_init 64 = .ok (.aload_n 0, 1) := by decide +kernel
theorem dX11_init_65 : decode cX11_init 65 = .ok (.getfield 33, 3) := by decide +kernel
theorem dX11_init_68 : decode cX11_init 68 = .ok (.invokespecial 38, 3) := by decide +kernel
theorem dX11_init_71 : decode cX11_init 71 = .ok (.putfield 41, 3) := by decide +kernel
theorem dX11_init_74 : decode cX11_init 74 = .ok (.aload_n 0, 1) := by decide +kernel
theorem dX11_init_75 : decode cX11_init 75 = .ok (.new 45, 3) := by decide +kernel
theorem dX11_init_78 : decode cX11_init 78 = .ok (.dup, 1) := by decide +kernel
theorem dX11_init_79 : decode cX11_init 79 = .ok (.invokespecial 47, 3) := by decide +kernel
theorem dX11_init_82 : decode cX11_init 82 = .ok (.putfield 48, 3) := by decide +kernel
theorem dX11_init_85 : decode cX11_init 85 = .ok (.aload_n 0, 1) := by decide +kernel
theorem dX11_init_86 : decode cX11_init 86 = .ok (.new 45, 3) := by decide +kernel
theorem dX11_init_89 : decode cX11_init 89 = .ok (.dup, 1) := by decide +kernel
theorem dX11_init_90 : decode cX11_init 90 = .ok (.invokespecial 47, 3) := by decide +kernel
theorem dX11_init_93 : decode cX11_init 93 = .ok (.putfield 52, 3) := by decide +kernel
theorem dX11_init_96 : decode cX11_init 96 = .ok (.aload_n 0, 1) := by decide +kernel
theorem dX11_init_97 : decode cX11_init 97 = .ok (.new 55, 3) := by decide +kernel
theorem dX11_init_100 : decode cX11_init 100 = .ok (.dup, 1) := by decide +kernel
theorem dX11_init_101 : decode cX11_init 101 = .ok (.aload_n 0, 1) := by decide +kernel
theorem dX11_init_102 : decode cX11_init 102 = .ok (.getfield 22, 3) := by decide +kernel
theorem dX11_init_105 : decode cX11_init 105 = .ok (.aload_n 0, 1) := by decide +kernel
theorem dX11_init_106 : decode cX11_init 106 = .ok (.getfield 29, 3) := by decide +kernel
theorem dX11_init_109 : decode cX11_init 109 = .ok (.aload_n 0, 1) := by decide +kernel
theorem dX11_init_110 : decode cX11_init 110 = .ok (.getfield 52, 3) := by decide +kernel
theorem dX11_init_113 : decode cX11_init 113 = .ok (.invokespecial 57, 3) := by decide +kernel
theorem dX11_init_116 : decode cX11_init 116 = .ok (.putfield 60, 3) := by decide +kernel
theorem dX11_init_119 : decode cX11_init 119 = .ok (.aload_n 0, 1) := by decide +kernel
theorem dX11_init_120 : decode cX11_init 120 = .ok (.new 64, 3) := by decide +kernel
theorem dX11_init_123 : decode cX11_init 123 = .ok (.dup, 1) := by decide +kernel
theorem dX11_init_124 : decode cX11_init 124 = .ok (.invokespecial 66, 3) := by decide +kernel
theorem dX11_init_127 : decode cX11_init 127 = .ok (.putfield 67, 3) := by decide +kernel
theorem dX11_init_130 : decode cX11_init 130 = .ok (.aload_n 0, 1) := by decide +kernel
theorem dX11_init_131 : decode cX11_init 131 = .ok (.new 71, 3) := by decide +kernel
theorem dX11_init_134 : decode cX11_init 134 = .ok (.dup, 1) := by decide +kernel
theorem dX11_init_135 : decode cX11_init 135 = .ok (.aload_n 0, 1) := by decide +kernel
theorem dX11_init_136 : decode cX11_init 136 = .ok (.getfield 67, 3) := by decide +kernel
theorem dX11_init_139 : decode cX11_init 139 = .ok (.aload_n 0, 1) := by decide +kernel
theorem dX11_init_140 : decode cX11_init 140 = .ok (.getfield 29, 3) := by decide +kernel
theorem dX11_init_143 : decode cX11_init 143 = .ok (.invokespecial 73, 3) := by decide +kernel
theorem dX11_init_146 : decode cX11_init 146 = .ok (.putfield 76, 3) := by decide +kernel
theorem dX11_init_149 : decode cX11_init 149 = .ok (.aload_n 0, 1) := by decide +kernel
theorem dX11_init_150 : decode cX11_init 150 = .ok (.iconst 5, 1) := by decide +kernel
theorem dX11_init_151 : decode cX11_init 151 = .ok (.anewarray 80, 3) := by decide +kernel
theorem dX11_init_154 : decode cX11_init 154 = .ok (.putfield 82, 3) := by decide +kernel
theorem dX11_init_157 : decode cX11_init 157 = .ok (.iconst 0, 1) := by decide +kernel
theorem dX11_init_158 : decode cX11_init 158 = .ok (.istore_n 1, 1) := by decide +kernel
theorem dX11_init_159 : decode cX11_init 159 = .ok (.iload_n 1, 1) := by decide +kernel
theorem dX11_init_160 : decode cX11_init 160 = .ok (.iconst 5, 1) := by decide +kernel
theorem dX11_init_161 : decode cX11_init 161 = .ok (.if_icmp .ge 35, 3) := by decide +kernel
theorem dX11_init_164 : decode cX11_init 164 = .ok (.aload_n 0, 1) := by decide +kernel
theorem dX11_init_165 : decode cX11_init 165 = .ok (.getfield 82, 3) := by decide +kernel
theorem dX11_init_168 : decode cX11_init 168 = .ok (.iload_n 1, 1) := by decide +kernel
theorem dX11_init_169 : decode cX11_init 169 = .ok (.new 80, 3) := by decide +kernel
theorem dX11_init_172 : decode cX11_init 172 = .ok (.dup, 1) := by decide +kernel
theorem dX11_init_173 : decode cX11_init 173 = .ok (.aload_n 0, 1) := by decide +kernel
theorem dX11_init_174 : decode cX11_init 174 = .ok (.getfield 67, 3) := by decide +kernel
theorem dX11_init_177 : decode cX11_init 177 = .ok (.aload_n 0, 1) := by decide +kernel
theorem dX11_init_178 : decode cX11_init 178 = .ok (.getfield 76, 3) := by decide +kernel
theorem dX11_init_181 : decode cX11_init 181 = .ok (.aload_n 0, 1) := by decide +kernel
theorem dX11_init_182 : decode cX11_init 182 = .ok (.getfield 29, 3) := by decide +kernel
theorem dX11_init_185 : decode cX11_init 185 = .ok (.iload_n 1, 1) := by decide +kernel
theorem dX11_init_186 : decode cX11_init 186 = .ok (.invokespecial 86, 3) := by decide +kernel
theorem dX11_init_189 : decode cX11_init 189 = .ok (.aastore, 1) := by decide +kernel
theorem dX11_init_190 : decode cX11_init 190 = .ok (.iinc 1 1, 3) := by decide +kernel
theorem dX11_init_193 : decode cX11_init 193 = .ok (.goto (-34), 3) := by decide +kernel
theorem dX11_init_196 : decode cX11_init 196 = .ok (.aload_n 0, 1) := by decide +kernel
theorem dX11_init_197 : decode cX11_init 197 = .ok (.new 89, 3) := by decide +kernel
theorem dX11_init_200 : decode cX11_init 200 = .ok (.dup, 1) := by decide +kernel
theorem dX11_init_201 : decode cX11_init 201 = .ok (.aload_n 0, 1) := by decide +kernel
theorem dX11_init_202 : decode cX11_init 202 = .ok (.getfield 82, 3) := by decide +kernel
theorem dX11_init_205 : decode cX11_init 205 = .ok (.aload_n 0, 1) := by decide +kernel
theorem dX11_init_206 : decode cX11_init 206 = .ok (.getfield 76, 3) := by decide +kernel
theorem dX11_init_209 : decode cX11_init 209 = .ok (.aload_n 0, 1) := by decide +kernel
theorem dX11_init_210 : decode cX11_init 210 = .ok (.getfield 29, 3) := by decide +kernel
theorem dX11_init_213 : decode cX11_init 213 = .ok (.invokespecial 91, 3) := by decide +kernel
theorem dX11_init_216 : decode cX11_init 216 = .ok (.putfield 94, 3) := by decide +kernel
theorem dX11_init_219 : decode cX11_init 219 = .ok (.aload_n 0, 1) := by decide +kernel
theorem dX11_init_220 : decode cX11_init 220 = .ok (.new 98, 3) := by decide +kernel
theorem dX11_init_223 : decode cX11_init 223 = .ok (.dup, 1) := by decide +kernel
theorem dX11_init_224 : decode cX11_init 224 = .ok (.aload_n 0, 1) := by decide +kernel
theorem dX11_init_225 : decode cX11_init 225 = .ok (.getfield 82, 3) := by decide +kernel
theorem dX11_init_228 : decode cX11_init 228 = .ok (.aload_n 0, 1) := by decide +kernel
theorem dX11_init_229 : decode cX11_init 229 = .ok (.getfield 76, 3) := by decide +kernel
theorem dX11_init_232 : decode cX11_init 232 = .ok (.aload_n 0, 1) := by decide +kernel
theorem dX11_init_233 : decode cX11_init 233 = .ok (.getfield 29, 3) := by decide +kernel
theorem dX11_init_236 : decode cX11_init 236 = .ok (.invokespecial 100, 3) := by decide +kernel
theorem dX11_init_239 : decode cX11_init 239 = .ok (.putfield 101, 3) := by decide +kernel
theorem dX11_init_242 : decode cX11_init 242 = .ok (.aload_n 0, 1) := by decide +kernel
theorem dX11_init_243 : decode cX11_init 243 = .ok (.new 105, 3) := by decide +kernel
theorem dX11_init_246 : decode cX11_init 246 = .ok (.dup, 1) := by decide +kernel
theorem dX11_init_247 : decode cX11_init 247 = .ok (.aload_n 0, 1) := by decide +kernel
theorem dX11_init_248 : decode cX11_init 248 = .ok (.getfield 48, 3) := by decide +kernel
theorem dX11_init_251 : decode cX11_init 251 = .ok (.aload_n 0, 1) := by decide +kernel
theorem dX11_init_252 : decode cX11_init 252 = .ok (.getfield 76, 3) := by decide +kernel
theorem dX11_init_255 : decode cX11_init 255 = .ok (.aload_n 0, 1) := by decide +kernel
theorem dX11_init_256 : decode cX11_init 256 = .ok (.getfield 29, 3) := by decide +kernel
theorem dX11_init_259 : decode cX11_init 259 = .ok (.invokespecial 107, 3) := by decide +kernel
theorem dX11_init_262 : decode cX11_init 262 = .ok (.putfield 110, 3) := by decide +kernel
theorem dX11_init_265 : decode cX11_init 265 = .ok (.return_, 1) := by decide +kernel
theorem dX11_feed_0 : decode cX11_feed 0 = .ok (.aload_n 0, 1) := by decide +kernel
theorem dX11_feed_1 : decode cX11_feed 1 = .ok (.getfield 114, 3) := by decide +kernel
theorem dX11_feed_4 : decode cX11_feed 4 = .ok (.bipush 20, 2) := by decide +kernel
theorem dX11_feed_6 : decode cX11_feed 6 = .ok (.iadd, 1) := by decide +kernel
theorem dX11_feed_7 : decode cX11_feed 7 = .ok (.sipush 800, 3) := by decide +kernel
theorem dX11_feed_10 : decode cX11_feed 10 = .ok (.if_icmp .le 5, 3) := by decide +kernel
theorem dX11_feed_13 : decode cX11_feed 13 = .ok (.iconst (-1), 1) := by decide +kernel
theorem dX11_feed_14 : decode cX11_feed 14 = .ok (.ireturn, 1) := by decide +kernel
theorem dX11_feed_15 : decode cX11_feed 15 = .ok (.aload_n 0, 1) := by decide +kernel
theorem dX11_feed_16 : decode cX11_feed 16 = .ok (.iload_n 1, 1) := by decide +kernel
theorem dX11_feed_17 : decode cX11_feed 17 = .ok (.invokevirtual 117, 3) := by decide +kernel
theorem dX11_feed_20 : decode cX11_feed 20 = .ok (.aload_n 0, 1) := by decide +kernel
theorem dX11_feed_21 : decode cX11_feed 21 = .ok (.iload_n 2, 1) := by decide +kernel
theorem dX11_feed_22 : decode cX11_feed 22 = .ok (.invokevirtual 117, 3) := by decide +kernel
theorem dX11_feed_25 : decode cX11_feed 25 = .ok (.aload_n 0, 1) := by decide +kernel
theorem dX11_feed_26 : decode cX11_feed 26 = .ok (.iload_n 3, 1) := by decide +kernel
theorem dX11_feed_27 : decode cX11_feed 27 = .ok (.invokevirtual 117, 3) := by decide +kernel
theorem dX11_feed_30 : decode cX11_feed 30 = .ok (.aload_n 0, 1) := by decide +kernel
theorem dX11_feed_31 : decode cX11_feed 31 = .ok (.iload 4, 2) := by decide +kernel
theorem dX11_feed_33 : decode cX11_feed 33 = .ok (.invokevirtual 117, 3) := by decide +kernel
theorem dX11_feed_36 : decode cX11_feed 36 = .ok (.aload_n 0, 1) := by decide +kernel
theorem dX11_feed_37 : decode cX11_feed 37 = .ok (.iload 5, 2) := by decide +kernel
theorem dX11_feed_39 : decode cX11_feed 39 = .ok (.invokevirtual 117, 3) := by decide +kernel
theorem dX11_feed_42 : decode cX11_feed 42 = .ok (.aload_n 0, 1) := by decide +kernel
theorem dX11_feed_43 : decode cX11_feed 43 = .ok (.getfield 114, 3) := by decide +kernel
theorem dX11_feed_46 : decode cX11_feed 46 = .ok (.ireturn, 1) := by decide +kernel
theorem dX11_end_0 : decode cX11_end 0 = .ok (.iload_n 1, 1) := by decide +kernel
theorem dX11_end_1 : decode cX11_end 1 = .ok (.ifCond .lt 11, 3) := by decide +kernel
theorem dX11_end_4 : decode cX11_end 4 = .ok (.iload_n 1, 1) := by decide +kernel
theorem dX11_end_5 : decode cX11_end 5 = .ok (.aload_n 0, 1) := by decide +kernel
theorem dX11_end_6 : decode cX11_end 6 = .ok (.getfield 114, 3) := by decide +kernel
theorem dX11_end_9 : decode cX11_end 9 = .ok (.if_icmp .le 5, 3) := by decide +kernel
theorem dX11_end_12 : decode cX11_end 12 = .ok (.iconst (-1), 1) := by decide +kernel
theorem dX11_end_13 : decode cX11_end 13 = .ok (.ireturn, 1) := by decide +kernel
theorem dX11_end_14 : decode cX11_end 14 = .ok (.aload_n 0, 1) := by decide +kernel
theorem dX11_end_15 : decode cX11_end 15 = .ok (.iload_n 1, 1) := by decide +kernel
theorem dX11_end_16 : decode cX11_end 16 = .ok (.putfield 114, 3) := by decide +kernel
theorem dX11_end_19 : decode cX11_end 19 = .ok (.iload_n 1, 1) := by decide +kernel
theorem dX11_end_20 : decode cX11_end 20 = .ok (.ireturn, 1) := by decide +kernel
theorem dX11_hill_0 : decode cX11_hill 0 = .ok (.aload_n 0, 1) := by decide +kernel
theorem dX11_hill_1 : decode cX11_hill 1 = .ok (.getfield 22, 3) := by decide +kernel
theorem dX11_hill_4 : decode cX11_hill 4 = .ok (.aload_n 0, 1) := by decide +kernel
theorem dX11_hill_5 : decode cX11_hill 5 = .ok (.getfield 114, 3) := by decide +kernel
theorem dX11_hill_8 : decode cX11_hill 8 = .ok (.ldc 121, 2) := by decide +kernel
theorem dX11_hill_10 : decode cX11_hill 10 = .ok (.invokevirtual 123, 3) := by decide +kernel
theorem dX11_hill_13 : decode cX11_hill 13 = .ok (.aload_n 0, 1) := by decide +kernel
theorem dX11_hill_14 : decode cX11_hill 14 = .ok (.getfield 41, 3) := by decide +kernel
theorem dX11_hill_17 : decode cX11_hill 17 = .ok (.invokevirtual 127, 3) := by decide +kernel
theorem dX11_hill_20 : decode cX11_hill 20 = .ok (.aload_n 0, 1) := by decide +kernel
theorem dX11_hill_21 : decode cX11_hill 21 = .ok (.invokevirtual 130, 3) := by decide +kernel
theorem dX11_hill_24 : decode cX11_hill 24 = .ok (.aload_n 0, 1) := by decide +kernel
theorem dX11_hill_25 : decode cX11_hill 25 = .ok (.getfield 133, 3) := by decide +kernel
theorem dX11_hill_28 : decode cX11_hill 28 = .ok (.ifCond .eq 5, 3) := by decide +kernel
theorem dX11_hill_31 : decode cX11_hill 31 = .ok (.iconst (-1), 1) := by decide +kernel
theorem dX11_hill_32 : decode cX11_hill 32 = .ok (.ireturn, 1) := by decide +kernel
theorem dX11_hill_33 : decode cX11_hill 33 = .ok (.aload_n 0, 1) := by decide +kernel
theorem dX11_hill_34 : decode cX11_hill 34 = .ok (.getfield 29, 3) := by decide +kernel
theorem dX11_hill_37 : decode cX11_hill 37 = .ok (.aload_n 0, 1) := by decide +kernel
theorem dX11_hill_38 : decode cX11_hill 38 = .ok (.getfield 33, 3) := by decide +kernel
theorem dX11_hill_41 : decode cX11_hill 41 = .ok (.invokevirtual 136, 3) := by decide +kernel
theorem dX11_hill_44 : decode cX11_hill 44 = .ok (.aload_n 0, 1) := by decide +kernel
theorem dX11_hill_45 : decode cX11_hill 45 = .ok (.getfield 48, 3) := by decide +kernel
theorem dX11_hill_48 : decode cX11_hill 48 = .ok (.invokevirtual 140, 3) := by decide +kernel
theorem dX11_hill_51 : decode cX11_hill 51 = .ok (.aload_n 0, 1) := by decide +kernel
theorem dX11_hill_52 : decode cX11_hill 52 = .ok (.getfield 67, 3) := by decide +kernel
theorem dX11_hill_55 : decode cX11_hill 55 = .ok (.invokevirtual 143, 3) := by decide +kernel
theorem dX11_hill_58 : decode cX11_hill 58 = .ok (.aload_n 0, 1) := by decide +kernel
theorem dX11_hill_59 : decode cX11_hill 59 = .ok (.getfield 29, 3) := by decide +kernel
theorem dX11_hill_62 : decode cX11_hill 62 = .ok (.getfield 144, 3) := by decide +kernel
theorem dX11_hill_65 : decode cX11_hill 65 = .ok (.aload_n 0, 1) := by decide +kernel
theorem dX11_hill_66 : decode cX11_hill 66 = .ok (.getfield 29, 3) := by decide +kernel
theorem dX11_hill_69 : decode cX11_hill 69 = .ok (.getfield 147, 3) := by decide +kernel
theorem dX11_hill_72 : decode cX11_hill 72 = .ok (.iadd, 1) := by decide +kernel
theorem dX11_hill_73 : decode cX11_hill 73 = .ok (.ireturn, 1) := by decide +kernel
theorem dX11_rules_0 : decode cX11_rules 0 = .ok (.aload_n 0, 1) := by decide +kernel
theorem dX11_rules_1 : decode cX11_rules 1 = .ok (.getfield 114, 3) := by decide +kernel
theorem dX11_rules_4 : decode cX11_rules 4 = .ok (.sipush 500, 3) := by decide +kernel
theorem dX11_rules_7 : decode cX11_rules 7 = .ok (.if_icmp .le 6, 3) := by decide +kernel
theorem dX11_rules_10 : decode cX11_rules 10 = .ok (.bipush (-2), 2) := by decide +kernel
theorem dX11_rules_12 : decode cX11_rules 12 = .ok (.ireturn, 1) := by decide +kernel
theorem dX11_rules_13 : decode cX11_rules 13 = .ok (.aload_n 0, 1) := by decide +kernel
theorem dX11_rules_14 : decode cX11_rules 14 = .ok (.getfield 22, 3) := by decide +kernel
theorem dX11_rules_17 : decode cX11_rules 17 = .ok (.aload_n 0, 1) := by decide +kernel
theorem dX11_rules_18 : decode cX11_rules 18 = .ok (.getfield 114, 3) := by decide +kernel
theorem dX11_rules_21 : decode cX11_rules 21 = .ok (.ldc 150, 2) := by decide +kernel
theorem dX11_rules_23 : decode cX11_rules 23 = .ok (.invokevirtual 123, 3) := by decide +kernel
theorem dX11_rules_26 : decode cX11_rules 26 = .ok (.aload_n 0, 1) := by decide +kernel
theorem dX11_rules_27 : decode cX11_rules 27 = .ok (.getfield 60, 3) := by decide +kernel
theorem dX11_rules_30 : decode cX11_rules 30 = .ok (.invokevirtual 152, 3) := by decide +kernel
theorem dX11_rules_33 : decode cX11_rules 33 = .ok (.aload_n 0, 1) := by decide +kernel
theorem dX11_rules_34 : decode cX11_rules 34 = .ok (.invokevirtual 130, 3) := by decide +kernel
theorem dX11_rules_37 : decode cX11_rules 37 = .ok (.aload_n 0, 1) := by decide +kernel
theorem dX11_rules_38 : decode cX11_rules 38 = .ok (.getfield 133, 3) := by decide +kernel
theorem dX11_rules_41 : decode cX11_rules 41 = .ok (.ifCond .eq 5, 3) := by decide +kernel
theorem dX11_rules_44 : decode cX11_rules 44 = .ok (.iconst (-1), 1) := by decide +kernel
theorem dX11_rules_45 : decode cX11_rules 45 = .ok (.ireturn, 1) := by decide +kernel
theorem dX11_rules_46 : decode cX11_rules 46 = .ok (.aload_n 0, 1) := by decide +kernel
theorem dX11_rules_47 : decode cX11_rules 47 = .ok (.getfield 48, 3) := by decide +kernel
theorem dX11_rules_50 : decode cX11_rules 50 = .ok (.aload_n 0, 1) := by decide +kernel
theorem dX11_rules_51 : decode cX11_rules 51 = .ok (.getfield 52, 3) := by decide +kernel
theorem dX11_rules_54 : decode cX11_rules 54 = .ok (.invokevirtual 153, 3) := by decide +kernel
theorem dX11_rules_57 : decode cX11_rules 57 = .ok (.aload_n 0, 1) := by decide +kernel
theorem dX11_rules_58 : decode cX11_rules 58 = .ok (.getfield 48, 3) := by decide +kernel
theorem dX11_rules_61 : decode cX11_rules 61 = .ok (.getfield 156, 3) := by decide +kernel
theorem dX11_rules_64 : decode cX11_rules 64 = .ok (.ireturn, 1) := by decide +kernel
theorem dX11_fault_0 : decode cX11_fault 0 = .ok (.iload_n 1, 1) := by decide +kernel
theorem dX11_fault_1 : decode cX11_fault 1 = .ok (.ifCond .ne 8, 3) := by decide +kernel
theorem dX11_fault_4 : decode cX11_fault 4 = .ok (.aload_n 0, 1) := by decide +kernel
theorem dX11_fault_5 : decode cX11_fault 5 = .ok (.getfield 133, 3) := by decide +kernel
theorem dX11_fault_8 : decode cX11_fault 8 = .ok (.ireturn, 1) := by decide +kernel
theorem dX11_fault_9 : decode cX11_fault 9 = .ok (.iload_n 1, 1) := by decide +kernel
theorem dX11_fault_10 : decode cX11_fault 10 = .ok (.iconst 1, 1) := by decide +kernel
theorem dX11_fault_11 : decode cX11_fault 11 = .ok (.if_icmp .ne 10, 3) := by decide +kernel
theorem dX11_fault_14 : decode cX11_fault 14 = .ok (.aload_n 0, 1) := by decide +kernel
theorem dX11_fault_15 : decode cX11_fault 15 = .ok (.getfield 13, 3) := by decide +kernel
theorem dX11_fault_18 : decode cX11_fault 18 = .ok (.goto 4, 3) := by decide +kernel
theorem dX11_fault_21 : decode cX11_fault 21 = .ok (.iconst (-1), 1) := by decide +kernel
theorem dX11_fault_22 : decode cX11_fault 22 = .ok (.ireturn, 1) := by decide +kernel
theorem dX11_share_0 : decode cX11_share 0 = .ok (.iload_n 1, 1) := by decide +kernel
theorem dX11_share_1 : decode cX11_share 1 = .ok (.invokestatic 159, 3) := by decide +kernel
theorem dX11_share_4 : decode cX11_share 4 = .ok (.ifCond .eq 19, 3) := by decide +kernel
theorem dX11_share_7 : decode cX11_share 7 = .ok (.aload_n 0, 1) := by decide +kernel
theorem dX11_share_8 : decode cX11_share 8 = .ok (.getfield 67, 3) := by decide +kernel
theorem dX11_share_11 : decode cX11_share 11 = .ok (.iload_n 1, 1) := by decide +kernel
theorem dX11_share_12 : decode cX11_share 12 = .ok (.iload_n 2, 1) := by decide +kernel
theorem dX11_share_13 : decode cX11_share 13 = .ok (.invokevirtual 163, 3) := by decide +kernel
theorem dX11_share_16 : decode cX11_share 16 = .ok (.ifCond .eq 7, 3) := by decide +kernel
theorem dX11_share_19 : decode cX11_share 19 = .ok (.iconst 1, 1) := by decide +kernel
theorem dX11_share_20 : decode cX11_share 20 = .ok (.goto 4, 3) := by decide +kernel
theorem dX11_share_23 : decode cX11_share 23 = .ok (.iconst 0, 1) := by decide +kernel
theorem dX11_share_24 : decode cX11_share 24 = .ok (.ireturn, 1) := by decide +kernel
theorem dX11_far_0 : decode cX11_far 0 = .ok (.iload_n 1, 1) := by decide +kernel
theorem dX11_far_1 : decode cX11_far 1 = .ok (.invokestatic 167, 3) := by decide +kernel
theorem dX11_far_4 : decode cX11_far 4 = .ok (.ifCond .eq 10, 3) := by decide +kernel
theorem dX11_far_7 : decode cX11_far 7 = .ok (.iload_n 2, 1) := by decide +kernel
theorem dX11_far_8 : decode cX11_far 8 = .ok (.invokestatic 159, 3) := by decide +kernel
theorem dX11_far_11 : decode cX11_far 11 = .ok (.ifCond .ne 5, 3) := by decide +kernel
theorem dX11_far_14 : decode cX11_far 14 = .ok (.iconst (-1), 1) := by decide +kernel
theorem dX11_far_15 : decode cX11_far 15 = .ok (.ireturn, 1) := by decide +kernel
theorem dX11_far_16 : decode cX11_far 16 = .ok (.iload_n 3, 1) := by decide +kernel
theorem dX11_far_17 : decode cX11_far 17 = .ok (.getstatic 170, 3) := by decide +kernel
theorem dX11_far_20 : decode cX11_far 20 = .ok (.iload_n 1, 1) := by decide +kernel
theorem dX11_far_21 : decode cX11_far 21 = .ok (.iaload, 1) := by decide +kernel
theorem dX11_far_22 : decode cX11_far 22 = .ok (.if_icmp .lt 12, 3) := by decide +kernel
theorem dX11_far_25 : decode cX11_far 25 = .ok (.iload_n 3, 1) := by decide +kernel
theorem dX11_far_26 : decode cX11_far 26 = .ok (.getstatic 174, 3) := by decide +kernel
theorem dX11_far_29 : decode cX11_far 29 = .ok (.iload_n 1, 1) := by decide +kernel
theorem dX11_far_30 : decode cX11_far 30 = .ok (.iaload, 1) := by decide +kernel
theorem dX11_far_31 : decode cX11_far 31 = .ok (.if_icmp .le 5, 3) := by decide +kernel
theorem dX11_far_34 : decode cX11_far 34 = .ok (.iconst (-1), 1) := by decide +kernel
theorem dX11_far_35 : decode cX11_far 35 = .ok (.ireturn, 1) := by decide +kernel
theorem dX11_far_36 : decode cX11_far 36 = .ok (.aload_n 0, 1) := by decide +kernel
theorem dX11_far_37 : decode cX11_far 37 = .ok (.getfield 67, 3) := by decide +kernel
theorem dX11_far_40 : decode cX11_far 40 = .ok (.iload_n 1, 1) := by decide +kernel
theorem dX11_far_41 : decode cX11_far 41 = .ok (.iload_n 2, 1) := by decide +kernel
theorem dX11_far_42 : decode cX11_far 42 = .ok (.iconst (-1), 1) := by decide +kernel
theorem dX11_far_43 : decode cX11_far 43 = .ok (.iload_n 3, 1) := by decide +kernel
theorem dX11_far_44 : decode cX11_far 44 = .ok (.invokevirtual 177, 3) := by decide +kernel
theorem dX11_far_47 : decode cX11_far 47 = .ok (.ireturn, 1) := by decide +kernel
theorem dX11_read_0 : decode cX11_read 0 = .ok (.aload_n 0, 1) := by decide +kernel
theorem dX11_read_1 : decode cX11_read 1 = .ok (.iload_n 1, 1) := by decide +kernel
theorem dX11_read_2 : decode cX11_read 2 = .ok (.iload_n 2, 1) := by decide +kernel
theorem dX11_read_3 : decode cX11_read 3 = .ok (.invokevirtual 181, 3) := by decide +kernel
theorem dX11_read_6 : decode cX11_read 6 = .ok (.ifCond .eq 10, 3) := by decide +kernel
theorem dX11_read_9 : decode cX11_read 9 = .ok (.iload_n 3, 1) := by decide +kernel
theorem dX11_read_10 : decode cX11_read 10 = .ok (.invokestatic 185, 3) := by decide +kernel
theorem dX11_read_13 : decode cX11_read 13 = .ok (.ifCond .ne 5, 3) := by decide +kernel
theorem dX11_read_16 : decode cX11_read 16 = .ok (.iconst (-1), 1) := by decide +kernel
theorem dX11_read_17 : decode cX11_read 17 = .ok (.ireturn, 1) := by decide +kernel
theorem dX11_read_18 : decode cX11_read 18 = .ok (.aload_n 0, 1) := by decide +kernel
theorem dX11_read_19 : decode cX11_read 19 = .ok (.getfield 29, 3) := by decide +kernel
theorem dX11_read_22 : decode cX11_read 22 = .ok (.iload_n 1, 1) := by decide +kernel
theorem dX11_read_23 : decode cX11_read 23 = .ok (.invokevirtual 188, 3) := by decide +kernel
theorem dX11_read_26 : decode cX11_read 26 = .ok (.istore 5, 2) := by decide +kernel
theorem dX11_read_28 : decode cX11_read 28 = .ok (.iload 4, 2) := by decide +kernel
theorem dX11_read_30 : decode cX11_read 30 = .ok (.iload 5, 2) := by decide +kernel
theorem dX11_read_32 : decode cX11_read 32 = .ok (.ifCond .eq 7, 3) := by decide +kernel
theorem dX11_read_35 : decode cX11_read 35 = .ok (.iconst 0, 1) := by decide +kernel
theorem dX11_read_36 : decode cX11_read 36 = .ok (.goto 6, 3) := by decide +kernel
theorem dX11_read_39 : decode cX11_read 39 = .ok (.sipush (-999), 3) := by decide +kernel
theorem dX11_read_42 : decode cX11_read 42 = .ok (.if_icmp .lt 21, 3) := by decide +kernel
theorem dX11_read_45 : decode cX11_read 45 = .ok (.iload 4, 2) := by decide +kernel
theorem dX11_read_47 : decode cX11_read 47 = .ok (.iload 5, 2) := by decide +kernel
theorem dX11_read_49 : decode cX11_read 49 = .ok (.ifCond .eq 8, 3) := by decide +kernel
theorem dX11_read_52 : decode cX11_read 52 = .ok (.bipush 15, 2) := by decide +kernel
theorem dX11_read_54 : decode cX11_read 54 = .ok (.goto 6, 3) := by decide +kernel
theorem dX11_read_57 : decode cX11_read 57 = .ok (.sipush 999, 3) := by decide +kernel
theorem dX11_read_60 : decode cX11_read 60 = .ok (.if_icmp .le 5, 3) := by decide +kernel
theorem dX11_read_63 : decode cX11_read 63 = .ok (.iconst (-1), 1) := by decide +kernel
theorem dX11_read_64 : decode cX11_read 64 = .ok (.ireturn, 1) := by decide +kernel
theorem dX11_read_65 : decode cX11_read 65 = .ok (.aload_n 0, 1) := by decide +kernel
theorem dX11_read_66 : decode cX11_read 66 = .ok (.getfield 67, 3) := by decide +kernel
theorem dX11_read_69 : decode cX11_read 69 = .ok (.iload_n 1, 1) := by decide +kernel
theorem dX11_read_70 : decode cX11_read 70 = .ok (.iload_n 2, 1) := by decide +kernel
theorem dX11_read_71 : decode cX11_read 71 = .ok (.iload_n 3, 1) := by decide +kernel
theorem dX11_read_72 : decode cX11_read 72 = .ok (.iload 4, 2) := by decide +kernel
theorem dX11_read_74 : decode cX11_read 74 = .ok (.invokevirtual 177, 3) := by decide +kernel
theorem dX11_read_77 : decode cX11_read 77 = .ok (.ireturn, 1) := by decide +kernel
theorem dX11_doubt_0 : decode cX11_doubt 0 = .ok (.iload_n 1, 1) := by decide +kernel
theorem dX11_doubt_1 : decode cX11_doubt 1 = .ok (.invokestatic 185, 3) := by decide +kernel
theorem dX11_doubt_4 : decode cX11_doubt 4 = .ok (.ifCond .eq 19, 3) := by decide +kernel
theorem dX11_doubt_7 : decode cX11_doubt 7 = .ok (.aload_n 0, 1) := by decide +kernel
theorem dX11_doubt_8 : decode cX11_doubt 8 = .ok (.getfield 67, 3) := by decide +kernel
theorem dX11_doubt_11 : decode cX11_doubt 11 = .ok (.iload_n 1, 1) := by decide +kernel
theorem dX11_doubt_12 : decode cX11_doubt 12 = .ok (.iload_n 2, 1) := by decide +kernel
theorem dX11_doubt_13 : decode cX11_doubt 13 = .ok (.invokevirtual 191, 3) := by decide +kernel
theorem dX11_doubt_16 : decode cX11_doubt 16 = .ok (.ifCond .eq 7, 3) := by decide +kernel
theorem dX11_doubt_19 : decode cX11_doubt 19 = .ok (.iconst 1, 1) := by decide +kernel
theorem dX11_doubt_20 : decode cX11_doubt 20 = .ok (.goto 4, 3) := by decide +kernel
theorem dX11_doubt_23 : decode cX11_doubt 23 = .ok (.iconst 0, 1) := by decide +kernel
theorem dX11_doubt_24 : decode cX11_doubt 24 = .ok (.ireturn, 1) := by decide +kernel
theorem dX11_untell_0 : decode cX11_untell 0 = .ok (.aload_n 0, 1) := by decide +kernel
theorem dX11_untell_1 : decode cX11_untell 1 = .ok (.getfield 67, 3) := by decide +kernel
theorem dX11_untell_4 : decode cX11_untell 4 = .ok (.iload_n 1, 1) := by decide +kernel
theorem dX11_untell_5 : decode cX11_untell 5 = .ok (.invokevirtual 194, 3) := by decide +kernel
theorem dX11_untell_8 : decode cX11_untell 8 = .ok (.ireturn, 1) := by decide +kernel
theorem dX11_later_0 : decode cX11_later 0 = .ok (.aload_n 0, 1) := by decide +kernel
theorem dX11_later_1 : decode cX11_later 1 = .ok (.getfield 67, 3) := by decide +kernel
theorem dX11_later_4 : decode cX11_later 4 = .ok (.iload_n 1, 1) := by decide +kernel
theorem dX11_later_5 : decode cX11_later 5 = .ok (.invokevirtual 197, 3) := by decide +kernel
theorem dX11_later_8 : decode cX11_later 8 = .ok (.ireturn, 1) := by decide +kernel
theorem dX11_farOf_0 : decode cX11_farOf 0 = .ok (.aload_n 0, 1) := by decide +kernel
theorem dX11_farOf_1 : decode cX11_farOf 1 = .ok (.getfield 76, 3) := by decide +kernel
theorem dX11_farOf_4 : decode cX11_farOf 4 = .ok (.iload_n 3, 1) := by decide +kernel
theorem dX11_farOf_5 : decode cX11_farOf 5 = .ok (.invokevirtual 201, 3) := by decide +kernel
theorem dX11_farOf_8 : decode cX11_farOf 8 = .ok (.aload_n 0, 1) := by decide +kernel
theorem dX11_farOf_9 : decode cX11_farOf 9 = .ok (.getfield 76, 3) := by decide +kernel
theorem dX11_farOf_12 : decode cX11_farOf 12 = .ok (.iload_n 1, 1) := by decide +kernel
theorem dX11_farOf_13 : decode cX11_farOf 13 = .ok (.iload_n 2, 1) := by decide +kernel
theorem dX11_farOf_14 : decode cX11_farOf 14 = .ok (.invokevirtual 204, 3) := by decide +kernel
theorem dX11_farOf_17 : decode cX11_farOf 17 = .ok (.ireturn, 1) := by decide +kernel
theorem dX11_reading_0 : decode cX11_reading 0 = .ok (.aload_n 0, 1) := by decide +kernel
theorem dX11_reading_1 : decode cX11_reading 1 = .ok (.getfield 76, 3) := by decide +kernel
theorem dX11_reading_4 : decode cX11_reading 4 = .ok (.iload_n 3, 1) := by decide +kernel
theorem dX11_reading_5 : decode cX11_reading 5 = .ok (.invokevirtual 201, 3) := by decide +kernel
theorem dX11_reading_8 : decode cX11_reading 8 = .ok (.aload_n 0, 1) := by decide +kernel
theorem dX11_reading_9 : decode cX11_reading 9 = .ok (.getfield 76, 3) := by decide +kernel
theorem dX11_reading_12 : decode cX11_reading 12 = .ok (.iload_n 1, 1) := by decide +kernel
theorem dX11_reading_13 : decode cX11_reading 13 = .ok (.iload_n 2, 1) := by decide +kernel
theorem dX11_reading_14 : decode cX11_reading 14 = .ok (.invokevirtual 208, 3) := by decide +kernel
theorem dX11_reading_17 : decode cX11_reading 17 = .ok (.ireturn, 1) := by decide +kernel
theorem dX11_laws_0 : decode cX11_laws 0 = .ok (.aload_n 0, 1) := by decide +kernel
theorem dX11_laws_1 : decode cX11_laws 1 = .ok (.iload_n 1, 1) := by decide +kernel
theorem dX11_laws_2 : decode cX11_laws 2 = .ok (.iload_n 2, 1) := by decide +kernel
theorem dX11_laws_3 : decode cX11_laws 3 = .ok (.iload_n 3, 1) := by decide +kernel
theorem dX11_laws_4 : decode cX11_laws 4 = .ok (.invokevirtual 211, 3) := by decide +kernel
theorem dX11_laws_7 : decode cX11_laws 7 = .ok (.ifCond .eq 15, 3) := by decide +kernel
theorem dX11_laws_10 : decode cX11_laws 10 = .ok (.aload_n 0, 1) := by decide +kernel
theorem dX11_laws_11 : decode cX11_laws 11 = .ok (.getfield 82, 3) := by decide +kernel
theorem dX11_laws_14 : decode cX11_laws 14 = .ok (.iload_n 1, 1) := by decide +kernel
theorem dX11_laws_15 : decode cX11_laws 15 = .ok (.aaload, 1) := by decide +kernel
theorem dX11_laws_16 : decode cX11_laws 16 = .ok (.getfield 215, 3) := by decide +kernel
theorem dX11_laws_19 : decode cX11_laws 19 = .ok (.goto 4, 3) := by decide +kernel
theorem dX11_laws_22 : decode cX11_laws 22 = .ok (.iconst (-1), 1) := by decide +kernel
theorem dX11_laws_23 : decode cX11_laws 23 = .ok (.ireturn, 1) := by decide +kernel
theorem dX11_law_0 : decode cX11_law 0 = .ok (.aload_n 0, 1) := by decide +kernel
theorem dX11_law_1 : decode cX11_law 1 = .ok (.iload_n 1, 1) := by decide +kernel
theorem dX11_law_2 : decode cX11_law 2 = .ok (.iload_n 2, 1) := by decide +kernel
theorem dX11_law_3 : decode cX11_law 3 = .ok (.iload 5, 2) := by decide +kernel
theorem dX11_law_5 : decode cX11_law 5 = .ok (.invokevirtual 211, 3) := by decide +kernel
theorem dX11_law_8 : decode cX11_law 8 = .ok (.ifCond .eq 20, 3) := by decide +kernel
theorem dX11_law_11 : decode cX11_law 11 = .ok (.iload_n 3, 1) := by decide +kernel
theorem dX11_law_12 : decode cX11_law 12 = .ok (.ifCond .lt 16, 3) := by decide +kernel
theorem dX11_law_15 : decode cX11_law 15 = .ok (.iload_n 3, 1) := by decide +kernel
theorem dX11_law_16 : decode cX11_law 16 = .ok (.aload_n 0, 1) := by decide +kernel
theorem dX11_law_17 : decode cX11_law 17 = .ok (.getfield 82, 3) := by decide +kernel
theorem dX11_law_20 : decode cX11_law 20 = .ok (.iload_n 1, 1) := by decide +kernel
theorem dX11_law_21 : decode cX11_law 21 = .ok (.aaload, 1) := by decide +kernel
theorem dX11_law_22 : decode cX11_law 22 = .ok (.getfield 215, 3) := by decide +kernel
theorem dX11_law_25 : decode cX11_law 25 = .ok (.if_icmp .lt 6, 3) := by decide +kernel
theorem dX11_law_28 : decode cX11_law 28 = .ok (.ldc 216, 2) := by decide +kernel
theorem dX11_law_30 : decode cX11_law 30 = .ok (.ireturn, 1) := by decide +kernel
theorem dX11_law_31 : decode cX11_law 31 = .ok (.aload_n 0, 1) := by decide +kernel
theorem dX11_law_32 : decode cX11_law 32 = .ok (.getfield 82, 3) := by decide +kernel
theorem dX11_law_35 : decode cX11_law 35 = .ok (.iload_n 1, 1) := by decide +kernel
theorem dX11_law_36 : decode cX11_law 36 = .ok (.aaload, 1) := by decide +kernel
theorem dX11_law_37 : decode cX11_law 37 = .ok (.getfield 217, 3) := by decide +kernel
theorem dX11_law_40 : decode cX11_law 40 = .ok (.iload_n 3, 1) := by decide +kernel
theorem dX11_law_41 : decode cX11_law 41 = .ok (.iaload, 1) := by decide +kernel
theorem dX11_law_42 : decode cX11_law 42 = .ok (.iload 4, 2) := by decide +kernel
theorem dX11_law_44 : decode cX11_law 44 = .ok (.invokestatic 220, 3) := by decide +kernel
theorem dX11_law_47 : decode cX11_law 47 = .ok (.ireturn, 1) := by decide +kernel
theorem dX11_misses_0 : decode cX11_misses 0 = .ok (.aload_n 0, 1) := by decide +kernel
theorem dX11_misses_1 : decode cX11_misses 1 = .ok (.iload_n 1, 1) := by decide +kernel
theorem dX11_misses_2 : decode cX11_misses 2 = .ok (.iload_n 2, 1) := by decide +kernel
theorem dX11_misses_3 : decode cX11_misses 3 = .ok (.iload_n 3, 1) := by decide +kernel
theorem dX11_misses_4 : decode cX11_misses 4 = .ok (.invokevirtual 211, 3) := by decide +kernel
theorem dX11_misses_7 : decode cX11_misses 7 = .ok (.ifCond .eq 15, 3) := by decide +kernel
theorem dX11_misses_10 : decode cX11_misses 10 = .ok (.aload_n 0, 1) := by decide +kernel
theorem dX11_misses_11 : decode cX11_misses 11 = .ok (.getfield 82, 3) := by decide +kernel
theorem dX11_misses_14 : decode cX11_misses 14 = .ok (.iload_n 1, 1) := by decide +kernel
theorem dX11_misses_15 : decode cX11_misses 15 = .ok (.aaload, 1) := by decide +kernel
theorem dX11_misses_16 : decode cX11_misses 16 = .ok (.getfield 223, 3) := by decide +kernel
theorem dX11_misses_19 : decode cX11_misses 19 = .ok (.goto 4, 3) := by decide +kernel
theorem dX11_misses_22 : decode cX11_misses 22 = .ok (.iconst (-1), 1) := by decide +kernel
theorem dX11_misses_23 : decode cX11_misses 23 = .ok (.ireturn, 1) := by decide +kernel
theorem dX11_shows_0 : decode cX11_shows 0 = .ok (.aload_n 0, 1) := by decide +kernel
theorem dX11_shows_1 : decode cX11_shows 1 = .ok (.iload_n 1, 1) := by decide +kernel
theorem dX11_shows_2 : decode cX11_shows 2 = .ok (.iload_n 2, 1) := by decide +kernel
theorem dX11_shows_3 : decode cX11_shows 3 = .ok (.iload_n 3, 1) := by decide +kernel
theorem dX11_shows_4 : decode cX11_shows 4 = .ok (.invokevirtual 211, 3) := by decide +kernel
theorem dX11_shows_7 : decode cX11_shows 7 = .ok (.ifCond .eq 16, 3) := by decide +kernel
theorem dX11_shows_10 : decode cX11_shows 10 = .ok (.aload_n 0, 1) := by decide +kernel
theorem dX11_shows_11 : decode cX11_shows 11 = .ok (.getfield 82, 3) := by decide +kernel
theorem dX11_shows_14 : decode cX11_shows 14 = .ok (.iload_n 1, 1) := by decide +kernel
theorem dX11_shows_15 : decode cX11_shows 15 = .ok (.aaload, 1) := by decide +kernel
theorem dX11_shows_16 : decode cX11_shows 16 = .ok (.iload_n 2, 1) := by decide +kernel
theorem dX11_shows_17 : decode cX11_shows 17 = .ok (.invokevirtual 226, 3) := by decide +kernel
theorem dX11_shows_20 : decode cX11_shows 20 = .ok (.goto 5, 3) := by decide +kernel
theorem dX11_shows_23 : decode cX11_shows 23 = .ok (.ldc 216, 2) := by decide +kernel
theorem dX11_shows_25 : decode cX11_shows 25 = .ok (.ireturn, 1) := by decide +kernel
theorem dX11_frost_0 : decode cX11_frost 0 = .ok (.aload_n 0, 1) := by decide +kernel
theorem dX11_frost_1 : decode cX11_frost 1 = .ok (.iload_n 1, 1) := by decide +kernel
theorem dX11_frost_2 : decode cX11_frost 2 = .ok (.iload_n 2, 1) := by decide +kernel
theorem dX11_frost_3 : decode cX11_frost 3 = .ok (.iload_n 3, 1) := by decide +kernel
theorem dX11_frost_4 : decode cX11_frost 4 = .ok (.invokevirtual 211, 3) := by decide +kernel
theorem dX11_frost_7 : decode cX11_frost 7 = .ok (.ifCond .eq 15, 3) := by decide +kernel
theorem dX11_frost_10 : decode cX11_frost 10 = .ok (.aload_n 0, 1) := by decide +kernel
theorem dX11_frost_11 : decode cX11_frost 11 = .ok (.getfield 82, 3) := by decide +kernel
theorem dX11_frost_14 : decode cX11_frost 14 = .ok (.iload_n 1, 1) := by decide +kernel
theorem dX11_frost_15 : decode cX11_frost 15 = .ok (.aaload, 1) := by decide +kernel
theorem dX11_frost_16 : decode cX11_frost 16 = .ok (.getfield 229, 3) := by decide +kernel
theorem dX11_frost_19 : decode cX11_frost 19 = .ok (.goto 4, 3) := by decide +kernel
theorem dX11_frost_22 : decode cX11_frost 22 = .ok (.iconst (-1), 1) := by decide +kernel
theorem dX11_frost_23 : decode cX11_frost 23 = .ok (.ireturn, 1) := by decide +kernel
theorem dX11_shown_0 : decode cX11_shown 0 = .ok (.aload_n 0, 1) := by decide +kernel
theorem dX11_shown_1 : decode cX11_shown 1 = .ok (.iload_n 1, 1) := by decide +kernel
theorem dX11_shown_2 : decode cX11_shown 2 = .ok (.iload_n 2, 1) := by decide +kernel
theorem dX11_shown_3 : decode cX11_shown 3 = .ok (.iload 4, 2) := by decide +kernel
theorem dX11_shown_5 : decode cX11_shown 5 = .ok (.invokevirtual 211, 3) := by decide +kernel
theorem dX11_shown_8 : decode cX11_shown 8 = .ok (.ifCond .eq 17, 3) := by decide +kernel
theorem dX11_shown_11 : decode cX11_shown 11 = .ok (.aload_n 0, 1) := by decide +kernel
theorem dX11_shown_12 : decode cX11_shown 12 = .ok (.getfield 82, 3) := by decide +kernel
theorem dX11_shown_15 : decode cX11_shown 15 = .ok (.iload_n 1, 1) := by decide +kernel
theorem dX11_shown_16 : decode cX11_shown 16 = .ok (.aaload, 1) := by decide +kernel
theorem dX11_shown_17 : decode cX11_shown 17 = .ok (.iload_n 2, 1) := by decide +kernel
theorem dX11_shown_18 : decode cX11_shown 18 = .ok (.iload_n 3, 1) := by decide +kernel
theorem dX11_shown_19 : decode cX11_shown 19 = .ok (.invokevirtual 232, 3) := by decide +kernel
theorem dX11_shown_22 : decode cX11_shown 22 = .ok (.goto 5, 3) := by decide +kernel
theorem dX11_shown_25 : decode cX11_shown 25 = .ok (.ldc 216, 2) := by decide +kernel
theorem dX11_shown_27 : decode cX11_shown 27 = .ok (.ireturn, 1) := by decide +kernel
theorem dX11_wrong_0 : decode cX11_wrong 0 = .ok (.aload_n 0, 1) := by decide +kernel
theorem dX11_wrong_1 : decode cX11_wrong 1 = .ok (.iload_n 1, 1) := by decide +kernel
theorem dX11_wrong_2 : decode cX11_wrong 2 = .ok (.iload_n 2, 1) := by decide +kernel
theorem dX11_wrong_3 : decode cX11_wrong 3 = .ok (.invokevirtual 181, 3) := by decide +kernel
theorem dX11_wrong_6 : decode cX11_wrong 6 = .ok (.ifCond .ne 5, 3) := by decide +kernel
theorem dX11_wrong_9 : decode cX11_wrong 9 = .ok (.iconst (-1), 1) := by decide +kernel
theorem dX11_wrong_10 : decode cX11_wrong 10 = .ok (.ireturn, 1) := by decide +kernel
theorem dX11_wrong_11 : decode cX11_wrong 11 = .ok (.aload_n 0, 1) := by decide +kernel
theorem dX11_wrong_12 : decode cX11_wrong 12 = .ok (.getfield 76, 3) := by decide +kernel
theorem dX11_wrong_15 : decode cX11_wrong 15 = .ok (.iload_n 3, 1) := by decide +kernel
theorem dX11_wrong_16 : decode cX11_wrong 16 = .ok (.invokevirtual 201, 3) := by decide +kernel
theorem dX11_wrong_19 : decode cX11_wrong 19 = .ok (.aload_n 0, 1) := by decide +kernel
theorem dX11_wrong_20 : decode cX11_wrong 20 = .ok (.getfield 101, 3) := by decide +kernel
theorem dX11_wrong_23 : decode cX11_wrong 23 = .ok (.iload_n 2, 1) := by decide +kernel
theorem dX11_wrong_24 : decode cX11_wrong 24 = .ok (.iload_n 2, 1) := by decide +kernel
theorem dX11_wrong_25 : decode cX11_wrong 25 = .ok (.invokevirtual 236, 3) := by decide +kernel
theorem dX11_wrong_28 : decode cX11_wrong 28 = .ok (.aload_n 0, 1) := by decide +kernel
theorem dX11_wrong_29 : decode cX11_wrong 29 = .ok (.getfield 101, 3) := by decide +kernel
theorem dX11_wrong_32 : decode cX11_wrong 32 = .ok (.iload_n 1, 1) := by decide +kernel
theorem dX11_wrong_33 : decode cX11_wrong 33 = .ok (.iload_n 2, 1) := by decide +kernel
theorem dX11_wrong_34 : decode cX11_wrong 34 = .ok (.invokevirtual 240, 3) := by decide +kernel
theorem dX11_wrong_37 : decode cX11_wrong 37 = .ok (.ireturn, 1) := by decide +kernel
theorem dX11_habit_0 : decode cX11_habit 0 = .ok (.iload_n 1, 1) := by decide +kernel
theorem dX11_habit_1 : decode cX11_habit 1 = .ok (.ifCond .eq 10, 3) := by decide +kernel
theorem dX11_habit_4 : decode cX11_habit 4 = .ok (.iload_n 1, 1) := by decide +kernel
theorem dX11_habit_5 : decode cX11_habit 5 = .ok (.iconst 1, 1) := by decide +kernel
theorem dX11_habit_6 : decode cX11_habit 6 = .ok (.if_icmp .eq 5, 3) := by decide +kernel
theorem dX11_habit_9 : decode cX11_habit 9 = .ok (.iconst (-1), 1) := by decide +kernel
theorem dX11_habit_10 : decode cX11_habit 10 = .ok (.ireturn, 1) := by decide +kernel
theorem dX11_habit_11 : decode cX11_habit 11 = .ok (.aload_n 0, 1) := by decide +kernel
theorem dX11_habit_12 : decode cX11_habit 12 = .ok (.getfield 76, 3) := by decide +kernel
theorem dX11_habit_15 : decode cX11_habit 15 = .ok (.iload_n 2, 1) := by decide +kernel
theorem dX11_habit_16 : decode cX11_habit 16 = .ok (.invokevirtual 201, 3) := by decide +kernel
theorem dX11_habit_19 : decode cX11_habit 19 = .ok (.aload_n 0, 1) := by decide +kernel
theorem dX11_habit_20 : decode cX11_habit 20 = .ok (.getfield 101, 3) := by decide +kernel
theorem dX11_habit_23 : decode cX11_habit 23 = .ok (.iconst 0, 1) := by decide +kernel
theorem dX11_habit_24 : decode cX11_habit 24 = .ok (.bipush 59, 2) := by decide +kernel
theorem dX11_habit_26 : decode cX11_habit 26 = .ok (.invokevirtual 236, 3) := by decide +kernel
theorem dX11_habit_29 : decode cX11_habit 29 = .ok (.aload_n 0, 1) := by decide +kernel
theorem dX11_habit_30 : decode cX11_habit 30 = .ok (.getfield 101, 3) := by decide +kernel
theorem dX11_habit_33 : decode cX11_habit 33 = .ok (.invokevirtual 243, 3) := by decide +kernel
theorem dX11_habit_36 : decode cX11_habit 36 = .ok (.istore_n 3, 1) := by decide +kernel
theorem dX11_habit_37 : decode cX11_habit 37 = .ok (.iload_n 1, 1) := by decide +kernel
theorem dX11_habit_38 : decode cX11_habit 38 = .ok (.ifCond .eq 8, 3) := by decide +kernel
theorem dX11_habit_41 : decode cX11_habit 41 = .ok (.iload_n 3, 1) := by decide +kernel
theorem dX11_habit_42 : decode cX11_habit 42 = .ok (.iconst (-1), 1) := by decide +kernel
theorem dX11_habit_43 : decode cX11_habit 43 = .ok (.if_icmp .ne 7, 3) := by decide +kernel
theorem dX11_habit_46 : decode cX11_habit 46 = .ok (.iload_n 3, 1) := by decide +kernel
theorem dX11_habit_47 : decode cX11_habit 47 = .ok (.goto 12, 3) := by decide +kernel
theorem dX11_habit_50 : decode cX11_habit 50 = .ok (.aload_n 0, 1) := by decide +kernel
theorem dX11_habit_51 : decode cX11_habit 51 = .ok (.getfield 101, 3) := by decide +kernel
theorem dX11_habit_54 : decode cX11_habit 54 = .ok (.getfield 247, 3) := by decide +kernel
theorem dX11_habit_57 : decode cX11_habit 57 = .ok (.iload_n 3, 1) := by decide +kernel
theorem dX11_habit_58 : decode cX11_habit 58 = .ok (.iaload, 1) := by decide +kernel
theorem dX11_habit_59 : decode cX11_habit 59 = .ok (.ireturn, 1) := by decide +kernel
theorem dX11_right_0 : decode cX11_right 0 = .ok (.aload_n 0, 1) := by decide +kernel
theorem dX11_right_1 : decode cX11_right 1 = .ok (.iload_n 1, 1) := by decide +kernel
theorem dX11_right_2 : decode cX11_right 2 = .ok (.iload_n 2, 1) := by decide +kernel
theorem dX11_right_3 : decode cX11_right 3 = .ok (.invokevirtual 181, 3) := by decide +kernel
theorem dX11_right_6 : decode cX11_right 6 = .ok (.ifCond .ne 6, 3) := by decide +kernel
theorem dX11_right_9 : decode cX11_right 9 = .ok (.ldc 216, 2) := by decide +kernel
theorem dX11_right_11 : decode cX11_right 11 = .ok (.ireturn, 1) := by decide +kernel
theorem dX11_right_12 : decode cX11_right 12 = .ok (.aload_n 0, 1) := by decide +kernel
theorem dX11_right_13 : decode cX11_right 13 = .ok (.getfield 76, 3) := by decide +kernel
theorem dX11_right_16 : decode cX11_right 16 = .ok (.iload 4, 2) := by decide +kernel
theorem dX11_right_18 : decode cX11_right 18 = .ok (.invokevirtual 201, 3) := by decide +kernel
theorem dX11_right_21 : decode cX11_right 21 = .ok (.aload_n 0, 1) := by decide +kernel
theorem dX11_right_22 : decode cX11_right 22 = .ok (.getfield 94, 3) := by decide +kernel
theorem dX11_right_25 : decode cX11_right 25 = .ok (.iload_n 1, 1) := by decide +kernel
theorem dX11_right_26 : decode cX11_right 26 = .ok (.iload_n 2, 1) := by decide +kernel
theorem dX11_right_27 : decode cX11_right 27 = .ok (.invokevirtual 250, 3) := by decide +kernel
theorem dX11_right_30 : decode cX11_right 30 = .ok (.pop, 1) := by decide +kernel
theorem dX11_right_31 : decode cX11_right 31 = .ok (.iload_n 3, 1) := by decide +kernel
theorem dX11_right_32 : decode cX11_right 32 = .ok (.ifCond .eq 13, 3) := by decide +kernel
theorem dX11_right_35 : decode cX11_right 35 = .ok (.aload_n 0, 1) := by decide +kernel
theorem dX11_right_36 : decode cX11_right 36 = .ok (.getfield 94, 3) := by decide +kernel
theorem dX11_right_39 : decode cX11_right 39 = .ok (.getfield 253, 3) := by decide +kernel
theorem dX11_right_42 : decode cX11_right 42 = .ok (.goto 10, 3) := by decide +kernel
theorem dX11_right_45 : decode cX11_right 45 = .ok (.aload_n 0, 1) := by decide +kernel
theorem dX11_right_46 : decode cX11_right 46 = .ok (.getfield 94, 3) := by decide +kernel
theorem dX11_right_49 : decode cX11_right 49 = .ok (.getfield 256, 3) := by decide +kernel
theorem dX11_right_52 : decode cX11_right 52 = .ok (.ireturn, 1) := by decide +kernel
theorem dX11_sum_0 : decode cX11_sum 0 = .ok (.aload_n 0, 1) := by decide +kernel
theorem dX11_sum_1 : decode cX11_sum 1 = .ok (.iload_n 1, 1) := by decide +kernel
theorem dX11_sum_2 : decode cX11_sum 2 = .ok (.iload_n 2, 1) := by decide +kernel
theorem dX11_sum_3 : decode cX11_sum 3 = .ok (.iload_n 3, 1) := by decide +kernel
theorem dX11_sum_4 : decode cX11_sum 4 = .ok (.invokevirtual 259, 3) := by decide +kernel
theorem dX11_sum_7 : decode cX11_sum 7 = .ok (.ifCond .eq 14, 3) := by decide +kernel
theorem dX11_sum_10 : decode cX11_sum 10 = .ok (.iload 4, 2) := by decide +kernel
theorem dX11_sum_12 : decode cX11_sum 12 = .ok (.ifCond .lt 9, 3) := by decide +kernel
theorem dX11_sum_15 : decode cX11_sum 15 = .ok (.iload 4, 2) := by decide +kernel
theorem dX11_sum_17 : decode cX11_sum 17 = .ok (.iconst 2, 1) := by decide +kernel
theorem dX11_sum_18 : decode cX11_sum 18 = .ok (.if_icmp .le 6, 3) := by decide +kernel
theorem dX11_sum_21 : decode cX11_sum 21 = .ok (.ldc 216, 2) := by decide +kernel
theorem dX11_sum_23 : decode cX11_sum 23 = .ok (.ireturn, 1) := by decide +kernel
theorem dX11_sum_24 : decode cX11_sum 24 = .ok (.aload_n 0, 1) := by decide +kernel
theorem dX11_sum_25 : decode cX11_sum 25 = .ok (.getfield 76, 3) := by decide +kernel
theorem dX11_sum_28 : decode cX11_sum 28 = .ok (.iload 5, 2) := by decide +kernel
theorem dX11_sum_30 : decode cX11_sum 30 = .ok (.invokevirtual 201, 3) := by decide +kernel
theorem dX11_sum_33 : decode cX11_sum 33 = .ok (.iconst 0, 1) := by decide +kernel
theorem dX11_sum_34 : decode cX11_sum 34 = .ok (.istore 6, 2) := by decide +kernel
theorem dX11_sum_36 : decode cX11_sum 36 = .ok (.iconst 0, 1) := by decide +kernel
theorem dX11_sum_37 : decode cX11_sum 37 = .ok (.istore 7, 2) := by decide +kernel
theorem dX11_sum_39 : decode cX11_sum 39 = .ok (.iconst 0, 1) := by decide +kernel
theorem dX11_sum_40 : decode cX11_sum 40 = .ok (.istore 8, 2) := by decide +kernel
theorem dX11_sum_42 : decode cX11_sum 42 = .ok (.iload_n 2, 1) := by decide +kernel
theorem dX11_sum_43 : decode cX11_sum 43 = .ok (.istore 9, 2) := by decide +kernel
theorem dX11_sum_45 : decode cX11_sum 45 = .ok (.iload 9, 2) := by decide +kernel
theorem dX11_sum_47 : decode cX11_sum 47 = .ok (.iload_n 3, 1) := by decide +kernel
theorem dX11_sum_48 : decode cX11_sum 48 = .ok (.if_icmp .gt 52, 3) := by decide +kernel
theorem dX11_sum_51 : decode cX11_sum 51 = .ok (.aload_n 0, 1) := by decide +kernel
theorem dX11_sum_52 : decode cX11_sum 52 = .ok (.getfield 94, 3) := by decide +kernel
theorem dX11_sum_55 : decode cX11_sum 55 = .ok (.iload_n 1, 1) := by decide +kernel
theorem dX11_sum_56 : decode cX11_sum 56 = .ok (.iload 9, 2) := by decide +kernel
theorem dX11_sum_58 : decode cX11_sum 58 = .ok (.invokevirtual 250, 3) := by decide +kernel
theorem dX11_sum_61 : decode cX11_sum 61 = .ok (.ifCond .eq 30, 3) := by decide +kernel
theorem dX11_sum_64 : decode cX11_sum 64 = .ok (.iload 6, 2) := by decide +kernel
theorem dX11_sum_66 : decode cX11_sum 66 = .ok (.aload_n 0, 1) := by decide +kernel
theorem dX11_sum_67 : decode cX11_sum 67 = .ok (.getfield 94, 3) := by decide +kernel
theorem dX11_sum_70 : decode cX11_sum 70 = .ok (.getfield 256, 3) := by decide +kernel
theorem dX11_sum_73 : decode cX11_sum 73 = .ok (.iadd, 1) := by decide +kernel
theorem dX11_sum_74 : decode cX11_sum 74 = .ok (.istore 6, 2) := by decide +kernel
theorem dX11_sum_76 : decode cX11_sum 76 = .ok (.iload 7, 2) := by decide +kernel
theorem dX11_sum_78 : decode cX11_sum 78 = .ok (.aload_n 0, 1) := by decide +kernel
theorem dX11_sum_79 : decode cX11_sum 79 = .ok (.getfield 94, 3) := by decide +kernel
theorem dX11_sum_82 : decode cX11_sum 82 = .ok (.getfield 253, 3) := by decide +kernel
theorem dX11_sum_85 : decode cX11_sum 85 = .ok (.iadd, 1) := by decide +kernel
theorem dX11_sum_86 : decode cX11_sum 86 = .ok (.istore 7, 2) := by decide +kernel
theorem dX11_sum_88 : decode cX11_sum 88 = .ok (.goto 6, 3) := by decide +kernel
theorem dX11_sum_91 : decode cX11_sum 91 = .ok (.iinc 8 1, 3) := by decide +kernel
theorem dX11_sum_94 : decode cX11_sum 94 = .ok (.iinc 9 1, 3) := by decide +kernel
theorem dX11_sum_97 : decode cX11_sum 97 = .ok (.goto (-52), 3) := by decide +kernel
theorem dX11_sum_100 : decode cX11_sum 100 = .ok (.iload 4, 2) := by decide +kernel
theorem dX11_sum_102 : decode cX11_sum 102 = .ok (.iconst 2, 1) := by decide +kernel
theorem dX11_sum_103 : decode cX11_sum 103 = .ok (.if_icmp .ne 6, 3) := by decide +kernel
theorem dX11_sum_106 : decode cX11_sum 106 = .ok (.iload 8, 2) := by decide +kernel
theorem dX11_sum_108 : decode cX11_sum 108 = .ok (.ireturn, 1) := by decide +kernel
theorem dX11_sum_109 : decode cX11_sum 109 = .ok (.iload 4, 2) := by decide +kernel
theorem dX11_sum_111 : decode cX11_sum 111 = .ok (.ifCond .ne 8, 3) := by decide +kernel
theorem dX11_sum_114 : decode cX11_sum 114 = .ok (.iload 6, 2) := by decide +kernel
theorem dX11_sum_116 : decode cX11_sum 116 = .ok (.goto 5, 3) := by decide +kernel
theorem dX11_sum_119 : decode cX11_sum 119 = .ok (.iload 7, 2) := by decide +kernel
theorem dX11_sum_121 : decode cX11_sum 121 = .ok (.ireturn, 1) := by decide +kernel
theorem dX11_sure_0 : decode cX11_sure 0 = .ok (.aload_n 0, 1) := by decide +kernel
theorem dX11_sure_1 : decode cX11_sure 1 = .ok (.iload_n 1, 1) := by decide +kernel
theorem dX11_sure_2 : decode cX11_sure 2 = .ok (.iload_n 2, 1) := by decide +kernel
theorem dX11_sure_3 : decode cX11_sure 3 = .ok (.iload_n 3, 1) := by decide +kernel
theorem dX11_sure_4 : decode cX11_sure 4 = .ok (.invokevirtual 259, 3) := by decide +kernel
theorem dX11_sure_7 : decode cX11_sure 7 = .ok (.ifCond .ne 5, 3) := by decide +kernel
theorem dX11_sure_10 : decode cX11_sure 10 = .ok (.iconst (-1), 1) := by decide +kernel
theorem dX11_sure_11 : decode cX11_sure 11 = .ok (.ireturn, 1) := by decide +kernel
theorem dX11_sure_12 : decode cX11_sure 12 = .ok (.aload_n 0, 1) := by decide +kernel
theorem dX11_sure_13 : decode cX11_sure 13 = .ok (.getfield 76, 3) := by decide +kernel
theorem dX11_sure_16 : decode cX11_sure 16 = .ok (.iload 4, 2) := by decide +kernel
theorem dX11_sure_18 : decode cX11_sure 18 = .ok (.invokevirtual 201, 3) := by decide +kernel
theorem dX11_sure_21 : decode cX11_sure 21 = .ok (.aload_n 0, 1) := by decide +kernel
theorem dX11_sure_22 : decode cX11_sure 22 = .ok (.getfield 94, 3) := by decide +kernel
theorem dX11_sure_25 : decode cX11_sure 25 = .ok (.iload_n 1, 1) := by decide +kernel
theorem dX11_sure_26 : decode cX11_sure 26 = .ok (.iload_n 2, 1) := by decide +kernel
theorem dX11_sure_27 : decode cX11_sure 27 = .ok (.iload_n 3, 1) := by decide +kernel
theorem dX11_sure_28 : decode cX11_sure 28 = .ok (.invokevirtual 262, 3) := by decide +kernel
theorem dX11_sure_31 : decode cX11_sure 31 = .ok (.ireturn, 1) := by decide +kernel
theorem dX11_lies_0 : decode cX11_lies 0 = .ok (.iload_n 1, 1) := by decide +kernel
theorem dX11_lies_1 : decode cX11_lies 1 = .ok (.invokestatic 167, 3) := by decide +kernel
theorem dX11_lies_4 : decode cX11_lies 4 = .ok (.ifCond .eq 10, 3) := by decide +kernel
theorem dX11_lies_7 : decode cX11_lies 7 = .ok (.iload_n 2, 1) := by decide +kernel
theorem dX11_lies_8 : decode cX11_lies 8 = .ok (.invokestatic 159, 3) := by decide +kernel
theorem dX11_lies_11 : decode cX11_lies 11 = .ok (.ifCond .ne 5, 3) := by decide +kernel
theorem dX11_lies_14 : decode cX11_lies 14 = .ok (.iconst (-1), 1) := by decide +kernel
theorem dX11_lies_15 : decode cX11_lies 15 = .ok (.ireturn, 1) := by decide +kernel
theorem dX11_lies_16 : decode cX11_lies 16 = .ok (.aload_n 0, 1) := by decide +kernel
theorem dX11_lies_17 : decode cX11_lies 17 = .ok (.getfield 76, 3) := by decide +kernel
theorem dX11_lies_20 : decode cX11_lies 20 = .ok (.iload_n 3, 1) := by decide +kernel
theorem dX11_lies_21 : decode cX11_lies 21 = .ok (.invokevirtual 201, 3) := by decide +kernel
theorem dX11_lies_24 : decode cX11_lies 24 = .ok (.aload_n 0, 1) := by decide +kernel
theorem dX11_lies_25 : decode cX11_lies 25 = .ok (.getfield 94, 3) := by decide +kernel
theorem dX11_lies_28 : decode cX11_lies 28 = .ok (.iload_n 1, 1) := by decide +kernel
theorem dX11_lies_29 : decode cX11_lies 29 = .ok (.iload_n 2, 1) := by decide +kernel
theorem dX11_lies_30 : decode cX11_lies 30 = .ok (.invokevirtual 266, 3) := by decide +kernel
theorem dX11_lies_33 : decode cX11_lies 33 = .ok (.ireturn, 1) := by decide +kernel
theorem dX11_next_0 : decode cX11_next 0 = .ok (.aload_n 0, 1) := by decide +kernel
theorem dX11_next_1 : decode cX11_next 1 = .ok (.getfield 76, 3) := by decide +kernel
theorem dX11_next_4 : decode cX11_next 4 = .ok (.iload_n 1, 1) := by decide +kernel
theorem dX11_next_5 : decode cX11_next 5 = .ok (.invokevirtual 201, 3) := by decide +kernel
theorem dX11_next_8 : decode cX11_next 8 = .ok (.iconst (-1), 1) := by decide +kernel
theorem dX11_next_9 : decode cX11_next 9 = .ok (.istore_n 2, 1) := by decide +kernel
theorem dX11_next_10 : decode cX11_next 10 = .ok (.iconst 0, 1) := by decide +kernel
theorem dX11_next_11 : decode cX11_next 11 = .ok (.istore_n 3, 1) := by decide +kernel
theorem dX11_next_12 : decode cX11_next 12 = .ok (.iconst 0, 1) := by decide +kernel
theorem dX11_next_13 : decode cX11_next 13 = .ok (.istore 4, 2) := by decide +kernel
theorem dX11_next_15 : decode cX11_next 15 = .ok (.iload 4, 2) := by decide +kernel
theorem dX11_next_17 : decode cX11_next 17 = .ok (.aload_n 0, 1) := by decide +kernel
theorem dX11_next_18 : decode cX11_next 18 = .ok (.getfield 29, 3) := by decide +kernel
theorem dX11_next_21 : decode cX11_next 21 = .ok (.getfield 144, 3) := by decide +kernel
theorem dX11_next_24 : decode cX11_next 24 = .ok (.if_icmp .ge 49, 3) := by decide +kernel
theorem dX11_next_27 : decode cX11_next 27 = .ok (.aload_n 0, 1) := by decide +kernel
theorem dX11_next_28 : decode cX11_next 28 = .ok (.getfield 82, 3) := by decide +kernel
theorem dX11_next_31 : decode cX11_next 31 = .ok (.iload 4, 2) := by decide +kernel
theorem dX11_next_33 : decode cX11_next 33 = .ok (.aaload, 1) := by decide +kernel
theorem dX11_next_34 : decode cX11_next 34 = .ok (.bipush 59, 2) := by decide +kernel
theorem dX11_next_36 : decode cX11_next 36 = .ok (.invokevirtual 269, 3) := by decide +kernel
theorem dX11_next_39 : decode cX11_next 39 = .ok (.aload_n 0, 1) := by decide +kernel
theorem dX11_next_40 : decode cX11_next 40 = .ok (.getfield 82, 3) := by decide +kernel
theorem dX11_next_43 : decode cX11_next 43 = .ok (.iload 4, 2) := by decide +kernel
theorem dX11_next_45 : decode cX11_next 45 = .ok (.aaload, 1) := by decide +kernel
theorem dX11_next_46 : decode cX11_next 46 = .ok (.getfield 215, 3) := by decide +kernel
theorem dX11_next_49 : decode cX11_next 49 = .ok (.iload_n 3, 1) := by decide +kernel
theorem dX11_next_50 : decode cX11_next 50 = .ok (.if_icmp .le 17, 3) := by decide +kernel
theorem dX11_next_53 : decode cX11_next 53 = .ok (.aload_n 0, 1) := by decide +kernel
theorem dX11_next_54 : decode cX11_next 54 = .ok (.getfield 82, 3) := by decide +kernel
theorem dX11_next_57 : decode cX11_next 57 = .ok (.iload 4, 2) := by decide +kernel
theorem dX11_next_59 : decode cX11_next 59 = .ok (.aaload, 1) := by decide +kernel
theorem dX11_next_60 : decode cX11_next 60 = .ok (.getfield 215, 3) := by decide +kernel
theorem dX11_next_63 : decode cX11_next 63 = .ok (.istore_n 3, 1) := by decide +kernel
theorem dX11_next_64 : decode cX11_next 64 = .ok (.iload 4, 2) := by decide +kernel
theorem dX11_next_66 : decode cX11_next 66 = .ok (.istore_n 2, 1) := by decide +kernel
theorem dX11_next_67 : decode cX11_next 67 = .ok (.iinc 4 1, 3) := by decide +kernel
theorem dX11_next_70 : decode cX11_next 70 = .ok (.goto (-55), 3) := by decide +kernel
theorem dX11_next_73 : decode cX11_next 73 = .ok (.iload_n 2, 1) := by decide +kernel
theorem dX11_next_74 : decode cX11_next 74 = .ok (.ireturn, 1) := by decide +kernel
theorem dX11_says_0 : decode cX11_says 0 = .ok (.iload_n 1, 1) := by decide +kernel
theorem dX11_says_1 : decode cX11_says 1 = .ok (.invokestatic 159, 3) := by decide +kernel
theorem dX11_says_4 : decode cX11_says 4 = .ok (.ifCond .ne 5, 3) := by decide +kernel
theorem dX11_says_7 : decode cX11_says 7 = .ok (.iconst (-1), 1) := by decide +kernel
theorem dX11_says_8 : decode cX11_says 8 = .ok (.ireturn, 1) := by decide +kernel
theorem dX11_says_9 : decode cX11_says 9 = .ok (.aload_n 0, 1) := by decide +kernel
theorem dX11_says_10 : decode cX11_says 10 = .ok (.getfield 76, 3) := by decide +kernel
theorem dX11_says_13 : decode cX11_says 13 = .ok (.iload_n 2, 1) := by decide +kernel
theorem dX11_says_14 : decode cX11_says 14 = .ok (.invokevirtual 201, 3) := by decide +kernel
theorem dX11_says_17 : decode cX11_says 17 = .ok (.aload_n 0, 1) := by decide +kernel
theorem dX11_says_18 : decode cX11_says 18 = .ok (.getfield 110, 3) := by decide +kernel
theorem dX11_says_21 : decode cX11_says 21 = .ok (.iload_n 1, 1) := by decide +kernel
theorem dX11_says_22 : decode cX11_says 22 = .ok (.invokevirtual 272, 3) := by decide +kernel
theorem dX11_says_25 : decode cX11_says 25 = .ok (.istore_n 3, 1) := by decide +kernel
theorem dX11_says_26 : decode cX11_says 26 = .ok (.iload_n 3, 1) := by decide +kernel
theorem dX11_says_27 : decode cX11_says 27 = .ok (.iconst (-1), 1) := by decide +kernel
theorem dX11_says_28 : decode cX11_says 28 = .ok (.if_icmp .ne 7, 3) := by decide +kernel
theorem dX11_says_31 : decode cX11_says 31 = .ok (.iconst (-1), 1) := by decide +kernel
theorem dX11_says_32 : decode cX11_says 32 = .ok (.goto 12, 3) := by decide +kernel
theorem dX11_says_35 : decode cX11_says 35 = .ok (.aload_n 0, 1) := by decide +kernel
theorem dX11_says_36 : decode cX11_says 36 = .ok (.getfield 48, 3) := by decide +kernel
theorem dX11_says_39 : decode cX11_says 39 = .ok (.getfield 275, 3) := by decide +kernel
theorem dX11_says_42 : decode cX11_says 42 = .ok (.iload_n 3, 1) := by decide +kernel
theorem dX11_says_43 : decode cX11_says 43 = .ok (.iaload, 1) := by decide +kernel
theorem dX11_says_44 : decode cX11_says 44 = .ok (.ireturn, 1) := by decide +kernel
theorem dX11_tried_0 : decode cX11_tried 0 = .ok (.iload_n 1, 1) := by decide +kernel
theorem dX11_tried_1 : decode cX11_tried 1 = .ok (.ifCond .lt 8, 3) := by decide +kernel
theorem dX11_tried_4 : decode cX11_tried 4 = .ok (.iload_n 1, 1) := by decide +kernel
theorem dX11_tried_5 : decode cX11_tried 5 = .ok (.iconst 2, 1) := by decide +kernel
theorem dX11_tried_6 : decode cX11_tried 6 = .ok (.if_icmp .le 6, 3) := by decide +kernel
theorem dX11_tried_9 : decode cX11_tried 9 = .ok (.ldc 216, 2) := by decide +kernel
theorem dX11_tried_11 : decode cX11_tried 11 = .ok (.ireturn, 1) := by decide +kernel
theorem dX11_tried_12 : decode cX11_tried 12 = .ok (.aload_n 0, 1) := by decide +kernel
theorem dX11_tried_13 : decode cX11_tried 13 = .ok (.getfield 76, 3) := by decide +kernel
theorem dX11_tried_16 : decode cX11_tried 16 = .ok (.iload_n 2, 1) := by decide +kernel
theorem dX11_tried_17 : decode cX11_tried 17 = .ok (.invokevirtual 201, 3) := by decide +kernel
theorem dX11_tried_20 : decode cX11_tried 20 = .ok (.aload_n 0, 1) := by decide +kernel
theorem dX11_tried_21 : decode cX11_tried 21 = .ok (.getfield 110, 3) := by decide +kernel
theorem dX11_tried_24 : decode cX11_tried 24 = .ok (.invokevirtual 278, 3) := by decide +kernel
theorem dX11_tried_27 : decode cX11_tried 27 = .ok (.iload_n 1, 1) := by decide +kernel
theorem dX11_tried_28 : decode cX11_tried 28 = .ok (.iconst 2, 1) := by decide +kernel
theorem dX11_tried_29 : decode cX11_tried 29 = .ok (.if_icmp .ne 11, 3) := by decide +kernel
theorem dX11_tried_32 : decode cX11_tried 32 = .ok (.aload_n 0, 1) := by decide +kernel
theorem dX11_tried_33 : decode cX11_tried 33 = .ok (.getfield 110, 3) := by decide +kernel
theorem dX11_tried_36 : decode cX11_tried 36 = .ok (.invokevirtual 281, 3) := by decide +kernel
theorem dX11_tried_39 : decode cX11_tried 39 = .ok (.ireturn, 1) := by decide +kernel
theorem dX11_tried_40 : decode cX11_tried 40 = .ok (.iload_n 1, 1) := by decide +kernel
theorem dX11_tried_41 : decode cX11_tried 41 = .ok (.ifCond .ne 13, 3) := by decide +kernel
theorem dX11_tried_44 : decode cX11_tried 44 = .ok (.aload_n 0, 1) := by decide +kernel
theorem dX11_tried_45 : decode cX11_tried 45 = .ok (.getfield 110, 3) := by decide +kernel
theorem dX11_tried_48 : decode cX11_tried 48 = .ok (.getfield 284, 3) := by decide +kernel
theorem dX11_tried_51 : decode cX11_tried 51 = .ok (.goto 10, 3) := by decide +kernel
theorem dX11_tried_54 : decode cX11_tried 54 = .ok (.aload_n 0, 1) := by decide +kernel
theorem dX11_tried_55 : decode cX11_tried 55 = .ok (.getfield 110, 3) := by decide +kernel
theorem dX11_tried_58 : decode cX11_tried 58 = .ok (.getfield 287, 3) := by decide +kernel
theorem dX11_tried_61 : decode cX11_tried 61 = .ok (.ireturn, 1) := by decide +kernel
theorem dX11_luck_0 : decode cX11_luck 0 = .ok (.iload_n 1, 1) := by decide +kernel
theorem dX11_luck_1 : decode cX11_luck 1 = .ok (.ifCond .eq 12, 3) := by decide +kernel
theorem dX11_luck_4 : decode cX11_luck 4 = .ok (.iload_n 1, 1) := by decide +kernel
theorem dX11_luck_5 : decode cX11_luck 5 = .ok (.iconst 1, 1) := by decide +kernel
theorem dX11_luck_6 : decode cX11_luck 6 = .ok (.if_icmp .eq 7, 3) := by decide +kernel
theorem dX11_luck_9 : decode cX11_luck 9 = .ok (.ldc2_w 290, 3) := by decide +kernel
theorem dX11_luck_12 : decode cX11_luck 12 = .ok (.lreturn, 1) := by decide +kernel
theorem dX11_luck_13 : decode cX11_luck 13 = .ok (.aload_n 0, 1) := by decide +kernel
theorem dX11_luck_14 : decode cX11_luck 14 = .ok (.getfield 76, 3) := by decide +kernel
theorem dX11_luck_17 : decode cX11_luck 17 = .ok (.iload_n 2, 1) := by decide +kernel
theorem dX11_luck_18 : decode cX11_luck 18 = .ok (.invokevirtual 201, 3) := by decide +kernel
theorem dX11_luck_21 : decode cX11_luck 21 = .ok (.aload_n 0, 1) := by decide +kernel
theorem dX11_luck_22 : decode cX11_luck 22 = .ok (.getfield 110, 3) := by decide +kernel
theorem dX11_luck_25 : decode cX11_luck 25 = .ok (.invokevirtual 278, 3) := by decide +kernel
theorem dX11_luck_28 : decode cX11_luck 28 = .ok (.aload_n 0, 1) := by decide +kernel
theorem dX11_luck_29 : decode cX11_luck 29 = .ok (.getfield 110, 3) := by decide +kernel
theorem dX11_luck_32 : decode cX11_luck 32 = .ok (.getfield 284, 3) := by decide +kernel
theorem dX11_luck_35 : decode cX11_luck 35 = .ok (.ifCond .ne 9, 3) := by decide +kernel
theorem dX11_luck_38 : decode cX11_luck 38 = .ok (.ldc2_w 290, 3) := by decide +kernel
theorem dX11_luck_41 : decode cX11_luck 41 = .ok (.goto 11, 3) := by decide +kernel
theorem dX11_luck_44 : decode cX11_luck 44 = .ok (.aload_n 0, 1) := by decide +kernel
theorem dX11_luck_45 : decode cX11_luck 45 = .ok (.getfield 110, 3) := by decide +kernel
theorem dX11_luck_48 : decode cX11_luck 48 = .ok (.iload_n 1, 1) := by decide +kernel
theorem dX11_luck_49 : decode cX11_luck 49 = .ok (.invokevirtual 292, 3) := by decide +kernel
theorem dX11_luck_52 : decode cX11_luck 52 = .ok (.lreturn, 1) := by decide +kernel
theorem dX11_learnt_0 : decode cX11_learnt 0 = .ok (.aload_n 0, 1) := by decide +kernel
theorem dX11_learnt_1 : decode cX11_learnt 1 = .ok (.getfield 29, 3) := by decide +kernel
theorem dX11_learnt_4 : decode cX11_learnt 4 = .ok (.iload_n 1, 1) := by decide +kernel
theorem dX11_learnt_5 : decode cX11_learnt 5 = .ok (.invokevirtual 296, 3) := by decide +kernel
theorem dX11_learnt_8 : decode cX11_learnt 8 = .ok (.ifCond .eq 12, 3) := by decide +kernel
theorem dX11_learnt_11 : decode cX11_learnt 11 = .ok (.iload_n 2, 1) := by decide +kernel
theorem dX11_learnt_12 : decode cX11_learnt 12 = .ok (.ifCond .lt 8, 3) := by decide +kernel
theorem dX11_learnt_15 : decode cX11_learnt 15 = .ok (.iload_n 2, 1) := by decide +kernel
theorem dX11_learnt_16 : decode cX11_learnt 16 = .ok (.iconst 4, 1) := by decide +kernel
theorem dX11_learnt_17 : decode cX11_learnt 17 = .ok (.if_icmp .le 6, 3) := by decide +kernel
theorem dX11_learnt_20 : decode cX11_learnt 20 = .ok (.ldc 216, 2) := by decide +kernel
theorem dX11_learnt_22 : decode cX11_learnt 22 = .ok (.ireturn, 1) := by decide +kernel
theorem dX11_learnt_23 : decode cX11_learnt 23 = .ok (.aload_n 0, 1) := by decide +kernel
theorem dX11_learnt_24 : decode cX11_learnt 24 = .ok (.getfield 76, 3) := by decide +kernel
theorem dX11_learnt_27 : decode cX11_learnt 27 = .ok (.iload_n 3, 1) := by decide +kernel
theorem dX11_learnt_28 : decode cX11_learnt 28 = .ok (.invokevirtual 201, 3) := by decide +kernel
theorem dX11_learnt_31 : decode cX11_learnt 31 = .ok (.aload_n 0, 1) := by decide +kernel
theorem dX11_learnt_32 : decode cX11_learnt 32 = .ok (.getfield 110, 3) := by decide +kernel
theorem dX11_learnt_35 : decode cX11_learnt 35 = .ok (.iload_n 1, 1) := by decide +kernel
theorem dX11_learnt_36 : decode cX11_learnt 36 = .ok (.iload_n 2, 1) := by decide +kernel
theorem dX11_learnt_37 : decode cX11_learnt 37 = .ok (.invokevirtual 299, 3) := by decide +kernel
theorem dX11_learnt_40 : decode cX11_learnt 40 = .ok (.ireturn, 1) := by decide +kernel
theorem dX11_rule_0 : decode cX11_rule 0 = .ok (.iload_n 1, 1) := by decide +kernel
theorem dX11_rule_1 : decode cX11_rule 1 = .ok (.ifCond .lt 23, 3) := by decide +kernel
theorem dX11_rule_4 : decode cX11_rule 4 = .ok (.iload_n 1, 1) := by decide +kernel
theorem dX11_rule_5 : decode cX11_rule 5 = .ok (.aload_n 0, 1) := by decide +kernel
theorem dX11_rule_6 : decode cX11_rule 6 = .ok (.getfield 48, 3) := by decide +kernel
theorem dX11_rule_9 : decode cX11_rule 9 = .ok (.getfield 156, 3) := by decide +kernel
theorem dX11_rule_12 : decode cX11_rule 12 = .ok (.if_icmp .ge 12, 3) := by decide +kernel
theorem dX11_rule_15 : decode cX11_rule 15 = .ok (.iload_n 2, 1) := by decide +kernel
theorem dX11_rule_16 : decode cX11_rule 16 = .ok (.ifCond .lt 8, 3) := by decide +kernel
theorem dX11_rule_19 : decode cX11_rule 19 = .ok (.iload_n 2, 1) := by decide +kernel
theorem dX11_rule_20 : decode cX11_rule 20 = .ok (.iconst 1, 1) := by decide +kernel
theorem dX11_rule_21 : decode cX11_rule 21 = .ok (.if_icmp .le 5, 3) := by decide +kernel
theorem dX11_rule_24 : decode cX11_rule 24 = .ok (.iconst (-1), 1) := by decide +kernel
theorem dX11_rule_25 : decode cX11_rule 25 = .ok (.ireturn, 1) := by decide +kernel
theorem dX11_rule_26 : decode cX11_rule 26 = .ok (.aload_n 0, 1) := by decide +kernel
theorem dX11_rule_27 : decode cX11_rule 27 = .ok (.getfield 76, 3) := by decide +kernel
theorem dX11_rule_30 : decode cX11_rule 30 = .ok (.iload_n 3, 1) := by decide +kernel
theorem dX11_rule_31 : decode cX11_rule 31 = .ok (.invokevirtual 201, 3) := by decide +kernel
theorem dX11_rule_34 : decode cX11_rule 34 = .ok (.aload_n 0, 1) := by decide +kernel
theorem dX11_rule_35 : decode cX11_rule 35 = .ok (.getfield 110, 3) := by decide +kernel
theorem dX11_rule_38 : decode cX11_rule 38 = .ok (.invokevirtual 278, 3) := by decide +kernel
theorem dX11_rule_41 : decode cX11_rule 41 = .ok (.iload_n 2, 1) := by decide +kernel
theorem dX11_rule_42 : decode cX11_rule 42 = .ok (.ifCond .ne 15, 3) := by decide +kernel
theorem dX11_rule_45 : decode cX11_rule 45 = .ok (.aload_n 0, 1) := by decide +kernel
theorem dX11_rule_46 : decode cX11_rule 46 = .ok (.getfield 110, 3) := by decide +kernel
theorem dX11_rule_49 : decode cX11_rule 49 = .ok (.getfield 302, 3) := by decide +kernel
theorem dX11_rule_52 : decode cX11_rule 52 = .ok (.iload_n 1, 1) := by decide +kernel
theorem dX11_rule_53 : decode cX11_rule 53 = .ok (.iaload, 1) := by decide +kernel
theorem dX11_rule_54 : decode cX11_rule 54 = .ok (.goto 12, 3) := by decide +kernel
theorem dX11_rule_57 : decode cX11_rule 57 = .ok (.aload_n 0, 1) := by decide +kernel
theorem dX11_rule_58 : decode cX11_rule 58 = .ok (.getfield 110, 3) := by decide +kernel
theorem dX11_rule_61 : decode cX11_rule 61 = .ok (.getfield 305, 3) := by decide +kernel
theorem dX11_rule_64 : decode cX11_rule 64 = .ok (.iload_n 1, 1) := by decide +kernel
theorem dX11_rule_65 : decode cX11_rule 65 = .ok (.iaload, 1) := by decide +kernel
theorem dX11_rule_66 : decode cX11_rule 66 = .ok (.ireturn, 1) := by decide +kernel
theorem dX11_about_0 : decode cX11_about 0 = .ok (.iload_n 1, 1) := by decide +kernel
theorem dX11_about_1 : decode cX11_about 1 = .ok (.tableswitch 111 0 7 #[47, 55, 63, 71, 79, 87, 98, 103], 47) := by decide +kernel
theorem dX11_about_48 : decode cX11_about 48 = .ok (.aload_n 0, 1) := by decide +kernel
theorem dX11_about_49 : decode cX11_about 49 = .ok (.getfield 29, 3) := by decide +kernel
theorem dX11_about_52 : decode cX11_about 52 = .ok (.getfield 144, 3) := by decide +kernel
theorem dX11_about_55 : decode cX11_about 55 = .ok (.ireturn, 1) := by decide +kernel
theorem dX11_about_56 : decode cX11_about 56 = .ok (.aload_n 0, 1) := by decide +kernel
theorem dX11_about_57 : decode cX11_about 57 = .ok (.getfield 29, 3) := by decide +kernel
theorem dX11_about_60 : decode cX11_about 60 = .ok (.getfield 147, 3) := by decide +kernel
theorem dX11_about_63 : decode cX11_about 63 = .ok (.ireturn, 1) := by decide +kernel
theorem dX11_about_64 : decode cX11_about 64 = .ok (.aload_n 0, 1) := by decide +kernel
theorem dX11_about_65 : decode cX11_about 65 = .ok (.getfield 67, 3) := by decide +kernel
theorem dX11_about_68 : decode cX11_about 68 = .ok (.getfield 308, 3) := by decide +kernel
theorem dX11_about_71 : decode cX11_about 71 = .ok (.ireturn, 1) := by decide +kernel
theorem dX11_about_72 : decode cX11_about 72 = .ok (.aload_n 0, 1) := by decide +kernel
theorem dX11_about_73 : decode cX11_about 73 = .ok (.getfield 67, 3) := by decide +kernel
theorem dX11_about_76 : decode cX11_about 76 = .ok (.getfield 309, 3) := by decide +kernel
theorem dX11_about_79 : decode cX11_about 79 = .ok (.ireturn, 1) := by decide +kernel
theorem dX11_about_80 : decode cX11_about 80 = .ok (.aload_n 0, 1) := by decide +kernel
theorem dX11_about_81 : decode cX11_about 81 = .ok (.getfield 48, 3) := by decide +kernel
theorem dX11_about_84 : decode cX11_about 84 = .ok (.getfield 156, 3) := by decide +kernel
theorem dX11_about_87 : decode cX11_about 87 = .ok (.ireturn, 1) := by decide +kernel
theorem dX11_about_88 : decode cX11_about 88 = .ok (.aload_n 0, 1) := by decide +kernel
theorem dX11_about_89 : decode cX11_about 89 = .ok (.getfield 67, 3) := by decide +kernel
theorem dX11_about_92 : decode cX11_about 92 = .ok (.getfield 312, 3) := by decide +kernel
theorem dX11_about_95 : decode cX11_about 95 = .ok (.invokestatic 316, 3) := by decide +kernel
theorem dX11_about_98 : decode cX11_about 98 = .ok (.ireturn, 1) := by decide +kernel
theorem dX11_about_99 : decode cX11_about 99 = .ok (.aload_n 0, 1) := by decide +kernel
theorem dX11_about_100 : decode cX11_about 100 = .ok (.getfield 114, 3) := by decide +kernel
theorem dX11_about_103 : decode cX11_about 103 = .ok (.ireturn, 1) := by decide +kernel
theorem dX11_about_104 : decode cX11_about 104 = .ok (.aload_n 0, 1) := by decide +kernel
theorem dX11_about_105 : decode cX11_about 105 = .ok (.getfield 67, 3) := by decide +kernel
theorem dX11_about_108 : decode cX11_about 108 = .ok (.getfield 322, 3) := by decide +kernel
theorem dX11_about_111 : decode cX11_about 111 = .ok (.ireturn, 1) := by decide +kernel
theorem dX11_about_112 : decode cX11_about 112 = .ok (.iconst (-1), 1) := by decide +kernel
theorem dX11_about_113 : decode cX11_about 113 = .ok (.ireturn, 1) := by decide +kernel
theorem dX11_put_0 : decode cX11_put 0 = .ok (.bipush 24, 2) := by decide +kernel
theorem dX11_put_2 : decode cX11_put 2 = .ok (.istore_n 2, 1) := by decide +kernel
theorem dX11_put_3 : decode cX11_put 3 = .ok (.iload_n 2, 1) := by decide +kernel
theorem dX11_put_4 : decode cX11_put 4 = .ok (.ifCond .lt 44, 3) := by decide +kernel
theorem dX11_put_7 : decode cX11_put 7 = .ok (.aload_n 0, 1) := by decide +kernel
theorem dX11_put_8 : decode cX11_put 8 = .ok (.getfield 114, 3) := by decide +kernel
theorem dX11_put_11 : decode cX11_put 11 = .ok (.aload_n 0, 1) := by decide +kernel
theorem dX11_put_12 : decode cX11_put 12 = .ok (.getfield 9, 3) := by decide +kernel
theorem dX11_put_15 : decode cX11_put 15 = .ok (.arraylength, 1) := by decide +kernel
theorem dX11_put_16 : decode cX11_put 16 = .ok (.if_icmp .ge 26, 3) := by decide +kernel
theorem dX11_put_19 : decode cX11_put 19 = .ok (.aload_n 0, 1) := by decide +kernel
theorem dX11_put_20 : decode cX11_put 20 = .ok (.getfield 9, 3) := by decide +kernel
theorem dX11_put_23 : decode cX11_put 23 = .ok (.aload_n 0, 1) := by decide +kernel
theorem dX11_put_24 : decode cX11_put 24 = .ok (.getfield 114, 3) := by decide +kernel
theorem dX11_put_27 : decode cX11_put 27 = .ok (.iload_n 1, 1) := by decide +kernel
theorem dX11_put_28 : decode cX11_put 28 = .ok (.iload_n 2, 1) := by decide +kernel
theorem dX11_put_29 : decode cX11_put 29 = .ok (.iushr, 1) := by decide +kernel
theorem dX11_put_30 : decode cX11_put 30 = .ok (.i2b, 1) := by decide +kernel
theorem dX11_put_31 : decode cX11_put 31 = .ok (.bastore, 1) := by decide +kernel
theorem dX11_put_32 : decode cX11_put 32 = .ok (.aload_n 0, 1) := by decide +kernel
theorem dX11_put_33 : decode cX11_put 33 = .ok (.dup, 1) := by decide +kernel
theorem dX11_put_34 : decode cX11_put 34 = .ok (.getfield 114, 3) := by decide +kernel
theorem dX11_put_37 : decode cX11_put 37 = .ok (.iconst 1, 1) := by decide +kernel
theorem dX11_put_38 : decode cX11_put 38 = .ok (.iadd, 1) := by decide +kernel
theorem dX11_put_39 : decode cX11_put 39 = .ok (.putfield 114, 3) := by decide +kernel
theorem dX11_put_42 : decode cX11_put 42 = .ok (.iinc 2 (-8), 3) := by decide +kernel
theorem dX11_put_45 : decode cX11_put 45 = .ok (.goto (-42), 3) := by decide +kernel
theorem dX11_put_48 : decode cX11_put 48 = .ok (.return_, 1) := by decide +kernel
theorem dX11_closeText_0 : decode cX11_closeText 0 = .ok (.aload_n 0, 1) := by decide +kernel
theorem dX11_closeText_1 : decode cX11_closeText 1 = .ok (.iconst 0, 1) := by decide +kernel
theorem dX11_closeText_2 : decode cX11_closeText 2 = .ok (.putfield 114, 3) := by decide +kernel
theorem dX11_closeText_5 : decode cX11_closeText 5 = .ok (.aload_n 0, 1) := by decide +kernel
theorem dX11_closeText_6 : decode cX11_closeText 6 = .ok (.aload_n 0, 1) := by decide +kernel
theorem dX11_closeText_7 : decode cX11_closeText 7 = .ok (.getfield 22, 3) := by decide +kernel
theorem dX11_closeText_10 : decode cX11_closeText 10 = .ok (.getfield 325, 3) := by decide +kernel
theorem dX11_closeText_13 : decode cX11_closeText 13 = .ok (.putfield 133, 3) := by decide +kernel
theorem dX11_closeText_16 : decode cX11_closeText 16 = .ok (.aload_n 0, 1) := by decide +kernel
theorem dX11_closeText_17 : decode cX11_closeText 17 = .ok (.aload_n 0, 1) := by decide +kernel
theorem dX11_closeText_18 : decode cX11_closeText 18 = .ok (.getfield 22, 3) := by decide +kernel
theorem dX11_closeText_21 : decode cX11_closeText 21 = .ok (.getfield 328, 3) := by decide +kernel
theorem dX11_closeText_24 : decode cX11_closeText 24 = .ok (.putfield 13, 3) := by decide +kernel
theorem dX11_closeText_27 : decode cX11_closeText 27 = .ok (.return_, 1) := by decide +kernel
theorem dX11_fitted_0 : decode cX11_fitted 0 = .ok (.aload_n 0, 1) := by decide +kernel
theorem dX11_fitted_1 : decode cX11_fitted 1 = .ok (.iload_n 1, 1) := by decide +kernel
theorem dX11_fitted_2 : decode cX11_fitted 2 = .ok (.iload_n 2, 1) := by decide +kernel
theorem dX11_fitted_3 : decode cX11_fitted 3 = .ok (.invokevirtual 181, 3) := by decide +kernel
theorem dX11_fitted_6 : decode cX11_fitted 6 = .ok (.ifCond .ne 5, 3) := by decide +kernel
theorem dX11_fitted_9 : decode cX11_fitted 9 = .ok (.iconst 0, 1) := by decide +kernel
theorem dX11_fitted_10 : decode cX11_fitted 10 = .ok (.ireturn, 1) := by decide +kernel
theorem dX11_fitted_11 : decode cX11_fitted 11 = .ok (.aload_n 0, 1) := by decide +kernel
theorem dX11_fitted_12 : decode cX11_fitted 12 = .ok (.getfield 76, 3) := by decide +kernel
theorem dX11_fitted_15 : decode cX11_fitted 15 = .ok (.iload_n 3, 1) := by decide +kernel
theorem dX11_fitted_16 : decode cX11_fitted 16 = .ok (.invokevirtual 201, 3) := by decide +kernel
theorem dX11_fitted_19 : decode cX11_fitted 19 = .ok (.aload_n 0, 1) := by decide +kernel
theorem dX11_fitted_20 : decode cX11_fitted 20 = .ok (.getfield 82, 3) := by decide +kernel
theorem dX11_fitted_23 : decode cX11_fitted 23 = .ok (.iload_n 1, 1) := by decide +kernel
theorem dX11_fitted_24 : decode cX11_fitted 24 = .ok (.aaload, 1) := by decide +kernel
theorem dX11_fitted_25 : decode cX11_fitted 25 = .ok (.iload_n 2, 1) := by decide +kernel
theorem dX11_fitted_26 : decode cX11_fitted 26 = .ok (.invokevirtual 269, 3) := by decide +kernel
theorem dX11_fitted_29 : decode cX11_fitted 29 = .ok (.iconst 1, 1) := by decide +kernel
theorem dX11_fitted_30 : decode cX11_fitted 30 = .ok (.ireturn, 1) := by decide +kernel
theorem dX11_isSpot_0 : decode cX11_isSpot 0 = .ok (.aload_n 0, 1) := by decide +kernel
theorem dX11_isSpot_1 : decode cX11_isSpot 1 = .ok (.getfield 29, 3) := by decide +kernel
theorem dX11_isSpot_4 : decode cX11_isSpot 4 = .ok (.iload_n 1, 1) := by decide +kernel
theorem dX11_isSpot_5 : decode cX11_isSpot 5 = .ok (.invokevirtual 296, 3) := by decide +kernel
theorem dX11_isSpot_8 : decode cX11_isSpot 8 = .ok (.ifCond .eq 14, 3) := by decide +kernel
theorem dX11_isSpot_11 : decode cX11_isSpot 11 = .ok (.iload_n 2, 1) := by decide +kernel
theorem dX11_isSpot_12 : decode cX11_isSpot 12 = .ok (.invokestatic 159, 3) := by decide +kernel
theorem dX11_isSpot_15 : decode cX11_isSpot 15 = .ok (.ifCond .eq 7, 3) := by decide +kernel
theorem dX11_isSpot_18 : decode cX11_isSpot 18 = .ok (.iconst 1, 1) := by decide +kernel
theorem dX11_isSpot_19 : decode cX11_isSpot 19 = .ok (.goto 4, 3) := by decide +kernel
theorem dX11_isSpot_22 : decode cX11_isSpot 22 = .ok (.iconst 0, 1) := by decide +kernel
theorem dX11_isSpot_23 : decode cX11_isSpot 23 = .ok (.ireturn, 1) := by decide +kernel
theorem dX11_isRange_0 : decode cX11_isRange 0 = .ok (.aload_n 0, 1) := by decide +kernel
theorem dX11_isRange_1 : decode cX11_isRange 1 = .ok (.getfield 29, 3) := by decide +kernel
theorem dX11_isRange_4 : decode cX11_isRange 4 = .ok (.iload_n 1, 1) := by decide +kernel
theorem dX11_isRange_5 : decode cX11_isRange 5 = .ok (.invokevirtual 296, 3) := by decide +kernel
theorem dX11_isRange_8 : decode cX11_isRange 8 = .ok (.ifCond .eq 26, 3) := by decide +kernel
theorem dX11_isRange_11 : decode cX11_isRange 11 = .ok (.iload_n 2, 1) := by decide +kernel
theorem dX11_isRange_12 : decode cX11_isRange 12 = .ok (.invokestatic 159, 3) := by decide +kernel
theorem dX11_isRange_15 : decode cX11_isRange 15 = .ok (.ifCond .eq 19, 3) := by decide +kernel
theorem dX11_isRange_18 : decode cX11_isRange 18 = .ok (.iload_n 3, 1) := by decide +kernel
theorem dX11_isRange_19 : decode cX11_isRange 19 = .ok (.invokestatic 159, 3) := by decide +kernel
theorem dX11_isRange_22 : decode cX11_isRange 22 = .ok (.ifCond .eq 12, 3) := by decide +kernel
theorem dX11_isRange_25 : decode cX11_isRange 25 = .ok (.iload_n 2, 1) := by decide +kernel
theorem dX11_isRange_26 : decode cX11_isRange 26 = .ok (.iload_n 3, 1) := by decide +kernel
theorem dX11_isRange_27 : decode cX11_isRange 27 = .ok (.if_icmp .gt 7, 3) := by decide +kernel
theorem dX11_isRange_30 : decode cX11_isRange 30 = .ok (.iconst 1, 1) := by decide +kernel
theorem dX11_isRange_31 : decode cX11_isRange 31 = .ok (.goto 4, 3) := by decide +kernel
theorem dX11_isRange_34 : decode cX11_isRange 34 = .ok (.iconst 0, 1) := by decide +kernel
theorem dX11_isRange_35 : decode cX11_isRange 35 = .ok (.ireturn, 1) := by decide +kernel
theorem dX11_isDay_0 : decode cX11_isDay 0 = .ok (.iload_n 0, 1) := by decide +kernel
theorem dX11_isDay_1 : decode cX11_isDay 1 = .ok (.ifCond .lt 13, 3) := by decide +kernel
theorem dX11_isDay_4 : decode cX11_isDay 4 = .ok (.iload_n 0, 1) := by decide +kernel
theorem dX11_isDay_5 : decode cX11_isDay 5 = .ok (.bipush 60, 2) := by decide +kernel
theorem dX11_isDay_7 : decode cX11_isDay 7 = .ok (.if_icmp .ge 7, 3) := by decide +kernel
theorem dX11_isDay_10 : decode cX11_isDay 10 = .ok (.iconst 1, 1) := by decide +kernel
theorem dX11_isDay_11 : decode cX11_isDay 11 = .ok (.goto 4, 3) := by decide +kernel
theorem dX11_isDay_14 : decode cX11_isDay 14 = .ok (.iconst 0, 1) := by decide +kernel
theorem dX11_isDay_15 : decode cX11_isDay 15 = .ok (.ireturn, 1) := by decide +kernel
theorem dX11_isQuantity_0 : decode cX11_isQuantity 0 = .ok (.iload_n 0, 1) := by decide +kernel
theorem dX11_isQuantity_1 : decode cX11_isQuantity 1 = .ok (.ifCond .lt 12, 3) := by decide +kernel
theorem dX11_isQuantity_4 : decode cX11_isQuantity 4 = .ok (.iload_n 0, 1) := by decide +kernel
theorem dX11_isQuantity_5 : decode cX11_isQuantity 5 = .ok (.iconst 4, 1) := by decide +kernel
theorem dX11_isQuantity_6 : decode cX11_isQuantity 6 = .ok (.if_icmp .ge 7, 3) := by decide +kernel
theorem dX11_isQuantity_9 : decode cX11_isQuantity 9 = .ok (.iconst 1, 1) := by decide +kernel
theorem dX11_isQuantity_10 : decode cX11_isQuantity 10 = .ok (.goto 4, 3) := by decide +kernel
theorem dX11_isQuantity_13 : decode cX11_isQuantity 13 = .ok (.iconst 0, 1) := by decide +kernel
theorem dX11_isQuantity_14 : decode cX11_isQuantity 14 = .ok (.ireturn, 1) := by decide +kernel
theorem dX11_isReader_0 : decode cX11_isReader 0 = .ok (.iload_n 0, 1) := by decide +kernel
theorem dX11_isReader_1 : decode cX11_isReader 1 = .ok (.ifCond .lt 13, 3) := by decide +kernel
theorem dX11_isReader_4 : decode cX11_isReader 4 = .ok (.iload_n 0, 1) := by decide +kernel
theorem dX11_isReader_5 : decode cX11_isReader 5 = .ok (.bipush 10, 2) := by decide +kernel
theorem dX11_isReader_7 : decode cX11_isReader 7 = .ok (.if_icmp .ge 7, 3) := by decide +kernel
theorem dX11_isReader_10 : decode cX11_isReader 10 = .ok (.iconst 1, 1) := by decide +kernel
theorem dX11_isReader_11 : decode cX11_isReader 11 = .ok (.goto 4, 3) := by decide +kernel
theorem dX11_isReader_14 : decode cX11_isReader 14 = .ok (.iconst 0, 1) := by decide +kernel
theorem dX11_isReader_15 : decode cX11_isReader 15 = .ok (.ireturn, 1) := by decide +kernel
