theorem dX7_copyFrom_66 : decode cX7_copyFrom 66 = .ok (.if_icmp .ge 21, 3) := by decide +kernel
theorem dX7_copyFrom_69 : decode cX7_copyFrom 69 = .ok (.aload_n 0, 1) := by decide +kernel
theorem dX7_copyFrom_70 : decode cX7_copyFrom 70 = .ok (.getfield 24, 3) := by decide +kernel
theorem dX7_copyFrom_73 : decode cX7_copyFrom 73 = .ok (.iload_n 2, 1) := by decide +kernel
theorem dX7_copyFrom_74 : decode cX7_copyFrom 74 = .ok (.aload_n 1, 1) := by decide +kernel
theorem dX7_copyFrom_75 : decode cX7_copyFrom 75 = .ok (.getfield 24, 3) := by decide +kernel
theorem dX7_copyFrom_78 : decode cX7_copyFrom 78 = .ok (.iload_n 2, 1) := by decide +kernel
theorem dX7_copyFrom_79 : decode cX7_copyFrom 79 = .ok (.aaload, 1) := by decide +kernel
theorem dX7_copyFrom_80 : decode cX7_copyFrom 80 = .ok (.aastore, 1) := by decide +kernel
theorem dX7_copyFrom_81 : decode cX7_copyFrom 81 = .ok (.iinc 2 1, 3) := by decide +kernel
theorem dX7_copyFrom_84 : decode cX7_copyFrom 84 = .ok (.goto (-20), 3) := by decide +kernel
theorem dX7_copyFrom_87 : decode cX7_copyFrom 87 = .ok (.iconst 0, 1) := by decide +kernel
theorem dX7_copyFrom_88 : decode cX7_copyFrom 88 = .ok (.istore_n 2, 1) := by decide +kernel
theorem dX7_copyFrom_89 : decode cX7_copyFrom 89 = .ok (.iload_n 2, 1) := by decide +kernel
theorem dX7_copyFrom_90 : decode cX7_copyFrom 90 = .ok (.bipush 6, 2) := by decide +kernel
theorem dX7_copyFrom_92 : decode cX7_copyFrom 92 = .ok (.if_icmp .ge 21, 3) := by decide +kernel
theorem dX7_copyFrom_95 : decode cX7_copyFrom 95 = .ok (.aload_n 0, 1) := by decide +kernel
theorem dX7_copyFrom_96 : decode cX7_copyFrom 96 = .ok (.getfield 30, 3) := by decide +kernel
theorem dX7_copyFrom_99 : decode cX7_copyFrom 99 = .ok (.iload_n 2, 1) := by decide +kernel
theorem dX7_copyFrom_100 : decode cX7_copyFrom 100 = .ok (.aload_n 1, 1) := by decide +kernel
theorem dX7_copyFrom_101 : decode cX7_copyFrom 101 = .ok (.getfield 30, 3) := by decide +kernel
theorem dX7_copyFrom_104 : decode cX7_copyFrom 104 = .ok (.iload_n 2, 1) := by decide +kernel
theorem dX7_copyFrom_105 : decode cX7_copyFrom 105 = .ok (.aaload, 1) := by decide +kernel
theorem dX7_copyFrom_106 : decode cX7_copyFrom 106 = .ok (.aastore, 1) := by decide +kernel
theorem dX7_copyFrom_107 : decode cX7_copyFrom 107 = .ok (.iinc 2 1, 3) := by decide +kernel
theorem dX7_copyFrom_110 : decode cX7_copyFrom 110 = .ok (.goto (-21), 3) := by decide +kernel
theorem dX7_copyFrom_113 : decode cX7_copyFrom 113 = .ok (.iconst 0, 1) := by decide +kernel
theorem dX7_copyFrom_114 : decode cX7_copyFrom 114 = .ok (.istore_n 2, 1) := by decide +kernel
theorem dX7_copyFrom_115 : decode cX7_copyFrom 115 = .ok (.iload_n 2, 1) := by decide +kernel
theorem dX7_copyFrom_116 : decode cX7_copyFrom 116 = .ok (.iconst 4, 1) := by decide +kernel
theorem dX7_copyFrom_117 : decode cX7_copyFrom 117 = .ok (.if_icmp .ge 21, 3) := by decide +kernel
theorem dX7_copyFrom_120 : decode cX7_copyFrom 120 = .ok (.aload_n 0, 1) := by decide +kernel
theorem dX7_copyFrom_121 : decode cX7_copyFrom 121 = .ok (.getfield 36, 3) := by decide +kernel
theorem dX7_copyFrom_124 : decode cX7_copyFrom 124 = .ok (.iload_n 2, 1) := by decide +kernel
theorem dX7_copyFrom_125 : decode cX7_copyFrom 125 = .ok (.aload_n 1, 1) := by decide +kernel
theorem dX7_copyFrom_126 : decode cX7_copyFrom 126 = .ok (.getfield 36, 3) := by decide +kernel
theorem dX7_copyFrom_129 : decode cX7_copyFrom 129 = .ok (.iload_n 2, 1) := by decide +kernel
theorem dX7_copyFrom_130 : decode cX7_copyFrom 130 = .ok (.aaload, 1) := by decide +kernel
theorem dX7_copyFrom_131 : decode cX7_copyFrom 131 = .ok (.aastore, 1) := by decide +kernel
theorem dX7_copyFrom_132 : decode cX7_copyFrom 132 = .ok (.iinc 2 1, 3) := by decide +kernel
theorem dX7_copyFrom_135 : decode cX7_copyFrom 135 = .ok (.goto (-20), 3) := by decide +kernel
theorem dX7_copyFrom_138 : decode cX7_copyFrom 138 = .ok (.aload_n 1, 1) := by decide +kernel
theorem dX7_copyFrom_139 : decode cX7_copyFrom 139 = .ok (.getfield 40, 3) := by decide +kernel
theorem dX7_copyFrom_142 : decode cX7_copyFrom 142 = .ok (.iconst 0, 1) := by decide +kernel
theorem dX7_copyFrom_143 : decode cX7_copyFrom 143 = .ok (.aload_n 0, 1) := by decide +kernel
theorem dX7_copyFrom_144 : decode cX7_copyFrom 144 = .ok (.getfield 40, 3) := by decide +kernel
theorem dX7_copyFrom_147 : decode cX7_copyFrom 147 = .ok (.iconst 0, 1) := by decide +kernel
theorem dX7_copyFrom_148 : decode cX7_copyFrom 148 = .ok (.aload_n 0, 1) := by decide +kernel
theorem dX7_copyFrom_149 : decode cX7_copyFrom 149 = .ok (.getfield 40, 3) := by decide +kernel
theorem dX7_copyFrom_152 : decode cX7_copyFrom 152 = .ok (.arraylength, 1) := by decide +kernel
theorem dX7_copyFrom_153 : decode cX7_copyFrom 153 = .ok (.invokestatic 50, 3) := by decide +kernel
theorem dX7_copyFrom_156 : decode cX7_copyFrom 156 = .ok (.aload_n 1, 1) := by decide +kernel
theorem dX7_copyFrom_157 : decode cX7_copyFrom 157 = .ok (.getfield 43, 3) := by decide +kernel
theorem dX7_copyFrom_160 : decode cX7_copyFrom 160 = .ok (.iconst 0, 1) := by decide +kernel
theorem dX7_copyFrom_161 : decode cX7_copyFrom 161 = .ok (.aload_n 0, 1) := by decide +kernel
theorem dX7_copyFrom_162 : decode cX7_copyFrom 162 = .ok (.getfield 43, 3) := by decide +kernel
theorem dX7_copyFrom_165 : decode cX7_copyFrom 165 = .ok (.iconst 0, 1) := by decide +kernel
theorem dX7_copyFrom_166 : decode cX7_copyFrom 166 = .ok (.aload_n 0, 1) := by decide +kernel
theorem dX7_copyFrom_167 : decode cX7_copyFrom 167 = .ok (.getfield 43, 3) := by decide +kernel
theorem dX7_copyFrom_170 : decode cX7_copyFrom 170 = .ok (.arraylength, 1) := by decide +kernel
theorem dX7_copyFrom_171 : decode cX7_copyFrom 171 = .ok (.invokestatic 50, 3) := by decide +kernel
theorem dX7_copyFrom_174 : decode cX7_copyFrom 174 = .ok (.return_, 1) := by decide +kernel
theorem dX7_slots_0 : decode cX7_slots 0 = .ok (.iload_n 1, 1) := by decide +kernel
theorem dX7_slots_1 : decode cX7_slots 1 = .ok (.ifCond .ne 8, 3) := by decide +kernel
theorem dX7_slots_4 : decode cX7_slots 4 = .ok (.aload_n 0, 1) := by decide +kernel
theorem dX7_slots_5 : decode cX7_slots 5 = .ok (.getfield 24, 3) := by decide +kernel
theorem dX7_slots_8 : decode cX7_slots 8 = .ok (.areturn, 1) := by decide +kernel
theorem dX7_slots_9 : decode cX7_slots 9 = .ok (.iload_n 1, 1) := by decide +kernel
theorem dX7_slots_10 : decode cX7_slots 10 = .ok (.iconst 1, 1) := by decide +kernel
theorem dX7_slots_11 : decode cX7_slots 11 = .ok (.if_icmp .ne 10, 3) := by decide +kernel
theorem dX7_slots_14 : decode cX7_slots 14 = .ok (.aload_n 0, 1) := by decide +kernel
theorem dX7_slots_15 : decode cX7_slots 15 = .ok (.getfield 30, 3) := by decide +kernel
theorem dX7_slots_18 : decode cX7_slots 18 = .ok (.goto 7, 3) := by decide +kernel
theorem dX7_slots_21 : decode cX7_slots 21 = .ok (.aload_n 0, 1) := by decide +kernel
theorem dX7_slots_22 : decode cX7_slots 22 = .ok (.getfield 36, 3) := by decide +kernel
theorem dX7_slots_25 : decode cX7_slots 25 = .ok (.areturn, 1) := by decide +kernel
theorem dX7_putRule_0 : decode cX7_putRule 0 = .ok (.aload_n 0, 1) := by decide +kernel
theorem dX7_putRule_1 : decode cX7_putRule 1 = .ok (.getfield 24, 3) := by decide +kernel
theorem dX7_putRule_4 : decode cX7_putRule 4 = .ok (.iload_n 1, 1) := by decide +kernel
theorem dX7_putRule_5 : decode cX7_putRule 5 = .ok (.aload_n 2, 1) := by decide +kernel
theorem dX7_putRule_6 : decode cX7_putRule 6 = .ok (.aastore, 1) := by decide +kernel
theorem dX7_putRule_7 : decode cX7_putRule 7 = .ok (.aload_n 0, 1) := by decide +kernel
theorem dX7_putRule_8 : decode cX7_putRule 8 = .ok (.invokevirtual 47, 3) := by decide +kernel
theorem dX7_putRule_11 : decode cX7_putRule 11 = .ok (.return_, 1) := by decide +kernel
theorem dX7_relabel_0 : decode cX7_relabel 0 = .ok (.aload_n 0, 1) := by decide +kernel
theorem dX7_relabel_1 : decode cX7_relabel 1 = .ok (.getfield 9, 3) := by decide +kernel
theorem dX7_relabel_4 : decode cX7_relabel 4 = .ok (.iload_n 2, 1) := by decide +kernel
theorem dX7_relabel_5 : decode cX7_relabel 5 = .ok (.bipush 12, 2) := by decide +kernel
theorem dX7_relabel_7 : decode cX7_relabel 7 = .ok (.imul, 1) := by decide +kernel
theorem dX7_relabel_8 : decode cX7_relabel 8 = .ok (.iload_n 1, 1) := by decide +kernel
theorem dX7_relabel_9 : decode cX7_relabel 9 = .ok (.iadd, 1) := by decide +kernel
theorem dX7_relabel_10 : decode cX7_relabel 10 = .ok (.iaload, 1) := by decide +kernel
theorem dX7_relabel_11 : decode cX7_relabel 11 = .ok (.istore 4, 2) := by decide +kernel
theorem dX7_relabel_13 : decode cX7_relabel 13 = .ok (.aload_n 0, 1) := by decide +kernel
theorem dX7_relabel_14 : decode cX7_relabel 14 = .ok (.getfield 9, 3) := by decide +kernel
theorem dX7_relabel_17 : decode cX7_relabel 17 = .ok (.iload_n 2, 1) := by decide +kernel
theorem dX7_relabel_18 : decode cX7_relabel 18 = .ok (.bipush 12, 2) := by decide +kernel
theorem dX7_relabel_20 : decode cX7_relabel 20 = .ok (.imul, 1) := by decide +kernel
theorem dX7_relabel_21 : decode cX7_relabel 21 = .ok (.iload_n 1, 1) := by decide +kernel
theorem dX7_relabel_22 : decode cX7_relabel 22 = .ok (.iadd, 1) := by decide +kernel
theorem dX7_relabel_23 : decode cX7_relabel 23 = .ok (.iload_n 3, 1) := by decide +kernel
theorem dX7_relabel_24 : decode cX7_relabel 24 = .ok (.iastore, 1) := by decide +kernel
theorem dX7_relabel_25 : decode cX7_relabel 25 = .ok (.aload_n 0, 1) := by decide +kernel
theorem dX7_relabel_26 : decode cX7_relabel 26 = .ok (.invokevirtual 47, 3) := by decide +kernel
theorem dX7_relabel_29 : decode cX7_relabel 29 = .ok (.iload 4, 2) := by decide +kernel
theorem dX7_relabel_31 : decode cX7_relabel 31 = .ok (.ireturn, 1) := by decide +kernel
theorem dX7_sortLabels_0 : decode cX7_sortLabels 0 = .ok (.iconst 0, 1) := by decide +kernel
theorem dX7_sortLabels_1 : decode cX7_sortLabels 1 = .ok (.istore_n 1, 1) := by decide +kernel
theorem dX7_sortLabels_2 : decode cX7_sortLabels 2 = .ok (.iload_n 1, 1) := by decide +kernel
theorem dX7_sortLabels_3 : decode cX7_sortLabels 3 = .ok (.bipush 20, 2) := by decide +kernel
theorem dX7_sortLabels_5 : decode cX7_sortLabels 5 = .ok (.if_icmp .ge 16, 3) := by decide +kernel
theorem dX7_sortLabels_8 : decode cX7_sortLabels 8 = .ok (.aload_n 0, 1) := by decide +kernel
theorem dX7_sortLabels_9 : decode cX7_sortLabels 9 = .ok (.getfield 43, 3) := by decide +kernel
theorem dX7_sortLabels_12 : decode cX7_sortLabels 12 = .ok (.iload_n 1, 1) := by decide +kernel
theorem dX7_sortLabels_13 : decode cX7_sortLabels 13 = .ok (.lconst 0, 1) := by decide +kernel
theorem dX7_sortLabels_14 : decode cX7_sortLabels 14 = .ok (.lastore, 1) := by decide +kernel
theorem dX7_sortLabels_15 : decode cX7_sortLabels 15 = .ok (.iinc 1 1, 3) := by decide +kernel
theorem dX7_sortLabels_18 : decode cX7_sortLabels 18 = .ok (.goto (-16), 3) := by decide +kernel
theorem dX7_sortLabels_21 : decode cX7_sortLabels 21 = .ok (.iconst 0, 1) := by decide +kernel
theorem dX7_sortLabels_22 : decode cX7_sortLabels 22 = .ok (.istore_n 1, 1) := by decide +kernel
theorem dX7_sortLabels_23 : decode cX7_sortLabels 23 = .ok (.iload_n 1, 1) := by decide +kernel
theorem dX7_sortLabels_24 : decode cX7_sortLabels 24 = .ok (.iconst 3, 1) := by decide +kernel
theorem dX7_sortLabels_25 : decode cX7_sortLabels 25 = .ok (.if_icmp .ge 55, 3) := by decide +kernel
theorem dX7_sortLabels_28 : decode cX7_sortLabels 28 = .ok (.iconst 0, 1) := by decide +kernel
theorem dX7_sortLabels_29 : decode cX7_sortLabels 29 = .ok (.istore_n 2, 1) := by decide +kernel
theorem dX7_sortLabels_30 : decode cX7_sortLabels 30 = .ok (.iload_n 2, 1) := by decide +kernel
theorem dX7_sortLabels_31 : decode cX7_sortLabels 31 = .ok (.bipush 12, 2) := by decide +kernel
theorem dX7_sortLabels_33 : decode cX7_sortLabels 33 = .ok (.if_icmp .ge 41, 3) := by decide +kernel
theorem dX7_sortLabels_36 : decode cX7_sortLabels 36 = .ok (.aload_n 0, 1) := by decide +kernel
theorem dX7_sortLabels_37 : decode cX7_sortLabels 37 = .ok (.getfield 9, 3) := by decide +kernel
theorem dX7_sortLabels_40 : decode cX7_sortLabels 40 = .ok (.iload_n 1, 1) := by decide +kernel
theorem dX7_sortLabels_41 : decode cX7_sortLabels 41 = .ok (.bipush 12, 2) := by decide +kernel
theorem dX7_sortLabels_43 : decode cX7_sortLabels 43 = .ok (.imul, 1) := by decide +kernel
theorem dX7_sortLabels_44 : decode cX7_sortLabels 44 = .ok (.iload_n 2, 1) := by decide +kernel
theorem dX7_sortLabels_45 : decode cX7_sortLabels 45 = .ok (.iadd, 1) := by decide +kernel
theorem dX7_sortLabels_46 : decode cX7_sortLabels 46 = .ok (.iaload, 1) := by decide +kernel
theorem dX7_sortLabels_47 : decode cX7_sortLabels 47 = .ok (.istore_n 3, 1) := by decide +kernel
theorem dX7_sortLabels_48 : decode cX7_sortLabels 48 = .ok (.aload_n 0, 1) := by decide +kernel
theorem dX7_sortLabels_49 : decode cX7_sortLabels 49 = .ok (.getfield 43, 3) := by decide +kernel
theorem dX7_sortLabels_52 : decode cX7_sortLabels 52 = .ok (.getstatic 56, 3) := by decide +kernel
theorem dX7_sortLabels_55 : decode cX7_sortLabels 55 = .ok (.iload_n 1, 1) := by decide +kernel
theorem dX7_sortLabels_56 : decode cX7_sortLabels 56 = .ok (.iaload, 1) := by decide +kernel
theorem dX7_sortLabels_57 : decode cX7_sortLabels 57 = .ok (.iload_n 3, 1) := by decide +kernel
theorem dX7_sortLabels_58 : decode cX7_sortLabels 58 = .ok (.iadd, 1) := by decide +kernel
theorem dX7_sortLabels_59 : decode cX7_sortLabels 59 = .ok (.dup2, 1) := by decide +kernel
theorem dX7_sortLabels_60 : decode cX7_sortLabels 60 = .ok (.laload, 1) := by decide +kernel
theorem dX7_sortLabels_61 : decode cX7_sortLabels 61 = .ok (.ldc2_w 59, 3) := by decide +kernel
theorem dX7_sortLabels_64 : decode cX7_sortLabels 64 = .ok (.iload_n 2, 1) := by decide +kernel
theorem dX7_sortLabels_65 : decode cX7_sortLabels 65 = .ok (.lshl, 1) := by decide +kernel
theorem dX7_sortLabels_66 : decode cX7_sortLabels 66 = .ok (.lor, 1) := by decide +kernel
theorem dX7_sortLabels_67 : decode cX7_sortLabels 67 = .ok (.lastore, 1) := by decide +kernel
theorem dX7_sortLabels_68 : decode cX7_sortLabels 68 = .ok (.iinc 2 1, 3) := by decide +kernel
theorem dX7_sortLabels_71 : decode cX7_sortLabels 71 = .ok (.goto (-41), 3) := by decide +kernel
theorem dX7_sortLabels_74 : decode cX7_sortLabels 74 = .ok (.iinc 1 1, 3) := by decide +kernel
theorem dX7_sortLabels_77 : decode cX7_sortLabels 77 = .ok (.goto (-54), 3) := by decide +kernel
theorem dX7_sortLabels_80 : decode cX7_sortLabels 80 = .ok (.iconst 0, 1) := by decide +kernel
theorem dX7_sortLabels_81 : decode cX7_sortLabels 81 = .ok (.istore_n 1, 1) := by decide +kernel
theorem dX7_sortLabels_82 : decode cX7_sortLabels 82 = .ok (.iload_n 1, 1) := by decide +kernel
theorem dX7_sortLabels_83 : decode cX7_sortLabels 83 = .ok (.iconst 5, 1) := by decide +kernel
theorem dX7_sortLabels_84 : decode cX7_sortLabels 84 = .ok (.if_icmp .ge 46, 3) := by decide +kernel
theorem dX7_sortLabels_87 : decode cX7_sortLabels 87 = .ok (.aload_n 0, 1) := by decide +kernel
theorem dX7_sortLabels_88 : decode cX7_sortLabels 88 = .ok (.getfield 24, 3) := by decide +kernel
theorem dX7_sortLabels_91 : decode cX7_sortLabels 91 = .ok (.iload_n 1, 1) := by decide +kernel
theorem dX7_sortLabels_92 : decode cX7_sortLabels 92 = .ok (.aaload, 1) := by decide +kernel
theorem dX7_sortLabels_93 : decode cX7_sortLabels 93 = .ok (.astore_n 2, 1) := by decide +kernel
theorem dX7_sortLabels_94 : decode cX7_sortLabels 94 = .ok (.aload_n 2, 1) := by decide +kernel
theorem dX7_sortLabels_95 : decode cX7_sortLabels 95 = .ok (.ifnull 29, 3) := by decide +kernel
theorem dX7_sortLabels_98 : decode cX7_sortLabels 98 = .ok (.aload_n 0, 1) := by decide +kernel
theorem dX7_sortLabels_99 : decode cX7_sortLabels 99 = .ok (.getfield 43, 3) := by decide +kernel
theorem dX7_sortLabels_102 : decode cX7_sortLabels 102 = .ok (.getstatic 56, 3) := by decide +kernel
theorem dX7_sortLabels_105 : decode cX7_sortLabels 105 = .ok (.iconst 3, 1) := by decide +kernel
theorem dX7_sortLabels_106 : decode cX7_sortLabels 106 = .ok (.iaload, 1) := by decide +kernel
theorem dX7_sortLabels_107 : decode cX7_sortLabels 107 = .ok (.aload_n 2, 1) := by decide +kernel
theorem dX7_sortLabels_108 : decode cX7_sortLabels 108 = .ok (.getfield 61, 3) := by decide +kernel
theorem dX7_sortLabels_111 : decode cX7_sortLabels 111 = .ok (.iadd, 1) := by decide +kernel
theorem dX7_sortLabels_112 : decode cX7_sortLabels 112 = .ok (.dup2, 1) := by decide +kernel
theorem dX7_sortLabels_113 : decode cX7_sortLabels 113 = .ok (.laload, 1) := by decide +kernel
theorem dX7_sortLabels_114 : decode cX7_sortLabels 114 = .ok (.ldc2_w 65, 3) := by decide +kernel
theorem dX7_sortLabels_117 : decode cX7_sortLabels 117 = .ok (.iload_n 1, 1) := by decide +kernel
theorem dX7_sortLabels_118 : decode cX7_sortLabels 118 = .ok (.bipush 12, 2) := by decide +kernel
theorem dX7_sortLabels_120 : decode cX7_sortLabels 120 = .ok (.imul, 1) := by decide +kernel
theorem dX7_sortLabels_121 : decode cX7_sortLabels 121 = .ok (.lshl, 1) := by decide +kernel
theorem dX7_sortLabels_122 : decode cX7_sortLabels 122 = .ok (.lor, 1) := by decide +kernel
theorem dX7_sortLabels_123 : decode cX7_sortLabels 123 = .ok (.lastore, 1) := by decide +kernel
theorem dX7_sortLabels_124 : decode cX7_sortLabels 124 = .ok (.iinc 1 1, 3) := by decide +kernel
theorem dX7_sortLabels_127 : decode cX7_sortLabels 127 = .ok (.goto (-45), 3) := by decide +kernel
theorem dX7_sortLabels_130 : decode cX7_sortLabels 130 = .ok (.return_, 1) := by decide +kernel
theorem dX7_countValues_0 : decode cX7_countValues 0 = .ok (.iconst 0, 1) := by decide +kernel
theorem dX7_countValues_1 : decode cX7_countValues 1 = .ok (.istore_n 1, 1) := by decide +kernel
theorem dX7_countValues_2 : decode cX7_countValues 2 = .ok (.iconst 0, 1) := by decide +kernel
theorem dX7_countValues_3 : decode cX7_countValues 3 = .ok (.istore_n 2, 1) := by decide +kernel
theorem dX7_countValues_4 : decode cX7_countValues 4 = .ok (.iload_n 2, 1) := by decide +kernel
theorem dX7_countValues_5 : decode cX7_countValues 5 = .ok (.bipush 12, 2) := by decide +kernel
theorem dX7_countValues_7 : decode cX7_countValues 7 = .ok (.if_icmp .ge 21, 3) := by decide +kernel
theorem dX7_countValues_10 : decode cX7_countValues 10 = .ok (.aload_n 0, 1) := by decide +kernel
theorem dX7_countValues_11 : decode cX7_countValues 11 = .ok (.getfield 18, 3) := by decide +kernel
theorem dX7_countValues_14 : decode cX7_countValues 14 = .ok (.iload_n 2, 1) := by decide +kernel
theorem dX7_countValues_15 : decode cX7_countValues 15 = .ok (.baload, 1) := by decide +kernel
theorem dX7_countValues_16 : decode cX7_countValues 16 = .ok (.ifCond .eq 6, 3) := by decide +kernel
theorem dX7_countValues_19 : decode cX7_countValues 19 = .ok (.iinc 1 1, 3) := by decide +kernel
theorem dX7_countValues_22 : decode cX7_countValues 22 = .ok (.iinc 2 1, 3) := by decide +kernel
theorem dX7_countValues_25 : decode cX7_countValues 25 = .ok (.goto (-21), 3) := by decide +kernel
theorem dX7_countValues_28 : decode cX7_countValues 28 = .ok (.iload_n 1, 1) := by decide +kernel
theorem dX7_countValues_29 : decode cX7_countValues 29 = .ok (.ireturn, 1) := by decide +kernel
theorem dX7_keyOf_0 : decode cX7_keyOf 0 = .ok (.aload_n 0, 1) := by decide +kernel
theorem dX7_keyOf_1 : decode cX7_keyOf 1 = .ok (.getfield 40, 3) := by decide +kernel
theorem dX7_keyOf_4 : decode cX7_keyOf 4 = .ok (.iconst 4, 1) := by decide +kernel
theorem dX7_keyOf_5 : decode cX7_keyOf 5 = .ok (.iaload, 1) := by decide +kernel
theorem dX7_keyOf_6 : decode cX7_keyOf 6 = .ok (.istore_n 2, 1) := by decide +kernel
theorem dX7_keyOf_7 : decode cX7_keyOf 7 = .ok (.iconst 0, 1) := by decide +kernel
theorem dX7_keyOf_8 : decode cX7_keyOf 8 = .ok (.istore_n 3, 1) := by decide +kernel
theorem dX7_keyOf_9 : decode cX7_keyOf 9 = .ok (.iload_n 2, 1) := by decide +kernel
theorem dX7_keyOf_10 : decode cX7_keyOf 10 = .ok (.iconst 1, 1) := by decide +kernel
theorem dX7_keyOf_11 : decode cX7_keyOf 11 = .ok (.iand, 1) := by decide +kernel
theorem dX7_keyOf_12 : decode cX7_keyOf 12 = .ok (.ifCond .eq 17, 3) := by decide +kernel
theorem dX7_keyOf_15 : decode cX7_keyOf 15 = .ok (.iload_n 3, 1) := by decide +kernel
theorem dX7_keyOf_16 : decode cX7_keyOf 16 = .ok (.bipush 32, 2) := by decide +kernel
theorem dX7_keyOf_18 : decode cX7_keyOf 18 = .ok (.aload_n 0, 1) := by decide +kernel
theorem dX7_keyOf_19 : decode cX7_keyOf 19 = .ok (.getfield 9, 3) := by decide +kernel
theorem dX7_keyOf_22 : decode cX7_keyOf 22 = .ok (.iconst 0, 1) := by decide +kernel
theorem dX7_keyOf_23 : decode cX7_keyOf 23 = .ok (.iload_n 1, 1) := by decide +kernel
theorem dX7_keyOf_24 : decode cX7_keyOf 24 = .ok (.iadd, 1) := by decide +kernel
theorem dX7_keyOf_25 : decode cX7_keyOf 25 = .ok (.iaload, 1) := by decide +kernel
theorem dX7_keyOf_26 : decode cX7_keyOf 26 = .ok (.imul, 1) := by decide +kernel
theorem dX7_keyOf_27 : decode cX7_keyOf 27 = .ok (.iadd, 1) := by decide +kernel
theorem dX7_keyOf_28 : decode cX7_keyOf 28 = .ok (.istore_n 3, 1) := by decide +kernel
theorem dX7_keyOf_29 : decode cX7_keyOf 29 = .ok (.iload_n 2, 1) := by decide +kernel
theorem dX7_keyOf_30 : decode cX7_keyOf 30 = .ok (.iconst 2, 1) := by decide +kernel
theorem dX7_keyOf_31 : decode cX7_keyOf 31 = .ok (.iand, 1) := by decide +kernel
theorem dX7_keyOf_32 : decode cX7_keyOf 32 = .ok (.ifCond .eq 17, 3) := by decide +kernel
theorem dX7_keyOf_35 : decode cX7_keyOf 35 = .ok (.iload_n 3, 1) := by decide +kernel
theorem dX7_keyOf_36 : decode cX7_keyOf 36 = .ok (.iconst 4, 1) := by decide +kernel
theorem dX7_keyOf_37 : decode cX7_keyOf 37 = .ok (.aload_n 0, 1) := by decide +kernel
theorem dX7_keyOf_38 : decode cX7_keyOf 38 = .ok (.getfield 9, 3) := by decide +kernel
theorem dX7_keyOf_41 : decode cX7_keyOf 41 = .ok (.bipush 12, 2) := by decide +kernel
theorem dX7_keyOf_43 : decode cX7_keyOf 43 = .ok (.iload_n 1, 1) := by decide +kernel
theorem dX7_keyOf_44 : decode cX7_keyOf 44 = .ok (.iadd, 1) := by decide +kernel
theorem dX7_keyOf_45 : decode cX7_keyOf 45 = .ok (.iaload, 1) := by decide +kernel
theorem dX7_keyOf_46 : decode cX7_keyOf 46 = .ok (.imul, 1) := by decide +kernel
theorem dX7_keyOf_47 : decode cX7_keyOf 47 = .ok (.iadd, 1) := by decide +kernel
theorem dX7_keyOf_48 : decode cX7_keyOf 48 = .ok (.istore_n 3, 1) := by decide +kernel
theorem dX7_keyOf_49 : decode cX7_keyOf 49 = .ok (.iload_n 2, 1) := by decide +kernel
theorem dX7_keyOf_50 : decode cX7_keyOf 50 = .ok (.iconst 4, 1) := by decide +kernel
theorem dX7_keyOf_51 : decode cX7_keyOf 51 = .ok (.iand, 1) := by decide +kernel
theorem dX7_keyOf_52 : decode cX7_keyOf 52 = .ok (.ifCond .eq 15, 3) := by decide +kernel
theorem dX7_keyOf_55 : decode cX7_keyOf 55 = .ok (.iload_n 3, 1) := by decide +kernel
theorem dX7_keyOf_56 : decode cX7_keyOf 56 = .ok (.aload_n 0, 1) := by decide +kernel
theorem dX7_keyOf_57 : decode cX7_keyOf 57 = .ok (.getfield 9, 3) := by decide +kernel
theorem dX7_keyOf_60 : decode cX7_keyOf 60 = .ok (.bipush 24, 2) := by decide +kernel
theorem dX7_keyOf_62 : decode cX7_keyOf 62 = .ok (.iload_n 1, 1) := by decide +kernel
theorem dX7_keyOf_63 : decode cX7_keyOf 63 = .ok (.iadd, 1) := by decide +kernel
theorem dX7_keyOf_64 : decode cX7_keyOf 64 = .ok (.iaload, 1) := by decide +kernel
theorem dX7_keyOf_65 : decode cX7_keyOf 65 = .ok (.iadd, 1) := by decide +kernel
theorem dX7_keyOf_66 : decode cX7_keyOf 66 = .ok (.istore_n 3, 1) := by decide +kernel
theorem dX7_keyOf_67 : decode cX7_keyOf 67 = .ok (.iload_n 3, 1) := by decide +kernel
theorem dX7_keyOf_68 : decode cX7_keyOf 68 = .ok (.ireturn, 1) := by decide +kernel
theorem dX7_matched_0 : decode cX7_matched 0 = .ok (.ldc2_w 67, 3) := by decide +kernel
theorem dX7_matched_3 : decode cX7_matched 3 = .ok (.lstore_n 2, 1) := by decide +kernel
theorem dX7_matched_4 : decode cX7_matched 4 = .ok (.iconst 0, 1) := by decide +kernel
theorem dX7_matched_5 : decode cX7_matched 5 = .ok (.istore 4, 2) := by decide +kernel
theorem dX7_matched_7 : decode cX7_matched 7 = .ok (.iload 4, 2) := by decide +kernel
theorem dX7_matched_9 : decode cX7_matched 9 = .ok (.aload_n 1, 1) := by decide +kernel
theorem dX7_matched_10 : decode cX7_matched 10 = .ok (.getfield 69, 3) := by decide +kernel
theorem dX7_matched_13 : decode cX7_matched 13 = .ok (.if_icmp .ge 47, 3) := by decide +kernel
theorem dX7_matched_16 : decode cX7_matched 16 = .ok (.aload_n 0, 1) := by decide +kernel
theorem dX7_matched_17 : decode cX7_matched 17 = .ok (.getfield 43, 3) := by decide +kernel
theorem dX7_matched_20 : decode cX7_matched 20 = .ok (.aload_n 1, 1) := by decide +kernel
theorem dX7_matched_21 : decode cX7_matched 21 = .ok (.getfield 74, 3) := by decide +kernel
theorem dX7_matched_24 : decode cX7_matched 24 = .ok (.iload 4, 2) := by decide +kernel
theorem dX7_matched_26 : decode cX7_matched 26 = .ok (.iaload, 1) := by decide +kernel
theorem dX7_matched_27 : decode cX7_matched 27 = .ok (.laload, 1) := by decide +kernel
theorem dX7_matched_28 : decode cX7_matched 28 = .ok (.lstore 5, 2) := by decide +kernel
theorem dX7_matched_30 : decode cX7_matched 30 = .ok (.lload_n 2, 1) := by decide +kernel
theorem dX7_matched_31 : decode cX7_matched 31 = .ok (.aload_n 1, 1) := by decide +kernel
theorem dX7_matched_32 : decode cX7_matched 32 = .ok (.getfield 76, 3) := by decide +kernel
theorem dX7_matched_35 : decode cX7_matched 35 = .ok (.iload 4, 2) := by decide +kernel
theorem dX7_matched_37 : decode cX7_matched 37 = .ok (.baload, 1) := by decide +kernel
theorem dX7_matched_38 : decode cX7_matched 38 = .ok (.ifCond .eq 12, 3) := by decide +kernel
theorem dX7_matched_41 : decode cX7_matched 41 = .ok (.lload 5, 2) := by decide +kernel
theorem dX7_matched_43 : decode cX7_matched 43 = .ok (.ldc2_w 79, 3) := by decide +kernel
theorem dX7_matched_46 : decode cX7_matched 46 = .ok (.lxor, 1) := by decide +kernel
theorem dX7_matched_47 : decode cX7_matched 47 = .ok (.goto 5, 3) := by decide +kernel
theorem dX7_matched_50 : decode cX7_matched 50 = .ok (.lload 5, 2) := by decide +kernel
theorem dX7_matched_52 : decode cX7_matched 52 = .ok (.land, 1) := by decide +kernel
theorem dX7_matched_53 : decode cX7_matched 53 = .ok (.lstore_n 2, 1) := by decide +kernel
theorem dX7_matched_54 : decode cX7_matched 54 = .ok (.iinc 4 1, 3) := by decide +kernel
theorem dX7_matched_57 : decode cX7_matched 57 = .ok (.goto (-50), 3) := by decide +kernel
theorem dX7_matched_60 : decode cX7_matched 60 = .ok (.lload_n 2, 1) := by decide +kernel
theorem dX7_matched_61 : decode cX7_matched 61 = .ok (.lreturn, 1) := by decide +kernel
theorem dX7_alike_0 : decode cX7_alike 0 = .ok (.ldc2_w 67, 3) := by decide +kernel
theorem dX7_alike_3 : decode cX7_alike 3 = .ok (.lstore_n 3, 1) := by decide +kernel
theorem dX7_alike_4 : decode cX7_alike 4 = .ok (.iconst 0, 1) := by decide +kernel
theorem dX7_alike_5 : decode cX7_alike 5 = .ok (.istore 5, 2) := by decide +kernel
theorem dX7_alike_7 : decode cX7_alike 7 = .ok (.iload 5, 2) := by decide +kernel
theorem dX7_alike_9 : decode cX7_alike 9 = .ok (.iconst 3, 1) := by decide +kernel
theorem dX7_alike_10 : decode cX7_alike 10 = .ok (.if_icmp .ge 49, 3) := by decide +kernel
theorem dX7_alike_13 : decode cX7_alike 13 = .ok (.aload_n 0, 1) := by decide +kernel
theorem dX7_alike_14 : decode cX7_alike 14 = .ok (.getfield 9, 3) := by decide +kernel
theorem dX7_alike_17 : decode cX7_alike 17 = .ok (.iload 5, 2) := by decide +kernel
theorem dX7_alike_19 : decode cX7_alike 19 = .ok (.bipush 12, 2) := by decide +kernel
theorem dX7_alike_21 : decode cX7_alike 21 = .ok (.imul, 1) := by decide +kernel
theorem dX7_alike_22 : decode cX7_alike 22 = .ok (.iload_n 1, 1) := by decide +kernel
theorem dX7_alike_23 : decode cX7_alike 23 = .ok (.iadd, 1) := by decide +kernel
theorem dX7_alike_24 : decode cX7_alike 24 = .ok (.iaload, 1) := by decide +kernel
theorem dX7_alike_25 : decode cX7_alike 25 = .ok (.istore 6, 2) := by decide +kernel
theorem dX7_alike_27 : decode cX7_alike 27 = .ok (.iload_n 2, 1) := by decide +kernel
theorem dX7_alike_28 : decode cX7_alike 28 = .ok (.iload 5, 2) := by decide +kernel
theorem dX7_alike_30 : decode cX7_alike 30 = .ok (.ishr, 1) := by decide +kernel
theorem dX7_alike_31 : decode cX7_alike 31 = .ok (.iconst 1, 1) := by decide +kernel
theorem dX7_alike_32 : decode cX7_alike 32 = .ok (.iand, 1) := by decide +kernel
theorem dX7_alike_33 : decode cX7_alike 33 = .ok (.ifCond .eq 20, 3) := by decide +kernel
theorem dX7_alike_36 : decode cX7_alike 36 = .ok (.lload_n 3, 1) := by decide +kernel
theorem dX7_alike_37 : decode cX7_alike 37 = .ok (.aload_n 0, 1) := by decide +kernel
theorem dX7_alike_38 : decode cX7_alike 38 = .ok (.getfield 43, 3) := by decide +kernel
theorem dX7_alike_41 : decode cX7_alike 41 = .ok (.getstatic 56, 3) := by decide +kernel
theorem dX7_alike_44 : decode cX7_alike 44 = .ok (.iload 5, 2) := by decide +kernel
theorem dX7_alike_46 : decode cX7_alike 46 = .ok (.iaload, 1) := by decide +kernel
theorem dX7_alike_47 : decode cX7_alike 47 = .ok (.iload 6, 2) := by decide +kernel
theorem dX7_alike_49 : decode cX7_alike 49 = .ok (.iadd, 1) := by decide +kernel
theorem dX7_alike_50 : decode cX7_alike 50 = .ok (.laload, 1) := by decide +kernel
theorem dX7_alike_51 : decode cX7_alike 51 = .ok (.land, 1) := by decide +kernel
theorem dX7_alike_52 : decode cX7_alike 52 = .ok (.lstore_n 3, 1) := by decide +kernel
theorem dX7_alike_53 : decode cX7_alike 53 = .ok (.iinc 5 1, 3) := by decide +kernel
theorem dX7_alike_56 : decode cX7_alike 56 = .ok (.goto (-49), 3) := by decide +kernel
theorem dX7_alike_59 : decode cX7_alike 59 = .ok (.lload_n 3, 1) := by decide +kernel
theorem dX7_alike_60 : decode cX7_alike 60 = .ok (.lreturn, 1) := by decide +kernel
theorem dX7_holding_0 : decode cX7_holding 0 = .ok (.lconst 0, 1) := by decide +kernel
theorem dX7_holding_1 : decode cX7_holding 1 = .ok (.lstore_n 1, 1) := by decide +kernel
theorem dX7_holding_2 : decode cX7_holding 2 = .ok (.iconst 0, 1) := by decide +kernel
theorem dX7_holding_3 : decode cX7_holding 3 = .ok (.istore_n 3, 1) := by decide +kernel
theorem dX7_holding_4 : decode cX7_holding 4 = .ok (.iload_n 3, 1) := by decide +kernel
theorem dX7_holding_5 : decode cX7_holding 5 = .ok (.iconst 5, 1) := by decide +kernel
theorem dX7_holding_6 : decode cX7_holding 6 = .ok (.if_icmp .ge 46, 3) := by decide +kernel
theorem dX7_holding_9 : decode cX7_holding 9 = .ok (.aload_n 0, 1) := by decide +kernel
theorem dX7_holding_10 : decode cX7_holding 10 = .ok (.getfield 24, 3) := by decide +kernel
theorem dX7_holding_13 : decode cX7_holding 13 = .ok (.iload_n 3, 1) := by decide +kernel
theorem dX7_holding_14 : decode cX7_holding 14 = .ok (.aaload, 1) := by decide +kernel
theorem dX7_holding_15 : decode cX7_holding 15 = .ok (.astore 4, 2) := by decide +kernel
theorem dX7_holding_17 : decode cX7_holding 17 = .ok (.aload 4, 2) := by decide +kernel
theorem dX7_holding_19 : decode cX7_holding 19 = .ok (.ifnull 27, 3) := by decide +kernel
theorem dX7_holding_22 : decode cX7_holding 22 = .ok (.lload_n 1, 1) := by decide +kernel
theorem dX7_holding_23 : decode cX7_holding 23 = .ok (.aload_n 0, 1) := by decide +kernel
theorem dX7_holding_24 : decode cX7_holding 24 = .ok (.aload 4, 2) := by decide +kernel
theorem dX7_holding_26 : decode cX7_holding 26 = .ok (.invokevirtual 81, 3) := by decide +kernel
theorem dX7_holding_29 : decode cX7_holding 29 = .ok (.iload_n 3, 1) := by decide +kernel
theorem dX7_holding_30 : decode cX7_holding 30 = .ok (.bipush 12, 2) := by decide +kernel
theorem dX7_holding_32 : decode cX7_holding 32 = .ok (.imul, 1) := by decide +kernel
theorem dX7_holding_33 : decode cX7_holding 33 = .ok (.lshl, 1) := by decide +kernel
theorem dX7_holding_34 : decode cX7_holding 34 = .ok (.aload_n 0, 1) := by decide +kernel
theorem dX7_holding_35 : decode cX7_holding 35 = .ok (.aload 4, 2) := by decide +kernel
theorem dX7_holding_37 : decode cX7_holding 37 = .ok (.getfield 85, 3) := by decide +kernel
theorem dX7_holding_40 : decode cX7_holding 40 = .ok (.invokevirtual 89, 3) := by decide +kernel
theorem dX7_holding_43 : decode cX7_holding 43 = .ok (.land, 1) := by decide +kernel
theorem dX7_holding_44 : decode cX7_holding 44 = .ok (.lor, 1) := by decide +kernel
theorem dX7_holding_45 : decode cX7_holding 45 = .ok (.lstore_n 1, 1) := by decide +kernel
theorem dX7_holding_46 : decode cX7_holding 46 = .ok (.iinc 3 1, 3) := by decide +kernel
theorem dX7_holding_49 : decode cX7_holding 49 = .ok (.goto (-45), 3) := by decide +kernel
theorem dX7_holding_52 : decode cX7_holding 52 = .ok (.lload_n 1, 1) := by decide +kernel
theorem dX7_holding_53 : decode cX7_holding 53 = .ok (.lreturn, 1) := by decide +kernel
theorem dX7_acceptedSeries_0 : decode cX7_acceptedSeries 0 = .ok (.lconst 0, 1) := by decide +kernel
theorem dX7_acceptedSeries_1 : decode cX7_acceptedSeries 1 = .ok (.lstore_n 2, 1) := by decide +kernel
theorem dX7_acceptedSeries_2 : decode cX7_acceptedSeries 2 = .ok (.iconst 0, 1) := by decide +kernel
theorem dX7_acceptedSeries_3 : decode cX7_acceptedSeries 3 = .ok (.istore 4, 2) := by decide +kernel
theorem dX7_acceptedSeries_5 : decode cX7_acceptedSeries 5 = .ok (.iload 4, 2) := by decide +kernel
theorem dX7_acceptedSeries_7 : decode cX7_acceptedSeries 7 = .ok (.bipush 12, 2) := by decide +kernel
theorem dX7_acceptedSeries_9 : decode cX7_acceptedSeries 9 = .ok (.if_icmp .ge 40, 3) := by decide +kernel
theorem dX7_acceptedSeries_12 : decode cX7_acceptedSeries 12 = .ok (.aload_n 0, 1) := by decide +kernel
theorem dX7_acceptedSeries_13 : decode cX7_acceptedSeries 13 = .ok (.getfield 18, 3) := by decide +kernel
theorem dX7_acceptedSeries_16 : decode cX7_acceptedSeries 16 = .ok (.iload 4, 2) := by decide +kernel
theorem dX7_acceptedSeries_18 : decode cX7_acceptedSeries 18 = .ok (.baload, 1) := by decide +kernel
theorem dX7_acceptedSeries_19 : decode cX7_acceptedSeries 19 = .ok (.ifCond .eq 24, 3) := by decide +kernel
theorem dX7_acceptedSeries_22 : decode cX7_acceptedSeries 22 = .ok (.aload_n 1, 1) := by decide +kernel
theorem dX7_acceptedSeries_23 : decode cX7_acceptedSeries 23 = .ok (.aload_n 0, 1) := by decide +kernel
theorem dX7_acceptedSeries_24 : decode cX7_acceptedSeries 24 = .ok (.getfield 15, 3) := by decide +kernel
theorem dX7_acceptedSeries_27 : decode cX7_acceptedSeries 27 = .ok (.iload 4, 2) := by decide +kernel
theorem dX7_acceptedSeries_29 : decode cX7_acceptedSeries 29 = .ok (.iaload, 1) := by decide +kernel
theorem dX7_acceptedSeries_30 : decode cX7_acceptedSeries 30 = .ok (.invokevirtual 93, 3) := by decide +kernel
theorem dX7_acceptedSeries_33 : decode cX7_acceptedSeries 33 = .ok (.ifCond .eq 10, 3) := by decide +kernel
theorem dX7_acceptedSeries_36 : decode cX7_acceptedSeries 36 = .ok (.lload_n 2, 1) := by decide +kernel
theorem dX7_acceptedSeries_37 : decode cX7_acceptedSeries 37 = .ok (.lconst 1, 1) := by decide +kernel
theorem dX7_acceptedSeries_38 : decode cX7_acceptedSeries 38 = .ok (.iload 4, 2) := by decide +kernel
theorem dX7_acceptedSeries_40 : decode cX7_acceptedSeries 40 = .ok (.lshl, 1) := by decide +kernel
theorem dX7_acceptedSeries_41 : decode cX7_acceptedSeries 41 = .ok (.lor, 1) := by decide +kernel
theorem dX7_acceptedSeries_42 : decode cX7_acceptedSeries 42 = .ok (.lstore_n 2, 1) := by decide +kernel
theorem dX7_acceptedSeries_43 : decode cX7_acceptedSeries 43 = .ok (.iinc 4 1, 3) := by decide +kernel
theorem dX7_acceptedSeries_46 : decode cX7_acceptedSeries 46 = .ok (.goto (-41), 3) := by decide +kernel
theorem dX7_acceptedSeries_49 : decode cX7_acceptedSeries 49 = .ok (.lload_n 2, 1) := by decide +kernel
theorem dX7_acceptedSeries_50 : decode cX7_acceptedSeries 50 = .ok (.lreturn, 1) := by decide +kernel
theorem dX7_waitOf_0 : decode cX7_waitOf 0 = .ok (.aload_n 0, 1) := by decide +kernel
theorem dX7_waitOf_1 : decode cX7_waitOf 1 = .ok (.getfield 24, 3) := by decide +kernel
theorem dX7_waitOf_4 : decode cX7_waitOf 4 = .ok (.iload_n 1, 1) := by decide +kernel
theorem dX7_waitOf_5 : decode cX7_waitOf 5 = .ok (.bipush 12, 2) := by decide +kernel
theorem dX7_waitOf_7 : decode cX7_waitOf 7 = .ok (.idiv, 1) := by decide +kernel
theorem dX7_waitOf_8 : decode cX7_waitOf 8 = .ok (.aaload, 1) := by decide +kernel
theorem dX7_waitOf_9 : decode cX7_waitOf 9 = .ok (.astore_n 2, 1) := by decide +kernel
theorem dX7_waitOf_10 : decode cX7_waitOf 10 = .ok (.aload_n 2, 1) := by decide +kernel
theorem dX7_waitOf_11 : decode cX7_waitOf 11 = .ok (.ifnonnull 7, 3) := by decide +kernel
theorem dX7_waitOf_14 : decode cX7_waitOf 14 = .ok (.iconst 0, 1) := by decide +kernel
theorem dX7_waitOf_15 : decode cX7_waitOf 15 = .ok (.goto 7, 3) := by decide +kernel
theorem dX7_waitOf_18 : decode cX7_waitOf 18 = .ok (.aload_n 2, 1) := by decide +kernel
theorem dX7_waitOf_19 : decode cX7_waitOf 19 = .ok (.getfield 97, 3) := by decide +kernel
theorem dX7_waitOf_22 : decode cX7_waitOf 22 = .ok (.ireturn, 1) := by decide +kernel
theorem dX7_greatestSeverity_0 : decode cX7_greatestSeverity 0 = .ok (.getstatic 100, 3) := by decide +kernel
theorem dX7_greatestSeverity_3 : decode cX7_greatestSeverity 3 = .ok (.iconst 3, 1) := by decide +kernel
theorem dX7_greatestSeverity_4 : decode cX7_greatestSeverity 4 = .ok (.iaload, 1) := by decide +kernel
theorem dX7_greatestSeverity_5 : decode cX7_greatestSeverity 5 = .ok (.istore_n 3, 1) := by decide +kernel
theorem dX7_greatestSeverity_6 : decode cX7_greatestSeverity 6 = .ok (.iload_n 3, 1) := by decide +kernel
theorem dX7_greatestSeverity_7 : decode cX7_greatestSeverity 7 = .ok (.ifCond .lt 30, 3) := by decide +kernel
theorem dX7_greatestSeverity_10 : decode cX7_greatestSeverity 10 = .ok (.lload_n 1, 1) := by decide +kernel
theorem dX7_greatestSeverity_11 : decode cX7_greatestSeverity 11 = .ok (.aload_n 0, 1) := by decide +kernel
theorem dX7_greatestSeverity_12 : decode cX7_greatestSeverity 12 = .ok (.getfield 43, 3) := by decide +kernel
theorem dX7_greatestSeverity_15 : decode cX7_greatestSeverity 15 = .ok (.getstatic 56, 3) := by decide +kernel
theorem dX7_greatestSeverity_18 : decode cX7_greatestSeverity 18 = .ok (.iconst 3, 1) := by decide +kernel
theorem dX7_greatestSeverity_19 : decode cX7_greatestSeverity 19 = .ok (.iaload, 1) := by decide +kernel
theorem dX7_greatestSeverity_20 : decode cX7_greatestSeverity 20 = .ok (.iload_n 3, 1) := by decide +kernel
theorem dX7_greatestSeverity_21 : decode cX7_greatestSeverity 21 = .ok (.iadd, 1) := by decide +kernel
theorem dX7_greatestSeverity_22 : decode cX7_greatestSeverity 22 = .ok (.laload, 1) := by decide +kernel
theorem dX7_greatestSeverity_23 : decode cX7_greatestSeverity 23 = .ok (.land, 1) := by decide +kernel
theorem dX7_greatestSeverity_24 : decode cX7_greatestSeverity 24 = .ok (.lconst 0, 1) := by decide +kernel
theorem dX7_greatestSeverity_25 : decode cX7_greatestSeverity 25 = .ok (.lcmp, 1) := by decide +kernel
theorem dX7_greatestSeverity_26 : decode cX7_greatestSeverity 26 = .ok (.ifCond .eq 5, 3) := by decide +kernel
theorem dX7_greatestSeverity_29 : decode cX7_greatestSeverity 29 = .ok (.iload_n 3, 1) := by decide +kernel
theorem dX7_greatestSeverity_30 : decode cX7_greatestSeverity 30 = .ok (.ireturn, 1) := by decide +kernel
theorem dX7_greatestSeverity_31 : decode cX7_greatestSeverity 31 = .ok (.iinc 3 (-1), 3) := by decide +kernel
theorem dX7_greatestSeverity_34 : decode cX7_greatestSeverity 34 = .ok (.goto (-28), 3) := by decide +kernel
theorem dX7_greatestSeverity_37 : decode cX7_greatestSeverity 37 = .ok (.bipush (-5), 2) := by decide +kernel
theorem dX7_greatestSeverity_39 : decode cX7_greatestSeverity 39 = .ok (.ireturn, 1) := by decide +kernel
theorem dX8_init_0 : decode cX8_init 0 = .ok (.aload_n 0, 1) := by decide +kernel
theorem dX8_init_1 : decode cX8_init 1 = .ok (.invokespecial 1, 3) := by decide +kernel
theorem dX8_init_4 : decode cX8_init 4 = .ok (.aload_n 0, 1) := by decide +kernel
theorem dX8_init_5 : decode cX8_init 5 = .ok (.aload_n 1, 1) := by decide +kernel
theorem dX8_init_6 : decode cX8_init 6 = .ok (.putfield 7, 3) := by decide +kernel
theorem dX8_init_9 : decode cX8_init 9 = .ok (.aload_n 0, 1) := by decide +kernel
theorem dX8_init_10 : decode cX8_init 10 = .ok (.iload_n 2, 1) := by decide +kernel
theorem dX8_init_11 : decode cX8_init 11 = .ok (.putfield 13, 3) := by decide +kernel
theorem dX8_init_14 : decode cX8_init 14 = .ok (.aload_n 0, 1) := by decide +kernel
theorem dX8_init_15 : decode cX8_init 15 = .ok (.iload_n 3, 1) := by decide +kernel
theorem dX8_init_16 : decode cX8_init 16 = .ok (.putfield 17, 3) := by decide +kernel
theorem dX8_init_19 : decode cX8_init 19 = .ok (.return_, 1) := by decide +kernel
theorem dX8_isOn_0 : decode cX8_isOn 0 = .ok (.aload_n 0, 1) := by decide +kernel
theorem dX8_isOn_1 : decode cX8_isOn 1 = .ok (.getfield 13, 3) := by decide +kernel
theorem dX8_isOn_4 : decode cX8_isOn 4 = .ok (.iload_n 1, 1) := by decide +kernel
theorem dX8_isOn_5 : decode cX8_isOn 5 = .ok (.if_icmp .gt 20, 3) := by decide +kernel
theorem dX8_isOn_8 : decode cX8_isOn 8 = .ok (.iload_n 1, 1) := by decide +kernel
theorem dX8_isOn_9 : decode cX8_isOn 9 = .ok (.aload_n 0, 1) := by decide +kernel
theorem dX8_isOn_10 : decode cX8_isOn 10 = .ok (.getfield 13, 3) := by decide +kernel
theorem dX8_isOn_13 : decode cX8_isOn 13 = .ok (.aload_n 0, 1) := by decide +kernel
theorem dX8_isOn_14 : decode cX8_isOn 14 = .ok (.getfield 17, 3) := by decide +kernel
theorem dX8_isOn_17 : decode cX8_isOn 17 = .ok (.iadd, 1) := by decide +kernel
theorem dX8_isOn_18 : decode cX8_isOn 18 = .ok (.if_icmp .ge 7, 3) := by decide +kernel
theorem dX8_isOn_21 : decode cX8_isOn 21 = .ok (.iconst 1, 1) := by decide +kernel
theorem dX8_isOn_22 : decode cX8_isOn 22 = .ok (.goto 4, 3) := by decide +kernel
theorem dX8_isOn_25 : decode cX8_isOn 25 = .ok (.iconst 0, 1) := by decide +kernel
theorem dX8_isOn_26 : decode cX8_isOn 26 = .ok (.ireturn, 1) := by decide +kernel
theorem dX9_init_0 : decode cX9_init 0 = .ok (.aload_n 0, 1) := by decide +kernel
theorem dX9_init_1 : decode cX9_init 1 = .ok (.invokespecial 3, 3) := by decide +kernel
theorem dX9_init_4 : decode cX9_init 4 = .ok (.aload_n 0, 1) := by decide +kernel
theorem dX9_init_5 : decode cX9_init 5 = .ok (.new 9, 3) := by decide +kernel
theorem dX9_init_8 : decode cX9_init 8 = .ok (.dup, 1) := by decide +kernel
theorem dX9_init_9 : decode cX9_init 9 = .ok (.invokespecial 11, 3) := by decide +kernel
theorem dX9_init_12 : decode cX9_init 12 = .ok (.putfield 12, 3) := by decide +kernel
theorem dX9_init_15 : decode cX9_init 15 = .ok (.aload_n 0, 1) := by decide +kernel
theorem dX9_init_16 : decode cX9_init 16 = .ok (.new 18, 3) := by decide +kernel
theorem dX9_init_19 : decode cX9_init 19 = .ok (.dup, 1) := by decide +kernel
theorem dX9_init_20 : decode cX9_init 20 = .ok (.invokespecial 20, 3) := by decide +kernel
theorem dX9_init_23 : decode cX9_init 23 = .ok (.putfield 21, 3) := by decide +kernel
theorem dX9_init_26 : decode cX9_init 26 = .ok (.aload_n 0, 1) := by decide +kernel
theorem dX9_init_27 : decode cX9_init 27 = .ok (.new 25, 3) := by decide +kernel
theorem dX9_init_30 : decode cX9_init 30 = .ok (.dup, 1) := by decide +kernel
theorem dX9_init_31 : decode cX9_init 31 = .ok (.invokespecial 27, 3) := by decide +kernel
theorem dX9_init_34 : decode cX9_init 34 = .ok (.putfield 28, 3) := by decide +kernel
theorem dX9_init_37 : decode cX9_init 37 = .ok (.aload_n 0, 1) := by decide +kernel
theorem dX9_init_38 : decode cX9_init 38 = .ok (.new 32, 3) := by decide +kernel
theorem dX9_init_41 : decode cX9_init 41 = .ok (.dup, 1) := by decide +kernel
theorem dX9_init_42 : decode cX9_init 42 = .ok (.invokespecial 34, 3) := by decide +kernel
theorem dX9_init_45 : decode cX9_init 45 = .ok (.putfield 35, 3) := by decide +kernel
theorem dX9_init_48 : decode cX9_init 48 = .ok (.return_, 1) := by decide +kernel
theorem dX9_copyFrom_0 : decode cX9_copyFrom 0 = .ok (.aload_n 0, 1) := by decide +kernel
theorem dX9_copyFrom_1 : decode cX9_copyFrom 1 = .ok (.aload_n 1, 1) := by decide +kernel
theorem dX9_copyFrom_2 : decode cX9_copyFrom 2 = .ok (.getfield 39, 3) := by decide +kernel
theorem dX9_copyFrom_5 : decode cX9_copyFrom 5 = .ok (.putfield 39, 3) := by decide +kernel
theorem dX9_copyFrom_8 : decode cX9_copyFrom 8 = .ok (.aload_n 0, 1) := by decide +kernel
theorem dX9_copyFrom_9 : decode cX9_copyFrom 9 = .ok (.getfield 12, 3) := by decide +kernel
theorem dX9_copyFrom_12 : decode cX9_copyFrom 12 = .ok (.aload_n 1, 1) := by decide +kernel
theorem dX9_copyFrom_13 : decode cX9_copyFrom 13 = .ok (.getfield 12, 3) := by decide +kernel
theorem dX9_copyFrom_16 : decode cX9_copyFrom 16 = .ok (.invokevirtual 43, 3) := by decide +kernel
theorem dX9_copyFrom_19 : decode cX9_copyFrom 19 = .ok (.aload_n 0, 1) := by decide +kernel
theorem dX9_copyFrom_20 : decode cX9_copyFrom 20 = .ok (.getfield 21, 3) := by decide +kernel
theorem dX9_copyFrom_23 : decode cX9_copyFrom 23 = .ok (.aload_n 1, 1) := by decide +kernel
theorem dX9_copyFrom_24 : decode cX9_copyFrom 24 = .ok (.getfield 21, 3) := by decide +kernel
theorem dX9_copyFrom_27 : decode cX9_copyFrom 27 = .ok (.invokevirtual 47, 3) := by decide +kernel
theorem dX9_copyFrom_30 : decode cX9_copyFrom 30 = .ok (.aload_n 0, 1) := by decide +kernel
theorem dX9_copyFrom_31 : decode cX9_copyFrom 31 = .ok (.getfield 28, 3) := by decide +kernel
theorem dX9_copyFrom_34 : decode cX9_copyFrom 34 = .ok (.aload_n 1, 1) := by decide +kernel
theorem dX9_copyFrom_35 : decode cX9_copyFrom 35 = .ok (.getfield 28, 3) := by decide +kernel
theorem dX9_copyFrom_38 : decode cX9_copyFrom 38 = .ok (.invokevirtual 50, 3) := by decide +kernel
theorem dX9_copyFrom_41 : decode cX9_copyFrom 41 = .ok (.aload_n 0, 1) := by decide +kernel
theorem dX9_copyFrom_42 : decode cX9_copyFrom 42 = .ok (.getfield 35, 3) := by decide +kernel
theorem dX9_copyFrom_45 : decode cX9_copyFrom 45 = .ok (.aload_n 1, 1) := by decide +kernel
theorem dX9_copyFrom_46 : decode cX9_copyFrom 46 = .ok (.getfield 35, 3) := by decide +kernel
theorem dX9_copyFrom_49 : decode cX9_copyFrom 49 = .ok (.invokevirtual 53, 3) := by decide +kernel
theorem dX9_copyFrom_52 : decode cX9_copyFrom 52 = .ok (.return_, 1) := by decide +kernel
theorem dX9_steps_0 : decode cX9_steps 0 = .ok (.iconst 0, 1) := by decide +kernel
theorem dX9_steps_1 : decode cX9_steps 1 = .ok (.istore_n 2, 1) := by decide +kernel
theorem dX9_steps_2 : decode cX9_steps 2 = .ok (.iconst 0, 1) := by decide +kernel
theorem dX9_steps_3 : decode cX9_steps 3 = .ok (.istore_n 3, 1) := by decide +kernel
theorem dX9_steps_4 : decode cX9_steps 4 = .ok (.iload_n 3, 1) := by decide +kernel
theorem dX9_steps_5 : decode cX9_steps 5 = .ok (.iload_n 1, 1) := by decide +kernel
theorem dX9_steps_6 : decode cX9_steps 6 = .ok (.if_icmp .ge 16, 3) := by decide +kernel
theorem dX9_steps_9 : decode cX9_steps 9 = .ok (.iload_n 2, 1) := by decide +kernel
theorem dX9_steps_10 : decode cX9_steps 10 = .ok (.aload_n 0, 1) := by decide +kernel
theorem dX9_steps_11 : decode cX9_steps 11 = .ok (.invokevirtual 56, 3) := by decide +kernel
theorem dX9_steps_14 : decode cX9_steps 14 = .ok (.iadd, 1) := by decide +kernel
theorem dX9_steps_15 : decode cX9_steps 15 = .ok (.istore_n 2, 1) := by decide +kernel
theorem dX9_steps_16 : decode cX9_steps 16 = .ok (.iinc 3 1, 3) := by decide +kernel
theorem dX9_steps_19 : decode cX9_steps 19 = .ok (.goto (-15), 3) := by decide +kernel
theorem dX9_steps_22 : decode cX9_steps 22 = .ok (.iload_n 2, 1) := by decide +kernel
theorem dX9_steps_23 : decode cX9_steps 23 = .ok (.ireturn, 1) := by decide +kernel
theorem dX9_step_0 : decode cX9_step 0 = .ok (.aload_n 0, 1) := by decide +kernel
theorem dX9_step_1 : decode cX9_step 1 = .ok (.dup, 1) := by decide +kernel
theorem dX9_step_2 : decode cX9_step 2 = .ok (.getfield 39, 3) := by decide +kernel
theorem dX9_step_5 : decode cX9_step 5 = .ok (.iconst 1, 1) := by decide +kernel
theorem dX9_step_6 : decode cX9_step 6 = .ok (.iadd, 1) := by decide +kernel
theorem dX9_step_7 : decode cX9_step 7 = .ok (.putfield 39, 3) := by decide +kernel
theorem dX9_step_10 : decode cX9_step 10 = .ok (.aload_n 0, 1) := by decide +kernel
theorem dX9_step_11 : decode cX9_step 11 = .ok (.getfield 21, 3) := by decide +kernel
theorem dX9_step_14 : decode cX9_step 14 = .ok (.aload_n 0, 1) := by decide +kernel
theorem dX9_step_15 : decode cX9_step 15 = .ok (.getfield 39, 3) := by decide +kernel
theorem dX9_step_18 : decode cX9_step 18 = .ok (.aload_n 0, 1) := by decide +kernel
theorem dX9_step_19 : decode cX9_step 19 = .ok (.getfield 12, 3) := by decide +kernel
theorem dX9_step_22 : decode cX9_step 22 = .ok (.invokevirtual 60, 3) := by decide +kernel
theorem dX9_step_25 : decode cX9_step 25 = .ok (.aload_n 0, 1) := by decide +kernel
theorem dX9_step_26 : decode cX9_step 26 = .ok (.getfield 12, 3) := by decide +kernel
theorem dX9_step_29 : decode cX9_step 29 = .ok (.invokevirtual 64, 3) := by decide +kernel
theorem dX9_step_32 : decode cX9_step 32 = .ok (.aload_n 0, 1) := by decide +kernel
theorem dX9_step_33 : decode cX9_step 33 = .ok (.getfield 28, 3) := by decide +kernel
theorem dX9_step_36 : decode cX9_step 36 = .ok (.aload_n 0, 1) := by decide +kernel
theorem dX9_step_37 : decode cX9_step 37 = .ok (.invokevirtual 68, 3) := by decide +kernel
theorem dX9_step_40 : decode cX9_step 40 = .ok (.aload_n 0, 1) := by decide +kernel
theorem dX9_step_41 : decode cX9_step 41 = .ok (.getfield 12, 3) := by decide +kernel
theorem dX9_step_44 : decode cX9_step 44 = .ok (.invokevirtual 71, 3) := by decide +kernel
theorem dX9_step_47 : decode cX9_step 47 = .ok (.iconst 0, 1) := by decide +kernel
theorem dX9_step_48 : decode cX9_step 48 = .ok (.istore_n 1, 1) := by decide +kernel
theorem dX9_step_49 : decode cX9_step 49 = .ok (.iconst 0, 1) := by decide +kernel
theorem dX9_step_50 : decode cX9_step 50 = .ok (.istore_n 2, 1) := by decide +kernel
theorem dX9_step_51 : decode cX9_step 51 = .ok (.iload_n 2, 1) := by decide +kernel
theorem dX9_step_52 : decode cX9_step 52 = .ok (.sipush 128, 3) := by decide +kernel
theorem dX9_step_55 : decode cX9_step 55 = .ok (.if_icmp .ge 44, 3) := by decide +kernel
theorem dX9_step_58 : decode cX9_step 58 = .ok (.aload_n 0, 1) := by decide +kernel
theorem dX9_step_59 : decode cX9_step 59 = .ok (.getfield 28, 3) := by decide +kernel
theorem dX9_step_62 : decode cX9_step 62 = .ok (.iload_n 2, 1) := by decide +kernel
theorem dX9_step_63 : decode cX9_step 63 = .ok (.aload_n 0, 1) := by decide +kernel
theorem dX9_step_64 : decode cX9_step 64 = .ok (.getfield 39, 3) := by decide +kernel
theorem dX9_step_67 : decode cX9_step 67 = .ok (.aload_n 0, 1) := by decide +kernel
theorem dX9_step_68 : decode cX9_step 68 = .ok (.getfield 12, 3) := by decide +kernel
theorem dX9_step_71 : decode cX9_step 71 = .ok (.invokevirtual 75, 3) := by decide +kernel
theorem dX9_step_74 : decode cX9_step 74 = .ok (.istore_n 3, 1) := by decide +kernel
theorem dX9_step_75 : decode cX9_step 75 = .ok (.iload_n 3, 1) := by decide +kernel
theorem dX9_step_76 : decode cX9_step 76 = .ok (.bipush (-5), 2) := by decide +kernel
theorem dX9_step_78 : decode cX9_step 78 = .ok (.if_icmp .ne 6, 3) := by decide +kernel
theorem dX9_step_81 : decode cX9_step 81 = .ok (.goto 12, 3) := by decide +kernel
theorem dX9_step_84 : decode cX9_step 84 = .ok (.aload_n 0, 1) := by decide +kernel
theorem dX9_step_85 : decode cX9_step 85 = .ok (.iload_n 2, 1) := by decide +kernel
theorem dX9_step_86 : decode cX9_step 86 = .ok (.iload_n 3, 1) := by decide +kernel
theorem dX9_step_87 : decode cX9_step 87 = .ok (.invokevirtual 79, 3) := by decide +kernel
theorem dX9_step_90 : decode cX9_step 90 = .ok (.iinc 1 1, 3) := by decide +kernel
theorem dX9_step_93 : decode cX9_step 93 = .ok (.iinc 2 1, 3) := by decide +kernel
theorem dX9_step_96 : decode cX9_step 96 = .ok (.goto (-45), 3) := by decide +kernel
theorem dX9_step_99 : decode cX9_step 99 = .ok (.iload_n 1, 1) := by decide +kernel
theorem dX9_step_100 : decode cX9_step 100 = .ok (.ireturn, 1) := by decide +kernel
theorem dX9_sendGroup_0 : decode cX9_sendGroup 0 = .ok (.aload_n 0, 1) := by decide +kernel
theorem dX9_sendGroup_1 : decode cX9_sendGroup 1 = .ok (.getfield 28, 3) := by decide +kernel
theorem dX9_sendGroup_4 : decode cX9_sendGroup 4 = .ok (.getfield 83, 3) := by decide +kernel
theorem dX9_sendGroup_7 : decode cX9_sendGroup 7 = .ok (.iload_n 1, 1) := by decide +kernel
theorem dX9_sendGroup_8 : decode cX9_sendGroup 8 = .ok (.laload, 1) := by decide +kernel
theorem dX9_sendGroup_9 : decode cX9_sendGroup 9 = .ok (.lstore_n 3, 1) := by decide +kernel
theorem dX9_sendGroup_10 : decode cX9_sendGroup 10 = .ok (.aload_n 0, 1) := by decide +kernel
theorem dX9_sendGroup_11 : decode cX9_sendGroup 11 = .ok (.getfield 28, 3) := by decide +kernel
theorem dX9_sendGroup_14 : decode cX9_sendGroup 14 = .ok (.iload_n 1, 1) := by decide +kernel
theorem dX9_sendGroup_15 : decode cX9_sendGroup 15 = .ok (.iload_n 2, 1) := by decide +kernel
theorem dX9_sendGroup_16 : decode cX9_sendGroup 16 = .ok (.aload_n 0, 1) := by decide +kernel
theorem dX9_sendGroup_17 : decode cX9_sendGroup 17 = .ok (.getfield 39, 3) := by decide +kernel
theorem dX9_sendGroup_20 : decode cX9_sendGroup 20 = .ok (.invokevirtual 87, 3) := by decide +kernel
theorem dX9_sendGroup_23 : decode cX9_sendGroup 23 = .ok (.aload_n 0, 1) := by decide +kernel
theorem dX9_sendGroup_24 : decode cX9_sendGroup 24 = .ok (.getfield 35, 3) := by decide +kernel
theorem dX9_sendGroup_27 : decode cX9_sendGroup 27 = .ok (.aload_n 0, 1) := by decide +kernel
theorem dX9_sendGroup_28 : decode cX9_sendGroup 28 = .ok (.getfield 39, 3) := by decide +kernel
theorem dX9_sendGroup_31 : decode cX9_sendGroup 31 = .ok (.iload_n 1, 1) := by decide +kernel
theorem dX9_sendGroup_32 : decode cX9_sendGroup 32 = .ok (.iload_n 2, 1) := by decide +kernel
theorem dX9_sendGroup_33 : decode cX9_sendGroup 33 = .ok (.lload_n 3, 1) := by decide +kernel
theorem dX9_sendGroup_34 : decode cX9_sendGroup 34 = .ok (.invokestatic 91, 3) := by decide +kernel
theorem dX9_sendGroup_37 : decode cX9_sendGroup 37 = .ok (.aload_n 0, 1) := by decide +kernel
theorem dX9_sendGroup_38 : decode cX9_sendGroup 38 = .ok (.getfield 12, 3) := by decide +kernel
theorem dX9_sendGroup_41 : decode cX9_sendGroup 41 = .ok (.lload_n 3, 1) := by decide +kernel
theorem dX9_sendGroup_42 : decode cX9_sendGroup 42 = .ok (.invokevirtual 97, 3) := by decide +kernel
theorem dX9_sendGroup_45 : decode cX9_sendGroup 45 = .ok (.invokevirtual 100, 3) := by decide +kernel
theorem dX9_sendGroup_48 : decode cX9_sendGroup 48 = .ok (.return_, 1) := by decide +kernel
theorem dX9_active_0 : decode cX9_active 0 = .ok (.aload_n 0, 1) := by decide +kernel
theorem dX9_active_1 : decode cX9_active 1 = .ok (.getfield 21, 3) := by decide +kernel
theorem dX9_active_4 : decode cX9_active 4 = .ok (.getfield 104, 3) := by decide +kernel
theorem dX9_active_7 : decode cX9_active 7 = .ok (.aload_n 0, 1) := by decide +kernel
theorem dX9_active_8 : decode cX9_active 8 = .ok (.invokevirtual 108, 3) := by decide +kernel
theorem dX9_active_11 : decode cX9_active 11 = .ok (.ldc2_w 111, 3) := by decide +kernel
theorem dX9_active_14 : decode cX9_active 14 = .ok (.lxor, 1) := by decide +kernel
theorem dX9_active_15 : decode cX9_active 15 = .ok (.land, 1) := by decide +kernel
theorem dX9_active_16 : decode cX9_active 16 = .ok (.aload_n 0, 1) := by decide +kernel
theorem dX9_active_17 : decode cX9_active 17 = .ok (.invokevirtual 113, 3) := by decide +kernel
theorem dX9_active_20 : decode cX9_active 20 = .ok (.ldc2_w 111, 3) := by decide +kernel
theorem dX9_active_23 : decode cX9_active 23 = .ok (.lxor, 1) := by decide +kernel
theorem dX9_active_24 : decode cX9_active 24 = .ok (.land, 1) := by decide +kernel
theorem dX9_active_25 : decode cX9_active 25 = .ok (.lstore_n 1, 1) := by decide +kernel
theorem dX9_active_26 : decode cX9_active 26 = .ok (.lload_n 1, 1) := by decide +kernel
theorem dX9_active_27 : decode cX9_active 27 = .ok (.aload_n 0, 1) := by decide +kernel
theorem dX9_active_28 : decode cX9_active 28 = .ok (.lload_n 1, 1) := by decide +kernel
theorem dX9_active_29 : decode cX9_active 29 = .ok (.invokevirtual 116, 3) := by decide +kernel
theorem dX9_active_32 : decode cX9_active 32 = .ok (.ldc2_w 111, 3) := by decide +kernel
theorem dX9_active_35 : decode cX9_active 35 = .ok (.lxor, 1) := by decide +kernel
theorem dX9_active_36 : decode cX9_active 36 = .ok (.land, 1) := by decide +kernel
theorem dX9_active_37 : decode cX9_active 37 = .ok (.lreturn, 1) := by decide +kernel
theorem dX9_silencedBy_0 : decode cX9_silencedBy 0 = .ok (.aload_n 0, 1) := by decide +kernel
theorem dX9_silencedBy_1 : decode cX9_silencedBy 1 = .ok (.getfield 12, 3) := by decide +kernel
theorem dX9_silencedBy_4 : decode cX9_silencedBy 4 = .ok (.getfield 120, 3) := by decide +kernel
theorem dX9_silencedBy_7 : decode cX9_silencedBy 7 = .ok (.iload_n 1, 1) := by decide +kernel
theorem dX9_silencedBy_8 : decode cX9_silencedBy 8 = .ok (.aaload, 1) := by decide +kernel
theorem dX9_silencedBy_9 : decode cX9_silencedBy 9 = .ok (.astore_n 2, 1) := by decide +kernel
theorem dX9_silencedBy_10 : decode cX9_silencedBy 10 = .ok (.aload_n 2, 1) := by decide +kernel
theorem dX9_silencedBy_11 : decode cX9_silencedBy 11 = .ok (.ifnull 28, 3) := by decide +kernel
theorem dX9_silencedBy_14 : decode cX9_silencedBy 14 = .ok (.aload_n 2, 1) := by decide +kernel
theorem dX9_silencedBy_15 : decode cX9_silencedBy 15 = .ok (.aload_n 0, 1) := by decide +kernel
theorem dX9_silencedBy_16 : decode cX9_silencedBy 16 = .ok (.getfield 39, 3) := by decide +kernel
theorem dX9_silencedBy_19 : decode cX9_silencedBy 19 = .ok (.invokevirtual 124, 3) := by decide +kernel
theorem dX9_silencedBy_22 : decode cX9_silencedBy 22 = .ok (.ifCond .eq 17, 3) := by decide +kernel
theorem dX9_silencedBy_25 : decode cX9_silencedBy 25 = .ok (.aload_n 0, 1) := by decide +kernel
theorem dX9_silencedBy_26 : decode cX9_silencedBy 26 = .ok (.getfield 12, 3) := by decide +kernel
theorem dX9_silencedBy_29 : decode cX9_silencedBy 29 = .ok (.aload_n 2, 1) := by decide +kernel
theorem dX9_silencedBy_30 : decode cX9_silencedBy 30 = .ok (.getfield 130, 3) := by decide +kernel
theorem dX9_silencedBy_33 : decode cX9_silencedBy 33 = .ok (.invokevirtual 134, 3) := by decide +kernel
theorem dX9_silencedBy_36 : decode cX9_silencedBy 36 = .ok (.goto 4, 3) := by decide +kernel
theorem dX9_silencedBy_39 : decode cX9_silencedBy 39 = .ok (.lconst 0, 1) := by decide +kernel
theorem dX9_silencedBy_40 : decode cX9_silencedBy 40 = .ok (.lreturn, 1) := by decide +kernel
theorem dX9_silenced_0 : decode cX9_silenced 0 = .ok (.lconst 0, 1) := by decide +kernel
theorem dX9_silenced_1 : decode cX9_silenced 1 = .ok (.lstore_n 1, 1) := by decide +kernel
theorem dX9_silenced_2 : decode cX9_silenced 2 = .ok (.iconst 0, 1) := by decide +kernel
theorem dX9_silenced_3 : decode cX9_silenced 3 = .ok (.istore_n 3, 1) := by decide +kernel
theorem dX9_silenced_4 : decode cX9_silenced 4 = .ok (.iload_n 3, 1) := by decide +kernel
theorem dX9_silenced_5 : decode cX9_silenced 5 = .ok (.bipush 6, 2) := by decide +kernel
theorem dX9_silenced_7 : decode cX9_silenced 7 = .ok (.if_icmp .ge 17, 3) := by decide +kernel
theorem dX9_silenced_10 : decode cX9_silenced 10 = .ok (.lload_n 1, 1) := by decide +kernel
theorem dX9_silenced_11 : decode cX9_silenced 11 = .ok (.aload_n 0, 1) := by decide +kernel
theorem dX9_silenced_12 : decode cX9_silenced 12 = .ok (.iload_n 3, 1) := by decide +kernel
theorem dX9_silenced_13 : decode cX9_silenced 13 = .ok (.invokevirtual 138, 3) := by decide +kernel
theorem dX9_silenced_16 : decode cX9_silenced 16 = .ok (.lor, 1) := by decide +kernel
theorem dX9_silenced_17 : decode cX9_silenced 17 = .ok (.lstore_n 1, 1) := by decide +kernel
theorem dX9_silenced_18 : decode cX9_silenced 18 = .ok (.iinc 3 1, 3) := by decide +kernel
theorem dX9_silenced_21 : decode cX9_silenced 21 = .ok (.goto (-17), 3) := by decide +kernel
theorem dX9_silenced_24 : decode cX9_silenced 24 = .ok (.lload_n 1, 1) := by decide +kernel
theorem dX9_silenced_25 : decode cX9_silenced 25 = .ok (.lreturn, 1) := by decide +kernel
theorem dX9_lowestSilenceOf_0 : decode cX9_lowestSilenceOf 0 = .ok (.iconst 0, 1) := by decide +kernel
theorem dX9_lowestSilenceOf_1 : decode cX9_lowestSilenceOf 1 = .ok (.istore_n 2, 1) := by decide +kernel
theorem dX9_lowestSilenceOf_2 : decode cX9_lowestSilenceOf 2 = .ok (.iload_n 2, 1) := by decide +kernel
theorem dX9_lowestSilenceOf_3 : decode cX9_lowestSilenceOf 3 = .ok (.bipush 6, 2) := by decide +kernel
theorem dX9_lowestSilenceOf_5 : decode cX9_lowestSilenceOf 5 = .ok (.if_icmp .ge 23, 3) := by decide +kernel
theorem dX9_lowestSilenceOf_8 : decode cX9_lowestSilenceOf 8 = .ok (.aload_n 0, 1) := by decide +kernel
theorem dX9_lowestSilenceOf_9 : decode cX9_lowestSilenceOf 9 = .ok (.iload_n 2, 1) := by decide +kernel
theorem dX9_lowestSilenceOf_10 : decode cX9_lowestSilenceOf 10 = .ok (.invokevirtual 138, 3) := by decide +kernel
theorem dX9_lowestSilenceOf_13 : decode cX9_lowestSilenceOf 13 = .ok (.iload_n 1, 1) := by decide +kernel
theorem dX9_lowestSilenceOf_14 : decode cX9_lowestSilenceOf 14 = .ok (.invokestatic 142, 3) := by decide +kernel
theorem dX9_lowestSilenceOf_17 : decode cX9_lowestSilenceOf 17 = .ok (.ifCond .eq 5, 3) := by decide +kernel
theorem dX9_lowestSilenceOf_20 : decode cX9_lowestSilenceOf 20 = .ok (.iload_n 2, 1) := by decide +kernel
theorem dX9_lowestSilenceOf_21 : decode cX9_lowestSilenceOf 21 = .ok (.ireturn, 1) := by decide +kernel
theorem dX9_lowestSilenceOf_22 : decode cX9_lowestSilenceOf 22 = .ok (.iinc 2 1, 3) := by decide +kernel
theorem dX9_lowestSilenceOf_25 : decode cX9_lowestSilenceOf 25 = .ok (.goto (-23), 3) := by decide +kernel
theorem dX9_lowestSilenceOf_28 : decode cX9_lowestSilenceOf 28 = .ok (.bipush (-5), 2) := by decide +kernel
theorem dX9_lowestSilenceOf_30 : decode cX9_lowestSilenceOf 30 = .ok (.ireturn, 1) := by decide +kernel
theorem dX9_countSilencesInUse_0 : decode cX9_countSilencesInUse 0 = .ok (.iconst 0, 1) := by decide +kernel
theorem dX9_countSilencesInUse_1 : decode cX9_countSilencesInUse 1 = .ok (.istore_n 1, 1) := by decide +kernel
theorem dX9_countSilencesInUse_2 : decode cX9_countSilencesInUse 2 = .ok (.iconst 0, 1) := by decide +kernel
theorem dX9_countSilencesInUse_3 : decode cX9_countSilencesInUse 3 = .ok (.istore_n 2, 1) := by decide +kernel
theorem dX9_countSilencesInUse_4 : decode cX9_countSilencesInUse 4 = .ok (.iload_n 2, 1) := by decide +kernel
theorem dX9_countSilencesInUse_5 : decode cX9_countSilencesInUse 5 = .ok (.bipush 6, 2) := by decide +kernel
theorem dX9_countSilencesInUse_7 : decode cX9_countSilencesInUse 7 = .ok (.if_icmp .ge 30, 3) := by decide +kernel
theorem dX9_countSilencesInUse_10 : decode cX9_countSilencesInUse 10 = .ok (.aload_n 0, 1) := by decide +kernel
theorem dX9_countSilencesInUse_11 : decode cX9_countSilencesInUse 11 = .ok (.iload_n 2, 1) := by decide +kernel
theorem dX9_countSilencesInUse_12 : decode cX9_countSilencesInUse 12 = .ok (.invokevirtual 138, 3) := by decide +kernel
theorem dX9_countSilencesInUse_15 : decode cX9_countSilencesInUse 15 = .ok (.aload_n 0, 1) := by decide +kernel
theorem dX9_countSilencesInUse_16 : decode cX9_countSilencesInUse 16 = .ok (.getfield 21, 3) := by decide +kernel
theorem dX9_countSilencesInUse_19 : decode cX9_countSilencesInUse 19 = .ok (.getfield 104, 3) := by decide +kernel
theorem dX9_countSilencesInUse_22 : decode cX9_countSilencesInUse 22 = .ok (.land, 1) := by decide +kernel
theorem dX9_countSilencesInUse_23 : decode cX9_countSilencesInUse 23 = .ok (.lconst 0, 1) := by decide +kernel
theorem dX9_countSilencesInUse_24 : decode cX9_countSilencesInUse 24 = .ok (.lcmp, 1) := by decide +kernel
theorem dX9_countSilencesInUse_25 : decode cX9_countSilencesInUse 25 = .ok (.ifCond .eq 6, 3) := by decide +kernel
theorem dX9_countSilencesInUse_28 : decode cX9_countSilencesInUse 28 = .ok (.iinc 1 1, 3) := by decide +kernel
theorem dX9_countSilencesInUse_31 : decode cX9_countSilencesInUse 31 = .ok (.iinc 2 1, 3) := by decide +kernel
theorem dX9_countSilencesInUse_34 : decode cX9_countSilencesInUse 34 = .ok (.goto (-30), 3) := by decide +kernel
theorem dX9_countSilencesInUse_37 : decode cX9_countSilencesInUse 37 = .ok (.iload_n 1, 1) := by decide +kernel
theorem dX9_countSilencesInUse_38 : decode cX9_countSilencesInUse 38 = .ok (.ireturn, 1) := by decide +kernel
theorem dX9_inhibitorsOf_0 : decode cX9_inhibitorsOf 0 = .ok (.aload_n 0, 1) := by decide +kernel
theorem dX9_inhibitorsOf_1 : decode cX9_inhibitorsOf 1 = .ok (.getfield 21, 3) := by decide +kernel
theorem dX9_inhibitorsOf_4 : decode cX9_inhibitorsOf 4 = .ok (.getfield 104, 3) := by decide +kernel
theorem dX9_inhibitorsOf_7 : decode cX9_inhibitorsOf 7 = .ok (.iload_n 1, 1) := by decide +kernel
theorem dX9_inhibitorsOf_8 : decode cX9_inhibitorsOf 8 = .ok (.invokestatic 142, 3) := by decide +kernel
theorem dX9_inhibitorsOf_11 : decode cX9_inhibitorsOf 11 = .ok (.ifCond .ne 5, 3) := by decide +kernel
theorem dX9_inhibitorsOf_14 : decode cX9_inhibitorsOf 14 = .ok (.lconst 0, 1) := by decide +kernel
theorem dX9_inhibitorsOf_15 : decode cX9_inhibitorsOf 15 = .ok (.lreturn, 1) := by decide +kernel
theorem dX9_inhibitorsOf_16 : decode cX9_inhibitorsOf 16 = .ok (.lconst 0, 1) := by decide +kernel
theorem dX9_inhibitorsOf_17 : decode cX9_inhibitorsOf 17 = .ok (.lstore_n 2, 1) := by decide +kernel
theorem dX9_inhibitorsOf_18 : decode cX9_inhibitorsOf 18 = .ok (.iconst 0, 1) := by decide +kernel
theorem dX9_inhibitorsOf_19 : decode cX9_inhibitorsOf 19 = .ok (.istore 4, 2) := by decide +kernel
theorem dX9_inhibitorsOf_21 : decode cX9_inhibitorsOf 21 = .ok (.iload 4, 2) := by decide +kernel
theorem dX9_inhibitorsOf_23 : decode cX9_inhibitorsOf 23 = .ok (.iconst 4, 1) := by decide +kernel
theorem dX9_inhibitorsOf_24 : decode cX9_inhibitorsOf 24 = .ok (.if_icmp .ge 80, 3) := by decide +kernel
theorem dX9_inhibitorsOf_27 : decode cX9_inhibitorsOf 27 = .ok (.aload_n 0, 1) := by decide +kernel
theorem dX9_inhibitorsOf_28 : decode cX9_inhibitorsOf 28 = .ok (.getfield 12, 3) := by decide +kernel
theorem dX9_inhibitorsOf_31 : decode cX9_inhibitorsOf 31 = .ok (.getfield 146, 3) := by decide +kernel
theorem dX9_inhibitorsOf_34 : decode cX9_inhibitorsOf 34 = .ok (.iload 4, 2) := by decide +kernel
theorem dX9_inhibitorsOf_36 : decode cX9_inhibitorsOf 36 = .ok (.aaload, 1) := by decide +kernel
theorem dX9_inhibitorsOf_37 : decode cX9_inhibitorsOf 37 = .ok (.astore 5, 2) := by decide +kernel
theorem dX9_inhibitorsOf_39 : decode cX9_inhibitorsOf 39 = .ok (.aload 5, 2) := by decide +kernel
theorem dX9_inhibitorsOf_41 : decode cX9_inhibitorsOf 41 = .ok (.ifnull 57, 3) := by decide +kernel
theorem dX9_inhibitorsOf_44 : decode cX9_inhibitorsOf 44 = .ok (.aload_n 0, 1) := by decide +kernel
theorem dX9_inhibitorsOf_45 : decode cX9_inhibitorsOf 45 = .ok (.getfield 12, 3) := by decide +kernel
theorem dX9_inhibitorsOf_48 : decode cX9_inhibitorsOf 48 = .ok (.aload 5, 2) := by decide +kernel
theorem dX9_inhibitorsOf_50 : decode cX9_inhibitorsOf 50 = .ok (.getfield 150, 3) := by decide +kernel
theorem dX9_inhibitorsOf_53 : decode cX9_inhibitorsOf 53 = .ok (.invokevirtual 134, 3) := by decide +kernel
theorem dX9_inhibitorsOf_56 : decode cX9_inhibitorsOf 56 = .ok (.iload_n 1, 1) := by decide +kernel
theorem dX9_inhibitorsOf_57 : decode cX9_inhibitorsOf 57 = .ok (.invokestatic 142, 3) := by decide +kernel
theorem dX9_inhibitorsOf_60 : decode cX9_inhibitorsOf 60 = .ok (.ifCond .ne 6, 3) := by decide +kernel
theorem dX9_inhibitorsOf_63 : decode cX9_inhibitorsOf 63 = .ok (.goto 35, 3) := by decide +kernel
theorem dX9_inhibitorsOf_66 : decode cX9_inhibitorsOf 66 = .ok (.lload_n 2, 1) := by decide +kernel
theorem dX9_inhibitorsOf_67 : decode cX9_inhibitorsOf 67 = .ok (.aload_n 0, 1) := by decide +kernel
theorem dX9_inhibitorsOf_68 : decode cX9_inhibitorsOf 68 = .ok (.getfield 12, 3) := by decide +kernel
theorem dX9_inhibitorsOf_71 : decode cX9_inhibitorsOf 71 = .ok (.aload 5, 2) := by decide +kernel
theorem dX9_inhibitorsOf_73 : decode cX9_inhibitorsOf 73 = .ok (.getfield 155, 3) := by decide +kernel
theorem dX9_inhibitorsOf_76 : decode cX9_inhibitorsOf 76 = .ok (.invokevirtual 134, 3) := by decide +kernel
theorem dX9_inhibitorsOf_79 : decode cX9_inhibitorsOf 79 = .ok (.aload_n 0, 1) := by decide +kernel
theorem dX9_inhibitorsOf_80 : decode cX9_inhibitorsOf 80 = .ok (.getfield 12, 3) := by decide +kernel
theorem dX9_inhibitorsOf_83 : decode cX9_inhibitorsOf 83 = .ok (.iload_n 1, 1) := by decide +kernel
theorem dX9_inhibitorsOf_84 : decode cX9_inhibitorsOf 84 = .ok (.bipush 12, 2) := by decide +kernel
theorem dX9_inhibitorsOf_86 : decode cX9_inhibitorsOf 86 = .ok (.irem, 1) := by decide +kernel
theorem dX9_inhibitorsOf_87 : decode cX9_inhibitorsOf 87 = .ok (.aload 5, 2) := by decide +kernel
theorem dX9_inhibitorsOf_89 : decode cX9_inhibitorsOf 89 = .ok (.getfield 158, 3) := by decide +kernel
theorem dX9_inhibitorsOf_92 : decode cX9_inhibitorsOf 92 = .ok (.invokevirtual 161, 3) := by decide +kernel
theorem dX9_inhibitorsOf_95 : decode cX9_inhibitorsOf 95 = .ok (.land, 1) := by decide +kernel
theorem dX9_inhibitorsOf_96 : decode cX9_inhibitorsOf 96 = .ok (.lor, 1) := by decide +kernel
theorem dX9_inhibitorsOf_97 : decode cX9_inhibitorsOf 97 = .ok (.lstore_n 2, 1) := by decide +kernel
theorem dX9_inhibitorsOf_98 : decode cX9_inhibitorsOf 98 = .ok (.iinc 4 1, 3) := by decide +kernel
theorem dX9_inhibitorsOf_101 : decode cX9_inhibitorsOf 101 = .ok (.goto (-80), 3) := by decide +kernel
theorem dX9_inhibitorsOf_104 : decode cX9_inhibitorsOf 104 = .ok (.lload_n 2, 1) := by decide +kernel
theorem dX9_inhibitorsOf_105 : decode cX9_inhibitorsOf 105 = .ok (.aload_n 0, 1) := by decide +kernel
theorem dX9_inhibitorsOf_106 : decode cX9_inhibitorsOf 106 = .ok (.getfield 21, 3) := by decide +kernel
theorem dX9_inhibitorsOf_109 : decode cX9_inhibitorsOf 109 = .ok (.getfield 104, 3) := by decide +kernel
theorem dX9_inhibitorsOf_112 : decode cX9_inhibitorsOf 112 = .ok (.land, 1) := by decide +kernel
theorem dX9_inhibitorsOf_113 : decode cX9_inhibitorsOf 113 = .ok (.lconst 1, 1) := by decide +kernel
theorem dX9_inhibitorsOf_114 : decode cX9_inhibitorsOf 114 = .ok (.iload_n 1, 1) := by decide +kernel
theorem dX9_inhibitorsOf_115 : decode cX9_inhibitorsOf 115 = .ok (.lshl, 1) := by decide +kernel
theorem dX9_inhibitorsOf_116 : decode cX9_inhibitorsOf 116 = .ok (.ldc2_w 111, 3) := by decide +kernel
theorem dX9_inhibitorsOf_119 : decode cX9_inhibitorsOf 119 = .ok (.lxor, 1) := by decide +kernel
theorem dX9_inhibitorsOf_120 : decode cX9_inhibitorsOf 120 = .ok (.land, 1) := by decide +kernel
theorem dX9_inhibitorsOf_121 : decode cX9_inhibitorsOf 121 = .ok (.lreturn, 1) := by decide +kernel
theorem dX9_inhibited_0 : decode cX9_inhibited 0 = .ok (.lconst 0, 1) := by decide +kernel
theorem dX9_inhibited_1 : decode cX9_inhibited 1 = .ok (.lstore_n 1, 1) := by decide +kernel
theorem dX9_inhibited_2 : decode cX9_inhibited 2 = .ok (.iconst 0, 1) := by decide +kernel
theorem dX9_inhibited_3 : decode cX9_inhibited 3 = .ok (.istore_n 3, 1) := by decide +kernel
theorem dX9_inhibited_4 : decode cX9_inhibited 4 = .ok (.iload_n 3, 1) := by decide +kernel
theorem dX9_inhibited_5 : decode cX9_inhibited 5 = .ok (.iconst 4, 1) := by decide +kernel
theorem dX9_inhibited_6 : decode cX9_inhibited 6 = .ok (.if_icmp .ge 34, 3) := by decide +kernel
theorem dX9_inhibited_9 : decode cX9_inhibited 9 = .ok (.aload_n 0, 1) := by decide +kernel
theorem dX9_inhibited_10 : decode cX9_inhibited 10 = .ok (.getfield 12, 3) := by decide +kernel
theorem dX9_inhibited_13 : decode cX9_inhibited 13 = .ok (.getfield 146, 3) := by decide +kernel
theorem dX9_inhibited_16 : decode cX9_inhibited 16 = .ok (.iload_n 3, 1) := by decide +kernel
theorem dX9_inhibited_17 : decode cX9_inhibited 17 = .ok (.aaload, 1) := by decide +kernel
theorem dX9_inhibited_18 : decode cX9_inhibited 18 = .ok (.astore 4, 2) := by decide +kernel
theorem dX9_inhibited_20 : decode cX9_inhibited 20 = .ok (.aload 4, 2) := by decide +kernel
theorem dX9_inhibited_22 : decode cX9_inhibited 22 = .ok (.ifnull 12, 3) := by decide +kernel
theorem dX9_inhibited_25 : decode cX9_inhibited 25 = .ok (.lload_n 1, 1) := by decide +kernel
theorem dX9_inhibited_26 : decode cX9_inhibited 26 = .ok (.aload_n 0, 1) := by decide +kernel
theorem dX9_inhibited_27 : decode cX9_inhibited 27 = .ok (.aload 4, 2) := by decide +kernel
theorem dX9_inhibited_29 : decode cX9_inhibited 29 = .ok (.invokevirtual 165, 3) := by decide +kernel
theorem dX9_inhibited_32 : decode cX9_inhibited 32 = .ok (.lor, 1) := by decide +kernel
theorem dX9_inhibited_33 : decode cX9_inhibited 33 = .ok (.lstore_n 1, 1) := by decide +kernel
theorem dX9_inhibited_34 : decode cX9_inhibited 34 = .ok (.iinc 3 1, 3) := by decide +kernel
theorem dX9_inhibited_37 : decode cX9_inhibited 37 = .ok (.goto (-33), 3) := by decide +kernel
theorem dX9_inhibited_40 : decode cX9_inhibited 40 = .ok (.lload_n 1, 1) := by decide +kernel
theorem dX9_inhibited_41 : decode cX9_inhibited 41 = .ok (.lreturn, 1) := by decide +kernel
theorem dX9_inhibitedBy_0 : decode cX9_inhibitedBy 0 = .ok (.aload_n 0, 1) := by decide +kernel
theorem dX9_inhibitedBy_1 : decode cX9_inhibitedBy 1 = .ok (.getfield 12, 3) := by decide +kernel
theorem dX9_inhibitedBy_4 : decode cX9_inhibitedBy 4 = .ok (.aload_n 1, 1) := by decide +kernel
theorem dX9_inhibitedBy_5 : decode cX9_inhibitedBy 5 = .ok (.getfield 155, 3) := by decide +kernel
theorem dX9_inhibitedBy_8 : decode cX9_inhibitedBy 8 = .ok (.invokevirtual 134, 3) := by decide +kernel
theorem dX9_inhibitedBy_11 : decode cX9_inhibitedBy 11 = .ok (.aload_n 0, 1) := by decide +kernel
theorem dX9_inhibitedBy_12 : decode cX9_inhibitedBy 12 = .ok (.getfield 21, 3) := by decide +kernel
theorem dX9_inhibitedBy_15 : decode cX9_inhibitedBy 15 = .ok (.getfield 104, 3) := by decide +kernel
theorem dX9_inhibitedBy_18 : decode cX9_inhibitedBy 18 = .ok (.land, 1) := by decide +kernel
theorem dX9_inhibitedBy_19 : decode cX9_inhibitedBy 19 = .ok (.lstore_n 2, 1) := by decide +kernel
theorem dX9_inhibitedBy_20 : decode cX9_inhibitedBy 20 = .ok (.aload_n 0, 1) := by decide +kernel
theorem dX9_inhibitedBy_21 : decode cX9_inhibitedBy 21 = .ok (.getfield 12, 3) := by decide +kernel
theorem dX9_inhibitedBy_24 : decode cX9_inhibitedBy 24 = .ok (.aload_n 1, 1) := by decide +kernel
theorem dX9_inhibitedBy_25 : decode cX9_inhibitedBy 25 = .ok (.getfield 150, 3) := by decide +kernel
theorem dX9_inhibitedBy_28 : decode cX9_inhibitedBy 28 = .ok (.invokevirtual 134, 3) := by decide +kernel
theorem dX9_inhibitedBy_31 : decode cX9_inhibitedBy 31 = .ok (.aload_n 0, 1) := by decide +kernel
theorem dX9_inhibitedBy_32 : decode cX9_inhibitedBy 32 = .ok (.getfield 21, 3) := by decide +kernel
theorem dX9_inhibitedBy_35 : decode cX9_inhibitedBy 35 = .ok (.getfield 104, 3) := by decide +kernel
theorem dX9_inhibitedBy_38 : decode cX9_inhibitedBy 38 = .ok (.land, 1) := by decide +kernel
theorem dX9_inhibitedBy_39 : decode cX9_inhibitedBy 39 = .ok (.lstore 4, 2) := by decide +kernel
theorem dX9_inhibitedBy_41 : decode cX9_inhibitedBy 41 = .ok (.lconst 0, 1) := by decide +kernel
theorem dX9_inhibitedBy_42 : decode cX9_inhibitedBy 42 = .ok (.lstore 6, 2) := by decide +kernel
theorem dX9_inhibitedBy_44 : decode cX9_inhibitedBy 44 = .ok (.iconst 0, 1) := by decide +kernel
theorem dX9_inhibitedBy_45 : decode cX9_inhibitedBy 45 = .ok (.istore 8, 2) := by decide +kernel
theorem dX9_inhibitedBy_47 : decode cX9_inhibitedBy 47 = .ok (.iload 8, 2) := by decide +kernel
theorem dX9_inhibitedBy_49 : decode cX9_inhibitedBy 49 = .ok (.bipush 12, 2) := by decide +kernel
theorem dX9_inhibitedBy_51 : decode cX9_inhibitedBy 51 = .ok (.if_icmp .ge 76, 3) := by decide +kernel
theorem dX9_inhibitedBy_54 : decode cX9_inhibitedBy 54 = .ok (.lload_n 2, 1) := by decide +kernel
theorem dX9_inhibitedBy_55 : decode cX9_inhibitedBy 55 = .ok (.aload_n 0, 1) := by decide +kernel
theorem dX9_inhibitedBy_56 : decode cX9_inhibitedBy 56 = .ok (.getfield 12, 3) := by decide +kernel
theorem dX9_inhibitedBy_59 : decode cX9_inhibitedBy 59 = .ok (.iload 8, 2) := by decide +kernel
theorem dX9_inhibitedBy_61 : decode cX9_inhibitedBy 61 = .ok (.aload_n 1, 1) := by decide +kernel
theorem dX9_inhibitedBy_62 : decode cX9_inhibitedBy 62 = .ok (.getfield 158, 3) := by decide +kernel
theorem dX9_inhibitedBy_65 : decode cX9_inhibitedBy 65 = .ok (.invokevirtual 161, 3) := by decide +kernel
theorem dX9_inhibitedBy_68 : decode cX9_inhibitedBy 68 = .ok (.land, 1) := by decide +kernel
theorem dX9_inhibitedBy_69 : decode cX9_inhibitedBy 69 = .ok (.lstore 9, 2) := by decide +kernel
theorem dX9_inhibitedBy_71 : decode cX9_inhibitedBy 71 = .ok (.lload 9, 2) := by decide +kernel
theorem dX9_inhibitedBy_73 : decode cX9_inhibitedBy 73 = .ok (.lconst 0, 1) := by decide +kernel
theorem dX9_inhibitedBy_74 : decode cX9_inhibitedBy 74 = .ok (.lcmp, 1) := by decide +kernel
theorem dX9_inhibitedBy_75 : decode cX9_inhibitedBy 75 = .ok (.ifCond .ne 6, 3) := by decide +kernel
theorem dX9_inhibitedBy_78 : decode cX9_inhibitedBy 78 = .ok (.goto 43, 3) := by decide +kernel
theorem dX9_inhibitedBy_81 : decode cX9_inhibitedBy 81 = .ok (.lload 9, 2) := by decide +kernel
theorem dX9_inhibitedBy_83 : decode cX9_inhibitedBy 83 = .ok (.invokestatic 91, 3) := by decide +kernel
theorem dX9_inhibitedBy_86 : decode cX9_inhibitedBy 86 = .ok (.iconst 1, 1) := by decide +kernel
theorem dX9_inhibitedBy_87 : decode cX9_inhibitedBy 87 = .ok (.if_icmp .ne 12, 3) := by decide +kernel
theorem dX9_inhibitedBy_90 : decode cX9_inhibitedBy 90 = .ok (.lload 9, 2) := by decide +kernel
theorem dX9_inhibitedBy_92 : decode cX9_inhibitedBy 92 = .ok (.ldc2_w 111, 3) := by decide +kernel
theorem dX9_inhibitedBy_95 : decode cX9_inhibitedBy 95 = .ok (.lxor, 1) := by decide +kernel
theorem dX9_inhibitedBy_96 : decode cX9_inhibitedBy 96 = .ok (.goto 6, 3) := by decide +kernel
theorem dX9_inhibitedBy_99 : decode cX9_inhibitedBy 99 = .ok (.ldc2_w 169, 3) := by decide +kernel
theorem dX9_inhibitedBy_102 : decode cX9_inhibitedBy 102 = .ok (.lstore 11, 2) := by decide +kernel
theorem dX9_inhibitedBy_104 : decode cX9_inhibitedBy 104 = .ok (.lload 6, 2) := by decide +kernel
theorem dX9_inhibitedBy_106 : decode cX9_inhibitedBy 106 = .ok (.lload 4, 2) := by decide +kernel
theorem dX9_inhibitedBy_108 : decode cX9_inhibitedBy 108 = .ok (.ldc2_w 171, 3) := by decide +kernel
theorem dX9_inhibitedBy_111 : decode cX9_inhibitedBy 111 = .ok (.iload 8, 2) := by decide +kernel
theorem dX9_inhibitedBy_113 : decode cX9_inhibitedBy 113 = .ok (.lshl, 1) := by decide +kernel
theorem dX9_inhibitedBy_114 : decode cX9_inhibitedBy 114 = .ok (.land, 1) := by decide +kernel
theorem dX9_inhibitedBy_115 : decode cX9_inhibitedBy 115 = .ok (.lload 11, 2) := by decide +kernel
theorem dX9_inhibitedBy_117 : decode cX9_inhibitedBy 117 = .ok (.land, 1) := by decide +kernel
theorem dX9_inhibitedBy_118 : decode cX9_inhibitedBy 118 = .ok (.lor, 1) := by decide +kernel
theorem dX9_inhibitedBy_119 : decode cX9_inhibitedBy 119 = .ok (.lstore 6, 2) := by decide +kernel
theorem dX9_inhibitedBy_121 : decode cX9_inhibitedBy 121 = .ok (.iinc 8 1, 3) := by decide +kernel
theorem dX9_inhibitedBy_124 : decode cX9_inhibitedBy 124 = .ok (.goto (-77), 3) := by decide +kernel
theorem dX9_inhibitedBy_127 : decode cX9_inhibitedBy 127 = .ok (.lload 6, 2) := by decide +kernel
theorem dX9_inhibitedBy_129 : decode cX9_inhibitedBy 129 = .ok (.lreturn, 1) := by decide +kernel
theorem dX9_windowStart_0 : decode cX9_windowStart 0 = .ok (.aload_n 0, 1) := by decide +kernel
theorem dX9_windowStart_1 : decode cX9_windowStart 1 = .ok (.getfield 39, 3) := by decide +kernel
theorem dX9_windowStart_4 : decode cX9_windowStart 4 = .ok (.aload_n 0, 1) := by decide +kernel
theorem dX9_windowStart_5 : decode cX9_windowStart 5 = .ok (.getfield 12, 3) := by decide +kernel
theorem dX9_windowStart_8 : decode cX9_windowStart 8 = .ok (.getfield 173, 3) := by decide +kernel
theorem dX9_windowStart_11 : decode cX9_windowStart 11 = .ok (.iconst 2, 1) := by decide +kernel
theorem dX9_windowStart_12 : decode cX9_windowStart 12 = .ok (.iaload, 1) := by decide +kernel
theorem dX9_windowStart_13 : decode cX9_windowStart 13 = .ok (.isub, 1) := by decide +kernel
theorem dX9_windowStart_14 : decode cX9_windowStart 14 = .ok (.ireturn, 1) := by decide +kernel
theorem dX9_flapping_0 : decode cX9_flapping 0 = .ok (.aload_n 0, 1) := by decide +kernel
theorem dX9_flapping_1 : decode cX9_flapping 1 = .ok (.getfield 21, 3) := by decide +kernel
theorem dX9_flapping_4 : decode cX9_flapping 4 = .ok (.lload_n 1, 1) := by decide +kernel
theorem dX9_flapping_5 : decode cX9_flapping 5 = .ok (.aload_n 0, 1) := by decide +kernel
theorem dX9_flapping_6 : decode cX9_flapping 6 = .ok (.invokevirtual 177, 3) := by decide +kernel
theorem dX9_flapping_9 : decode cX9_flapping 9 = .ok (.aload_n 0, 1) := by decide +kernel
theorem dX9_flapping_10 : decode cX9_flapping 10 = .ok (.getfield 12, 3) := by decide +kernel
theorem dX9_flapping_13 : decode cX9_flapping 13 = .ok (.getfield 173, 3) := by decide +kernel
theorem dX9_flapping_16 : decode cX9_flapping 16 = .ok (.iconst 3, 1) := by decide +kernel
theorem dX9_flapping_17 : decode cX9_flapping 17 = .ok (.iaload, 1) := by decide +kernel
theorem dX9_flapping_18 : decode cX9_flapping 18 = .ok (.invokevirtual 180, 3) := by decide +kernel
theorem dX9_flapping_21 : decode cX9_flapping 21 = .ok (.lreturn, 1) := by decide +kernel
theorem dX10_init_0 : decode cX10_init 0 = .ok (.aload_n 0, 1) := by decide +kernel
theorem dX10_init_1 : decode cX10_init 1 = .ok (.invokespecial 3, 3) := by decide +kernel
theorem dX10_init_4 : decode cX10_init 4 = .ok (.aload_n 0, 1) := by decide +kernel
theorem dX10_init_5 : decode cX10_init 5 = .ok (.bipush 60, 2) := by decide +kernel
theorem dX10_init_7 : decode cX10_init 7 = .ok (.newarray .int, 2) := by decide +kernel
theorem dX10_init_9 : decode cX10_init 9 = .ok (.putfield 11, 3) := by decide +kernel
theorem dX10_init_12 : decode cX10_init 12 = .ok (.return_, 1) := by decide +kernel
theorem dX10_hasRoomFor_0 : decode cX10_hasRoomFor 0 = .ok (.aload_n 0, 1) := by decide +kernel
theorem dX10_hasRoomFor_1 : decode cX10_hasRoomFor 1 = .ok (.getfield 15, 3) := by decide +kernel
theorem dX10_hasRoomFor_4 : decode cX10_hasRoomFor 4 = .ok (.iload_n 1, 1) := by decide +kernel
theorem dX10_hasRoomFor_5 : decode cX10_hasRoomFor 5 = .ok (.iadd, 1) := by decide +kernel
theorem dX10_hasRoomFor_6 : decode cX10_hasRoomFor 6 = .ok (.bipush 60, 2) := by decide +kernel
theorem dX10_hasRoomFor_8 : decode cX10_hasRoomFor 8 = .ok (.if_icmp .gt 7, 3) := by decide +kernel
theorem dX10_hasRoomFor_11 : decode cX10_hasRoomFor 11 = .ok (.iconst 1, 1) := by decide +kernel
theorem dX10_hasRoomFor_12 : decode cX10_hasRoomFor 12 = .ok (.goto 4, 3) := by decide +kernel
theorem dX10_hasRoomFor_15 : decode cX10_hasRoomFor 15 = .ok (.iconst 0, 1) := by decide +kernel
theorem dX10_hasRoomFor_16 : decode cX10_hasRoomFor 16 = .ok (.ireturn, 1) := by decide +kernel
theorem dX10_append_0 : decode cX10_append 0 = .ok (.aload_n 0, 1) := by decide +kernel
theorem dX10_append_1 : decode cX10_append 1 = .ok (.getfield 15, 3) := by decide +kernel
theorem dX10_append_4 : decode cX10_append 4 = .ok (.bipush 60, 2) := by decide +kernel
theorem dX10_append_6 : decode cX10_append 6 = .ok (.if_icmp .ge 20, 3) := by decide +kernel
theorem dX10_append_9 : decode cX10_append 9 = .ok (.aload_n 0, 1) := by decide +kernel
theorem dX10_append_10 : decode cX10_append 10 = .ok (.getfield 11, 3) := by decide +kernel
theorem dX10_append_13 : decode cX10_append 13 = .ok (.aload_n 0, 1) := by decide +kernel
theorem dX10_append_14 : decode cX10_append 14 = .ok (.dup, 1) := by decide +kernel
theorem dX10_append_15 : decode cX10_append 15 = .ok (.getfield 15, 3) := by decide +kernel
theorem dX10_append_18 : decode cX10_append 18 = .ok (.dup_x1, 1) := by decide +kernel
theorem dX10_append_19 : decode cX10_append 19 = .ok (.iconst 1, 1) := by decide +kernel
theorem dX10_append_20 : decode cX10_append 20 = .ok (.iadd, 1) := by decide +kernel
theorem dX10_append_21 : decode cX10_append 21 = .ok (.putfield 15, 3) := by decide +kernel
