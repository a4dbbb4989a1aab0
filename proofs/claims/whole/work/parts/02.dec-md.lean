theorem dX12_saved_42 : decode cX12_saved 42 = .ok (.iconst 0, 1) := by decide +kernel
theorem dX12_saved_43 : decode cX12_saved 43 = .ok (.iastore, 1) := by decide +kernel
theorem dX12_saved_44 : decode cX12_saved 44 = .ok (.aload_n 0, 1) := by decide +kernel
theorem dX12_saved_45 : decode cX12_saved 45 = .ok (.iload_n 2, 1) := by decide +kernel
theorem dX12_saved_46 : decode cX12_saved 46 = .ok (.iconst 0, 1) := by decide +kernel
theorem dX12_saved_47 : decode cX12_saved 47 = .ok (.invokevirtual 176, 3) := by decide +kernel
theorem dX12_saved_50 : decode cX12_saved 50 = .ok (.istore 4, 2) := by decide +kernel
theorem dX12_saved_52 : decode cX12_saved 52 = .ok (.aload_n 0, 1) := by decide +kernel
theorem dX12_saved_53 : decode cX12_saved 53 = .ok (.getfield 9, 3) := by decide +kernel
theorem dX12_saved_56 : decode cX12_saved 56 = .ok (.bipush 110, 2) := by decide +kernel
theorem dX12_saved_58 : decode cX12_saved 58 = .ok (.bipush 8, 2) := by decide +kernel
theorem dX12_saved_60 : decode cX12_saved 60 = .ok (.iload_n 1, 1) := by decide +kernel
theorem dX12_saved_61 : decode cX12_saved 61 = .ok (.imul, 1) := by decide +kernel
theorem dX12_saved_62 : decode cX12_saved 62 = .ok (.iadd, 1) := by decide +kernel
theorem dX12_saved_63 : decode cX12_saved 63 = .ok (.iconst 1, 1) := by decide +kernel
theorem dX12_saved_64 : decode cX12_saved 64 = .ok (.iastore, 1) := by decide +kernel
theorem dX12_saved_65 : decode cX12_saved 65 = .ok (.iload 4, 2) := by decide +kernel
theorem dX12_saved_67 : decode cX12_saved 67 = .ok (.iload_n 3, 1) := by decide +kernel
theorem dX12_saved_68 : decode cX12_saved 68 = .ok (.isub, 1) := by decide +kernel
theorem dX12_saved_69 : decode cX12_saved 69 = .ok (.sipush 1000, 3) := by decide +kernel
theorem dX12_saved_72 : decode cX12_saved 72 = .ok (.iadd, 1) := by decide +kernel
theorem dX12_saved_73 : decode cX12_saved 73 = .ok (.ireturn, 1) := by decide +kernel
theorem dX12_image_0 : decode cX12_image 0 = .ok (.aload_n 0, 1) := by decide +kernel
theorem dX12_image_1 : decode cX12_image 1 = .ok (.getfield 9, 3) := by decide +kernel
theorem dX12_image_4 : decode cX12_image 4 = .ok (.aload_n 0, 1) := by decide +kernel
theorem dX12_image_5 : decode cX12_image 5 = .ok (.getfield 13, 3) := by decide +kernel
theorem dX12_image_8 : decode cX12_image 8 = .ok (.aload_n 0, 1) := by decide +kernel
theorem dX12_image_9 : decode cX12_image 9 = .ok (.getfield 19, 3) := by decide +kernel
theorem dX12_image_12 : decode cX12_image 12 = .ok (.aload_n 0, 1) := by decide +kernel
theorem dX12_image_13 : decode cX12_image 13 = .ok (.getfield 23, 3) := by decide +kernel
theorem dX12_image_16 : decode cX12_image 16 = .ok (.invokestatic 172, 3) := by decide +kernel
theorem dX12_image_19 : decode cX12_image 19 = .ok (.aload_n 0, 1) := by decide +kernel
theorem dX12_image_20 : decode cX12_image 20 = .ok (.iconst 1, 1) := by decide +kernel
theorem dX12_image_21 : decode cX12_image 21 = .ok (.putfield 180, 3) := by decide +kernel
theorem dX12_image_24 : decode cX12_image 24 = .ok (.aload_n 0, 1) := by decide +kernel
theorem dX12_image_25 : decode cX12_image 25 = .ok (.getfield 9, 3) := by decide +kernel
theorem dX12_image_28 : decode cX12_image 28 = .ok (.sipush 1847, 3) := by decide +kernel
theorem dX12_image_31 : decode cX12_image 31 = .ok (.iaload, 1) := by decide +kernel
theorem dX12_image_32 : decode cX12_image 32 = .ok (.ireturn, 1) := by decide +kernel
theorem dX12_undo_0 : decode cX12_undo 0 = .ok (.aload_n 0, 1) := by decide +kernel
theorem dX12_undo_1 : decode cX12_undo 1 = .ok (.getfield 180, 3) := by decide +kernel
theorem dX12_undo_4 : decode cX12_undo 4 = .ok (.ifCond .ne 6, 3) := by decide +kernel
theorem dX12_undo_7 : decode cX12_undo 7 = .ok (.bipush (-3), 2) := by decide +kernel
theorem dX12_undo_9 : decode cX12_undo 9 = .ok (.ireturn, 1) := by decide +kernel
theorem dX12_undo_10 : decode cX12_undo 10 = .ok (.aload_n 0, 1) := by decide +kernel
theorem dX12_undo_11 : decode cX12_undo 11 = .ok (.getfield 13, 3) := by decide +kernel
theorem dX12_undo_14 : decode cX12_undo 14 = .ok (.aload_n 0, 1) := by decide +kernel
theorem dX12_undo_15 : decode cX12_undo 15 = .ok (.getfield 9, 3) := by decide +kernel
theorem dX12_undo_18 : decode cX12_undo 18 = .ok (.aload_n 0, 1) := by decide +kernel
theorem dX12_undo_19 : decode cX12_undo 19 = .ok (.getfield 23, 3) := by decide +kernel
theorem dX12_undo_22 : decode cX12_undo 22 = .ok (.aload_n 0, 1) := by decide +kernel
theorem dX12_undo_23 : decode cX12_undo 23 = .ok (.getfield 19, 3) := by decide +kernel
theorem dX12_undo_26 : decode cX12_undo 26 = .ok (.invokestatic 172, 3) := by decide +kernel
theorem dX12_undo_29 : decode cX12_undo 29 = .ok (.aload_n 0, 1) := by decide +kernel
theorem dX12_undo_30 : decode cX12_undo 30 = .ok (.getfield 9, 3) := by decide +kernel
theorem dX12_undo_33 : decode cX12_undo 33 = .ok (.sipush 1847, 3) := by decide +kernel
theorem dX12_undo_36 : decode cX12_undo 36 = .ok (.iaload, 1) := by decide +kernel
theorem dX12_undo_37 : decode cX12_undo 37 = .ok (.ireturn, 1) := by decide +kernel
theorem dX12_silencing_0 : decode cX12_silencing 0 = .ok (.iconst 0, 1) := by decide +kernel
theorem dX12_silencing_1 : decode cX12_silencing 1 = .ok (.istore_n 1, 1) := by decide +kernel
theorem dX12_silencing_2 : decode cX12_silencing 2 = .ok (.iconst 0, 1) := by decide +kernel
theorem dX12_silencing_3 : decode cX12_silencing 3 = .ok (.istore_n 2, 1) := by decide +kernel
theorem dX12_silencing_4 : decode cX12_silencing 4 = .ok (.iload_n 2, 1) := by decide +kernel
theorem dX12_silencing_5 : decode cX12_silencing 5 = .ok (.bipush 6, 2) := by decide +kernel
theorem dX12_silencing_7 : decode cX12_silencing 7 = .ok (.if_icmp .ge 67, 3) := by decide +kernel
theorem dX12_silencing_10 : decode cX12_silencing 10 = .ok (.iconst 0, 1) := by decide +kernel
theorem dX12_silencing_11 : decode cX12_silencing 11 = .ok (.istore_n 3, 1) := by decide +kernel
theorem dX12_silencing_12 : decode cX12_silencing 12 = .ok (.iconst 0, 1) := by decide +kernel
theorem dX12_silencing_13 : decode cX12_silencing 13 = .ok (.istore 4, 2) := by decide +kernel
theorem dX12_silencing_15 : decode cX12_silencing 15 = .ok (.iload 4, 2) := by decide +kernel
theorem dX12_silencing_17 : decode cX12_silencing 17 = .ok (.bipush 60, 2) := by decide +kernel
theorem dX12_silencing_19 : decode cX12_silencing 19 = .ok (.if_icmp .ge 37, 3) := by decide +kernel
theorem dX12_silencing_22 : decode cX12_silencing 22 = .ok (.iload_n 3, 1) := by decide +kernel
theorem dX12_silencing_23 : decode cX12_silencing 23 = .ok (.aload_n 0, 1) := by decide +kernel
theorem dX12_silencing_24 : decode cX12_silencing 24 = .ok (.iload 4, 2) := by decide +kernel
theorem dX12_silencing_26 : decode cX12_silencing 26 = .ok (.invokevirtual 104, 3) := by decide +kernel
theorem dX12_silencing_29 : decode cX12_silencing 29 = .ok (.iconst 2, 1) := by decide +kernel
theorem dX12_silencing_30 : decode cX12_silencing 30 = .ok (.if_icmp .ne 17, 3) := by decide +kernel
theorem dX12_silencing_33 : decode cX12_silencing 33 = .ok (.aload_n 0, 1) := by decide +kernel
theorem dX12_silencing_34 : decode cX12_silencing 34 = .ok (.iload 4, 2) := by decide +kernel
theorem dX12_silencing_36 : decode cX12_silencing 36 = .ok (.iload_n 2, 1) := by decide +kernel
theorem dX12_silencing_37 : decode cX12_silencing 37 = .ok (.invokevirtual 101, 3) := by decide +kernel
theorem dX12_silencing_40 : decode cX12_silencing 40 = .ok (.ifCond .eq 7, 3) := by decide +kernel
theorem dX12_silencing_43 : decode cX12_silencing 43 = .ok (.iconst 1, 1) := by decide +kernel
theorem dX12_silencing_44 : decode cX12_silencing 44 = .ok (.goto 4, 3) := by decide +kernel
theorem dX12_silencing_47 : decode cX12_silencing 47 = .ok (.iconst 0, 1) := by decide +kernel
theorem dX12_silencing_48 : decode cX12_silencing 48 = .ok (.ior, 1) := by decide +kernel
theorem dX12_silencing_49 : decode cX12_silencing 49 = .ok (.istore_n 3, 1) := by decide +kernel
theorem dX12_silencing_50 : decode cX12_silencing 50 = .ok (.iinc 4 1, 3) := by decide +kernel
theorem dX12_silencing_53 : decode cX12_silencing 53 = .ok (.goto (-38), 3) := by decide +kernel
theorem dX12_silencing_56 : decode cX12_silencing 56 = .ok (.iload_n 1, 1) := by decide +kernel
theorem dX12_silencing_57 : decode cX12_silencing 57 = .ok (.iload_n 3, 1) := by decide +kernel
theorem dX12_silencing_58 : decode cX12_silencing 58 = .ok (.ifCond .eq 7, 3) := by decide +kernel
theorem dX12_silencing_61 : decode cX12_silencing 61 = .ok (.iconst 1, 1) := by decide +kernel
theorem dX12_silencing_62 : decode cX12_silencing 62 = .ok (.goto 4, 3) := by decide +kernel
theorem dX12_silencing_65 : decode cX12_silencing 65 = .ok (.iconst 0, 1) := by decide +kernel
theorem dX12_silencing_66 : decode cX12_silencing 66 = .ok (.iadd, 1) := by decide +kernel
theorem dX12_silencing_67 : decode cX12_silencing 67 = .ok (.istore_n 1, 1) := by decide +kernel
theorem dX12_silencing_68 : decode cX12_silencing 68 = .ok (.iinc 2 1, 3) := by decide +kernel
theorem dX12_silencing_71 : decode cX12_silencing 71 = .ok (.goto (-67), 3) := by decide +kernel
theorem dX12_silencing_74 : decode cX12_silencing 74 = .ok (.iload_n 1, 1) := by decide +kernel
theorem dX12_silencing_75 : decode cX12_silencing 75 = .ok (.ireturn, 1) := by decide +kernel
theorem dX12_count_0 : decode cX12_count 0 = .ok (.iload_n 1, 1) := by decide +kernel
theorem dX12_count_1 : decode cX12_count 1 = .ok (.iconst 0, 1) := by decide +kernel
theorem dX12_count_2 : decode cX12_count 2 = .ok (.bipush 14, 2) := by decide +kernel
theorem dX12_count_4 : decode cX12_count 4 = .ok (.invokestatic 35, 3) := by decide +kernel
theorem dX12_count_7 : decode cX12_count 7 = .ok (.ifCond .ne 5, 3) := by decide +kernel
theorem dX12_count_10 : decode cX12_count 10 = .ok (.iconst (-1), 1) := by decide +kernel
theorem dX12_count_11 : decode cX12_count 11 = .ok (.ireturn, 1) := by decide +kernel
theorem dX12_count_12 : decode cX12_count 12 = .ok (.iload_n 1, 1) := by decide +kernel
theorem dX12_count_13 : decode cX12_count 13 = .ok (.bipush 10, 2) := by decide +kernel
theorem dX12_count_15 : decode cX12_count 15 = .ok (.if_icmp .lt 17, 3) := by decide +kernel
theorem dX12_count_18 : decode cX12_count 18 = .ok (.aload_n 0, 1) := by decide +kernel
theorem dX12_count_19 : decode cX12_count 19 = .ok (.getfield 9, 3) := by decide +kernel
theorem dX12_count_22 : decode cX12_count 22 = .ok (.sipush 1842, 3) := by decide +kernel
theorem dX12_count_25 : decode cX12_count 25 = .ok (.iload_n 1, 1) := by decide +kernel
theorem dX12_count_26 : decode cX12_count 26 = .ok (.iadd, 1) := by decide +kernel
theorem dX12_count_27 : decode cX12_count 27 = .ok (.bipush 10, 2) := by decide +kernel
theorem dX12_count_29 : decode cX12_count 29 = .ok (.isub, 1) := by decide +kernel
theorem dX12_count_30 : decode cX12_count 30 = .ok (.iaload, 1) := by decide +kernel
theorem dX12_count_31 : decode cX12_count 31 = .ok (.ireturn, 1) := by decide +kernel
theorem dX12_count_32 : decode cX12_count 32 = .ok (.iconst 0, 1) := by decide +kernel
theorem dX12_count_33 : decode cX12_count 33 = .ok (.istore_n 2, 1) := by decide +kernel
theorem dX12_count_34 : decode cX12_count 34 = .ok (.iload_n 1, 1) := by decide +kernel
theorem dX12_count_35 : decode cX12_count 35 = .ok (.tableswitch 149 0 8 #[49, 58, 58, 58, 66, 94, 103, 135, 144], 49) := by decide +kernel
theorem dX12_count_84 : decode cX12_count 84 = .ok (.aload_n 0, 1) := by decide +kernel
theorem dX12_count_85 : decode cX12_count 85 = .ok (.getfield 9, 3) := by decide +kernel
theorem dX12_count_88 : decode cX12_count 88 = .ok (.sipush 1847, 3) := by decide +kernel
theorem dX12_count_91 : decode cX12_count 91 = .ok (.iaload, 1) := by decide +kernel
theorem dX12_count_92 : decode cX12_count 92 = .ok (.ireturn, 1) := by decide +kernel
theorem dX12_count_93 : decode cX12_count 93 = .ok (.aload_n 0, 1) := by decide +kernel
theorem dX12_count_94 : decode cX12_count 94 = .ok (.iload_n 1, 1) := by decide +kernel
theorem dX12_count_95 : decode cX12_count 95 = .ok (.iconst 1, 1) := by decide +kernel
theorem dX12_count_96 : decode cX12_count 96 = .ok (.isub, 1) := by decide +kernel
theorem dX12_count_97 : decode cX12_count 97 = .ok (.invokevirtual 86, 3) := by decide +kernel
theorem dX12_count_100 : decode cX12_count 100 = .ok (.ireturn, 1) := by decide +kernel
theorem dX12_count_101 : decode cX12_count 101 = .ok (.iconst 0, 1) := by decide +kernel
theorem dX12_count_102 : decode cX12_count 102 = .ok (.istore_n 3, 1) := by decide +kernel
theorem dX12_count_103 : decode cX12_count 103 = .ok (.iload_n 3, 1) := by decide +kernel
theorem dX12_count_104 : decode cX12_count 104 = .ok (.bipush 12, 2) := by decide +kernel
theorem dX12_count_106 : decode cX12_count 106 = .ok (.if_icmp .ge 21, 3) := by decide +kernel
theorem dX12_count_109 : decode cX12_count 109 = .ok (.iload_n 2, 1) := by decide +kernel
theorem dX12_count_110 : decode cX12_count 110 = .ok (.aload_n 0, 1) := by decide +kernel
theorem dX12_count_111 : decode cX12_count 111 = .ok (.getfield 9, 3) := by decide +kernel
theorem dX12_count_114 : decode cX12_count 114 = .ok (.bipush 48, 2) := by decide +kernel
theorem dX12_count_116 : decode cX12_count 116 = .ok (.iload_n 3, 1) := by decide +kernel
theorem dX12_count_117 : decode cX12_count 117 = .ok (.iadd, 1) := by decide +kernel
theorem dX12_count_118 : decode cX12_count 118 = .ok (.iaload, 1) := by decide +kernel
theorem dX12_count_119 : decode cX12_count 119 = .ok (.iadd, 1) := by decide +kernel
theorem dX12_count_120 : decode cX12_count 120 = .ok (.istore_n 2, 1) := by decide +kernel
theorem dX12_count_121 : decode cX12_count 121 = .ok (.iinc 3 1, 3) := by decide +kernel
theorem dX12_count_124 : decode cX12_count 124 = .ok (.goto (-21), 3) := by decide +kernel
theorem dX12_count_127 : decode cX12_count 127 = .ok (.iload_n 2, 1) := by decide +kernel
theorem dX12_count_128 : decode cX12_count 128 = .ok (.ireturn, 1) := by decide +kernel
theorem dX12_count_129 : decode cX12_count 129 = .ok (.aload_n 0, 1) := by decide +kernel
theorem dX12_count_130 : decode cX12_count 130 = .ok (.getfield 9, 3) := by decide +kernel
theorem dX12_count_133 : decode cX12_count 133 = .ok (.sipush 1848, 3) := by decide +kernel
theorem dX12_count_136 : decode cX12_count 136 = .ok (.iaload, 1) := by decide +kernel
theorem dX12_count_137 : decode cX12_count 137 = .ok (.ireturn, 1) := by decide +kernel
theorem dX12_count_138 : decode cX12_count 138 = .ok (.iconst 0, 1) := by decide +kernel
theorem dX12_count_139 : decode cX12_count 139 = .ok (.istore_n 3, 1) := by decide +kernel
theorem dX12_count_140 : decode cX12_count 140 = .ok (.iload_n 3, 1) := by decide +kernel
theorem dX12_count_141 : decode cX12_count 141 = .ok (.sipush 128, 3) := by decide +kernel
theorem dX12_count_144 : decode cX12_count 144 = .ok (.if_icmp .ge 24, 3) := by decide +kernel
theorem dX12_count_147 : decode cX12_count 147 = .ok (.iload_n 2, 1) := by decide +kernel
theorem dX12_count_148 : decode cX12_count 148 = .ok (.aload_n 0, 1) := by decide +kernel
theorem dX12_count_149 : decode cX12_count 149 = .ok (.getfield 9, 3) := by decide +kernel
theorem dX12_count_152 : decode cX12_count 152 = .ok (.sipush 1586, 3) := by decide +kernel
theorem dX12_count_155 : decode cX12_count 155 = .ok (.iconst 2, 1) := by decide +kernel
theorem dX12_count_156 : decode cX12_count 156 = .ok (.iload_n 3, 1) := by decide +kernel
theorem dX12_count_157 : decode cX12_count 157 = .ok (.imul, 1) := by decide +kernel
theorem dX12_count_158 : decode cX12_count 158 = .ok (.iadd, 1) := by decide +kernel
theorem dX12_count_159 : decode cX12_count 159 = .ok (.iaload, 1) := by decide +kernel
theorem dX12_count_160 : decode cX12_count 160 = .ok (.iadd, 1) := by decide +kernel
theorem dX12_count_161 : decode cX12_count 161 = .ok (.istore_n 2, 1) := by decide +kernel
theorem dX12_count_162 : decode cX12_count 162 = .ok (.iinc 3 1, 3) := by decide +kernel
theorem dX12_count_165 : decode cX12_count 165 = .ok (.goto (-25), 3) := by decide +kernel
theorem dX12_count_168 : decode cX12_count 168 = .ok (.iload_n 2, 1) := by decide +kernel
theorem dX12_count_169 : decode cX12_count 169 = .ok (.ireturn, 1) := by decide +kernel
theorem dX12_count_170 : decode cX12_count 170 = .ok (.aload_n 0, 1) := by decide +kernel
theorem dX12_count_171 : decode cX12_count 171 = .ok (.aload_n 0, 1) := by decide +kernel
theorem dX12_count_172 : decode cX12_count 172 = .ok (.invokevirtual 148, 3) := by decide +kernel
theorem dX12_count_175 : decode cX12_count 175 = .ok (.invokevirtual 142, 3) := by decide +kernel
theorem dX12_count_178 : decode cX12_count 178 = .ok (.ireturn, 1) := by decide +kernel
theorem dX12_count_179 : decode cX12_count 179 = .ok (.aload_n 0, 1) := by decide +kernel
theorem dX12_count_180 : decode cX12_count 180 = .ok (.invokevirtual 183, 3) := by decide +kernel
theorem dX12_count_183 : decode cX12_count 183 = .ok (.ireturn, 1) := by decide +kernel
theorem dX12_count_184 : decode cX12_count 184 = .ok (.aload_n 0, 1) := by decide +kernel
theorem dX12_count_185 : decode cX12_count 185 = .ok (.getfield 39, 3) := by decide +kernel
theorem dX12_count_188 : decode cX12_count 188 = .ok (.ireturn, 1) := by decide +kernel
