theorem dX12_add_10 : decode cX12_add 10 = .ok (.ireturn, 1) := by decide +kernel
theorem dX12_add_11 : decode cX12_add 11 = .ok (.aload_n 0, 1) := by decide +kernel
theorem dX12_add_12 : decode cX12_add 12 = .ok (.iload_n 1, 1) := by decide +kernel
theorem dX12_add_13 : decode cX12_add 13 = .ok (.invokevirtual 86, 3) := by decide +kernel
theorem dX12_add_16 : decode cX12_add 16 = .ok (.iload_n 1, 1) := by decide +kernel
theorem dX12_add_17 : decode cX12_add 17 = .ok (.invokestatic 73, 3) := by decide +kernel
theorem dX12_add_20 : decode cX12_add 20 = .ok (.if_icmp .ne 6, 3) := by decide +kernel
theorem dX12_add_23 : decode cX12_add 23 = .ok (.bipush (-4), 2) := by decide +kernel
theorem dX12_add_25 : decode cX12_add 25 = .ok (.ireturn, 1) := by decide +kernel
theorem dX12_add_26 : decode cX12_add 26 = .ok (.iconst 0, 1) := by decide +kernel
theorem dX12_add_27 : decode cX12_add 27 = .ok (.istore_n 2, 1) := by decide +kernel
theorem dX12_add_28 : decode cX12_add 28 = .ok (.iload_n 2, 1) := by decide +kernel
theorem dX12_add_29 : decode cX12_add 29 = .ok (.bipush 12, 2) := by decide +kernel
theorem dX12_add_31 : decode cX12_add 31 = .ok (.if_icmp .ge 16, 3) := by decide +kernel
theorem dX12_add_34 : decode cX12_add 34 = .ok (.aload_n 0, 1) := by decide +kernel
theorem dX12_add_35 : decode cX12_add 35 = .ok (.getfield 32, 3) := by decide +kernel
theorem dX12_add_38 : decode cX12_add 38 = .ok (.iload_n 2, 1) := by decide +kernel
theorem dX12_add_39 : decode cX12_add 39 = .ok (.iconst 0, 1) := by decide +kernel
theorem dX12_add_40 : decode cX12_add 40 = .ok (.iastore, 1) := by decide +kernel
theorem dX12_add_41 : decode cX12_add 41 = .ok (.iinc 2 1, 3) := by decide +kernel
theorem dX12_add_44 : decode cX12_add 44 = .ok (.goto (-16), 3) := by decide +kernel
theorem dX12_add_47 : decode cX12_add 47 = .ok (.aload_n 0, 1) := by decide +kernel
theorem dX12_add_48 : decode cX12_add 48 = .ok (.iconst 0, 1) := by decide +kernel
theorem dX12_add_49 : decode cX12_add 49 = .ok (.putfield 43, 3) := by decide +kernel
theorem dX12_add_52 : decode cX12_add 52 = .ok (.aload_n 0, 1) := by decide +kernel
theorem dX12_add_53 : decode cX12_add 53 = .ok (.iconst 0, 1) := by decide +kernel
theorem dX12_add_54 : decode cX12_add 54 = .ok (.putfield 46, 3) := by decide +kernel
theorem dX12_add_57 : decode cX12_add 57 = .ok (.iload_n 1, 1) := by decide +kernel
theorem dX12_add_58 : decode cX12_add 58 = .ok (.ifCond .ne 10, 3) := by decide +kernel
theorem dX12_add_61 : decode cX12_add 61 = .ok (.aload_n 0, 1) := by decide +kernel
theorem dX12_add_62 : decode cX12_add 62 = .ok (.invokevirtual 89, 3) := by decide +kernel
theorem dX12_add_65 : decode cX12_add 65 = .ok (.goto 19, 3) := by decide +kernel
theorem dX12_add_68 : decode cX12_add 68 = .ok (.iload_n 1, 1) := by decide +kernel
theorem dX12_add_69 : decode cX12_add 69 = .ok (.iconst 1, 1) := by decide +kernel
theorem dX12_add_70 : decode cX12_add 70 = .ok (.if_icmp .ne 10, 3) := by decide +kernel
theorem dX12_add_73 : decode cX12_add 73 = .ok (.aload_n 0, 1) := by decide +kernel
theorem dX12_add_74 : decode cX12_add 74 = .ok (.invokevirtual 92, 3) := by decide +kernel
theorem dX12_add_77 : decode cX12_add 77 = .ok (.goto 7, 3) := by decide +kernel
theorem dX12_add_80 : decode cX12_add 80 = .ok (.aload_n 0, 1) := by decide +kernel
theorem dX12_add_81 : decode cX12_add 81 = .ok (.invokevirtual 95, 3) := by decide +kernel
theorem dX12_add_84 : decode cX12_add 84 = .ok (.aload_n 0, 1) := by decide +kernel
theorem dX12_add_85 : decode cX12_add 85 = .ok (.dup, 1) := by decide +kernel
theorem dX12_add_86 : decode cX12_add 86 = .ok (.getfield 46, 3) := by decide +kernel
theorem dX12_add_89 : decode cX12_add 89 = .ok (.aload_n 0, 1) := by decide +kernel
theorem dX12_add_90 : decode cX12_add 90 = .ok (.getfield 43, 3) := by decide +kernel
theorem dX12_add_93 : decode cX12_add 93 = .ok (.aload_n 0, 1) := by decide +kernel
theorem dX12_add_94 : decode cX12_add 94 = .ok (.getfield 39, 3) := by decide +kernel
theorem dX12_add_97 : decode cX12_add 97 = .ok (.if_icmp .ge 7, 3) := by decide +kernel
theorem dX12_add_100 : decode cX12_add 100 = .ok (.iconst 1, 1) := by decide +kernel
theorem dX12_add_101 : decode cX12_add 101 = .ok (.goto 4, 3) := by decide +kernel
theorem dX12_add_104 : decode cX12_add 104 = .ok (.iconst 0, 1) := by decide +kernel
theorem dX12_add_105 : decode cX12_add 105 = .ok (.ior, 1) := by decide +kernel
theorem dX12_add_106 : decode cX12_add 106 = .ok (.putfield 46, 3) := by decide +kernel
theorem dX12_add_109 : decode cX12_add 109 = .ok (.aload_n 0, 1) := by decide +kernel
theorem dX12_add_110 : decode cX12_add 110 = .ok (.iconst 0, 1) := by decide +kernel
theorem dX12_add_111 : decode cX12_add 111 = .ok (.putfield 39, 3) := by decide +kernel
theorem dX12_add_114 : decode cX12_add 114 = .ok (.aload_n 0, 1) := by decide +kernel
theorem dX12_add_115 : decode cX12_add 115 = .ok (.getfield 46, 3) := by decide +kernel
theorem dX12_add_118 : decode cX12_add 118 = .ok (.ifCond .eq 11, 3) := by decide +kernel
theorem dX12_add_121 : decode cX12_add 121 = .ok (.bipush (-100), 2) := by decide +kernel
theorem dX12_add_123 : decode cX12_add 123 = .ok (.aload_n 0, 1) := by decide +kernel
theorem dX12_add_124 : decode cX12_add 124 = .ok (.getfield 43, 3) := by decide +kernel
theorem dX12_add_127 : decode cX12_add 127 = .ok (.isub, 1) := by decide +kernel
theorem dX12_add_128 : decode cX12_add 128 = .ok (.ireturn, 1) := by decide +kernel
theorem dX12_add_129 : decode cX12_add 129 = .ok (.iconst 0, 1) := by decide +kernel
theorem dX12_add_130 : decode cX12_add 130 = .ok (.istore_n 2, 1) := by decide +kernel
theorem dX12_add_131 : decode cX12_add 131 = .ok (.aload_n 0, 1) := by decide +kernel
theorem dX12_add_132 : decode cX12_add 132 = .ok (.iload_n 1, 1) := by decide +kernel
theorem dX12_add_133 : decode cX12_add 133 = .ok (.iload_n 2, 1) := by decide +kernel
theorem dX12_add_134 : decode cX12_add 134 = .ok (.invokevirtual 82, 3) := by decide +kernel
theorem dX12_add_137 : decode cX12_add 137 = .ok (.ifCond .eq 9, 3) := by decide +kernel
theorem dX12_add_140 : decode cX12_add 140 = .ok (.iinc 2 1, 3) := by decide +kernel
theorem dX12_add_143 : decode cX12_add 143 = .ok (.goto (-12), 3) := by decide +kernel
theorem dX12_add_146 : decode cX12_add 146 = .ok (.aload_n 0, 1) := by decide +kernel
theorem dX12_add_147 : decode cX12_add 147 = .ok (.getfield 32, 3) := by decide +kernel
theorem dX12_add_150 : decode cX12_add 150 = .ok (.iconst 0, 1) := by decide +kernel
theorem dX12_add_151 : decode cX12_add 151 = .ok (.iconst 1, 1) := by decide +kernel
theorem dX12_add_152 : decode cX12_add 152 = .ok (.iastore, 1) := by decide +kernel
theorem dX12_add_153 : decode cX12_add 153 = .ok (.iconst 0, 1) := by decide +kernel
theorem dX12_add_154 : decode cX12_add 154 = .ok (.istore_n 3, 1) := by decide +kernel
theorem dX12_add_155 : decode cX12_add 155 = .ok (.iload_n 3, 1) := by decide +kernel
theorem dX12_add_156 : decode cX12_add 156 = .ok (.iload_n 1, 1) := by decide +kernel
theorem dX12_add_157 : decode cX12_add 157 = .ok (.invokestatic 79, 3) := by decide +kernel
theorem dX12_add_160 : decode cX12_add 160 = .ok (.if_icmp .ge 33, 3) := by decide +kernel
theorem dX12_add_163 : decode cX12_add 163 = .ok (.aload_n 0, 1) := by decide +kernel
theorem dX12_add_164 : decode cX12_add 164 = .ok (.getfield 9, 3) := by decide +kernel
theorem dX12_add_167 : decode cX12_add 167 = .ok (.iload_n 1, 1) := by decide +kernel
theorem dX12_add_168 : decode cX12_add 168 = .ok (.invokestatic 76, 3) := by decide +kernel
theorem dX12_add_171 : decode cX12_add 171 = .ok (.iload_n 1, 1) := by decide +kernel
theorem dX12_add_172 : decode cX12_add 172 = .ok (.invokestatic 79, 3) := by decide +kernel
theorem dX12_add_175 : decode cX12_add 175 = .ok (.iload_n 2, 1) := by decide +kernel
theorem dX12_add_176 : decode cX12_add 176 = .ok (.imul, 1) := by decide +kernel
theorem dX12_add_177 : decode cX12_add 177 = .ok (.iadd, 1) := by decide +kernel
theorem dX12_add_178 : decode cX12_add 178 = .ok (.iload_n 3, 1) := by decide +kernel
theorem dX12_add_179 : decode cX12_add 179 = .ok (.iadd, 1) := by decide +kernel
theorem dX12_add_180 : decode cX12_add 180 = .ok (.aload_n 0, 1) := by decide +kernel
theorem dX12_add_181 : decode cX12_add 181 = .ok (.getfield 32, 3) := by decide +kernel
theorem dX12_add_184 : decode cX12_add 184 = .ok (.iload_n 3, 1) := by decide +kernel
theorem dX12_add_185 : decode cX12_add 185 = .ok (.iaload, 1) := by decide +kernel
theorem dX12_add_186 : decode cX12_add 186 = .ok (.iastore, 1) := by decide +kernel
theorem dX12_add_187 : decode cX12_add 187 = .ok (.iinc 3 1, 3) := by decide +kernel
theorem dX12_add_190 : decode cX12_add 190 = .ok (.goto (-35), 3) := by decide +kernel
theorem dX12_add_193 : decode cX12_add 193 = .ok (.iload_n 2, 1) := by decide +kernel
theorem dX12_add_194 : decode cX12_add 194 = .ok (.ireturn, 1) := by decide +kernel
theorem dX12_remove_0 : decode cX12_remove 0 = .ok (.iload_n 1, 1) := by decide +kernel
theorem dX12_remove_1 : decode cX12_remove 1 = .ok (.iconst 0, 1) := by decide +kernel
theorem dX12_remove_2 : decode cX12_remove 2 = .ok (.iconst 2, 1) := by decide +kernel
theorem dX12_remove_3 : decode cX12_remove 3 = .ok (.invokestatic 35, 3) := by decide +kernel
theorem dX12_remove_6 : decode cX12_remove 6 = .ok (.ifCond .eq 12, 3) := by decide +kernel
theorem dX12_remove_9 : decode cX12_remove 9 = .ok (.aload_n 0, 1) := by decide +kernel
theorem dX12_remove_10 : decode cX12_remove 10 = .ok (.iload_n 1, 1) := by decide +kernel
theorem dX12_remove_11 : decode cX12_remove 11 = .ok (.iload_n 2, 1) := by decide +kernel
theorem dX12_remove_12 : decode cX12_remove 12 = .ok (.invokevirtual 82, 3) := by decide +kernel
theorem dX12_remove_15 : decode cX12_remove 15 = .ok (.ifCond .ne 5, 3) := by decide +kernel
theorem dX12_remove_18 : decode cX12_remove 18 = .ok (.iconst (-1), 1) := by decide +kernel
theorem dX12_remove_19 : decode cX12_remove 19 = .ok (.ireturn, 1) := by decide +kernel
theorem dX12_remove_20 : decode cX12_remove 20 = .ok (.aload_n 0, 1) := by decide +kernel
theorem dX12_remove_21 : decode cX12_remove 21 = .ok (.getfield 9, 3) := by decide +kernel
theorem dX12_remove_24 : decode cX12_remove 24 = .ok (.iload_n 1, 1) := by decide +kernel
theorem dX12_remove_25 : decode cX12_remove 25 = .ok (.invokestatic 76, 3) := by decide +kernel
theorem dX12_remove_28 : decode cX12_remove 28 = .ok (.iload_n 1, 1) := by decide +kernel
theorem dX12_remove_29 : decode cX12_remove 29 = .ok (.invokestatic 79, 3) := by decide +kernel
theorem dX12_remove_32 : decode cX12_remove 32 = .ok (.iload_n 2, 1) := by decide +kernel
theorem dX12_remove_33 : decode cX12_remove 33 = .ok (.imul, 1) := by decide +kernel
theorem dX12_remove_34 : decode cX12_remove 34 = .ok (.iadd, 1) := by decide +kernel
theorem dX12_remove_35 : decode cX12_remove 35 = .ok (.iconst 0, 1) := by decide +kernel
theorem dX12_remove_36 : decode cX12_remove 36 = .ok (.iastore, 1) := by decide +kernel
theorem dX12_remove_37 : decode cX12_remove 37 = .ok (.sipush 276, 3) := by decide +kernel
theorem dX12_remove_40 : decode cX12_remove 40 = .ok (.iload_n 2, 1) := by decide +kernel
theorem dX12_remove_41 : decode cX12_remove 41 = .ok (.imul, 1) := by decide +kernel
theorem dX12_remove_42 : decode cX12_remove 42 = .ok (.istore_n 3, 1) := by decide +kernel
theorem dX12_remove_43 : decode cX12_remove 43 = .ok (.iload_n 1, 1) := by decide +kernel
theorem dX12_remove_44 : decode cX12_remove 44 = .ok (.ifCond .ne 31, 3) := by decide +kernel
theorem dX12_remove_47 : decode cX12_remove 47 = .ok (.iload_n 3, 1) := by decide +kernel
theorem dX12_remove_48 : decode cX12_remove 48 = .ok (.sipush 276, 3) := by decide +kernel
theorem dX12_remove_51 : decode cX12_remove 51 = .ok (.iload_n 2, 1) := by decide +kernel
theorem dX12_remove_52 : decode cX12_remove 52 = .ok (.iconst 1, 1) := by decide +kernel
theorem dX12_remove_53 : decode cX12_remove 53 = .ok (.iadd, 1) := by decide +kernel
theorem dX12_remove_54 : decode cX12_remove 54 = .ok (.imul, 1) := by decide +kernel
theorem dX12_remove_55 : decode cX12_remove 55 = .ok (.if_icmp .ge 20, 3) := by decide +kernel
theorem dX12_remove_58 : decode cX12_remove 58 = .ok (.aload_n 0, 1) := by decide +kernel
theorem dX12_remove_59 : decode cX12_remove 59 = .ok (.getfield 9, 3) := by decide +kernel
theorem dX12_remove_62 : decode cX12_remove 62 = .ok (.sipush 206, 3) := by decide +kernel
theorem dX12_remove_65 : decode cX12_remove 65 = .ok (.iload_n 3, 1) := by decide +kernel
theorem dX12_remove_66 : decode cX12_remove 66 = .ok (.iadd, 1) := by decide +kernel
theorem dX12_remove_67 : decode cX12_remove 67 = .ok (.iconst 0, 1) := by decide +kernel
theorem dX12_remove_68 : decode cX12_remove 68 = .ok (.iastore, 1) := by decide +kernel
theorem dX12_remove_69 : decode cX12_remove 69 = .ok (.iinc 3 1, 3) := by decide +kernel
theorem dX12_remove_72 : decode cX12_remove 72 = .ok (.goto (-29), 3) := by decide +kernel
theorem dX12_remove_75 : decode cX12_remove 75 = .ok (.aload_n 0, 1) := by decide +kernel
theorem dX12_remove_76 : decode cX12_remove 76 = .ok (.iload_n 1, 1) := by decide +kernel
theorem dX12_remove_77 : decode cX12_remove 77 = .ok (.invokevirtual 86, 3) := by decide +kernel
theorem dX12_remove_80 : decode cX12_remove 80 = .ok (.ireturn, 1) := by decide +kernel
theorem dX12_parameter_0 : decode cX12_parameter 0 = .ok (.iload_n 1, 1) := by decide +kernel
theorem dX12_parameter_1 : decode cX12_parameter 1 = .ok (.iconst 0, 1) := by decide +kernel
theorem dX12_parameter_2 : decode cX12_parameter 2 = .ok (.iconst 4, 1) := by decide +kernel
theorem dX12_parameter_3 : decode cX12_parameter 3 = .ok (.invokestatic 35, 3) := by decide +kernel
theorem dX12_parameter_6 : decode cX12_parameter 6 = .ok (.ifCond .ne 5, 3) := by decide +kernel
theorem dX12_parameter_9 : decode cX12_parameter 9 = .ok (.iconst (-1), 1) := by decide +kernel
theorem dX12_parameter_10 : decode cX12_parameter 10 = .ok (.ireturn, 1) := by decide +kernel
theorem dX12_parameter_11 : decode cX12_parameter 11 = .ok (.iload_n 1, 1) := by decide +kernel
theorem dX12_parameter_12 : decode cX12_parameter 12 = .ok (.ifCond .ne 16, 3) := by decide +kernel
theorem dX12_parameter_15 : decode cX12_parameter 15 = .ok (.iload_n 2, 1) := by decide +kernel
theorem dX12_parameter_16 : decode cX12_parameter 16 = .ok (.iconst 1, 1) := by decide +kernel
theorem dX12_parameter_17 : decode cX12_parameter 17 = .ok (.bipush 60, 2) := by decide +kernel
theorem dX12_parameter_19 : decode cX12_parameter 19 = .ok (.invokestatic 35, 3) := by decide +kernel
theorem dX12_parameter_22 : decode cX12_parameter 22 = .ok (.ifCond .ne 56, 3) := by decide +kernel
theorem dX12_parameter_25 : decode cX12_parameter 25 = .ok (.goto 50, 3) := by decide +kernel
theorem dX12_parameter_28 : decode cX12_parameter 28 = .ok (.iload_n 1, 1) := by decide +kernel
theorem dX12_parameter_29 : decode cX12_parameter 29 = .ok (.iconst 3, 1) := by decide +kernel
theorem dX12_parameter_30 : decode cX12_parameter 30 = .ok (.if_icmp .ge 17, 3) := by decide +kernel
theorem dX12_parameter_33 : decode cX12_parameter 33 = .ok (.iload_n 2, 1) := by decide +kernel
theorem dX12_parameter_34 : decode cX12_parameter 34 = .ok (.iconst 1, 1) := by decide +kernel
theorem dX12_parameter_35 : decode cX12_parameter 35 = .ok (.sipush 999, 3) := by decide +kernel
theorem dX12_parameter_38 : decode cX12_parameter 38 = .ok (.invokestatic 35, 3) := by decide +kernel
theorem dX12_parameter_41 : decode cX12_parameter 41 = .ok (.ifCond .ne 37, 3) := by decide +kernel
theorem dX12_parameter_44 : decode cX12_parameter 44 = .ok (.goto 31, 3) := by decide +kernel
theorem dX12_parameter_47 : decode cX12_parameter 47 = .ok (.iload_n 1, 1) := by decide +kernel
theorem dX12_parameter_48 : decode cX12_parameter 48 = .ok (.iconst 3, 1) := by decide +kernel
theorem dX12_parameter_49 : decode cX12_parameter 49 = .ok (.if_icmp .ne 16, 3) := by decide +kernel
theorem dX12_parameter_52 : decode cX12_parameter 52 = .ok (.iload_n 2, 1) := by decide +kernel
theorem dX12_parameter_53 : decode cX12_parameter 53 = .ok (.iconst 2, 1) := by decide +kernel
theorem dX12_parameter_54 : decode cX12_parameter 54 = .ok (.bipush 20, 2) := by decide +kernel
theorem dX12_parameter_56 : decode cX12_parameter 56 = .ok (.invokestatic 35, 3) := by decide +kernel
theorem dX12_parameter_59 : decode cX12_parameter 59 = .ok (.ifCond .ne 19, 3) := by decide +kernel
theorem dX12_parameter_62 : decode cX12_parameter 62 = .ok (.goto 13, 3) := by decide +kernel
theorem dX12_parameter_65 : decode cX12_parameter 65 = .ok (.iload_n 2, 1) := by decide +kernel
theorem dX12_parameter_66 : decode cX12_parameter 66 = .ok (.iconst 0, 1) := by decide +kernel
theorem dX12_parameter_67 : decode cX12_parameter 67 = .ok (.bipush 7, 2) := by decide +kernel
theorem dX12_parameter_69 : decode cX12_parameter 69 = .ok (.invokestatic 35, 3) := by decide +kernel
theorem dX12_parameter_72 : decode cX12_parameter 72 = .ok (.ifCond .ne 6, 3) := by decide +kernel
theorem dX12_parameter_75 : decode cX12_parameter 75 = .ok (.bipush (-2), 2) := by decide +kernel
theorem dX12_parameter_77 : decode cX12_parameter 77 = .ok (.ireturn, 1) := by decide +kernel
theorem dX12_parameter_78 : decode cX12_parameter 78 = .ok (.aload_n 0, 1) := by decide +kernel
theorem dX12_parameter_79 : decode cX12_parameter 79 = .ok (.getfield 9, 3) := by decide +kernel
theorem dX12_parameter_82 : decode cX12_parameter 82 = .ok (.sipush 1842, 3) := by decide +kernel
theorem dX12_parameter_85 : decode cX12_parameter 85 = .ok (.iload_n 1, 1) := by decide +kernel
theorem dX12_parameter_86 : decode cX12_parameter 86 = .ok (.iadd, 1) := by decide +kernel
theorem dX12_parameter_87 : decode cX12_parameter 87 = .ok (.iaload, 1) := by decide +kernel
theorem dX12_parameter_88 : decode cX12_parameter 88 = .ok (.istore_n 3, 1) := by decide +kernel
theorem dX12_parameter_89 : decode cX12_parameter 89 = .ok (.aload_n 0, 1) := by decide +kernel
theorem dX12_parameter_90 : decode cX12_parameter 90 = .ok (.getfield 9, 3) := by decide +kernel
theorem dX12_parameter_93 : decode cX12_parameter 93 = .ok (.sipush 1842, 3) := by decide +kernel
theorem dX12_parameter_96 : decode cX12_parameter 96 = .ok (.iload_n 1, 1) := by decide +kernel
theorem dX12_parameter_97 : decode cX12_parameter 97 = .ok (.iadd, 1) := by decide +kernel
theorem dX12_parameter_98 : decode cX12_parameter 98 = .ok (.iload_n 2, 1) := by decide +kernel
theorem dX12_parameter_99 : decode cX12_parameter 99 = .ok (.iastore, 1) := by decide +kernel
theorem dX12_parameter_100 : decode cX12_parameter 100 = .ok (.iconst 0, 1) := by decide +kernel
theorem dX12_parameter_101 : decode cX12_parameter 101 = .ok (.istore 4, 2) := by decide +kernel
theorem dX12_parameter_103 : decode cX12_parameter 103 = .ok (.iload 4, 2) := by decide +kernel
theorem dX12_parameter_105 : decode cX12_parameter 105 = .ok (.sipush 128, 3) := by decide +kernel
theorem dX12_parameter_108 : decode cX12_parameter 108 = .ok (.if_icmp .ge 41, 3) := by decide +kernel
theorem dX12_parameter_111 : decode cX12_parameter 111 = .ok (.iload_n 1, 1) := by decide +kernel
theorem dX12_parameter_112 : decode cX12_parameter 112 = .ok (.iconst 4, 1) := by decide +kernel
theorem dX12_parameter_113 : decode cX12_parameter 113 = .ok (.if_icmp .ne 36, 3) := by decide +kernel
theorem dX12_parameter_116 : decode cX12_parameter 116 = .ok (.iload_n 3, 1) := by decide +kernel
theorem dX12_parameter_117 : decode cX12_parameter 117 = .ok (.iload_n 2, 1) := by decide +kernel
theorem dX12_parameter_118 : decode cX12_parameter 118 = .ok (.if_icmp .eq 31, 3) := by decide +kernel
theorem dX12_parameter_121 : decode cX12_parameter 121 = .ok (.aload_n 0, 1) := by decide +kernel
theorem dX12_parameter_122 : decode cX12_parameter 122 = .ok (.getfield 9, 3) := by decide +kernel
theorem dX12_parameter_125 : decode cX12_parameter 125 = .ok (.sipush 1586, 3) := by decide +kernel
theorem dX12_parameter_128 : decode cX12_parameter 128 = .ok (.iconst 2, 1) := by decide +kernel
theorem dX12_parameter_129 : decode cX12_parameter 129 = .ok (.iload 4, 2) := by decide +kernel
theorem dX12_parameter_131 : decode cX12_parameter 131 = .ok (.imul, 1) := by decide +kernel
theorem dX12_parameter_132 : decode cX12_parameter 132 = .ok (.iadd, 1) := by decide +kernel
theorem dX12_parameter_133 : decode cX12_parameter 133 = .ok (.iconst 0, 1) := by decide +kernel
theorem dX12_parameter_134 : decode cX12_parameter 134 = .ok (.iastore, 1) := by decide +kernel
theorem dX12_parameter_135 : decode cX12_parameter 135 = .ok (.aload_n 0, 1) := by decide +kernel
theorem dX12_parameter_136 : decode cX12_parameter 136 = .ok (.getfield 19, 3) := by decide +kernel
theorem dX12_parameter_139 : decode cX12_parameter 139 = .ok (.iload 4, 2) := by decide +kernel
theorem dX12_parameter_141 : decode cX12_parameter 141 = .ok (.lconst 0, 1) := by decide +kernel
theorem dX12_parameter_142 : decode cX12_parameter 142 = .ok (.lastore, 1) := by decide +kernel
theorem dX12_parameter_143 : decode cX12_parameter 143 = .ok (.iinc 4 1, 3) := by decide +kernel
theorem dX12_parameter_146 : decode cX12_parameter 146 = .ok (.goto (-43), 3) := by decide +kernel
theorem dX12_parameter_149 : decode cX12_parameter 149 = .ok (.iload_n 3, 1) := by decide +kernel
theorem dX12_parameter_150 : decode cX12_parameter 150 = .ok (.ireturn, 1) := by decide +kernel
theorem dX12_matches_0 : decode cX12_matches 0 = .ok (.iconst 1, 1) := by decide +kernel
theorem dX12_matches_1 : decode cX12_matches 1 = .ok (.istore_n 3, 1) := by decide +kernel
theorem dX12_matches_2 : decode cX12_matches 2 = .ok (.iload_n 3, 1) := by decide +kernel
theorem dX12_matches_3 : decode cX12_matches 3 = .ok (.aload_n 0, 1) := by decide +kernel
theorem dX12_matches_4 : decode cX12_matches 4 = .ok (.getfield 9, 3) := by decide +kernel
theorem dX12_matches_7 : decode cX12_matches 7 = .ok (.iload_n 2, 1) := by decide +kernel
theorem dX12_matches_8 : decode cX12_matches 8 = .ok (.iaload, 1) := by decide +kernel
theorem dX12_matches_9 : decode cX12_matches 9 = .ok (.if_icmp .gt 106, 3) := by decide +kernel
theorem dX12_matches_12 : decode cX12_matches 12 = .ok (.aload_n 0, 1) := by decide +kernel
theorem dX12_matches_13 : decode cX12_matches 13 = .ok (.getfield 9, 3) := by decide +kernel
theorem dX12_matches_16 : decode cX12_matches 16 = .ok (.iload_n 2, 1) := by decide +kernel
theorem dX12_matches_17 : decode cX12_matches 17 = .ok (.iload_n 3, 1) := by decide +kernel
theorem dX12_matches_18 : decode cX12_matches 18 = .ok (.iadd, 1) := by decide +kernel
theorem dX12_matches_19 : decode cX12_matches 19 = .ok (.iaload, 1) := by decide +kernel
theorem dX12_matches_20 : decode cX12_matches 20 = .ok (.istore 4, 2) := by decide +kernel
theorem dX12_matches_22 : decode cX12_matches 22 = .ok (.iload 4, 2) := by decide +kernel
theorem dX12_matches_24 : decode cX12_matches 24 = .ok (.bipush 64, 2) := by decide +kernel
theorem dX12_matches_26 : decode cX12_matches 26 = .ok (.irem, 1) := by decide +kernel
theorem dX12_matches_27 : decode cX12_matches 27 = .ok (.bipush 16, 2) := by decide +kernel
theorem dX12_matches_29 : decode cX12_matches 29 = .ok (.idiv, 1) := by decide +kernel
theorem dX12_matches_30 : decode cX12_matches 30 = .ok (.istore 5, 2) := by decide +kernel
theorem dX12_matches_32 : decode cX12_matches 32 = .ok (.iload 5, 2) := by decide +kernel
theorem dX12_matches_34 : decode cX12_matches 34 = .ok (.iconst 3, 1) := by decide +kernel
theorem dX12_matches_35 : decode cX12_matches 35 = .ok (.if_icmp .ne 24, 3) := by decide +kernel
theorem dX12_matches_38 : decode cX12_matches 38 = .ok (.aload_n 0, 1) := by decide +kernel
theorem dX12_matches_39 : decode cX12_matches 39 = .ok (.getfield 9, 3) := by decide +kernel
theorem dX12_matches_42 : decode cX12_matches 42 = .ok (.bipush 60, 2) := by decide +kernel
theorem dX12_matches_44 : decode cX12_matches 44 = .ok (.bipush 10, 2) := by decide +kernel
theorem dX12_matches_46 : decode cX12_matches 46 = .ok (.iload_n 1, 1) := by decide +kernel
theorem dX12_matches_47 : decode cX12_matches 47 = .ok (.bipush 12, 2) := by decide +kernel
theorem dX12_matches_49 : decode cX12_matches 49 = .ok (.idiv, 1) := by decide +kernel
theorem dX12_matches_50 : decode cX12_matches 50 = .ok (.imul, 1) := by decide +kernel
theorem dX12_matches_51 : decode cX12_matches 51 = .ok (.iadd, 1) := by decide +kernel
theorem dX12_matches_52 : decode cX12_matches 52 = .ok (.bipush 9, 2) := by decide +kernel
theorem dX12_matches_54 : decode cX12_matches 54 = .ok (.iadd, 1) := by decide +kernel
theorem dX12_matches_55 : decode cX12_matches 55 = .ok (.iaload, 1) := by decide +kernel
theorem dX12_matches_56 : decode cX12_matches 56 = .ok (.goto 19, 3) := by decide +kernel
theorem dX12_matches_59 : decode cX12_matches 59 = .ok (.aload_n 0, 1) := by decide +kernel
theorem dX12_matches_60 : decode cX12_matches 60 = .ok (.getfield 9, 3) := by decide +kernel
theorem dX12_matches_63 : decode cX12_matches 63 = .ok (.iconst 0, 1) := by decide +kernel
theorem dX12_matches_64 : decode cX12_matches 64 = .ok (.iconst 3, 1) := by decide +kernel
theorem dX12_matches_65 : decode cX12_matches 65 = .ok (.iload_n 1, 1) := by decide +kernel
theorem dX12_matches_66 : decode cX12_matches 66 = .ok (.bipush 12, 2) := by decide +kernel
theorem dX12_matches_68 : decode cX12_matches 68 = .ok (.irem, 1) := by decide +kernel
theorem dX12_matches_69 : decode cX12_matches 69 = .ok (.imul, 1) := by decide +kernel
theorem dX12_matches_70 : decode cX12_matches 70 = .ok (.iadd, 1) := by decide +kernel
theorem dX12_matches_71 : decode cX12_matches 71 = .ok (.iload 5, 2) := by decide +kernel
theorem dX12_matches_73 : decode cX12_matches 73 = .ok (.iadd, 1) := by decide +kernel
theorem dX12_matches_74 : decode cX12_matches 74 = .ok (.iaload, 1) := by decide +kernel
theorem dX12_matches_75 : decode cX12_matches 75 = .ok (.istore 6, 2) := by decide +kernel
theorem dX12_matches_77 : decode cX12_matches 77 = .ok (.iload 6, 2) := by decide +kernel
theorem dX12_matches_79 : decode cX12_matches 79 = .ok (.iload 4, 2) := by decide +kernel
theorem dX12_matches_81 : decode cX12_matches 81 = .ok (.bipush 16, 2) := by decide +kernel
theorem dX12_matches_83 : decode cX12_matches 83 = .ok (.irem, 1) := by decide +kernel
theorem dX12_matches_84 : decode cX12_matches 84 = .ok (.if_icmp .ne 7, 3) := by decide +kernel
theorem dX12_matches_87 : decode cX12_matches 87 = .ok (.iconst 1, 1) := by decide +kernel
theorem dX12_matches_88 : decode cX12_matches 88 = .ok (.goto 4, 3) := by decide +kernel
theorem dX12_matches_91 : decode cX12_matches 91 = .ok (.iconst 0, 1) := by decide +kernel
theorem dX12_matches_92 : decode cX12_matches 92 = .ok (.iload 4, 2) := by decide +kernel
theorem dX12_matches_94 : decode cX12_matches 94 = .ok (.bipush 64, 2) := by decide +kernel
theorem dX12_matches_96 : decode cX12_matches 96 = .ok (.if_icmp .lt 7, 3) := by decide +kernel
theorem dX12_matches_99 : decode cX12_matches 99 = .ok (.iconst 1, 1) := by decide +kernel
theorem dX12_matches_100 : decode cX12_matches 100 = .ok (.goto 4, 3) := by decide +kernel
theorem dX12_matches_103 : decode cX12_matches 103 = .ok (.iconst 0, 1) := by decide +kernel
theorem dX12_matches_104 : decode cX12_matches 104 = .ok (.if_icmp .ne 5, 3) := by decide +kernel
theorem dX12_matches_107 : decode cX12_matches 107 = .ok (.iconst 0, 1) := by decide +kernel
theorem dX12_matches_108 : decode cX12_matches 108 = .ok (.ireturn, 1) := by decide +kernel
theorem dX12_matches_109 : decode cX12_matches 109 = .ok (.iinc 3 1, 3) := by decide +kernel
theorem dX12_matches_112 : decode cX12_matches 112 = .ok (.goto (-110), 3) := by decide +kernel
theorem dX12_matches_115 : decode cX12_matches 115 = .ok (.iconst 1, 1) := by decide +kernel
theorem dX12_matches_116 : decode cX12_matches 116 = .ok (.ireturn, 1) := by decide +kernel
theorem dX12_holds_0 : decode cX12_holds 0 = .ok (.bipush 60, 2) := by decide +kernel
theorem dX12_holds_2 : decode cX12_holds 2 = .ok (.bipush 10, 2) := by decide +kernel
theorem dX12_holds_4 : decode cX12_holds 4 = .ok (.iload_n 1, 1) := by decide +kernel
theorem dX12_holds_5 : decode cX12_holds 5 = .ok (.bipush 12, 2) := by decide +kernel
theorem dX12_holds_7 : decode cX12_holds 7 = .ok (.idiv, 1) := by decide +kernel
theorem dX12_holds_8 : decode cX12_holds 8 = .ok (.imul, 1) := by decide +kernel
theorem dX12_holds_9 : decode cX12_holds 9 = .ok (.iadd, 1) := by decide +kernel
theorem dX12_holds_10 : decode cX12_holds 10 = .ok (.istore_n 2, 1) := by decide +kernel
theorem dX12_holds_11 : decode cX12_holds 11 = .ok (.iload_n 1, 1) := by decide +kernel
theorem dX12_holds_12 : decode cX12_holds 12 = .ok (.bipush 12, 2) := by decide +kernel
theorem dX12_holds_14 : decode cX12_holds 14 = .ok (.irem, 1) := by decide +kernel
theorem dX12_holds_15 : decode cX12_holds 15 = .ok (.istore_n 3, 1) := by decide +kernel
theorem dX12_holds_16 : decode cX12_holds 16 = .ok (.aload_n 0, 1) := by decide +kernel
theorem dX12_holds_17 : decode cX12_holds 17 = .ok (.getfield 9, 3) := by decide +kernel
theorem dX12_holds_20 : decode cX12_holds 20 = .ok (.iload_n 2, 1) := by decide +kernel
theorem dX12_holds_21 : decode cX12_holds 21 = .ok (.iaload, 1) := by decide +kernel
theorem dX12_holds_22 : decode cX12_holds 22 = .ok (.ifCond .eq 26, 3) := by decide +kernel
theorem dX12_holds_25 : decode cX12_holds 25 = .ok (.aload_n 0, 1) := by decide +kernel
theorem dX12_holds_26 : decode cX12_holds 26 = .ok (.getfield 9, 3) := by decide +kernel
theorem dX12_holds_29 : decode cX12_holds 29 = .ok (.bipush 48, 2) := by decide +kernel
theorem dX12_holds_31 : decode cX12_holds 31 = .ok (.iload_n 3, 1) := by decide +kernel
theorem dX12_holds_32 : decode cX12_holds 32 = .ok (.iadd, 1) := by decide +kernel
theorem dX12_holds_33 : decode cX12_holds 33 = .ok (.iaload, 1) := by decide +kernel
theorem dX12_holds_34 : decode cX12_holds 34 = .ok (.ifCond .eq 14, 3) := by decide +kernel
theorem dX12_holds_37 : decode cX12_holds 37 = .ok (.aload_n 0, 1) := by decide +kernel
theorem dX12_holds_38 : decode cX12_holds 38 = .ok (.iload_n 1, 1) := by decide +kernel
theorem dX12_holds_39 : decode cX12_holds 39 = .ok (.iload_n 2, 1) := by decide +kernel
theorem dX12_holds_40 : decode cX12_holds 40 = .ok (.iconst 1, 1) := by decide +kernel
theorem dX12_holds_41 : decode cX12_holds 41 = .ok (.iadd, 1) := by decide +kernel
theorem dX12_holds_42 : decode cX12_holds 42 = .ok (.invokevirtual 98, 3) := by decide +kernel
theorem dX12_holds_45 : decode cX12_holds 45 = .ok (.ifCond .ne 5, 3) := by decide +kernel
theorem dX12_holds_48 : decode cX12_holds 48 = .ok (.iconst 0, 1) := by decide +kernel
theorem dX12_holds_49 : decode cX12_holds 49 = .ok (.ireturn, 1) := by decide +kernel
theorem dX12_holds_50 : decode cX12_holds 50 = .ok (.aload_n 0, 1) := by decide +kernel
theorem dX12_holds_51 : decode cX12_holds 51 = .ok (.getfield 9, 3) := by decide +kernel
theorem dX12_holds_54 : decode cX12_holds 54 = .ok (.bipush 36, 2) := by decide +kernel
theorem dX12_holds_56 : decode cX12_holds 56 = .ok (.iload_n 3, 1) := by decide +kernel
theorem dX12_holds_57 : decode cX12_holds 57 = .ok (.iadd, 1) := by decide +kernel
theorem dX12_holds_58 : decode cX12_holds 58 = .ok (.iaload, 1) := by decide +kernel
theorem dX12_holds_59 : decode cX12_holds 59 = .ok (.istore 4, 2) := by decide +kernel
theorem dX12_holds_61 : decode cX12_holds 61 = .ok (.aload_n 0, 1) := by decide +kernel
theorem dX12_holds_62 : decode cX12_holds 62 = .ok (.getfield 9, 3) := by decide +kernel
theorem dX12_holds_65 : decode cX12_holds 65 = .ok (.iload_n 2, 1) := by decide +kernel
theorem dX12_holds_66 : decode cX12_holds 66 = .ok (.bipush 6, 2) := by decide +kernel
theorem dX12_holds_68 : decode cX12_holds 68 = .ok (.iadd, 1) := by decide +kernel
theorem dX12_holds_69 : decode cX12_holds 69 = .ok (.iaload, 1) := by decide +kernel
theorem dX12_holds_70 : decode cX12_holds 70 = .ok (.ifCond .ne 25, 3) := by decide +kernel
theorem dX12_holds_73 : decode cX12_holds 73 = .ok (.iload 4, 2) := by decide +kernel
theorem dX12_holds_75 : decode cX12_holds 75 = .ok (.aload_n 0, 1) := by decide +kernel
theorem dX12_holds_76 : decode cX12_holds 76 = .ok (.getfield 9, 3) := by decide +kernel
theorem dX12_holds_79 : decode cX12_holds 79 = .ok (.iload_n 2, 1) := by decide +kernel
theorem dX12_holds_80 : decode cX12_holds 80 = .ok (.bipush 7, 2) := by decide +kernel
theorem dX12_holds_82 : decode cX12_holds 82 = .ok (.iadd, 1) := by decide +kernel
theorem dX12_holds_83 : decode cX12_holds 83 = .ok (.iaload, 1) := by decide +kernel
theorem dX12_holds_84 : decode cX12_holds 84 = .ok (.if_icmp .ge 7, 3) := by decide +kernel
theorem dX12_holds_87 : decode cX12_holds 87 = .ok (.iconst 1, 1) := by decide +kernel
theorem dX12_holds_88 : decode cX12_holds 88 = .ok (.goto 61, 3) := by decide +kernel
theorem dX12_holds_91 : decode cX12_holds 91 = .ok (.iconst 0, 1) := by decide +kernel
theorem dX12_holds_92 : decode cX12_holds 92 = .ok (.goto 57, 3) := by decide +kernel
theorem dX12_holds_95 : decode cX12_holds 95 = .ok (.aload_n 0, 1) := by decide +kernel
theorem dX12_holds_96 : decode cX12_holds 96 = .ok (.getfield 9, 3) := by decide +kernel
theorem dX12_holds_99 : decode cX12_holds 99 = .ok (.iload_n 2, 1) := by decide +kernel
theorem dX12_holds_100 : decode cX12_holds 100 = .ok (.bipush 6, 2) := by decide +kernel
theorem dX12_holds_102 : decode cX12_holds 102 = .ok (.iadd, 1) := by decide +kernel
theorem dX12_holds_103 : decode cX12_holds 103 = .ok (.iaload, 1) := by decide +kernel
theorem dX12_holds_104 : decode cX12_holds 104 = .ok (.iconst 1, 1) := by decide +kernel
theorem dX12_holds_105 : decode cX12_holds 105 = .ok (.if_icmp .ne 25, 3) := by decide +kernel
theorem dX12_holds_108 : decode cX12_holds 108 = .ok (.iload 4, 2) := by decide +kernel
theorem dX12_holds_110 : decode cX12_holds 110 = .ok (.aload_n 0, 1) := by decide +kernel
theorem dX12_holds_111 : decode cX12_holds 111 = .ok (.getfield 9, 3) := by decide +kernel
theorem dX12_holds_114 : decode cX12_holds 114 = .ok (.iload_n 2, 1) := by decide +kernel
theorem dX12_holds_115 : decode cX12_holds 115 = .ok (.bipush 7, 2) := by decide +kernel
theorem dX12_holds_117 : decode cX12_holds 117 = .ok (.iadd, 1) := by decide +kernel
theorem dX12_holds_118 : decode cX12_holds 118 = .ok (.iaload, 1) := by decide +kernel
theorem dX12_holds_119 : decode cX12_holds 119 = .ok (.if_icmp .le 7, 3) := by decide +kernel
theorem dX12_holds_122 : decode cX12_holds 122 = .ok (.iconst 1, 1) := by decide +kernel
theorem dX12_holds_123 : decode cX12_holds 123 = .ok (.goto 26, 3) := by decide +kernel
theorem dX12_holds_126 : decode cX12_holds 126 = .ok (.iconst 0, 1) := by decide +kernel
theorem dX12_holds_127 : decode cX12_holds 127 = .ok (.goto 22, 3) := by decide +kernel
theorem dX12_holds_130 : decode cX12_holds 130 = .ok (.iload 4, 2) := by decide +kernel
theorem dX12_holds_132 : decode cX12_holds 132 = .ok (.aload_n 0, 1) := by decide +kernel
theorem dX12_holds_133 : decode cX12_holds 133 = .ok (.getfield 9, 3) := by decide +kernel
theorem dX12_holds_136 : decode cX12_holds 136 = .ok (.iload_n 2, 1) := by decide +kernel
theorem dX12_holds_137 : decode cX12_holds 137 = .ok (.bipush 7, 2) := by decide +kernel
theorem dX12_holds_139 : decode cX12_holds 139 = .ok (.iadd, 1) := by decide +kernel
theorem dX12_holds_140 : decode cX12_holds 140 = .ok (.iaload, 1) := by decide +kernel
theorem dX12_holds_141 : decode cX12_holds 141 = .ok (.if_icmp .ne 7, 3) := by decide +kernel
theorem dX12_holds_144 : decode cX12_holds 144 = .ok (.iconst 1, 1) := by decide +kernel
theorem dX12_holds_145 : decode cX12_holds 145 = .ok (.goto 4, 3) := by decide +kernel
theorem dX12_holds_148 : decode cX12_holds 148 = .ok (.iconst 0, 1) := by decide +kernel
theorem dX12_holds_149 : decode cX12_holds 149 = .ok (.ireturn, 1) := by decide +kernel
theorem dX12_state_0 : decode cX12_state 0 = .ok (.aload_n 0, 1) := by decide +kernel
theorem dX12_state_1 : decode cX12_state 1 = .ok (.getfield 9, 3) := by decide +kernel
theorem dX12_state_4 : decode cX12_state 4 = .ok (.sipush 206, 3) := by decide +kernel
theorem dX12_state_7 : decode cX12_state 7 = .ok (.bipush 23, 2) := by decide +kernel
theorem dX12_state_9 : decode cX12_state 9 = .ok (.iload_n 1, 1) := by decide +kernel
theorem dX12_state_10 : decode cX12_state 10 = .ok (.imul, 1) := by decide +kernel
theorem dX12_state_11 : decode cX12_state 11 = .ok (.iadd, 1) := by decide +kernel
theorem dX12_state_12 : decode cX12_state 12 = .ok (.iaload, 1) := by decide +kernel
theorem dX12_state_13 : decode cX12_state 13 = .ok (.ireturn, 1) := by decide +kernel
theorem dX12_isSilencedBy_0 : decode cX12_isSilencedBy 0 = .ok (.bipush 110, 2) := by decide +kernel
theorem dX12_isSilencedBy_2 : decode cX12_isSilencedBy 2 = .ok (.bipush 8, 2) := by decide +kernel
theorem dX12_isSilencedBy_4 : decode cX12_isSilencedBy 4 = .ok (.iload_n 2, 1) := by decide +kernel
theorem dX12_isSilencedBy_5 : decode cX12_isSilencedBy 5 = .ok (.imul, 1) := by decide +kernel
theorem dX12_isSilencedBy_6 : decode cX12_isSilencedBy 6 = .ok (.iadd, 1) := by decide +kernel
theorem dX12_isSilencedBy_7 : decode cX12_isSilencedBy 7 = .ok (.istore_n 3, 1) := by decide +kernel
theorem dX12_isSilencedBy_8 : decode cX12_isSilencedBy 8 = .ok (.aload_n 0, 1) := by decide +kernel
theorem dX12_isSilencedBy_9 : decode cX12_isSilencedBy 9 = .ok (.getfield 9, 3) := by decide +kernel
theorem dX12_isSilencedBy_12 : decode cX12_isSilencedBy 12 = .ok (.iload_n 3, 1) := by decide +kernel
theorem dX12_isSilencedBy_13 : decode cX12_isSilencedBy 13 = .ok (.iaload, 1) := by decide +kernel
theorem dX12_isSilencedBy_14 : decode cX12_isSilencedBy 14 = .ok (.iconst 1, 1) := by decide +kernel
theorem dX12_isSilencedBy_15 : decode cX12_isSilencedBy 15 = .ok (.if_icmp .ne 68, 3) := by decide +kernel
theorem dX12_isSilencedBy_18 : decode cX12_isSilencedBy 18 = .ok (.aload_n 0, 1) := by decide +kernel
theorem dX12_isSilencedBy_19 : decode cX12_isSilencedBy 19 = .ok (.getfield 9, 3) := by decide +kernel
theorem dX12_isSilencedBy_22 : decode cX12_isSilencedBy 22 = .ok (.iload_n 3, 1) := by decide +kernel
theorem dX12_isSilencedBy_23 : decode cX12_isSilencedBy 23 = .ok (.bipush 6, 2) := by decide +kernel
theorem dX12_isSilencedBy_25 : decode cX12_isSilencedBy 25 = .ok (.iadd, 1) := by decide +kernel
theorem dX12_isSilencedBy_26 : decode cX12_isSilencedBy 26 = .ok (.iaload, 1) := by decide +kernel
theorem dX12_isSilencedBy_27 : decode cX12_isSilencedBy 27 = .ok (.aload_n 0, 1) := by decide +kernel
theorem dX12_isSilencedBy_28 : decode cX12_isSilencedBy 28 = .ok (.getfield 9, 3) := by decide +kernel
theorem dX12_isSilencedBy_31 : decode cX12_isSilencedBy 31 = .ok (.sipush 1847, 3) := by decide +kernel
theorem dX12_isSilencedBy_34 : decode cX12_isSilencedBy 34 = .ok (.iaload, 1) := by decide +kernel
theorem dX12_isSilencedBy_35 : decode cX12_isSilencedBy 35 = .ok (.if_icmp .gt 48, 3) := by decide +kernel
theorem dX12_isSilencedBy_38 : decode cX12_isSilencedBy 38 = .ok (.aload_n 0, 1) := by decide +kernel
theorem dX12_isSilencedBy_39 : decode cX12_isSilencedBy 39 = .ok (.getfield 9, 3) := by decide +kernel
theorem dX12_isSilencedBy_42 : decode cX12_isSilencedBy 42 = .ok (.sipush 1847, 3) := by decide +kernel
theorem dX12_isSilencedBy_45 : decode cX12_isSilencedBy 45 = .ok (.iaload, 1) := by decide +kernel
theorem dX12_isSilencedBy_46 : decode cX12_isSilencedBy 46 = .ok (.aload_n 0, 1) := by decide +kernel
theorem dX12_isSilencedBy_47 : decode cX12_isSilencedBy 47 = .ok (.getfield 9, 3) := by decide +kernel
theorem dX12_isSilencedBy_50 : decode cX12_isSilencedBy 50 = .ok (.iload_n 3, 1) := by decide +kernel
theorem dX12_isSilencedBy_51 : decode cX12_isSilencedBy 51 = .ok (.bipush 6, 2) := by decide +kernel
theorem dX12_isSilencedBy_53 : decode cX12_isSilencedBy 53 = .ok (.iadd, 1) := by decide +kernel
theorem dX12_isSilencedBy_54 : decode cX12_isSilencedBy 54 = .ok (.iaload, 1) := by decide +kernel
theorem dX12_isSilencedBy_55 : decode cX12_isSilencedBy 55 = .ok (.aload_n 0, 1) := by decide +kernel
theorem dX12_isSilencedBy_56 : decode cX12_isSilencedBy 56 = .ok (.getfield 9, 3) := by decide +kernel
theorem dX12_isSilencedBy_59 : decode cX12_isSilencedBy 59 = .ok (.iload_n 3, 1) := by decide +kernel
theorem dX12_isSilencedBy_60 : decode cX12_isSilencedBy 60 = .ok (.bipush 7, 2) := by decide +kernel
theorem dX12_isSilencedBy_62 : decode cX12_isSilencedBy 62 = .ok (.iadd, 1) := by decide +kernel
theorem dX12_isSilencedBy_63 : decode cX12_isSilencedBy 63 = .ok (.iaload, 1) := by decide +kernel
theorem dX12_isSilencedBy_64 : decode cX12_isSilencedBy 64 = .ok (.iadd, 1) := by decide +kernel
theorem dX12_isSilencedBy_65 : decode cX12_isSilencedBy 65 = .ok (.if_icmp .ge 18, 3) := by decide +kernel
theorem dX12_isSilencedBy_68 : decode cX12_isSilencedBy 68 = .ok (.aload_n 0, 1) := by decide +kernel
theorem dX12_isSilencedBy_69 : decode cX12_isSilencedBy 69 = .ok (.iload_n 1, 1) := by decide +kernel
theorem dX12_isSilencedBy_70 : decode cX12_isSilencedBy 70 = .ok (.iload_n 3, 1) := by decide +kernel
theorem dX12_isSilencedBy_71 : decode cX12_isSilencedBy 71 = .ok (.iconst 1, 1) := by decide +kernel
theorem dX12_isSilencedBy_72 : decode cX12_isSilencedBy 72 = .ok (.iadd, 1) := by decide +kernel
theorem dX12_isSilencedBy_73 : decode cX12_isSilencedBy 73 = .ok (.invokevirtual 98, 3) := by decide +kernel
theorem dX12_isSilencedBy_76 : decode cX12_isSilencedBy 76 = .ok (.ifCond .eq 7, 3) := by decide +kernel
theorem dX12_isSilencedBy_79 : decode cX12_isSilencedBy 79 = .ok (.iconst 1, 1) := by decide +kernel
theorem dX12_isSilencedBy_80 : decode cX12_isSilencedBy 80 = .ok (.goto 4, 3) := by decide +kernel
theorem dX12_isSilencedBy_83 : decode cX12_isSilencedBy 83 = .ok (.iconst 0, 1) := by decide +kernel
theorem dX12_isSilencedBy_84 : decode cX12_isSilencedBy 84 = .ok (.ireturn, 1) := by decide +kernel
theorem dX12_silenceOf_0 : decode cX12_silenceOf 0 = .ok (.iconst 0, 1) := by decide +kernel
theorem dX12_silenceOf_1 : decode cX12_silenceOf 1 = .ok (.istore_n 2, 1) := by decide +kernel
theorem dX12_silenceOf_2 : decode cX12_silenceOf 2 = .ok (.iload_n 2, 1) := by decide +kernel
theorem dX12_silenceOf_3 : decode cX12_silenceOf 3 = .ok (.bipush 6, 2) := by decide +kernel
theorem dX12_silenceOf_5 : decode cX12_silenceOf 5 = .ok (.if_icmp .ge 20, 3) := by decide +kernel
theorem dX12_silenceOf_8 : decode cX12_silenceOf 8 = .ok (.aload_n 0, 1) := by decide +kernel
theorem dX12_silenceOf_9 : decode cX12_silenceOf 9 = .ok (.iload_n 1, 1) := by decide +kernel
theorem dX12_silenceOf_10 : decode cX12_silenceOf 10 = .ok (.iload_n 2, 1) := by decide +kernel
theorem dX12_silenceOf_11 : decode cX12_silenceOf 11 = .ok (.invokevirtual 101, 3) := by decide +kernel
theorem dX12_silenceOf_14 : decode cX12_silenceOf 14 = .ok (.ifCond .eq 5, 3) := by decide +kernel
theorem dX12_silenceOf_17 : decode cX12_silenceOf 17 = .ok (.iload_n 2, 1) := by decide +kernel
theorem dX12_silenceOf_18 : decode cX12_silenceOf 18 = .ok (.ireturn, 1) := by decide +kernel
theorem dX12_silenceOf_19 : decode cX12_silenceOf 19 = .ok (.iinc 2 1, 3) := by decide +kernel
theorem dX12_silenceOf_22 : decode cX12_silenceOf 22 = .ok (.goto (-20), 3) := by decide +kernel
theorem dX12_silenceOf_25 : decode cX12_silenceOf 25 = .ok (.bipush (-5), 2) := by decide +kernel
theorem dX12_silenceOf_27 : decode cX12_silenceOf 27 = .ok (.ireturn, 1) := by decide +kernel
theorem dX12_isInhibitedBy_0 : decode cX12_isInhibitedBy 0 = .ok (.iconst 0, 1) := by decide +kernel
theorem dX12_isInhibitedBy_1 : decode cX12_isInhibitedBy 1 = .ok (.istore_n 3, 1) := by decide +kernel
theorem dX12_isInhibitedBy_2 : decode cX12_isInhibitedBy 2 = .ok (.iload_n 3, 1) := by decide +kernel
theorem dX12_isInhibitedBy_3 : decode cX12_isInhibitedBy 3 = .ok (.iconst 4, 1) := by decide +kernel
theorem dX12_isInhibitedBy_4 : decode cX12_isInhibitedBy 4 = .ok (.if_icmp .ge 145, 3) := by decide +kernel
theorem dX12_isInhibitedBy_7 : decode cX12_isInhibitedBy 7 = .ok (.sipush 158, 3) := by decide +kernel
theorem dX12_isInhibitedBy_10 : decode cX12_isInhibitedBy 10 = .ok (.bipush 12, 2) := by decide +kernel
theorem dX12_isInhibitedBy_12 : decode cX12_isInhibitedBy 12 = .ok (.iload_n 3, 1) := by decide +kernel
theorem dX12_isInhibitedBy_13 : decode cX12_isInhibitedBy 13 = .ok (.imul, 1) := by decide +kernel
theorem dX12_isInhibitedBy_14 : decode cX12_isInhibitedBy 14 = .ok (.iadd, 1) := by decide +kernel
theorem dX12_isInhibitedBy_15 : decode cX12_isInhibitedBy 15 = .ok (.istore 4, 2) := by decide +kernel
theorem dX12_isInhibitedBy_17 : decode cX12_isInhibitedBy 17 = .ok (.aload_n 0, 1) := by decide +kernel
theorem dX12_isInhibitedBy_18 : decode cX12_isInhibitedBy 18 = .ok (.getfield 9, 3) := by decide +kernel
theorem dX12_isInhibitedBy_21 : decode cX12_isInhibitedBy 21 = .ok (.iload 4, 2) := by decide +kernel
theorem dX12_isInhibitedBy_23 : decode cX12_isInhibitedBy 23 = .ok (.iaload, 1) := by decide +kernel
theorem dX12_isInhibitedBy_24 : decode cX12_isInhibitedBy 24 = .ok (.ifCond .eq 119, 3) := by decide +kernel
theorem dX12_isInhibitedBy_27 : decode cX12_isInhibitedBy 27 = .ok (.aload_n 0, 1) := by decide +kernel
theorem dX12_isInhibitedBy_28 : decode cX12_isInhibitedBy 28 = .ok (.iload_n 2, 1) := by decide +kernel
theorem dX12_isInhibitedBy_29 : decode cX12_isInhibitedBy 29 = .ok (.iload 4, 2) := by decide +kernel
theorem dX12_isInhibitedBy_31 : decode cX12_isInhibitedBy 31 = .ok (.iconst 1, 1) := by decide +kernel
theorem dX12_isInhibitedBy_32 : decode cX12_isInhibitedBy 32 = .ok (.iadd, 1) := by decide +kernel
theorem dX12_isInhibitedBy_33 : decode cX12_isInhibitedBy 33 = .ok (.invokevirtual 98, 3) := by decide +kernel
theorem dX12_isInhibitedBy_36 : decode cX12_isInhibitedBy 36 = .ok (.ifCond .eq 107, 3) := by decide +kernel
theorem dX12_isInhibitedBy_39 : decode cX12_isInhibitedBy 39 = .ok (.aload_n 0, 1) := by decide +kernel
theorem dX12_isInhibitedBy_40 : decode cX12_isInhibitedBy 40 = .ok (.iload_n 1, 1) := by decide +kernel
theorem dX12_isInhibitedBy_41 : decode cX12_isInhibitedBy 41 = .ok (.iload 4, 2) := by decide +kernel
theorem dX12_isInhibitedBy_43 : decode cX12_isInhibitedBy 43 = .ok (.bipush 6, 2) := by decide +kernel
theorem dX12_isInhibitedBy_45 : decode cX12_isInhibitedBy 45 = .ok (.iadd, 1) := by decide +kernel
theorem dX12_isInhibitedBy_46 : decode cX12_isInhibitedBy 46 = .ok (.invokevirtual 98, 3) := by decide +kernel
theorem dX12_isInhibitedBy_49 : decode cX12_isInhibitedBy 49 = .ok (.ifCond .ne 6, 3) := by decide +kernel
theorem dX12_isInhibitedBy_52 : decode cX12_isInhibitedBy 52 = .ok (.goto 91, 3) := by decide +kernel
theorem dX12_isInhibitedBy_55 : decode cX12_isInhibitedBy 55 = .ok (.iconst 1, 1) := by decide +kernel
theorem dX12_isInhibitedBy_56 : decode cX12_isInhibitedBy 56 = .ok (.istore 5, 2) := by decide +kernel
theorem dX12_isInhibitedBy_58 : decode cX12_isInhibitedBy 58 = .ok (.iconst 0, 1) := by decide +kernel
theorem dX12_isInhibitedBy_59 : decode cX12_isInhibitedBy 59 = .ok (.istore 6, 2) := by decide +kernel
theorem dX12_isInhibitedBy_61 : decode cX12_isInhibitedBy 61 = .ok (.iload 6, 2) := by decide +kernel
theorem dX12_isInhibitedBy_63 : decode cX12_isInhibitedBy 63 = .ok (.iconst 3, 1) := by decide +kernel
theorem dX12_isInhibitedBy_64 : decode cX12_isInhibitedBy 64 = .ok (.if_icmp .ge 72, 3) := by decide +kernel
theorem dX12_isInhibitedBy_67 : decode cX12_isInhibitedBy 67 = .ok (.iload 5, 2) := by decide +kernel
theorem dX12_isInhibitedBy_69 : decode cX12_isInhibitedBy 69 = .ok (.aload_n 0, 1) := by decide +kernel
theorem dX12_isInhibitedBy_70 : decode cX12_isInhibitedBy 70 = .ok (.getfield 9, 3) := by decide +kernel
theorem dX12_isInhibitedBy_73 : decode cX12_isInhibitedBy 73 = .ok (.iload 4, 2) := by decide +kernel
theorem dX12_isInhibitedBy_75 : decode cX12_isInhibitedBy 75 = .ok (.bipush 11, 2) := by decide +kernel
theorem dX12_isInhibitedBy_77 : decode cX12_isInhibitedBy 77 = .ok (.iadd, 1) := by decide +kernel
theorem dX12_isInhibitedBy_78 : decode cX12_isInhibitedBy 78 = .ok (.iaload, 1) := by decide +kernel
theorem dX12_isInhibitedBy_79 : decode cX12_isInhibitedBy 79 = .ok (.iload 6, 2) := by decide +kernel
theorem dX12_isInhibitedBy_81 : decode cX12_isInhibitedBy 81 = .ok (.ishr, 1) := by decide +kernel
theorem dX12_isInhibitedBy_82 : decode cX12_isInhibitedBy 82 = .ok (.iconst 1, 1) := by decide +kernel
theorem dX12_isInhibitedBy_83 : decode cX12_isInhibitedBy 83 = .ok (.iand, 1) := by decide +kernel
theorem dX12_isInhibitedBy_84 : decode cX12_isInhibitedBy 84 = .ok (.ifCond .eq 38, 3) := by decide +kernel
theorem dX12_isInhibitedBy_87 : decode cX12_isInhibitedBy 87 = .ok (.aload_n 0, 1) := by decide +kernel
theorem dX12_isInhibitedBy_88 : decode cX12_isInhibitedBy 88 = .ok (.getfield 9, 3) := by decide +kernel
theorem dX12_isInhibitedBy_91 : decode cX12_isInhibitedBy 91 = .ok (.iconst 0, 1) := by decide +kernel
theorem dX12_isInhibitedBy_92 : decode cX12_isInhibitedBy 92 = .ok (.iconst 3, 1) := by decide +kernel
theorem dX12_isInhibitedBy_93 : decode cX12_isInhibitedBy 93 = .ok (.iload_n 1, 1) := by decide +kernel
theorem dX12_isInhibitedBy_94 : decode cX12_isInhibitedBy 94 = .ok (.bipush 12, 2) := by decide +kernel
theorem dX12_isInhibitedBy_96 : decode cX12_isInhibitedBy 96 = .ok (.irem, 1) := by decide +kernel
theorem dX12_isInhibitedBy_97 : decode cX12_isInhibitedBy 97 = .ok (.imul, 1) := by decide +kernel
theorem dX12_isInhibitedBy_98 : decode cX12_isInhibitedBy 98 = .ok (.iadd, 1) := by decide +kernel
theorem dX12_isInhibitedBy_99 : decode cX12_isInhibitedBy 99 = .ok (.iload 6, 2) := by decide +kernel
theorem dX12_isInhibitedBy_101 : decode cX12_isInhibitedBy 101 = .ok (.iadd, 1) := by decide +kernel
theorem dX12_isInhibitedBy_102 : decode cX12_isInhibitedBy 102 = .ok (.iaload, 1) := by decide +kernel
theorem dX12_isInhibitedBy_103 : decode cX12_isInhibitedBy 103 = .ok (.aload_n 0, 1) := by decide +kernel
theorem dX12_isInhibitedBy_104 : decode cX12_isInhibitedBy 104 = .ok (.getfield 9, 3) := by decide +kernel
theorem dX12_isInhibitedBy_107 : decode cX12_isInhibitedBy 107 = .ok (.iconst 0, 1) := by decide +kernel
theorem dX12_isInhibitedBy_108 : decode cX12_isInhibitedBy 108 = .ok (.iconst 3, 1) := by decide +kernel
theorem dX12_isInhibitedBy_109 : decode cX12_isInhibitedBy 109 = .ok (.iload_n 2, 1) := by decide +kernel
theorem dX12_isInhibitedBy_110 : decode cX12_isInhibitedBy 110 = .ok (.bipush 12, 2) := by decide +kernel
theorem dX12_isInhibitedBy_112 : decode cX12_isInhibitedBy 112 = .ok (.irem, 1) := by decide +kernel
theorem dX12_isInhibitedBy_113 : decode cX12_isInhibitedBy 113 = .ok (.imul, 1) := by decide +kernel
theorem dX12_isInhibitedBy_114 : decode cX12_isInhibitedBy 114 = .ok (.iadd, 1) := by decide +kernel
theorem dX12_isInhibitedBy_115 : decode cX12_isInhibitedBy 115 = .ok (.iload 6, 2) := by decide +kernel
theorem dX12_isInhibitedBy_117 : decode cX12_isInhibitedBy 117 = .ok (.iadd, 1) := by decide +kernel
theorem dX12_isInhibitedBy_118 : decode cX12_isInhibitedBy 118 = .ok (.iaload, 1) := by decide +kernel
theorem dX12_isInhibitedBy_119 : decode cX12_isInhibitedBy 119 = .ok (.if_icmp .ne 7, 3) := by decide +kernel
theorem dX12_isInhibitedBy_122 : decode cX12_isInhibitedBy 122 = .ok (.iconst 1, 1) := by decide +kernel
theorem dX12_isInhibitedBy_123 : decode cX12_isInhibitedBy 123 = .ok (.goto 4, 3) := by decide +kernel
theorem dX12_isInhibitedBy_126 : decode cX12_isInhibitedBy 126 = .ok (.iconst 0, 1) := by decide +kernel
theorem dX12_isInhibitedBy_127 : decode cX12_isInhibitedBy 127 = .ok (.iand, 1) := by decide +kernel
theorem dX12_isInhibitedBy_128 : decode cX12_isInhibitedBy 128 = .ok (.istore 5, 2) := by decide +kernel
theorem dX12_isInhibitedBy_130 : decode cX12_isInhibitedBy 130 = .ok (.iinc 6 1, 3) := by decide +kernel
theorem dX12_isInhibitedBy_133 : decode cX12_isInhibitedBy 133 = .ok (.goto (-72), 3) := by decide +kernel
theorem dX12_isInhibitedBy_136 : decode cX12_isInhibitedBy 136 = .ok (.iload 5, 2) := by decide +kernel
theorem dX12_isInhibitedBy_138 : decode cX12_isInhibitedBy 138 = .ok (.ifCond .eq 5, 3) := by decide +kernel
theorem dX12_isInhibitedBy_141 : decode cX12_isInhibitedBy 141 = .ok (.iconst 1, 1) := by decide +kernel
theorem dX12_isInhibitedBy_142 : decode cX12_isInhibitedBy 142 = .ok (.ireturn, 1) := by decide +kernel
theorem dX12_isInhibitedBy_143 : decode cX12_isInhibitedBy 143 = .ok (.iinc 3 1, 3) := by decide +kernel
theorem dX12_isInhibitedBy_146 : decode cX12_isInhibitedBy 146 = .ok (.goto (-144), 3) := by decide +kernel
theorem dX12_isInhibitedBy_149 : decode cX12_isInhibitedBy 149 = .ok (.iconst 0, 1) := by decide +kernel
theorem dX12_isInhibitedBy_150 : decode cX12_isInhibitedBy 150 = .ok (.ireturn, 1) := by decide +kernel
theorem dX12_inhibitorOf_0 : decode cX12_inhibitorOf 0 = .ok (.aload_n 0, 1) := by decide +kernel
theorem dX12_inhibitorOf_1 : decode cX12_inhibitorOf 1 = .ok (.iload_n 1, 1) := by decide +kernel
theorem dX12_inhibitorOf_2 : decode cX12_inhibitorOf 2 = .ok (.invokevirtual 104, 3) := by decide +kernel
theorem dX12_inhibitorOf_5 : decode cX12_inhibitorOf 5 = .ok (.iconst 2, 1) := by decide +kernel
theorem dX12_inhibitorOf_6 : decode cX12_inhibitorOf 6 = .ok (.if_icmp .eq 6, 3) := by decide +kernel
theorem dX12_inhibitorOf_9 : decode cX12_inhibitorOf 9 = .ok (.bipush (-5), 2) := by decide +kernel
theorem dX12_inhibitorOf_11 : decode cX12_inhibitorOf 11 = .ok (.ireturn, 1) := by decide +kernel
theorem dX12_inhibitorOf_12 : decode cX12_inhibitorOf 12 = .ok (.iconst 0, 1) := by decide +kernel
theorem dX12_inhibitorOf_13 : decode cX12_inhibitorOf 13 = .ok (.istore_n 2, 1) := by decide +kernel
theorem dX12_inhibitorOf_14 : decode cX12_inhibitorOf 14 = .ok (.iload_n 2, 1) := by decide +kernel
theorem dX12_inhibitorOf_15 : decode cX12_inhibitorOf 15 = .ok (.bipush 60, 2) := by decide +kernel
theorem dX12_inhibitorOf_17 : decode cX12_inhibitorOf 17 = .ok (.if_icmp .ge 34, 3) := by decide +kernel
theorem dX12_inhibitorOf_20 : decode cX12_inhibitorOf 20 = .ok (.iload_n 2, 1) := by decide +kernel
theorem dX12_inhibitorOf_21 : decode cX12_inhibitorOf 21 = .ok (.iload_n 1, 1) := by decide +kernel
theorem dX12_inhibitorOf_22 : decode cX12_inhibitorOf 22 = .ok (.if_icmp .eq 23, 3) := by decide +kernel
theorem dX12_inhibitorOf_25 : decode cX12_inhibitorOf 25 = .ok (.aload_n 0, 1) := by decide +kernel
theorem dX12_inhibitorOf_26 : decode cX12_inhibitorOf 26 = .ok (.iload_n 2, 1) := by decide +kernel
theorem dX12_inhibitorOf_27 : decode cX12_inhibitorOf 27 = .ok (.invokevirtual 104, 3) := by decide +kernel
theorem dX12_inhibitorOf_30 : decode cX12_inhibitorOf 30 = .ok (.iconst 2, 1) := by decide +kernel
theorem dX12_inhibitorOf_31 : decode cX12_inhibitorOf 31 = .ok (.if_icmp .ne 14, 3) := by decide +kernel
theorem dX12_inhibitorOf_34 : decode cX12_inhibitorOf 34 = .ok (.aload_n 0, 1) := by decide +kernel
theorem dX12_inhibitorOf_35 : decode cX12_inhibitorOf 35 = .ok (.iload_n 1, 1) := by decide +kernel
theorem dX12_inhibitorOf_36 : decode cX12_inhibitorOf 36 = .ok (.iload_n 2, 1) := by decide +kernel
theorem dX12_inhibitorOf_37 : decode cX12_inhibitorOf 37 = .ok (.invokevirtual 107, 3) := by decide +kernel
theorem dX12_inhibitorOf_40 : decode cX12_inhibitorOf 40 = .ok (.ifCond .eq 5, 3) := by decide +kernel
theorem dX12_inhibitorOf_43 : decode cX12_inhibitorOf 43 = .ok (.iload_n 2, 1) := by decide +kernel
theorem dX12_inhibitorOf_44 : decode cX12_inhibitorOf 44 = .ok (.ireturn, 1) := by decide +kernel
theorem dX12_inhibitorOf_45 : decode cX12_inhibitorOf 45 = .ok (.iinc 2 1, 3) := by decide +kernel
theorem dX12_inhibitorOf_48 : decode cX12_inhibitorOf 48 = .ok (.goto (-34), 3) := by decide +kernel
theorem dX12_inhibitorOf_51 : decode cX12_inhibitorOf 51 = .ok (.bipush (-5), 2) := by decide +kernel
theorem dX12_inhibitorOf_53 : decode cX12_inhibitorOf 53 = .ok (.ireturn, 1) := by decide +kernel
theorem dX12_flaps_0 : decode cX12_flaps 0 = .ok (.sipush 206, 3) := by decide +kernel
theorem dX12_flaps_3 : decode cX12_flaps 3 = .ok (.bipush 23, 2) := by decide +kernel
theorem dX12_flaps_5 : decode cX12_flaps 5 = .ok (.iload_n 1, 1) := by decide +kernel
theorem dX12_flaps_6 : decode cX12_flaps 6 = .ok (.imul, 1) := by decide +kernel
theorem dX12_flaps_7 : decode cX12_flaps 7 = .ok (.iadd, 1) := by decide +kernel
theorem dX12_flaps_8 : decode cX12_flaps 8 = .ok (.istore_n 2, 1) := by decide +kernel
theorem dX12_flaps_9 : decode cX12_flaps 9 = .ok (.iconst 0, 1) := by decide +kernel
theorem dX12_flaps_10 : decode cX12_flaps 10 = .ok (.istore_n 3, 1) := by decide +kernel
theorem dX12_flaps_11 : decode cX12_flaps 11 = .ok (.iconst 0, 1) := by decide +kernel
theorem dX12_flaps_12 : decode cX12_flaps 12 = .ok (.istore 4, 2) := by decide +kernel
theorem dX12_flaps_14 : decode cX12_flaps 14 = .ok (.iload 4, 2) := by decide +kernel
theorem dX12_flaps_16 : decode cX12_flaps 16 = .ok (.aload_n 0, 1) := by decide +kernel
theorem dX12_flaps_17 : decode cX12_flaps 17 = .ok (.getfield 9, 3) := by decide +kernel
theorem dX12_flaps_20 : decode cX12_flaps 20 = .ok (.iload_n 2, 1) := by decide +kernel
theorem dX12_flaps_21 : decode cX12_flaps 21 = .ok (.iconst 2, 1) := by decide +kernel
theorem dX12_flaps_22 : decode cX12_flaps 22 = .ok (.iadd, 1) := by decide +kernel
theorem dX12_flaps_23 : decode cX12_flaps 23 = .ok (.iaload, 1) := by decide +kernel
theorem dX12_flaps_24 : decode cX12_flaps 24 = .ok (.if_icmp .ge 48, 3) := by decide +kernel
theorem dX12_flaps_27 : decode cX12_flaps 27 = .ok (.iload_n 3, 1) := by decide +kernel
theorem dX12_flaps_28 : decode cX12_flaps 28 = .ok (.aload_n 0, 1) := by decide +kernel
theorem dX12_flaps_29 : decode cX12_flaps 29 = .ok (.getfield 9, 3) := by decide +kernel
theorem dX12_flaps_32 : decode cX12_flaps 32 = .ok (.iload_n 2, 1) := by decide +kernel
theorem dX12_flaps_33 : decode cX12_flaps 33 = .ok (.iconst 3, 1) := by decide +kernel
theorem dX12_flaps_34 : decode cX12_flaps 34 = .ok (.iadd, 1) := by decide +kernel
theorem dX12_flaps_35 : decode cX12_flaps 35 = .ok (.iload 4, 2) := by decide +kernel
theorem dX12_flaps_37 : decode cX12_flaps 37 = .ok (.iadd, 1) := by decide +kernel
theorem dX12_flaps_38 : decode cX12_flaps 38 = .ok (.iaload, 1) := by decide +kernel
theorem dX12_flaps_39 : decode cX12_flaps 39 = .ok (.aload_n 0, 1) := by decide +kernel
theorem dX12_flaps_40 : decode cX12_flaps 40 = .ok (.getfield 9, 3) := by decide +kernel
theorem dX12_flaps_43 : decode cX12_flaps 43 = .ok (.sipush 1847, 3) := by decide +kernel
theorem dX12_flaps_46 : decode cX12_flaps 46 = .ok (.iaload, 1) := by decide +kernel
theorem dX12_flaps_47 : decode cX12_flaps 47 = .ok (.aload_n 0, 1) := by decide +kernel
theorem dX12_flaps_48 : decode cX12_flaps 48 = .ok (.getfield 9, 3) := by decide +kernel
theorem dX12_flaps_51 : decode cX12_flaps 51 = .ok (.sipush 1844, 3) := by decide +kernel
theorem dX12_flaps_54 : decode cX12_flaps 54 = .ok (.iaload, 1) := by decide +kernel
theorem dX12_flaps_55 : decode cX12_flaps 55 = .ok (.isub, 1) := by decide +kernel
theorem dX12_flaps_56 : decode cX12_flaps 56 = .ok (.if_icmp .le 7, 3) := by decide +kernel
theorem dX12_flaps_59 : decode cX12_flaps 59 = .ok (.iconst 1, 1) := by decide +kernel
theorem dX12_flaps_60 : decode cX12_flaps 60 = .ok (.goto 4, 3) := by decide +kernel
theorem dX12_flaps_63 : decode cX12_flaps 63 = .ok (.iconst 0, 1) := by decide +kernel
theorem dX12_flaps_64 : decode cX12_flaps 64 = .ok (.iadd, 1) := by decide +kernel
theorem dX12_flaps_65 : decode cX12_flaps 65 = .ok (.istore_n 3, 1) := by decide +kernel
theorem dX12_flaps_66 : decode cX12_flaps 66 = .ok (.iinc 4 1, 3) := by decide +kernel
theorem dX12_flaps_69 : decode cX12_flaps 69 = .ok (.goto (-55), 3) := by decide +kernel
theorem dX12_flaps_72 : decode cX12_flaps 72 = .ok (.iload_n 3, 1) := by decide +kernel
theorem dX12_flaps_73 : decode cX12_flaps 73 = .ok (.ireturn, 1) := by decide +kernel
theorem dX12_isFlapping_0 : decode cX12_isFlapping 0 = .ok (.aload_n 0, 1) := by decide +kernel
theorem dX12_isFlapping_1 : decode cX12_isFlapping 1 = .ok (.iload_n 1, 1) := by decide +kernel
theorem dX12_isFlapping_2 : decode cX12_isFlapping 2 = .ok (.invokevirtual 110, 3) := by decide +kernel
theorem dX12_isFlapping_5 : decode cX12_isFlapping 5 = .ok (.aload_n 0, 1) := by decide +kernel
theorem dX12_isFlapping_6 : decode cX12_isFlapping 6 = .ok (.getfield 9, 3) := by decide +kernel
theorem dX12_isFlapping_9 : decode cX12_isFlapping 9 = .ok (.sipush 1845, 3) := by decide +kernel
theorem dX12_isFlapping_12 : decode cX12_isFlapping 12 = .ok (.iaload, 1) := by decide +kernel
theorem dX12_isFlapping_13 : decode cX12_isFlapping 13 = .ok (.if_icmp .lt 7, 3) := by decide +kernel
theorem dX12_isFlapping_16 : decode cX12_isFlapping 16 = .ok (.iconst 1, 1) := by decide +kernel
theorem dX12_isFlapping_17 : decode cX12_isFlapping 17 = .ok (.goto 4, 3) := by decide +kernel
theorem dX12_isFlapping_20 : decode cX12_isFlapping 20 = .ok (.iconst 0, 1) := by decide +kernel
theorem dX12_isFlapping_21 : decode cX12_isFlapping 21 = .ok (.ireturn, 1) := by decide +kernel
theorem dX12_isActive_0 : decode cX12_isActive 0 = .ok (.aload_n 0, 1) := by decide +kernel
theorem dX12_isActive_1 : decode cX12_isActive 1 = .ok (.iload_n 1, 1) := by decide +kernel
theorem dX12_isActive_2 : decode cX12_isActive 2 = .ok (.invokevirtual 104, 3) := by decide +kernel
theorem dX12_isActive_5 : decode cX12_isActive 5 = .ok (.iconst 2, 1) := by decide +kernel
theorem dX12_isActive_6 : decode cX12_isActive 6 = .ok (.if_icmp .ne 31, 3) := by decide +kernel
theorem dX12_isActive_9 : decode cX12_isActive 9 = .ok (.aload_n 0, 1) := by decide +kernel
theorem dX12_isActive_10 : decode cX12_isActive 10 = .ok (.iload_n 1, 1) := by decide +kernel
theorem dX12_isActive_11 : decode cX12_isActive 11 = .ok (.invokevirtual 113, 3) := by decide +kernel
theorem dX12_isActive_14 : decode cX12_isActive 14 = .ok (.ifCond .ge 23, 3) := by decide +kernel
theorem dX12_isActive_17 : decode cX12_isActive 17 = .ok (.aload_n 0, 1) := by decide +kernel
theorem dX12_isActive_18 : decode cX12_isActive 18 = .ok (.iload_n 1, 1) := by decide +kernel
theorem dX12_isActive_19 : decode cX12_isActive 19 = .ok (.invokevirtual 116, 3) := by decide +kernel
theorem dX12_isActive_22 : decode cX12_isActive 22 = .ok (.ifCond .ne 15, 3) := by decide +kernel
theorem dX12_isActive_25 : decode cX12_isActive 25 = .ok (.aload_n 0, 1) := by decide +kernel
theorem dX12_isActive_26 : decode cX12_isActive 26 = .ok (.iload_n 1, 1) := by decide +kernel
theorem dX12_isActive_27 : decode cX12_isActive 27 = .ok (.invokevirtual 120, 3) := by decide +kernel
theorem dX12_isActive_30 : decode cX12_isActive 30 = .ok (.ifCond .ge 7, 3) := by decide +kernel
theorem dX12_isActive_33 : decode cX12_isActive 33 = .ok (.iconst 1, 1) := by decide +kernel
theorem dX12_isActive_34 : decode cX12_isActive 34 = .ok (.goto 4, 3) := by decide +kernel
theorem dX12_isActive_37 : decode cX12_isActive 37 = .ok (.iconst 0, 1) := by decide +kernel
theorem dX12_isActive_38 : decode cX12_isActive 38 = .ok (.ireturn, 1) := by decide +kernel
theorem dX12_keyOf_0 : decode cX12_keyOf 0 = .ok (.iconst 0, 1) := by decide +kernel
theorem dX12_keyOf_1 : decode cX12_keyOf 1 = .ok (.iconst 3, 1) := by decide +kernel
theorem dX12_keyOf_2 : decode cX12_keyOf 2 = .ok (.iload_n 1, 1) := by decide +kernel
theorem dX12_keyOf_3 : decode cX12_keyOf 3 = .ok (.bipush 12, 2) := by decide +kernel
theorem dX12_keyOf_5 : decode cX12_keyOf 5 = .ok (.irem, 1) := by decide +kernel
theorem dX12_keyOf_6 : decode cX12_keyOf 6 = .ok (.imul, 1) := by decide +kernel
theorem dX12_keyOf_7 : decode cX12_keyOf 7 = .ok (.iadd, 1) := by decide +kernel
theorem dX12_keyOf_8 : decode cX12_keyOf 8 = .ok (.istore_n 2, 1) := by decide +kernel
theorem dX12_keyOf_9 : decode cX12_keyOf 9 = .ok (.aload_n 0, 1) := by decide +kernel
theorem dX12_keyOf_10 : decode cX12_keyOf 10 = .ok (.getfield 9, 3) := by decide +kernel
theorem dX12_keyOf_13 : decode cX12_keyOf 13 = .ok (.sipush 1846, 3) := by decide +kernel
theorem dX12_keyOf_16 : decode cX12_keyOf 16 = .ok (.iaload, 1) := by decide +kernel
theorem dX12_keyOf_17 : decode cX12_keyOf 17 = .ok (.istore_n 3, 1) := by decide +kernel
theorem dX12_keyOf_18 : decode cX12_keyOf 18 = .ok (.bipush 32, 2) := by decide +kernel
theorem dX12_keyOf_20 : decode cX12_keyOf 20 = .ok (.aload_n 0, 1) := by decide +kernel
theorem dX12_keyOf_21 : decode cX12_keyOf 21 = .ok (.getfield 9, 3) := by decide +kernel
theorem dX12_keyOf_24 : decode cX12_keyOf 24 = .ok (.iload_n 2, 1) := by decide +kernel
theorem dX12_keyOf_25 : decode cX12_keyOf 25 = .ok (.iaload, 1) := by decide +kernel
theorem dX12_keyOf_26 : decode cX12_keyOf 26 = .ok (.imul, 1) := by decide +kernel
theorem dX12_keyOf_27 : decode cX12_keyOf 27 = .ok (.iload_n 3, 1) := by decide +kernel
theorem dX12_keyOf_28 : decode cX12_keyOf 28 = .ok (.iconst 1, 1) := by decide +kernel
theorem dX12_keyOf_29 : decode cX12_keyOf 29 = .ok (.iand, 1) := by decide +kernel
theorem dX12_keyOf_30 : decode cX12_keyOf 30 = .ok (.imul, 1) := by decide +kernel
theorem dX12_keyOf_31 : decode cX12_keyOf 31 = .ok (.iconst 4, 1) := by decide +kernel
theorem dX12_keyOf_32 : decode cX12_keyOf 32 = .ok (.aload_n 0, 1) := by decide +kernel
theorem dX12_keyOf_33 : decode cX12_keyOf 33 = .ok (.getfield 9, 3) := by decide +kernel
theorem dX12_keyOf_36 : decode cX12_keyOf 36 = .ok (.iload_n 2, 1) := by decide +kernel
theorem dX12_keyOf_37 : decode cX12_keyOf 37 = .ok (.iconst 1, 1) := by decide +kernel
theorem dX12_keyOf_38 : decode cX12_keyOf 38 = .ok (.iadd, 1) := by decide +kernel
theorem dX12_keyOf_39 : decode cX12_keyOf 39 = .ok (.iaload, 1) := by decide +kernel
theorem dX12_keyOf_40 : decode cX12_keyOf 40 = .ok (.imul, 1) := by decide +kernel
theorem dX12_keyOf_41 : decode cX12_keyOf 41 = .ok (.iload_n 3, 1) := by decide +kernel
theorem dX12_keyOf_42 : decode cX12_keyOf 42 = .ok (.iconst 1, 1) := by decide +kernel
theorem dX12_keyOf_43 : decode cX12_keyOf 43 = .ok (.ishr, 1) := by decide +kernel
theorem dX12_keyOf_44 : decode cX12_keyOf 44 = .ok (.iconst 1, 1) := by decide +kernel
theorem dX12_keyOf_45 : decode cX12_keyOf 45 = .ok (.iand, 1) := by decide +kernel
theorem dX12_keyOf_46 : decode cX12_keyOf 46 = .ok (.imul, 1) := by decide +kernel
theorem dX12_keyOf_47 : decode cX12_keyOf 47 = .ok (.iadd, 1) := by decide +kernel
theorem dX12_keyOf_48 : decode cX12_keyOf 48 = .ok (.aload_n 0, 1) := by decide +kernel
theorem dX12_keyOf_49 : decode cX12_keyOf 49 = .ok (.getfield 9, 3) := by decide +kernel
theorem dX12_keyOf_52 : decode cX12_keyOf 52 = .ok (.iload_n 2, 1) := by decide +kernel
theorem dX12_keyOf_53 : decode cX12_keyOf 53 = .ok (.iconst 2, 1) := by decide +kernel
theorem dX12_keyOf_54 : decode cX12_keyOf 54 = .ok (.iadd, 1) := by decide +kernel
theorem dX12_keyOf_55 : decode cX12_keyOf 55 = .ok (.iaload, 1) := by decide +kernel
theorem dX12_keyOf_56 : decode cX12_keyOf 56 = .ok (.iload_n 3, 1) := by decide +kernel
theorem dX12_keyOf_57 : decode cX12_keyOf 57 = .ok (.iconst 2, 1) := by decide +kernel
theorem dX12_keyOf_58 : decode cX12_keyOf 58 = .ok (.ishr, 1) := by decide +kernel
theorem dX12_keyOf_59 : decode cX12_keyOf 59 = .ok (.imul, 1) := by decide +kernel
theorem dX12_keyOf_60 : decode cX12_keyOf 60 = .ok (.iadd, 1) := by decide +kernel
theorem dX12_keyOf_61 : decode cX12_keyOf 61 = .ok (.ireturn, 1) := by decide +kernel
theorem dX12_severity_0 : decode cX12_severity 0 = .ok (.aload_n 0, 1) := by decide +kernel
theorem dX12_severity_1 : decode cX12_severity 1 = .ok (.getfield 9, 3) := by decide +kernel
theorem dX12_severity_4 : decode cX12_severity 4 = .ok (.bipush 60, 2) := by decide +kernel
theorem dX12_severity_6 : decode cX12_severity 6 = .ok (.bipush 10, 2) := by decide +kernel
theorem dX12_severity_8 : decode cX12_severity 8 = .ok (.iload_n 1, 1) := by decide +kernel
theorem dX12_severity_9 : decode cX12_severity 9 = .ok (.bipush 12, 2) := by decide +kernel
theorem dX12_severity_11 : decode cX12_severity 11 = .ok (.idiv, 1) := by decide +kernel
theorem dX12_severity_12 : decode cX12_severity 12 = .ok (.imul, 1) := by decide +kernel
theorem dX12_severity_13 : decode cX12_severity 13 = .ok (.iadd, 1) := by decide +kernel
theorem dX12_severity_14 : decode cX12_severity 14 = .ok (.bipush 9, 2) := by decide +kernel
theorem dX12_severity_16 : decode cX12_severity 16 = .ok (.iadd, 1) := by decide +kernel
theorem dX12_severity_17 : decode cX12_severity 17 = .ok (.iaload, 1) := by decide +kernel
theorem dX12_severity_18 : decode cX12_severity 18 = .ok (.ireturn, 1) := by decide +kernel
theorem dX12_actives_0 : decode cX12_actives 0 = .ok (.lconst 0, 1) := by decide +kernel
theorem dX12_actives_1 : decode cX12_actives 1 = .ok (.lstore_n 1, 1) := by decide +kernel
theorem dX12_actives_2 : decode cX12_actives 2 = .ok (.iconst 0, 1) := by decide +kernel
theorem dX12_actives_3 : decode cX12_actives 3 = .ok (.istore_n 3, 1) := by decide +kernel
theorem dX12_actives_4 : decode cX12_actives 4 = .ok (.iload_n 3, 1) := by decide +kernel
theorem dX12_actives_5 : decode cX12_actives 5 = .ok (.bipush 60, 2) := by decide +kernel
theorem dX12_actives_7 : decode cX12_actives 7 = .ok (.if_icmp .ge 27, 3) := by decide +kernel
theorem dX12_actives_10 : decode cX12_actives 10 = .ok (.lload_n 1, 1) := by decide +kernel
theorem dX12_actives_11 : decode cX12_actives 11 = .ok (.aload_n 0, 1) := by decide +kernel
theorem dX12_actives_12 : decode cX12_actives 12 = .ok (.iload_n 3, 1) := by decide +kernel
theorem dX12_actives_13 : decode cX12_actives 13 = .ok (.invokevirtual 123, 3) := by decide +kernel
theorem dX12_actives_16 : decode cX12_actives 16 = .ok (.ifCond .eq 9, 3) := by decide +kernel
theorem dX12_actives_19 : decode cX12_actives 19 = .ok (.lconst 1, 1) := by decide +kernel
theorem dX12_actives_20 : decode cX12_actives 20 = .ok (.iload_n 3, 1) := by decide +kernel
theorem dX12_actives_21 : decode cX12_actives 21 = .ok (.lshl, 1) := by decide +kernel
theorem dX12_actives_22 : decode cX12_actives 22 = .ok (.goto 4, 3) := by decide +kernel
theorem dX12_actives_25 : decode cX12_actives 25 = .ok (.lconst 0, 1) := by decide +kernel
theorem dX12_actives_26 : decode cX12_actives 26 = .ok (.lor, 1) := by decide +kernel
theorem dX12_actives_27 : decode cX12_actives 27 = .ok (.lstore_n 1, 1) := by decide +kernel
theorem dX12_actives_28 : decode cX12_actives 28 = .ok (.iinc 3 1, 3) := by decide +kernel
theorem dX12_actives_31 : decode cX12_actives 31 = .ok (.goto (-27), 3) := by decide +kernel
theorem dX12_actives_34 : decode cX12_actives 34 = .ok (.lload_n 1, 1) := by decide +kernel
theorem dX12_actives_35 : decode cX12_actives 35 = .ok (.lreturn, 1) := by decide +kernel
theorem dX12_size_0 : decode cX12_size 0 = .ok (.iconst 0, 1) := by decide +kernel
theorem dX12_size_1 : decode cX12_size 1 = .ok (.istore_n 2, 1) := by decide +kernel
theorem dX12_size_2 : decode cX12_size 2 = .ok (.iconst 0, 1) := by decide +kernel
theorem dX12_size_3 : decode cX12_size 3 = .ok (.istore_n 3, 1) := by decide +kernel
theorem dX12_size_4 : decode cX12_size 4 = .ok (.iload_n 3, 1) := by decide +kernel
theorem dX12_size_5 : decode cX12_size 5 = .ok (.bipush 60, 2) := by decide +kernel
theorem dX12_size_7 : decode cX12_size 7 = .ok (.if_icmp .ge 18, 3) := by decide +kernel
theorem dX12_size_10 : decode cX12_size 10 = .ok (.iload_n 2, 1) := by decide +kernel
theorem dX12_size_11 : decode cX12_size 11 = .ok (.lload_n 0, 1) := by decide +kernel
theorem dX12_size_12 : decode cX12_size 12 = .ok (.iload_n 3, 1) := by decide +kernel
theorem dX12_size_13 : decode cX12_size 13 = .ok (.lshr, 1) := by decide +kernel
theorem dX12_size_14 : decode cX12_size 14 = .ok (.lconst 1, 1) := by decide +kernel
theorem dX12_size_15 : decode cX12_size 15 = .ok (.land, 1) := by decide +kernel
theorem dX12_size_16 : decode cX12_size 16 = .ok (.l2i, 1) := by decide +kernel
theorem dX12_size_17 : decode cX12_size 17 = .ok (.iadd, 1) := by decide +kernel
theorem dX12_size_18 : decode cX12_size 18 = .ok (.istore_n 2, 1) := by decide +kernel
theorem dX12_size_19 : decode cX12_size 19 = .ok (.iinc 3 1, 3) := by decide +kernel
theorem dX12_size_22 : decode cX12_size 22 = .ok (.goto (-18), 3) := by decide +kernel
theorem dX12_size_25 : decode cX12_size 25 = .ok (.iload_n 2, 1) := by decide +kernel
theorem dX12_size_26 : decode cX12_size 26 = .ok (.ireturn, 1) := by decide +kernel
theorem dX12_withKey_0 : decode cX12_withKey 0 = .ok (.lconst 0, 1) := by decide +kernel
theorem dX12_withKey_1 : decode cX12_withKey 1 = .ok (.lstore 4, 2) := by decide +kernel
theorem dX12_withKey_3 : decode cX12_withKey 3 = .ok (.iconst 0, 1) := by decide +kernel
theorem dX12_withKey_4 : decode cX12_withKey 4 = .ok (.istore 6, 2) := by decide +kernel
theorem dX12_withKey_6 : decode cX12_withKey 6 = .ok (.iload 6, 2) := by decide +kernel
theorem dX12_withKey_8 : decode cX12_withKey 8 = .ok (.bipush 60, 2) := by decide +kernel
theorem dX12_withKey_10 : decode cX12_withKey 10 = .ok (.if_icmp .ge 43, 3) := by decide +kernel
theorem dX12_withKey_13 : decode cX12_withKey 13 = .ok (.lload 4, 2) := by decide +kernel
theorem dX12_withKey_15 : decode cX12_withKey 15 = .ok (.lload_n 1, 1) := by decide +kernel
theorem dX12_withKey_16 : decode cX12_withKey 16 = .ok (.iload 6, 2) := by decide +kernel
theorem dX12_withKey_18 : decode cX12_withKey 18 = .ok (.lshr, 1) := by decide +kernel
theorem dX12_withKey_19 : decode cX12_withKey 19 = .ok (.lconst 1, 1) := by decide +kernel
theorem dX12_withKey_20 : decode cX12_withKey 20 = .ok (.land, 1) := by decide +kernel
theorem dX12_withKey_21 : decode cX12_withKey 21 = .ok (.lconst 1, 1) := by decide +kernel
theorem dX12_withKey_22 : decode cX12_withKey 22 = .ok (.lcmp, 1) := by decide +kernel
theorem dX12_withKey_23 : decode cX12_withKey 23 = .ok (.ifCond .ne 20, 3) := by decide +kernel
theorem dX12_withKey_26 : decode cX12_withKey 26 = .ok (.aload_n 0, 1) := by decide +kernel
theorem dX12_withKey_27 : decode cX12_withKey 27 = .ok (.iload 6, 2) := by decide +kernel
theorem dX12_withKey_29 : decode cX12_withKey 29 = .ok (.invokevirtual 126, 3) := by decide +kernel
theorem dX12_withKey_32 : decode cX12_withKey 32 = .ok (.iload_n 3, 1) := by decide +kernel
theorem dX12_withKey_33 : decode cX12_withKey 33 = .ok (.if_icmp .ne 10, 3) := by decide +kernel
theorem dX12_withKey_36 : decode cX12_withKey 36 = .ok (.lconst 1, 1) := by decide +kernel
theorem dX12_withKey_37 : decode cX12_withKey 37 = .ok (.iload 6, 2) := by decide +kernel
theorem dX12_withKey_39 : decode cX12_withKey 39 = .ok (.lshl, 1) := by decide +kernel
theorem dX12_withKey_40 : decode cX12_withKey 40 = .ok (.goto 4, 3) := by decide +kernel
theorem dX12_withKey_43 : decode cX12_withKey 43 = .ok (.lconst 0, 1) := by decide +kernel
theorem dX12_withKey_44 : decode cX12_withKey 44 = .ok (.lor, 1) := by decide +kernel
theorem dX12_withKey_45 : decode cX12_withKey 45 = .ok (.lstore 4, 2) := by decide +kernel
theorem dX12_withKey_47 : decode cX12_withKey 47 = .ok (.iinc 6 1, 3) := by decide +kernel
theorem dX12_withKey_50 : decode cX12_withKey 50 = .ok (.goto (-44), 3) := by decide +kernel
theorem dX12_withKey_53 : decode cX12_withKey 53 = .ok (.lload 4, 2) := by decide +kernel
theorem dX12_withKey_55 : decode cX12_withKey 55 = .ok (.lreturn, 1) := by decide +kernel
theorem dX12_greatest_0 : decode cX12_greatest 0 = .ok (.bipush (-5), 2) := by decide +kernel
theorem dX12_greatest_2 : decode cX12_greatest 2 = .ok (.istore_n 3, 1) := by decide +kernel
theorem dX12_greatest_3 : decode cX12_greatest 3 = .ok (.iconst 0, 1) := by decide +kernel
theorem dX12_greatest_4 : decode cX12_greatest 4 = .ok (.istore 4, 2) := by decide +kernel
theorem dX12_greatest_6 : decode cX12_greatest 6 = .ok (.iload 4, 2) := by decide +kernel
theorem dX12_greatest_8 : decode cX12_greatest 8 = .ok (.bipush 60, 2) := by decide +kernel
theorem dX12_greatest_10 : decode cX12_greatest 10 = .ok (.if_icmp .ge 37, 3) := by decide +kernel
theorem dX12_greatest_13 : decode cX12_greatest 13 = .ok (.lload_n 1, 1) := by decide +kernel
theorem dX12_greatest_14 : decode cX12_greatest 14 = .ok (.iload 4, 2) := by decide +kernel
theorem dX12_greatest_16 : decode cX12_greatest 16 = .ok (.lshr, 1) := by decide +kernel
theorem dX12_greatest_17 : decode cX12_greatest 17 = .ok (.lconst 1, 1) := by decide +kernel
theorem dX12_greatest_18 : decode cX12_greatest 18 = .ok (.land, 1) := by decide +kernel
theorem dX12_greatest_19 : decode cX12_greatest 19 = .ok (.lconst 1, 1) := by decide +kernel
theorem dX12_greatest_20 : decode cX12_greatest 20 = .ok (.lcmp, 1) := by decide +kernel
theorem dX12_greatest_21 : decode cX12_greatest 21 = .ok (.ifCond .ne 20, 3) := by decide +kernel
theorem dX12_greatest_24 : decode cX12_greatest 24 = .ok (.aload_n 0, 1) := by decide +kernel
theorem dX12_greatest_25 : decode cX12_greatest 25 = .ok (.iload 4, 2) := by decide +kernel
theorem dX12_greatest_27 : decode cX12_greatest 27 = .ok (.invokevirtual 129, 3) := by decide +kernel
theorem dX12_greatest_30 : decode cX12_greatest 30 = .ok (.iload_n 3, 1) := by decide +kernel
theorem dX12_greatest_31 : decode cX12_greatest 31 = .ok (.if_icmp .le 10, 3) := by decide +kernel
theorem dX12_greatest_34 : decode cX12_greatest 34 = .ok (.aload_n 0, 1) := by decide +kernel
theorem dX12_greatest_35 : decode cX12_greatest 35 = .ok (.iload 4, 2) := by decide +kernel
theorem dX12_greatest_37 : decode cX12_greatest 37 = .ok (.invokevirtual 129, 3) := by decide +kernel
theorem dX12_greatest_40 : decode cX12_greatest 40 = .ok (.istore_n 3, 1) := by decide +kernel
theorem dX12_greatest_41 : decode cX12_greatest 41 = .ok (.iinc 4 1, 3) := by decide +kernel
theorem dX12_greatest_44 : decode cX12_greatest 44 = .ok (.goto (-38), 3) := by decide +kernel
theorem dX12_greatest_47 : decode cX12_greatest 47 = .ok (.iload_n 3, 1) := by decide +kernel
theorem dX12_greatest_48 : decode cX12_greatest 48 = .ok (.ireturn, 1) := by decide +kernel
theorem dX12_turns_0 : decode cX12_turns 0 = .ok (.sipush 206, 3) := by decide +kernel
theorem dX12_turns_3 : decode cX12_turns 3 = .ok (.bipush 23, 2) := by decide +kernel
theorem dX12_turns_5 : decode cX12_turns 5 = .ok (.iload_n 1, 1) := by decide +kernel
theorem dX12_turns_6 : decode cX12_turns 6 = .ok (.imul, 1) := by decide +kernel
theorem dX12_turns_7 : decode cX12_turns 7 = .ok (.iadd, 1) := by decide +kernel
theorem dX12_turns_8 : decode cX12_turns 8 = .ok (.istore_n 2, 1) := by decide +kernel
theorem dX12_turns_9 : decode cX12_turns 9 = .ok (.aload_n 0, 1) := by decide +kernel
theorem dX12_turns_10 : decode cX12_turns 10 = .ok (.getfield 9, 3) := by decide +kernel
theorem dX12_turns_13 : decode cX12_turns 13 = .ok (.iload_n 2, 1) := by decide +kernel
theorem dX12_turns_14 : decode cX12_turns 14 = .ok (.iconst 2, 1) := by decide +kernel
theorem dX12_turns_15 : decode cX12_turns 15 = .ok (.iadd, 1) := by decide +kernel
theorem dX12_turns_16 : decode cX12_turns 16 = .ok (.iaload, 1) := by decide +kernel
theorem dX12_turns_17 : decode cX12_turns 17 = .ok (.bipush 20, 2) := by decide +kernel
theorem dX12_turns_19 : decode cX12_turns 19 = .ok (.if_icmp .ne 49, 3) := by decide +kernel
theorem dX12_turns_22 : decode cX12_turns 22 = .ok (.iconst 1, 1) := by decide +kernel
theorem dX12_turns_23 : decode cX12_turns 23 = .ok (.istore_n 3, 1) := by decide +kernel
theorem dX12_turns_24 : decode cX12_turns 24 = .ok (.iload_n 3, 1) := by decide +kernel
theorem dX12_turns_25 : decode cX12_turns 25 = .ok (.bipush 20, 2) := by decide +kernel
theorem dX12_turns_27 : decode cX12_turns 27 = .ok (.if_icmp .ge 29, 3) := by decide +kernel
theorem dX12_turns_30 : decode cX12_turns 30 = .ok (.aload_n 0, 1) := by decide +kernel
theorem dX12_turns_31 : decode cX12_turns 31 = .ok (.getfield 9, 3) := by decide +kernel
theorem dX12_turns_34 : decode cX12_turns 34 = .ok (.iload_n 2, 1) := by decide +kernel
theorem dX12_turns_35 : decode cX12_turns 35 = .ok (.iconst 2, 1) := by decide +kernel
theorem dX12_turns_36 : decode cX12_turns 36 = .ok (.iadd, 1) := by decide +kernel
theorem dX12_turns_37 : decode cX12_turns 37 = .ok (.iload_n 3, 1) := by decide +kernel
theorem dX12_turns_38 : decode cX12_turns 38 = .ok (.iadd, 1) := by decide +kernel
theorem dX12_turns_39 : decode cX12_turns 39 = .ok (.aload_n 0, 1) := by decide +kernel
theorem dX12_turns_40 : decode cX12_turns 40 = .ok (.getfield 9, 3) := by decide +kernel
theorem dX12_turns_43 : decode cX12_turns 43 = .ok (.iload_n 2, 1) := by decide +kernel
theorem dX12_turns_44 : decode cX12_turns 44 = .ok (.iconst 3, 1) := by decide +kernel
theorem dX12_turns_45 : decode cX12_turns 45 = .ok (.iadd, 1) := by decide +kernel
theorem dX12_turns_46 : decode cX12_turns 46 = .ok (.iload_n 3, 1) := by decide +kernel
theorem dX12_turns_47 : decode cX12_turns 47 = .ok (.iadd, 1) := by decide +kernel
theorem dX12_turns_48 : decode cX12_turns 48 = .ok (.iaload, 1) := by decide +kernel
theorem dX12_turns_49 : decode cX12_turns 49 = .ok (.iastore, 1) := by decide +kernel
theorem dX12_turns_50 : decode cX12_turns 50 = .ok (.iinc 3 1, 3) := by decide +kernel
theorem dX12_turns_53 : decode cX12_turns 53 = .ok (.goto (-29), 3) := by decide +kernel
theorem dX12_turns_56 : decode cX12_turns 56 = .ok (.aload_n 0, 1) := by decide +kernel
theorem dX12_turns_57 : decode cX12_turns 57 = .ok (.getfield 9, 3) := by decide +kernel
theorem dX12_turns_60 : decode cX12_turns 60 = .ok (.iload_n 2, 1) := by decide +kernel
theorem dX12_turns_61 : decode cX12_turns 61 = .ok (.iconst 2, 1) := by decide +kernel
theorem dX12_turns_62 : decode cX12_turns 62 = .ok (.iadd, 1) := by decide +kernel
theorem dX12_turns_63 : decode cX12_turns 63 = .ok (.dup2, 1) := by decide +kernel
theorem dX12_turns_64 : decode cX12_turns 64 = .ok (.iaload, 1) := by decide +kernel
theorem dX12_turns_65 : decode cX12_turns 65 = .ok (.iconst 1, 1) := by decide +kernel
theorem dX12_turns_66 : decode cX12_turns 66 = .ok (.isub, 1) := by decide +kernel
theorem dX12_turns_67 : decode cX12_turns 67 = .ok (.iastore, 1) := by decide +kernel
theorem dX12_turns_68 : decode cX12_turns 68 = .ok (.aload_n 0, 1) := by decide +kernel
theorem dX12_turns_69 : decode cX12_turns 69 = .ok (.getfield 9, 3) := by decide +kernel
theorem dX12_turns_72 : decode cX12_turns 72 = .ok (.iload_n 2, 1) := by decide +kernel
theorem dX12_turns_73 : decode cX12_turns 73 = .ok (.iconst 3, 1) := by decide +kernel
theorem dX12_turns_74 : decode cX12_turns 74 = .ok (.iadd, 1) := by decide +kernel
theorem dX12_turns_75 : decode cX12_turns 75 = .ok (.aload_n 0, 1) := by decide +kernel
theorem dX12_turns_76 : decode cX12_turns 76 = .ok (.getfield 9, 3) := by decide +kernel
theorem dX12_turns_79 : decode cX12_turns 79 = .ok (.iload_n 2, 1) := by decide +kernel
theorem dX12_turns_80 : decode cX12_turns 80 = .ok (.iconst 2, 1) := by decide +kernel
theorem dX12_turns_81 : decode cX12_turns 81 = .ok (.iadd, 1) := by decide +kernel
theorem dX12_turns_82 : decode cX12_turns 82 = .ok (.iaload, 1) := by decide +kernel
theorem dX12_turns_83 : decode cX12_turns 83 = .ok (.iadd, 1) := by decide +kernel
