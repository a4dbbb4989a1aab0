theorem dX12_turns_84 : decode cX12_turns 84 = .ok (.aload_n 0, 1) := by decide +kernel
theorem dX12_turns_85 : decode cX12_turns 85 = .ok (.getfield 9, 3) := by decide +kernel
theorem dX12_turns_88 : decode cX12_turns 88 = .ok (.sipush 1847, 3) := by decide +kernel
theorem dX12_turns_91 : decode cX12_turns 91 = .ok (.iaload, 1) := by decide +kernel
theorem dX12_turns_92 : decode cX12_turns 92 = .ok (.iastore, 1) := by decide +kernel
theorem dX12_turns_93 : decode cX12_turns 93 = .ok (.aload_n 0, 1) := by decide +kernel
theorem dX12_turns_94 : decode cX12_turns 94 = .ok (.getfield 9, 3) := by decide +kernel
theorem dX12_turns_97 : decode cX12_turns 97 = .ok (.iload_n 2, 1) := by decide +kernel
theorem dX12_turns_98 : decode cX12_turns 98 = .ok (.iconst 2, 1) := by decide +kernel
theorem dX12_turns_99 : decode cX12_turns 99 = .ok (.iadd, 1) := by decide +kernel
theorem dX12_turns_100 : decode cX12_turns 100 = .ok (.dup2, 1) := by decide +kernel
theorem dX12_turns_101 : decode cX12_turns 101 = .ok (.iaload, 1) := by decide +kernel
theorem dX12_turns_102 : decode cX12_turns 102 = .ok (.iconst 1, 1) := by decide +kernel
theorem dX12_turns_103 : decode cX12_turns 103 = .ok (.iadd, 1) := by decide +kernel
theorem dX12_turns_104 : decode cX12_turns 104 = .ok (.iastore, 1) := by decide +kernel
theorem dX12_turns_105 : decode cX12_turns 105 = .ok (.return_, 1) := by decide +kernel
theorem dX12_goesOn_0 : decode cX12_goesOn 0 = .ok (.sipush 206, 3) := by decide +kernel
theorem dX12_goesOn_3 : decode cX12_goesOn 3 = .ok (.bipush 23, 2) := by decide +kernel
theorem dX12_goesOn_5 : decode cX12_goesOn 5 = .ok (.iload_n 1, 1) := by decide +kernel
theorem dX12_goesOn_6 : decode cX12_goesOn 6 = .ok (.imul, 1) := by decide +kernel
theorem dX12_goesOn_7 : decode cX12_goesOn 7 = .ok (.iadd, 1) := by decide +kernel
theorem dX12_goesOn_8 : decode cX12_goesOn 8 = .ok (.istore_n 2, 1) := by decide +kernel
theorem dX12_goesOn_9 : decode cX12_goesOn 9 = .ok (.aload_n 0, 1) := by decide +kernel
theorem dX12_goesOn_10 : decode cX12_goesOn 10 = .ok (.iload_n 1, 1) := by decide +kernel
theorem dX12_goesOn_11 : decode cX12_goesOn 11 = .ok (.invokevirtual 132, 3) := by decide +kernel
theorem dX12_goesOn_14 : decode cX12_goesOn 14 = .ok (.ifCond .ne 26, 3) := by decide +kernel
theorem dX12_goesOn_17 : decode cX12_goesOn 17 = .ok (.aload_n 0, 1) := by decide +kernel
theorem dX12_goesOn_18 : decode cX12_goesOn 18 = .ok (.getfield 9, 3) := by decide +kernel
theorem dX12_goesOn_21 : decode cX12_goesOn 21 = .ok (.iload_n 2, 1) := by decide +kernel
theorem dX12_goesOn_22 : decode cX12_goesOn 22 = .ok (.iaload, 1) := by decide +kernel
theorem dX12_goesOn_23 : decode cX12_goesOn 23 = .ok (.iconst 2, 1) := by decide +kernel
theorem dX12_goesOn_24 : decode cX12_goesOn 24 = .ok (.if_icmp .ne 8, 3) := by decide +kernel
theorem dX12_goesOn_27 : decode cX12_goesOn 27 = .ok (.aload_n 0, 1) := by decide +kernel
theorem dX12_goesOn_28 : decode cX12_goesOn 28 = .ok (.iload_n 1, 1) := by decide +kernel
theorem dX12_goesOn_29 : decode cX12_goesOn 29 = .ok (.invokevirtual 135, 3) := by decide +kernel
theorem dX12_goesOn_32 : decode cX12_goesOn 32 = .ok (.aload_n 0, 1) := by decide +kernel
theorem dX12_goesOn_33 : decode cX12_goesOn 33 = .ok (.getfield 9, 3) := by decide +kernel
theorem dX12_goesOn_36 : decode cX12_goesOn 36 = .ok (.iload_n 2, 1) := by decide +kernel
theorem dX12_goesOn_37 : decode cX12_goesOn 37 = .ok (.iconst 0, 1) := by decide +kernel
theorem dX12_goesOn_38 : decode cX12_goesOn 38 = .ok (.iastore, 1) := by decide +kernel
theorem dX12_goesOn_39 : decode cX12_goesOn 39 = .ok (.return_, 1) := by decide +kernel
theorem dX12_goesOn_40 : decode cX12_goesOn 40 = .ok (.aload_n 0, 1) := by decide +kernel
theorem dX12_goesOn_41 : decode cX12_goesOn 41 = .ok (.getfield 9, 3) := by decide +kernel
theorem dX12_goesOn_44 : decode cX12_goesOn 44 = .ok (.iload_n 2, 1) := by decide +kernel
theorem dX12_goesOn_45 : decode cX12_goesOn 45 = .ok (.iaload, 1) := by decide +kernel
theorem dX12_goesOn_46 : decode cX12_goesOn 46 = .ok (.ifCond .ne 26, 3) := by decide +kernel
theorem dX12_goesOn_49 : decode cX12_goesOn 49 = .ok (.aload_n 0, 1) := by decide +kernel
theorem dX12_goesOn_50 : decode cX12_goesOn 50 = .ok (.getfield 9, 3) := by decide +kernel
theorem dX12_goesOn_53 : decode cX12_goesOn 53 = .ok (.iload_n 2, 1) := by decide +kernel
theorem dX12_goesOn_54 : decode cX12_goesOn 54 = .ok (.iconst 1, 1) := by decide +kernel
theorem dX12_goesOn_55 : decode cX12_goesOn 55 = .ok (.iastore, 1) := by decide +kernel
theorem dX12_goesOn_56 : decode cX12_goesOn 56 = .ok (.aload_n 0, 1) := by decide +kernel
theorem dX12_goesOn_57 : decode cX12_goesOn 57 = .ok (.getfield 9, 3) := by decide +kernel
theorem dX12_goesOn_60 : decode cX12_goesOn 60 = .ok (.iload_n 2, 1) := by decide +kernel
theorem dX12_goesOn_61 : decode cX12_goesOn 61 = .ok (.iconst 1, 1) := by decide +kernel
theorem dX12_goesOn_62 : decode cX12_goesOn 62 = .ok (.iadd, 1) := by decide +kernel
theorem dX12_goesOn_63 : decode cX12_goesOn 63 = .ok (.aload_n 0, 1) := by decide +kernel
theorem dX12_goesOn_64 : decode cX12_goesOn 64 = .ok (.getfield 9, 3) := by decide +kernel
theorem dX12_goesOn_67 : decode cX12_goesOn 67 = .ok (.sipush 1847, 3) := by decide +kernel
theorem dX12_goesOn_70 : decode cX12_goesOn 70 = .ok (.iaload, 1) := by decide +kernel
theorem dX12_goesOn_71 : decode cX12_goesOn 71 = .ok (.iastore, 1) := by decide +kernel
theorem dX12_goesOn_72 : decode cX12_goesOn 72 = .ok (.aload_n 0, 1) := by decide +kernel
theorem dX12_goesOn_73 : decode cX12_goesOn 73 = .ok (.getfield 9, 3) := by decide +kernel
theorem dX12_goesOn_76 : decode cX12_goesOn 76 = .ok (.iload_n 2, 1) := by decide +kernel
theorem dX12_goesOn_77 : decode cX12_goesOn 77 = .ok (.iaload, 1) := by decide +kernel
theorem dX12_goesOn_78 : decode cX12_goesOn 78 = .ok (.iconst 1, 1) := by decide +kernel
theorem dX12_goesOn_79 : decode cX12_goesOn 79 = .ok (.if_icmp .ne 69, 3) := by decide +kernel
theorem dX12_goesOn_82 : decode cX12_goesOn 82 = .ok (.aload_n 0, 1) := by decide +kernel
theorem dX12_goesOn_83 : decode cX12_goesOn 83 = .ok (.getfield 9, 3) := by decide +kernel
theorem dX12_goesOn_86 : decode cX12_goesOn 86 = .ok (.sipush 1847, 3) := by decide +kernel
theorem dX12_goesOn_89 : decode cX12_goesOn 89 = .ok (.iaload, 1) := by decide +kernel
theorem dX12_goesOn_90 : decode cX12_goesOn 90 = .ok (.aload_n 0, 1) := by decide +kernel
theorem dX12_goesOn_91 : decode cX12_goesOn 91 = .ok (.getfield 9, 3) := by decide +kernel
theorem dX12_goesOn_94 : decode cX12_goesOn 94 = .ok (.iload_n 2, 1) := by decide +kernel
theorem dX12_goesOn_95 : decode cX12_goesOn 95 = .ok (.iconst 1, 1) := by decide +kernel
theorem dX12_goesOn_96 : decode cX12_goesOn 96 = .ok (.iadd, 1) := by decide +kernel
theorem dX12_goesOn_97 : decode cX12_goesOn 97 = .ok (.iaload, 1) := by decide +kernel
theorem dX12_goesOn_98 : decode cX12_goesOn 98 = .ok (.isub, 1) := by decide +kernel
theorem dX12_goesOn_99 : decode cX12_goesOn 99 = .ok (.aload_n 0, 1) := by decide +kernel
theorem dX12_goesOn_100 : decode cX12_goesOn 100 = .ok (.getfield 9, 3) := by decide +kernel
theorem dX12_goesOn_103 : decode cX12_goesOn 103 = .ok (.bipush 60, 2) := by decide +kernel
theorem dX12_goesOn_105 : decode cX12_goesOn 105 = .ok (.bipush 10, 2) := by decide +kernel
theorem dX12_goesOn_107 : decode cX12_goesOn 107 = .ok (.iload_n 1, 1) := by decide +kernel
theorem dX12_goesOn_108 : decode cX12_goesOn 108 = .ok (.bipush 12, 2) := by decide +kernel
theorem dX12_goesOn_110 : decode cX12_goesOn 110 = .ok (.idiv, 1) := by decide +kernel
theorem dX12_goesOn_111 : decode cX12_goesOn 111 = .ok (.imul, 1) := by decide +kernel
theorem dX12_goesOn_112 : decode cX12_goesOn 112 = .ok (.iadd, 1) := by decide +kernel
theorem dX12_goesOn_113 : decode cX12_goesOn 113 = .ok (.bipush 8, 2) := by decide +kernel
theorem dX12_goesOn_115 : decode cX12_goesOn 115 = .ok (.iadd, 1) := by decide +kernel
theorem dX12_goesOn_116 : decode cX12_goesOn 116 = .ok (.iaload, 1) := by decide +kernel
theorem dX12_goesOn_117 : decode cX12_goesOn 117 = .ok (.if_icmp .lt 31, 3) := by decide +kernel
theorem dX12_goesOn_120 : decode cX12_goesOn 120 = .ok (.aload_n 0, 1) := by decide +kernel
theorem dX12_goesOn_121 : decode cX12_goesOn 121 = .ok (.getfield 9, 3) := by decide +kernel
theorem dX12_goesOn_124 : decode cX12_goesOn 124 = .ok (.iload_n 2, 1) := by decide +kernel
theorem dX12_goesOn_125 : decode cX12_goesOn 125 = .ok (.iconst 2, 1) := by decide +kernel
theorem dX12_goesOn_126 : decode cX12_goesOn 126 = .ok (.iastore, 1) := by decide +kernel
theorem dX12_goesOn_127 : decode cX12_goesOn 127 = .ok (.aload_n 0, 1) := by decide +kernel
theorem dX12_goesOn_128 : decode cX12_goesOn 128 = .ok (.getfield 9, 3) := by decide +kernel
theorem dX12_goesOn_131 : decode cX12_goesOn 131 = .ok (.iload_n 2, 1) := by decide +kernel
theorem dX12_goesOn_132 : decode cX12_goesOn 132 = .ok (.iconst 1, 1) := by decide +kernel
theorem dX12_goesOn_133 : decode cX12_goesOn 133 = .ok (.iadd, 1) := by decide +kernel
theorem dX12_goesOn_134 : decode cX12_goesOn 134 = .ok (.aload_n 0, 1) := by decide +kernel
theorem dX12_goesOn_135 : decode cX12_goesOn 135 = .ok (.getfield 9, 3) := by decide +kernel
theorem dX12_goesOn_138 : decode cX12_goesOn 138 = .ok (.sipush 1847, 3) := by decide +kernel
theorem dX12_goesOn_141 : decode cX12_goesOn 141 = .ok (.iaload, 1) := by decide +kernel
theorem dX12_goesOn_142 : decode cX12_goesOn 142 = .ok (.iastore, 1) := by decide +kernel
theorem dX12_goesOn_143 : decode cX12_goesOn 143 = .ok (.aload_n 0, 1) := by decide +kernel
theorem dX12_goesOn_144 : decode cX12_goesOn 144 = .ok (.iload_n 1, 1) := by decide +kernel
theorem dX12_goesOn_145 : decode cX12_goesOn 145 = .ok (.invokevirtual 135, 3) := by decide +kernel
theorem dX12_goesOn_148 : decode cX12_goesOn 148 = .ok (.return_, 1) := by decide +kernel
theorem dX12_sends_0 : decode cX12_sends 0 = .ok (.sipush 149, 3) := by decide +kernel
theorem dX12_sends_3 : decode cX12_sends 3 = .ok (.istore 5, 2) := by decide +kernel
theorem dX12_sends_5 : decode cX12_sends 5 = .ok (.iload 5, 2) := by decide +kernel
theorem dX12_sends_7 : decode cX12_sends 7 = .ok (.iconst 5, 1) := by decide +kernel
theorem dX12_sends_8 : decode cX12_sends 8 = .ok (.if_icmp .lt 33, 3) := by decide +kernel
theorem dX12_sends_11 : decode cX12_sends 11 = .ok (.aload_n 0, 1) := by decide +kernel
theorem dX12_sends_12 : decode cX12_sends 12 = .ok (.getfield 9, 3) := by decide +kernel
theorem dX12_sends_15 : decode cX12_sends 15 = .ok (.sipush 1849, 3) := by decide +kernel
theorem dX12_sends_18 : decode cX12_sends 18 = .ok (.iload 5, 2) := by decide +kernel
theorem dX12_sends_20 : decode cX12_sends 20 = .ok (.iadd, 1) := by decide +kernel
theorem dX12_sends_21 : decode cX12_sends 21 = .ok (.aload_n 0, 1) := by decide +kernel
theorem dX12_sends_22 : decode cX12_sends 22 = .ok (.getfield 9, 3) := by decide +kernel
theorem dX12_sends_25 : decode cX12_sends 25 = .ok (.sipush 1849, 3) := by decide +kernel
theorem dX12_sends_28 : decode cX12_sends 28 = .ok (.iload 5, 2) := by decide +kernel
theorem dX12_sends_30 : decode cX12_sends 30 = .ok (.iadd, 1) := by decide +kernel
theorem dX12_sends_31 : decode cX12_sends 31 = .ok (.iconst 5, 1) := by decide +kernel
theorem dX12_sends_32 : decode cX12_sends 32 = .ok (.isub, 1) := by decide +kernel
theorem dX12_sends_33 : decode cX12_sends 33 = .ok (.iaload, 1) := by decide +kernel
theorem dX12_sends_34 : decode cX12_sends 34 = .ok (.iastore, 1) := by decide +kernel
theorem dX12_sends_35 : decode cX12_sends 35 = .ok (.iinc 5 (-1), 3) := by decide +kernel
theorem dX12_sends_38 : decode cX12_sends 38 = .ok (.goto (-33), 3) := by decide +kernel
theorem dX12_sends_41 : decode cX12_sends 41 = .ok (.aload_n 0, 1) := by decide +kernel
theorem dX12_sends_42 : decode cX12_sends 42 = .ok (.getfield 9, 3) := by decide +kernel
theorem dX12_sends_45 : decode cX12_sends 45 = .ok (.sipush 1849, 3) := by decide +kernel
theorem dX12_sends_48 : decode cX12_sends 48 = .ok (.aload_n 0, 1) := by decide +kernel
theorem dX12_sends_49 : decode cX12_sends 49 = .ok (.getfield 9, 3) := by decide +kernel
theorem dX12_sends_52 : decode cX12_sends 52 = .ok (.sipush 1847, 3) := by decide +kernel
theorem dX12_sends_55 : decode cX12_sends 55 = .ok (.iaload, 1) := by decide +kernel
theorem dX12_sends_56 : decode cX12_sends 56 = .ok (.iastore, 1) := by decide +kernel
theorem dX12_sends_57 : decode cX12_sends 57 = .ok (.aload_n 0, 1) := by decide +kernel
theorem dX12_sends_58 : decode cX12_sends 58 = .ok (.getfield 9, 3) := by decide +kernel
theorem dX12_sends_61 : decode cX12_sends 61 = .ok (.sipush 1850, 3) := by decide +kernel
theorem dX12_sends_64 : decode cX12_sends 64 = .ok (.iload_n 1, 1) := by decide +kernel
theorem dX12_sends_65 : decode cX12_sends 65 = .ok (.iastore, 1) := by decide +kernel
theorem dX12_sends_66 : decode cX12_sends 66 = .ok (.aload_n 0, 1) := by decide +kernel
theorem dX12_sends_67 : decode cX12_sends 67 = .ok (.getfield 9, 3) := by decide +kernel
theorem dX12_sends_70 : decode cX12_sends 70 = .ok (.sipush 1851, 3) := by decide +kernel
theorem dX12_sends_73 : decode cX12_sends 73 = .ok (.iload_n 2, 1) := by decide +kernel
theorem dX12_sends_74 : decode cX12_sends 74 = .ok (.iastore, 1) := by decide +kernel
theorem dX12_sends_75 : decode cX12_sends 75 = .ok (.aload_n 0, 1) := by decide +kernel
theorem dX12_sends_76 : decode cX12_sends 76 = .ok (.getfield 9, 3) := by decide +kernel
theorem dX12_sends_79 : decode cX12_sends 79 = .ok (.sipush 1852, 3) := by decide +kernel
theorem dX12_sends_82 : decode cX12_sends 82 = .ok (.lload_n 3, 1) := by decide +kernel
theorem dX12_sends_83 : decode cX12_sends 83 = .ok (.invokestatic 138, 3) := by decide +kernel
theorem dX12_sends_86 : decode cX12_sends 86 = .ok (.iastore, 1) := by decide +kernel
theorem dX12_sends_87 : decode cX12_sends 87 = .ok (.aload_n 0, 1) := by decide +kernel
theorem dX12_sends_88 : decode cX12_sends 88 = .ok (.getfield 9, 3) := by decide +kernel
theorem dX12_sends_91 : decode cX12_sends 91 = .ok (.sipush 1853, 3) := by decide +kernel
theorem dX12_sends_94 : decode cX12_sends 94 = .ok (.iload_n 2, 1) := by decide +kernel
theorem dX12_sends_95 : decode cX12_sends 95 = .ok (.iconst 3, 1) := by decide +kernel
theorem dX12_sends_96 : decode cX12_sends 96 = .ok (.if_icmp .ne 8, 3) := by decide +kernel
theorem dX12_sends_99 : decode cX12_sends 99 = .ok (.bipush (-5), 2) := by decide +kernel
theorem dX12_sends_101 : decode cX12_sends 101 = .ok (.goto 8, 3) := by decide +kernel
theorem dX12_sends_104 : decode cX12_sends 104 = .ok (.aload_n 0, 1) := by decide +kernel
theorem dX12_sends_105 : decode cX12_sends 105 = .ok (.lload_n 3, 1) := by decide +kernel
theorem dX12_sends_106 : decode cX12_sends 106 = .ok (.invokevirtual 142, 3) := by decide +kernel
theorem dX12_sends_109 : decode cX12_sends 109 = .ok (.iastore, 1) := by decide +kernel
theorem dX12_sends_110 : decode cX12_sends 110 = .ok (.aload_n 0, 1) := by decide +kernel
theorem dX12_sends_111 : decode cX12_sends 111 = .ok (.getfield 9, 3) := by decide +kernel
theorem dX12_sends_114 : decode cX12_sends 114 = .ok (.sipush 1848, 3) := by decide +kernel
theorem dX12_sends_117 : decode cX12_sends 117 = .ok (.dup2, 1) := by decide +kernel
theorem dX12_sends_118 : decode cX12_sends 118 = .ok (.iaload, 1) := by decide +kernel
theorem dX12_sends_119 : decode cX12_sends 119 = .ok (.iconst 1, 1) := by decide +kernel
theorem dX12_sends_120 : decode cX12_sends 120 = .ok (.iadd, 1) := by decide +kernel
theorem dX12_sends_121 : decode cX12_sends 121 = .ok (.iastore, 1) := by decide +kernel
theorem dX12_sends_122 : decode cX12_sends 122 = .ok (.aload_n 0, 1) := by decide +kernel
theorem dX12_sends_123 : decode cX12_sends 123 = .ok (.getfield 9, 3) := by decide +kernel
theorem dX12_sends_126 : decode cX12_sends 126 = .ok (.sipush 1586, 3) := by decide +kernel
theorem dX12_sends_129 : decode cX12_sends 129 = .ok (.iconst 2, 1) := by decide +kernel
theorem dX12_sends_130 : decode cX12_sends 130 = .ok (.iload_n 1, 1) := by decide +kernel
theorem dX12_sends_131 : decode cX12_sends 131 = .ok (.imul, 1) := by decide +kernel
theorem dX12_sends_132 : decode cX12_sends 132 = .ok (.iadd, 1) := by decide +kernel
theorem dX12_sends_133 : decode cX12_sends 133 = .ok (.iload_n 2, 1) := by decide +kernel
theorem dX12_sends_134 : decode cX12_sends 134 = .ok (.iconst 3, 1) := by decide +kernel
theorem dX12_sends_135 : decode cX12_sends 135 = .ok (.if_icmp .ne 7, 3) := by decide +kernel
theorem dX12_sends_138 : decode cX12_sends 138 = .ok (.iconst 0, 1) := by decide +kernel
theorem dX12_sends_139 : decode cX12_sends 139 = .ok (.goto 4, 3) := by decide +kernel
theorem dX12_sends_142 : decode cX12_sends 142 = .ok (.iconst 1, 1) := by decide +kernel
theorem dX12_sends_143 : decode cX12_sends 143 = .ok (.iastore, 1) := by decide +kernel
theorem dX12_sends_144 : decode cX12_sends 144 = .ok (.aload_n 0, 1) := by decide +kernel
theorem dX12_sends_145 : decode cX12_sends 145 = .ok (.getfield 9, 3) := by decide +kernel
theorem dX12_sends_148 : decode cX12_sends 148 = .ok (.sipush 1586, 3) := by decide +kernel
theorem dX12_sends_151 : decode cX12_sends 151 = .ok (.iconst 2, 1) := by decide +kernel
theorem dX12_sends_152 : decode cX12_sends 152 = .ok (.iload_n 1, 1) := by decide +kernel
theorem dX12_sends_153 : decode cX12_sends 153 = .ok (.imul, 1) := by decide +kernel
theorem dX12_sends_154 : decode cX12_sends 154 = .ok (.iadd, 1) := by decide +kernel
theorem dX12_sends_155 : decode cX12_sends 155 = .ok (.iconst 1, 1) := by decide +kernel
theorem dX12_sends_156 : decode cX12_sends 156 = .ok (.iadd, 1) := by decide +kernel
theorem dX12_sends_157 : decode cX12_sends 157 = .ok (.aload_n 0, 1) := by decide +kernel
theorem dX12_sends_158 : decode cX12_sends 158 = .ok (.getfield 9, 3) := by decide +kernel
theorem dX12_sends_161 : decode cX12_sends 161 = .ok (.sipush 1847, 3) := by decide +kernel
theorem dX12_sends_164 : decode cX12_sends 164 = .ok (.iaload, 1) := by decide +kernel
theorem dX12_sends_165 : decode cX12_sends 165 = .ok (.iastore, 1) := by decide +kernel
theorem dX12_sends_166 : decode cX12_sends 166 = .ok (.aload_n 0, 1) := by decide +kernel
theorem dX12_sends_167 : decode cX12_sends 167 = .ok (.getfield 19, 3) := by decide +kernel
theorem dX12_sends_170 : decode cX12_sends 170 = .ok (.iload_n 1, 1) := by decide +kernel
theorem dX12_sends_171 : decode cX12_sends 171 = .ok (.lload_n 3, 1) := by decide +kernel
theorem dX12_sends_172 : decode cX12_sends 172 = .ok (.lastore, 1) := by decide +kernel
theorem dX12_sends_173 : decode cX12_sends 173 = .ok (.return_, 1) := by decide +kernel
theorem dX12_step_0 : decode cX12_step 0 = .ok (.aload_n 0, 1) := by decide +kernel
theorem dX12_step_1 : decode cX12_step 1 = .ok (.getfield 9, 3) := by decide +kernel
theorem dX12_step_4 : decode cX12_step 4 = .ok (.sipush 1847, 3) := by decide +kernel
theorem dX12_step_7 : decode cX12_step 7 = .ok (.dup2, 1) := by decide +kernel
theorem dX12_step_8 : decode cX12_step 8 = .ok (.iaload, 1) := by decide +kernel
theorem dX12_step_9 : decode cX12_step 9 = .ok (.iconst 1, 1) := by decide +kernel
theorem dX12_step_10 : decode cX12_step 10 = .ok (.iadd, 1) := by decide +kernel
theorem dX12_step_11 : decode cX12_step 11 = .ok (.iastore, 1) := by decide +kernel
theorem dX12_step_12 : decode cX12_step 12 = .ok (.iconst 0, 1) := by decide +kernel
theorem dX12_step_13 : decode cX12_step 13 = .ok (.istore_n 1, 1) := by decide +kernel
theorem dX12_step_14 : decode cX12_step 14 = .ok (.iload_n 1, 1) := by decide +kernel
theorem dX12_step_15 : decode cX12_step 15 = .ok (.bipush 60, 2) := by decide +kernel
theorem dX12_step_17 : decode cX12_step 17 = .ok (.if_icmp .ge 14, 3) := by decide +kernel
theorem dX12_step_20 : decode cX12_step 20 = .ok (.aload_n 0, 1) := by decide +kernel
theorem dX12_step_21 : decode cX12_step 21 = .ok (.iload_n 1, 1) := by decide +kernel
theorem dX12_step_22 : decode cX12_step 22 = .ok (.invokevirtual 145, 3) := by decide +kernel
theorem dX12_step_25 : decode cX12_step 25 = .ok (.iinc 1 1, 3) := by decide +kernel
theorem dX12_step_28 : decode cX12_step 28 = .ok (.goto (-14), 3) := by decide +kernel
theorem dX12_step_31 : decode cX12_step 31 = .ok (.aload_n 0, 1) := by decide +kernel
theorem dX12_step_32 : decode cX12_step 32 = .ok (.invokevirtual 148, 3) := by decide +kernel
theorem dX12_step_35 : decode cX12_step 35 = .ok (.lstore_n 1, 1) := by decide +kernel
theorem dX12_step_36 : decode cX12_step 36 = .ok (.aload_n 0, 1) := by decide +kernel
theorem dX12_step_37 : decode cX12_step 37 = .ok (.getfield 9, 3) := by decide +kernel
theorem dX12_step_40 : decode cX12_step 40 = .ok (.sipush 1848, 3) := by decide +kernel
theorem dX12_step_43 : decode cX12_step 43 = .ok (.iaload, 1) := by decide +kernel
theorem dX12_step_44 : decode cX12_step 44 = .ok (.istore_n 3, 1) := by decide +kernel
theorem dX12_step_45 : decode cX12_step 45 = .ok (.iconst 0, 1) := by decide +kernel
theorem dX12_step_46 : decode cX12_step 46 = .ok (.istore 4, 2) := by decide +kernel
theorem dX12_step_48 : decode cX12_step 48 = .ok (.iload 4, 2) := by decide +kernel
theorem dX12_step_50 : decode cX12_step 50 = .ok (.sipush 128, 3) := by decide +kernel
theorem dX12_step_53 : decode cX12_step 53 = .ok (.if_icmp .ge 191, 3) := by decide +kernel
theorem dX12_step_56 : decode cX12_step 56 = .ok (.aload_n 0, 1) := by decide +kernel
theorem dX12_step_57 : decode cX12_step 57 = .ok (.getfield 9, 3) := by decide +kernel
theorem dX12_step_60 : decode cX12_step 60 = .ok (.sipush 1586, 3) := by decide +kernel
theorem dX12_step_63 : decode cX12_step 63 = .ok (.iconst 2, 1) := by decide +kernel
theorem dX12_step_64 : decode cX12_step 64 = .ok (.iload 4, 2) := by decide +kernel
theorem dX12_step_66 : decode cX12_step 66 = .ok (.imul, 1) := by decide +kernel
theorem dX12_step_67 : decode cX12_step 67 = .ok (.iadd, 1) := by decide +kernel
theorem dX12_step_68 : decode cX12_step 68 = .ok (.iaload, 1) := by decide +kernel
theorem dX12_step_69 : decode cX12_step 69 = .ok (.iconst 1, 1) := by decide +kernel
theorem dX12_step_70 : decode cX12_step 70 = .ok (.if_icmp .ne 7, 3) := by decide +kernel
theorem dX12_step_73 : decode cX12_step 73 = .ok (.iconst 1, 1) := by decide +kernel
theorem dX12_step_74 : decode cX12_step 74 = .ok (.goto 4, 3) := by decide +kernel
theorem dX12_step_77 : decode cX12_step 77 = .ok (.iconst 0, 1) := by decide +kernel
theorem dX12_step_78 : decode cX12_step 78 = .ok (.istore 5, 2) := by decide +kernel
theorem dX12_step_80 : decode cX12_step 80 = .ok (.lload_n 1, 1) := by decide +kernel
theorem dX12_step_81 : decode cX12_step 81 = .ok (.lconst 0, 1) := by decide +kernel
theorem dX12_step_82 : decode cX12_step 82 = .ok (.lcmp, 1) := by decide +kernel
theorem dX12_step_83 : decode cX12_step 83 = .ok (.ifCond .ne 11, 3) := by decide +kernel
theorem dX12_step_86 : decode cX12_step 86 = .ok (.iload 5, 2) := by decide +kernel
theorem dX12_step_88 : decode cX12_step 88 = .ok (.ifCond .ne 6, 3) := by decide +kernel
theorem dX12_step_91 : decode cX12_step 91 = .ok (.goto 147, 3) := by decide +kernel
theorem dX12_step_94 : decode cX12_step 94 = .ok (.aload_n 0, 1) := by decide +kernel
theorem dX12_step_95 : decode cX12_step 95 = .ok (.lload_n 1, 1) := by decide +kernel
theorem dX12_step_96 : decode cX12_step 96 = .ok (.iload 4, 2) := by decide +kernel
theorem dX12_step_98 : decode cX12_step 98 = .ok (.invokevirtual 152, 3) := by decide +kernel
theorem dX12_step_101 : decode cX12_step 101 = .ok (.lstore 6, 2) := by decide +kernel
theorem dX12_step_103 : decode cX12_step 103 = .ok (.aload_n 0, 1) := by decide +kernel
theorem dX12_step_104 : decode cX12_step 104 = .ok (.getfield 9, 3) := by decide +kernel
theorem dX12_step_107 : decode cX12_step 107 = .ok (.sipush 1847, 3) := by decide +kernel
theorem dX12_step_110 : decode cX12_step 110 = .ok (.iaload, 1) := by decide +kernel
theorem dX12_step_111 : decode cX12_step 111 = .ok (.aload_n 0, 1) := by decide +kernel
theorem dX12_step_112 : decode cX12_step 112 = .ok (.getfield 9, 3) := by decide +kernel
theorem dX12_step_115 : decode cX12_step 115 = .ok (.sipush 1586, 3) := by decide +kernel
theorem dX12_step_118 : decode cX12_step 118 = .ok (.iconst 2, 1) := by decide +kernel
theorem dX12_step_119 : decode cX12_step 119 = .ok (.iload 4, 2) := by decide +kernel
theorem dX12_step_121 : decode cX12_step 121 = .ok (.imul, 1) := by decide +kernel
theorem dX12_step_122 : decode cX12_step 122 = .ok (.iadd, 1) := by decide +kernel
theorem dX12_step_123 : decode cX12_step 123 = .ok (.iconst 1, 1) := by decide +kernel
theorem dX12_step_124 : decode cX12_step 124 = .ok (.iadd, 1) := by decide +kernel
theorem dX12_step_125 : decode cX12_step 125 = .ok (.iaload, 1) := by decide +kernel
theorem dX12_step_126 : decode cX12_step 126 = .ok (.isub, 1) := by decide +kernel
theorem dX12_step_127 : decode cX12_step 127 = .ok (.istore 8, 2) := by decide +kernel
theorem dX12_step_129 : decode cX12_step 129 = .ok (.iload 5, 2) := by decide +kernel
theorem dX12_step_131 : decode cX12_step 131 = .ok (.ifCond .ne 22, 3) := by decide +kernel
theorem dX12_step_134 : decode cX12_step 134 = .ok (.lload 6, 2) := by decide +kernel
theorem dX12_step_136 : decode cX12_step 136 = .ok (.lconst 0, 1) := by decide +kernel
theorem dX12_step_137 : decode cX12_step 137 = .ok (.lcmp, 1) := by decide +kernel
theorem dX12_step_138 : decode cX12_step 138 = .ok (.ifCond .eq 100, 3) := by decide +kernel
theorem dX12_step_141 : decode cX12_step 141 = .ok (.aload_n 0, 1) := by decide +kernel
theorem dX12_step_142 : decode cX12_step 142 = .ok (.iload 4, 2) := by decide +kernel
theorem dX12_step_144 : decode cX12_step 144 = .ok (.iconst 0, 1) := by decide +kernel
theorem dX12_step_145 : decode cX12_step 145 = .ok (.lload 6, 2) := by decide +kernel
theorem dX12_step_147 : decode cX12_step 147 = .ok (.invokevirtual 156, 3) := by decide +kernel
theorem dX12_step_150 : decode cX12_step 150 = .ok (.goto 88, 3) := by decide +kernel
theorem dX12_step_153 : decode cX12_step 153 = .ok (.lload 6, 2) := by decide +kernel
theorem dX12_step_155 : decode cX12_step 155 = .ok (.aload_n 0, 1) := by decide +kernel
theorem dX12_step_156 : decode cX12_step 156 = .ok (.getfield 19, 3) := by decide +kernel
theorem dX12_step_159 : decode cX12_step 159 = .ok (.iload 4, 2) := by decide +kernel
theorem dX12_step_161 : decode cX12_step 161 = .ok (.laload, 1) := by decide +kernel
theorem dX12_step_162 : decode cX12_step 162 = .ok (.ldc2_w 160, 3) := by decide +kernel
theorem dX12_step_165 : decode cX12_step 165 = .ok (.lxor, 1) := by decide +kernel
theorem dX12_step_166 : decode cX12_step 166 = .ok (.land, 1) := by decide +kernel
theorem dX12_step_167 : decode cX12_step 167 = .ok (.lconst 0, 1) := by decide +kernel
theorem dX12_step_168 : decode cX12_step 168 = .ok (.lcmp, 1) := by decide +kernel
theorem dX12_step_169 : decode cX12_step 169 = .ok (.ifCond .eq 28, 3) := by decide +kernel
theorem dX12_step_172 : decode cX12_step 172 = .ok (.iload 8, 2) := by decide +kernel
theorem dX12_step_174 : decode cX12_step 174 = .ok (.aload_n 0, 1) := by decide +kernel
theorem dX12_step_175 : decode cX12_step 175 = .ok (.getfield 9, 3) := by decide +kernel
theorem dX12_step_178 : decode cX12_step 178 = .ok (.sipush 1842, 3) := by decide +kernel
theorem dX12_step_181 : decode cX12_step 181 = .ok (.iaload, 1) := by decide +kernel
theorem dX12_step_182 : decode cX12_step 182 = .ok (.if_icmp .lt 15, 3) := by decide +kernel
theorem dX12_step_185 : decode cX12_step 185 = .ok (.aload_n 0, 1) := by decide +kernel
theorem dX12_step_186 : decode cX12_step 186 = .ok (.iload 4, 2) := by decide +kernel
theorem dX12_step_188 : decode cX12_step 188 = .ok (.iconst 1, 1) := by decide +kernel
theorem dX12_step_189 : decode cX12_step 189 = .ok (.lload 6, 2) := by decide +kernel
theorem dX12_step_191 : decode cX12_step 191 = .ok (.invokevirtual 156, 3) := by decide +kernel
theorem dX12_step_194 : decode cX12_step 194 = .ok (.goto 44, 3) := by decide +kernel
theorem dX12_step_197 : decode cX12_step 197 = .ok (.lload 6, 2) := by decide +kernel
theorem dX12_step_199 : decode cX12_step 199 = .ok (.lconst 0, 1) := by decide +kernel
theorem dX12_step_200 : decode cX12_step 200 = .ok (.lcmp, 1) := by decide +kernel
theorem dX12_step_201 : decode cX12_step 201 = .ok (.ifCond .eq 28, 3) := by decide +kernel
theorem dX12_step_204 : decode cX12_step 204 = .ok (.iload 8, 2) := by decide +kernel
theorem dX12_step_206 : decode cX12_step 206 = .ok (.aload_n 0, 1) := by decide +kernel
theorem dX12_step_207 : decode cX12_step 207 = .ok (.getfield 9, 3) := by decide +kernel
theorem dX12_step_210 : decode cX12_step 210 = .ok (.sipush 1843, 3) := by decide +kernel
theorem dX12_step_213 : decode cX12_step 213 = .ok (.iaload, 1) := by decide +kernel
theorem dX12_step_214 : decode cX12_step 214 = .ok (.if_icmp .lt 24, 3) := by decide +kernel
theorem dX12_step_217 : decode cX12_step 217 = .ok (.aload_n 0, 1) := by decide +kernel
theorem dX12_step_218 : decode cX12_step 218 = .ok (.iload 4, 2) := by decide +kernel
theorem dX12_step_220 : decode cX12_step 220 = .ok (.iconst 2, 1) := by decide +kernel
theorem dX12_step_221 : decode cX12_step 221 = .ok (.lload 6, 2) := by decide +kernel
theorem dX12_step_223 : decode cX12_step 223 = .ok (.invokevirtual 156, 3) := by decide +kernel
theorem dX12_step_226 : decode cX12_step 226 = .ok (.goto 12, 3) := by decide +kernel
theorem dX12_step_229 : decode cX12_step 229 = .ok (.aload_n 0, 1) := by decide +kernel
theorem dX12_step_230 : decode cX12_step 230 = .ok (.iload 4, 2) := by decide +kernel
theorem dX12_step_232 : decode cX12_step 232 = .ok (.iconst 3, 1) := by decide +kernel
theorem dX12_step_233 : decode cX12_step 233 = .ok (.lload 6, 2) := by decide +kernel
theorem dX12_step_235 : decode cX12_step 235 = .ok (.invokevirtual 156, 3) := by decide +kernel
theorem dX12_step_238 : decode cX12_step 238 = .ok (.iinc 4 1, 3) := by decide +kernel
theorem dX12_step_241 : decode cX12_step 241 = .ok (.goto (-193), 3) := by decide +kernel
theorem dX12_step_244 : decode cX12_step 244 = .ok (.aload_n 0, 1) := by decide +kernel
theorem dX12_step_245 : decode cX12_step 245 = .ok (.getfield 9, 3) := by decide +kernel
theorem dX12_step_248 : decode cX12_step 248 = .ok (.sipush 1848, 3) := by decide +kernel
theorem dX12_step_251 : decode cX12_step 251 = .ok (.iaload, 1) := by decide +kernel
theorem dX12_step_252 : decode cX12_step 252 = .ok (.iload_n 3, 1) := by decide +kernel
theorem dX12_step_253 : decode cX12_step 253 = .ok (.isub, 1) := by decide +kernel
theorem dX12_step_254 : decode cX12_step 254 = .ok (.ireturn, 1) := by decide +kernel
theorem dX12_pass_0 : decode cX12_pass 0 = .ok (.iload_n 1, 1) := by decide +kernel
theorem dX12_pass_1 : decode cX12_pass 1 = .ok (.iconst 1, 1) := by decide +kernel
theorem dX12_pass_2 : decode cX12_pass 2 = .ok (.bipush 100, 2) := by decide +kernel
theorem dX12_pass_4 : decode cX12_pass 4 = .ok (.invokestatic 35, 3) := by decide +kernel
theorem dX12_pass_7 : decode cX12_pass 7 = .ok (.ifCond .ne 6, 3) := by decide +kernel
theorem dX12_pass_10 : decode cX12_pass 10 = .ok (.bipush (-2), 2) := by decide +kernel
theorem dX12_pass_12 : decode cX12_pass 12 = .ok (.ireturn, 1) := by decide +kernel
theorem dX12_pass_13 : decode cX12_pass 13 = .ok (.aload_n 0, 1) := by decide +kernel
theorem dX12_pass_14 : decode cX12_pass 14 = .ok (.getfield 9, 3) := by decide +kernel
theorem dX12_pass_17 : decode cX12_pass 17 = .ok (.sipush 1847, 3) := by decide +kernel
theorem dX12_pass_20 : decode cX12_pass 20 = .ok (.iaload, 1) := by decide +kernel
theorem dX12_pass_21 : decode cX12_pass 21 = .ok (.iload_n 1, 1) := by decide +kernel
theorem dX12_pass_22 : decode cX12_pass 22 = .ok (.iadd, 1) := by decide +kernel
theorem dX12_pass_23 : decode cX12_pass 23 = .ok (.ldc 162, 2) := by decide +kernel
theorem dX12_pass_25 : decode cX12_pass 25 = .ok (.if_icmp .le 6, 3) := by decide +kernel
theorem dX12_pass_28 : decode cX12_pass 28 = .ok (.bipush (-4), 2) := by decide +kernel
theorem dX12_pass_30 : decode cX12_pass 30 = .ok (.ireturn, 1) := by decide +kernel
theorem dX12_pass_31 : decode cX12_pass 31 = .ok (.iconst 0, 1) := by decide +kernel
theorem dX12_pass_32 : decode cX12_pass 32 = .ok (.istore_n 2, 1) := by decide +kernel
theorem dX12_pass_33 : decode cX12_pass 33 = .ok (.iconst 0, 1) := by decide +kernel
theorem dX12_pass_34 : decode cX12_pass 34 = .ok (.istore_n 3, 1) := by decide +kernel
theorem dX12_pass_35 : decode cX12_pass 35 = .ok (.iload_n 3, 1) := by decide +kernel
theorem dX12_pass_36 : decode cX12_pass 36 = .ok (.iload_n 1, 1) := by decide +kernel
theorem dX12_pass_37 : decode cX12_pass 37 = .ok (.if_icmp .ge 16, 3) := by decide +kernel
theorem dX12_pass_40 : decode cX12_pass 40 = .ok (.iload_n 2, 1) := by decide +kernel
theorem dX12_pass_41 : decode cX12_pass 41 = .ok (.aload_n 0, 1) := by decide +kernel
theorem dX12_pass_42 : decode cX12_pass 42 = .ok (.invokevirtual 163, 3) := by decide +kernel
theorem dX12_pass_45 : decode cX12_pass 45 = .ok (.iadd, 1) := by decide +kernel
theorem dX12_pass_46 : decode cX12_pass 46 = .ok (.istore_n 2, 1) := by decide +kernel
theorem dX12_pass_47 : decode cX12_pass 47 = .ok (.iinc 3 1, 3) := by decide +kernel
theorem dX12_pass_50 : decode cX12_pass 50 = .ok (.goto (-15), 3) := by decide +kernel
theorem dX12_pass_53 : decode cX12_pass 53 = .ok (.iload_n 2, 1) := by decide +kernel
theorem dX12_pass_54 : decode cX12_pass 54 = .ok (.ireturn, 1) := by decide +kernel
theorem dX12_alert_0 : decode cX12_alert 0 = .ok (.aload_n 0, 1) := by decide +kernel
theorem dX12_alert_1 : decode cX12_alert 1 = .ok (.iconst 0, 1) := by decide +kernel
theorem dX12_alert_2 : decode cX12_alert 2 = .ok (.iload_n 1, 1) := by decide +kernel
theorem dX12_alert_3 : decode cX12_alert 3 = .ok (.invokevirtual 82, 3) := by decide +kernel
theorem dX12_alert_6 : decode cX12_alert 6 = .ok (.ifCond .eq 23, 3) := by decide +kernel
theorem dX12_alert_9 : decode cX12_alert 9 = .ok (.iload_n 2, 1) := by decide +kernel
theorem dX12_alert_10 : decode cX12_alert 10 = .ok (.iconst 0, 1) := by decide +kernel
theorem dX12_alert_11 : decode cX12_alert 11 = .ok (.bipush 11, 2) := by decide +kernel
theorem dX12_alert_13 : decode cX12_alert 13 = .ok (.invokestatic 35, 3) := by decide +kernel
theorem dX12_alert_16 : decode cX12_alert 16 = .ok (.ifCond .eq 13, 3) := by decide +kernel
theorem dX12_alert_19 : decode cX12_alert 19 = .ok (.iload_n 3, 1) := by decide +kernel
theorem dX12_alert_20 : decode cX12_alert 20 = .ok (.iconst 0, 1) := by decide +kernel
theorem dX12_alert_21 : decode cX12_alert 21 = .ok (.bipush 10, 2) := by decide +kernel
theorem dX12_alert_23 : decode cX12_alert 23 = .ok (.invokestatic 35, 3) := by decide +kernel
theorem dX12_alert_26 : decode cX12_alert 26 = .ok (.ifCond .ne 5, 3) := by decide +kernel
theorem dX12_alert_29 : decode cX12_alert 29 = .ok (.iconst (-1), 1) := by decide +kernel
theorem dX12_alert_30 : decode cX12_alert 30 = .ok (.ireturn, 1) := by decide +kernel
theorem dX12_alert_31 : decode cX12_alert 31 = .ok (.bipush 12, 2) := by decide +kernel
theorem dX12_alert_33 : decode cX12_alert 33 = .ok (.iload_n 1, 1) := by decide +kernel
theorem dX12_alert_34 : decode cX12_alert 34 = .ok (.imul, 1) := by decide +kernel
theorem dX12_alert_35 : decode cX12_alert 35 = .ok (.iload_n 2, 1) := by decide +kernel
theorem dX12_alert_36 : decode cX12_alert 36 = .ok (.iadd, 1) := by decide +kernel
theorem dX12_alert_37 : decode cX12_alert 37 = .ok (.istore 4, 2) := by decide +kernel
theorem dX12_alert_39 : decode cX12_alert 39 = .ok (.iload_n 3, 1) := by decide +kernel
theorem dX12_alert_40 : decode cX12_alert 40 = .ok (.tableswitch 182 0 9 #[56, 63, 94, 109, 124, 139, 154, 161, 168, 175], 56) := by decide +kernel
theorem dX12_alert_96 : decode cX12_alert 96 = .ok (.aload_n 0, 1) := by decide +kernel
theorem dX12_alert_97 : decode cX12_alert 97 = .ok (.iload 4, 2) := by decide +kernel
theorem dX12_alert_99 : decode cX12_alert 99 = .ok (.invokevirtual 104, 3) := by decide +kernel
theorem dX12_alert_102 : decode cX12_alert 102 = .ok (.ireturn, 1) := by decide +kernel
theorem dX12_alert_103 : decode cX12_alert 103 = .ok (.aload_n 0, 1) := by decide +kernel
theorem dX12_alert_104 : decode cX12_alert 104 = .ok (.iload 4, 2) := by decide +kernel
theorem dX12_alert_106 : decode cX12_alert 106 = .ok (.invokevirtual 104, 3) := by decide +kernel
theorem dX12_alert_109 : decode cX12_alert 109 = .ok (.ifCond .ne 8, 3) := by decide +kernel
theorem dX12_alert_112 : decode cX12_alert 112 = .ok (.bipush (-5), 2) := by decide +kernel
theorem dX12_alert_114 : decode cX12_alert 114 = .ok (.goto 19, 3) := by decide +kernel
theorem dX12_alert_117 : decode cX12_alert 117 = .ok (.aload_n 0, 1) := by decide +kernel
theorem dX12_alert_118 : decode cX12_alert 118 = .ok (.getfield 9, 3) := by decide +kernel
theorem dX12_alert_121 : decode cX12_alert 121 = .ok (.sipush 206, 3) := by decide +kernel
theorem dX12_alert_124 : decode cX12_alert 124 = .ok (.bipush 23, 2) := by decide +kernel
theorem dX12_alert_126 : decode cX12_alert 126 = .ok (.iload 4, 2) := by decide +kernel
theorem dX12_alert_128 : decode cX12_alert 128 = .ok (.imul, 1) := by decide +kernel
theorem dX12_alert_129 : decode cX12_alert 129 = .ok (.iadd, 1) := by decide +kernel
theorem dX12_alert_130 : decode cX12_alert 130 = .ok (.iconst 1, 1) := by decide +kernel
theorem dX12_alert_131 : decode cX12_alert 131 = .ok (.iadd, 1) := by decide +kernel
theorem dX12_alert_132 : decode cX12_alert 132 = .ok (.iaload, 1) := by decide +kernel
theorem dX12_alert_133 : decode cX12_alert 133 = .ok (.ireturn, 1) := by decide +kernel
theorem dX12_alert_134 : decode cX12_alert 134 = .ok (.aload_n 0, 1) := by decide +kernel
theorem dX12_alert_135 : decode cX12_alert 135 = .ok (.iload 4, 2) := by decide +kernel
theorem dX12_alert_137 : decode cX12_alert 137 = .ok (.invokevirtual 113, 3) := by decide +kernel
theorem dX12_alert_140 : decode cX12_alert 140 = .ok (.ifCond .lt 7, 3) := by decide +kernel
theorem dX12_alert_143 : decode cX12_alert 143 = .ok (.iconst 1, 1) := by decide +kernel
theorem dX12_alert_144 : decode cX12_alert 144 = .ok (.goto 4, 3) := by decide +kernel
theorem dX12_alert_147 : decode cX12_alert 147 = .ok (.iconst 0, 1) := by decide +kernel
theorem dX12_alert_148 : decode cX12_alert 148 = .ok (.ireturn, 1) := by decide +kernel
theorem dX12_alert_149 : decode cX12_alert 149 = .ok (.aload_n 0, 1) := by decide +kernel
theorem dX12_alert_150 : decode cX12_alert 150 = .ok (.iload 4, 2) := by decide +kernel
theorem dX12_alert_152 : decode cX12_alert 152 = .ok (.invokevirtual 120, 3) := by decide +kernel
theorem dX12_alert_155 : decode cX12_alert 155 = .ok (.ifCond .lt 7, 3) := by decide +kernel
theorem dX12_alert_158 : decode cX12_alert 158 = .ok (.iconst 1, 1) := by decide +kernel
theorem dX12_alert_159 : decode cX12_alert 159 = .ok (.goto 4, 3) := by decide +kernel
theorem dX12_alert_162 : decode cX12_alert 162 = .ok (.iconst 0, 1) := by decide +kernel
theorem dX12_alert_163 : decode cX12_alert 163 = .ok (.ireturn, 1) := by decide +kernel
theorem dX12_alert_164 : decode cX12_alert 164 = .ok (.aload_n 0, 1) := by decide +kernel
theorem dX12_alert_165 : decode cX12_alert 165 = .ok (.iload 4, 2) := by decide +kernel
theorem dX12_alert_167 : decode cX12_alert 167 = .ok (.invokevirtual 116, 3) := by decide +kernel
theorem dX12_alert_170 : decode cX12_alert 170 = .ok (.ifCond .eq 7, 3) := by decide +kernel
theorem dX12_alert_173 : decode cX12_alert 173 = .ok (.iconst 1, 1) := by decide +kernel
theorem dX12_alert_174 : decode cX12_alert 174 = .ok (.goto 4, 3) := by decide +kernel
theorem dX12_alert_177 : decode cX12_alert 177 = .ok (.iconst 0, 1) := by decide +kernel
theorem dX12_alert_178 : decode cX12_alert 178 = .ok (.ireturn, 1) := by decide +kernel
theorem dX12_alert_179 : decode cX12_alert 179 = .ok (.aload_n 0, 1) := by decide +kernel
theorem dX12_alert_180 : decode cX12_alert 180 = .ok (.iload 4, 2) := by decide +kernel
theorem dX12_alert_182 : decode cX12_alert 182 = .ok (.invokevirtual 123, 3) := by decide +kernel
theorem dX12_alert_185 : decode cX12_alert 185 = .ok (.ifCond .eq 7, 3) := by decide +kernel
theorem dX12_alert_188 : decode cX12_alert 188 = .ok (.iconst 1, 1) := by decide +kernel
theorem dX12_alert_189 : decode cX12_alert 189 = .ok (.goto 4, 3) := by decide +kernel
theorem dX12_alert_192 : decode cX12_alert 192 = .ok (.iconst 0, 1) := by decide +kernel
theorem dX12_alert_193 : decode cX12_alert 193 = .ok (.ireturn, 1) := by decide +kernel
theorem dX12_alert_194 : decode cX12_alert 194 = .ok (.aload_n 0, 1) := by decide +kernel
theorem dX12_alert_195 : decode cX12_alert 195 = .ok (.iload 4, 2) := by decide +kernel
theorem dX12_alert_197 : decode cX12_alert 197 = .ok (.invokevirtual 110, 3) := by decide +kernel
theorem dX12_alert_200 : decode cX12_alert 200 = .ok (.ireturn, 1) := by decide +kernel
theorem dX12_alert_201 : decode cX12_alert 201 = .ok (.aload_n 0, 1) := by decide +kernel
theorem dX12_alert_202 : decode cX12_alert 202 = .ok (.iload 4, 2) := by decide +kernel
theorem dX12_alert_204 : decode cX12_alert 204 = .ok (.invokevirtual 126, 3) := by decide +kernel
theorem dX12_alert_207 : decode cX12_alert 207 = .ok (.ireturn, 1) := by decide +kernel
theorem dX12_alert_208 : decode cX12_alert 208 = .ok (.aload_n 0, 1) := by decide +kernel
theorem dX12_alert_209 : decode cX12_alert 209 = .ok (.iload 4, 2) := by decide +kernel
theorem dX12_alert_211 : decode cX12_alert 211 = .ok (.invokevirtual 113, 3) := by decide +kernel
theorem dX12_alert_214 : decode cX12_alert 214 = .ok (.ireturn, 1) := by decide +kernel
theorem dX12_alert_215 : decode cX12_alert 215 = .ok (.aload_n 0, 1) := by decide +kernel
theorem dX12_alert_216 : decode cX12_alert 216 = .ok (.iload 4, 2) := by decide +kernel
theorem dX12_alert_218 : decode cX12_alert 218 = .ok (.invokevirtual 120, 3) := by decide +kernel
theorem dX12_alert_221 : decode cX12_alert 221 = .ok (.ireturn, 1) := by decide +kernel
theorem dX12_alert_222 : decode cX12_alert 222 = .ok (.aload_n 0, 1) := by decide +kernel
theorem dX12_alert_223 : decode cX12_alert 223 = .ok (.iload 4, 2) := by decide +kernel
theorem dX12_alert_225 : decode cX12_alert 225 = .ok (.invokevirtual 132, 3) := by decide +kernel
theorem dX12_alert_228 : decode cX12_alert 228 = .ok (.ifCond .eq 7, 3) := by decide +kernel
theorem dX12_alert_231 : decode cX12_alert 231 = .ok (.iconst 1, 1) := by decide +kernel
theorem dX12_alert_232 : decode cX12_alert 232 = .ok (.goto 4, 3) := by decide +kernel
theorem dX12_alert_235 : decode cX12_alert 235 = .ok (.iconst 0, 1) := by decide +kernel
theorem dX12_alert_236 : decode cX12_alert 236 = .ok (.ireturn, 1) := by decide +kernel
theorem dX12_isOf_0 : decode cX12_isOf 0 = .ok (.iload_n 2, 1) := by decide +kernel
theorem dX12_isOf_1 : decode cX12_isOf 1 = .ok (.tableswitch 135 0 5 #[39, 54, 69, 92, 106, 129], 39) := by decide +kernel
theorem dX12_isOf_40 : decode cX12_isOf 40 = .ok (.aload_n 0, 1) := by decide +kernel
theorem dX12_isOf_41 : decode cX12_isOf 41 = .ok (.iload_n 1, 1) := by decide +kernel
theorem dX12_isOf_42 : decode cX12_isOf 42 = .ok (.invokevirtual 104, 3) := by decide +kernel
theorem dX12_isOf_45 : decode cX12_isOf 45 = .ok (.iconst 1, 1) := by decide +kernel
theorem dX12_isOf_46 : decode cX12_isOf 46 = .ok (.if_icmp .ne 7, 3) := by decide +kernel
theorem dX12_isOf_49 : decode cX12_isOf 49 = .ok (.iconst 1, 1) := by decide +kernel
theorem dX12_isOf_50 : decode cX12_isOf 50 = .ok (.goto 4, 3) := by decide +kernel
theorem dX12_isOf_53 : decode cX12_isOf 53 = .ok (.iconst 0, 1) := by decide +kernel
theorem dX12_isOf_54 : decode cX12_isOf 54 = .ok (.ireturn, 1) := by decide +kernel
theorem dX12_isOf_55 : decode cX12_isOf 55 = .ok (.aload_n 0, 1) := by decide +kernel
theorem dX12_isOf_56 : decode cX12_isOf 56 = .ok (.iload_n 1, 1) := by decide +kernel
theorem dX12_isOf_57 : decode cX12_isOf 57 = .ok (.invokevirtual 104, 3) := by decide +kernel
theorem dX12_isOf_60 : decode cX12_isOf 60 = .ok (.iconst 2, 1) := by decide +kernel
theorem dX12_isOf_61 : decode cX12_isOf 61 = .ok (.if_icmp .ne 7, 3) := by decide +kernel
theorem dX12_isOf_64 : decode cX12_isOf 64 = .ok (.iconst 1, 1) := by decide +kernel
theorem dX12_isOf_65 : decode cX12_isOf 65 = .ok (.goto 4, 3) := by decide +kernel
theorem dX12_isOf_68 : decode cX12_isOf 68 = .ok (.iconst 0, 1) := by decide +kernel
theorem dX12_isOf_69 : decode cX12_isOf 69 = .ok (.ireturn, 1) := by decide +kernel
theorem dX12_isOf_70 : decode cX12_isOf 70 = .ok (.aload_n 0, 1) := by decide +kernel
theorem dX12_isOf_71 : decode cX12_isOf 71 = .ok (.iload_n 1, 1) := by decide +kernel
theorem dX12_isOf_72 : decode cX12_isOf 72 = .ok (.invokevirtual 104, 3) := by decide +kernel
theorem dX12_isOf_75 : decode cX12_isOf 75 = .ok (.iconst 2, 1) := by decide +kernel
theorem dX12_isOf_76 : decode cX12_isOf 76 = .ok (.if_icmp .ne 15, 3) := by decide +kernel
theorem dX12_isOf_79 : decode cX12_isOf 79 = .ok (.aload_n 0, 1) := by decide +kernel
theorem dX12_isOf_80 : decode cX12_isOf 80 = .ok (.iload_n 1, 1) := by decide +kernel
theorem dX12_isOf_81 : decode cX12_isOf 81 = .ok (.invokevirtual 113, 3) := by decide +kernel
theorem dX12_isOf_84 : decode cX12_isOf 84 = .ok (.ifCond .lt 7, 3) := by decide +kernel
theorem dX12_isOf_87 : decode cX12_isOf 87 = .ok (.iconst 1, 1) := by decide +kernel
theorem dX12_isOf_88 : decode cX12_isOf 88 = .ok (.goto 4, 3) := by decide +kernel
theorem dX12_isOf_91 : decode cX12_isOf 91 = .ok (.iconst 0, 1) := by decide +kernel
theorem dX12_isOf_92 : decode cX12_isOf 92 = .ok (.ireturn, 1) := by decide +kernel
theorem dX12_isOf_93 : decode cX12_isOf 93 = .ok (.aload_n 0, 1) := by decide +kernel
theorem dX12_isOf_94 : decode cX12_isOf 94 = .ok (.iload_n 1, 1) := by decide +kernel
theorem dX12_isOf_95 : decode cX12_isOf 95 = .ok (.invokevirtual 120, 3) := by decide +kernel
theorem dX12_isOf_98 : decode cX12_isOf 98 = .ok (.ifCond .lt 7, 3) := by decide +kernel
theorem dX12_isOf_101 : decode cX12_isOf 101 = .ok (.iconst 1, 1) := by decide +kernel
theorem dX12_isOf_102 : decode cX12_isOf 102 = .ok (.goto 4, 3) := by decide +kernel
theorem dX12_isOf_105 : decode cX12_isOf 105 = .ok (.iconst 0, 1) := by decide +kernel
theorem dX12_isOf_106 : decode cX12_isOf 106 = .ok (.ireturn, 1) := by decide +kernel
theorem dX12_isOf_107 : decode cX12_isOf 107 = .ok (.aload_n 0, 1) := by decide +kernel
theorem dX12_isOf_108 : decode cX12_isOf 108 = .ok (.iload_n 1, 1) := by decide +kernel
theorem dX12_isOf_109 : decode cX12_isOf 109 = .ok (.invokevirtual 104, 3) := by decide +kernel
theorem dX12_isOf_112 : decode cX12_isOf 112 = .ok (.iconst 2, 1) := by decide +kernel
theorem dX12_isOf_113 : decode cX12_isOf 113 = .ok (.if_icmp .ne 15, 3) := by decide +kernel
theorem dX12_isOf_116 : decode cX12_isOf 116 = .ok (.aload_n 0, 1) := by decide +kernel
theorem dX12_isOf_117 : decode cX12_isOf 117 = .ok (.iload_n 1, 1) := by decide +kernel
theorem dX12_isOf_118 : decode cX12_isOf 118 = .ok (.invokevirtual 116, 3) := by decide +kernel
theorem dX12_isOf_121 : decode cX12_isOf 121 = .ok (.ifCond .eq 7, 3) := by decide +kernel
theorem dX12_isOf_124 : decode cX12_isOf 124 = .ok (.iconst 1, 1) := by decide +kernel
theorem dX12_isOf_125 : decode cX12_isOf 125 = .ok (.goto 4, 3) := by decide +kernel
theorem dX12_isOf_128 : decode cX12_isOf 128 = .ok (.iconst 0, 1) := by decide +kernel
theorem dX12_isOf_129 : decode cX12_isOf 129 = .ok (.ireturn, 1) := by decide +kernel
theorem dX12_isOf_130 : decode cX12_isOf 130 = .ok (.aload_n 0, 1) := by decide +kernel
theorem dX12_isOf_131 : decode cX12_isOf 131 = .ok (.iload_n 1, 1) := by decide +kernel
theorem dX12_isOf_132 : decode cX12_isOf 132 = .ok (.invokevirtual 123, 3) := by decide +kernel
theorem dX12_isOf_135 : decode cX12_isOf 135 = .ok (.ireturn, 1) := by decide +kernel
theorem dX12_isOf_136 : decode cX12_isOf 136 = .ok (.aload_n 0, 1) := by decide +kernel
theorem dX12_isOf_137 : decode cX12_isOf 137 = .ok (.iload_n 1, 1) := by decide +kernel
theorem dX12_isOf_138 : decode cX12_isOf 138 = .ok (.invokevirtual 132, 3) := by decide +kernel
theorem dX12_isOf_141 : decode cX12_isOf 141 = .ok (.ireturn, 1) := by decide +kernel
theorem dX12_alerts_0 : decode cX12_alerts 0 = .ok (.iload_n 1, 1) := by decide +kernel
theorem dX12_alerts_1 : decode cX12_alerts 1 = .ok (.iconst 0, 1) := by decide +kernel
theorem dX12_alerts_2 : decode cX12_alerts 2 = .ok (.bipush 6, 2) := by decide +kernel
theorem dX12_alerts_4 : decode cX12_alerts 4 = .ok (.invokestatic 35, 3) := by decide +kernel
theorem dX12_alerts_7 : decode cX12_alerts 7 = .ok (.ifCond .ne 7, 3) := by decide +kernel
theorem dX12_alerts_10 : decode cX12_alerts 10 = .ok (.ldc2_w 160, 3) := by decide +kernel
theorem dX12_alerts_13 : decode cX12_alerts 13 = .ok (.lreturn, 1) := by decide +kernel
theorem dX12_alerts_14 : decode cX12_alerts 14 = .ok (.lconst 0, 1) := by decide +kernel
theorem dX12_alerts_15 : decode cX12_alerts 15 = .ok (.lstore_n 2, 1) := by decide +kernel
theorem dX12_alerts_16 : decode cX12_alerts 16 = .ok (.iconst 0, 1) := by decide +kernel
theorem dX12_alerts_17 : decode cX12_alerts 17 = .ok (.istore 4, 2) := by decide +kernel
theorem dX12_alerts_19 : decode cX12_alerts 19 = .ok (.iload 4, 2) := by decide +kernel
theorem dX12_alerts_21 : decode cX12_alerts 21 = .ok (.bipush 60, 2) := by decide +kernel
theorem dX12_alerts_23 : decode cX12_alerts 23 = .ok (.if_icmp .ge 30, 3) := by decide +kernel
theorem dX12_alerts_26 : decode cX12_alerts 26 = .ok (.lload_n 2, 1) := by decide +kernel
theorem dX12_alerts_27 : decode cX12_alerts 27 = .ok (.aload_n 0, 1) := by decide +kernel
theorem dX12_alerts_28 : decode cX12_alerts 28 = .ok (.iload 4, 2) := by decide +kernel
theorem dX12_alerts_30 : decode cX12_alerts 30 = .ok (.iload_n 1, 1) := by decide +kernel
theorem dX12_alerts_31 : decode cX12_alerts 31 = .ok (.invokevirtual 166, 3) := by decide +kernel
theorem dX12_alerts_34 : decode cX12_alerts 34 = .ok (.ifCond .eq 10, 3) := by decide +kernel
theorem dX12_alerts_37 : decode cX12_alerts 37 = .ok (.lconst 1, 1) := by decide +kernel
theorem dX12_alerts_38 : decode cX12_alerts 38 = .ok (.iload 4, 2) := by decide +kernel
theorem dX12_alerts_40 : decode cX12_alerts 40 = .ok (.lshl, 1) := by decide +kernel
theorem dX12_alerts_41 : decode cX12_alerts 41 = .ok (.goto 4, 3) := by decide +kernel
theorem dX12_alerts_44 : decode cX12_alerts 44 = .ok (.lconst 0, 1) := by decide +kernel
theorem dX12_alerts_45 : decode cX12_alerts 45 = .ok (.lor, 1) := by decide +kernel
theorem dX12_alerts_46 : decode cX12_alerts 46 = .ok (.lstore_n 2, 1) := by decide +kernel
theorem dX12_alerts_47 : decode cX12_alerts 47 = .ok (.iinc 4 1, 3) := by decide +kernel
theorem dX12_alerts_50 : decode cX12_alerts 50 = .ok (.goto (-31), 3) := by decide +kernel
theorem dX12_alerts_53 : decode cX12_alerts 53 = .ok (.lload_n 2, 1) := by decide +kernel
theorem dX12_alerts_54 : decode cX12_alerts 54 = .ok (.lreturn, 1) := by decide +kernel
theorem dX12_later_0 : decode cX12_later 0 = .ok (.iload_n 1, 1) := by decide +kernel
theorem dX12_later_1 : decode cX12_later 1 = .ok (.aload_n 0, 1) := by decide +kernel
theorem dX12_later_2 : decode cX12_later 2 = .ok (.getfield 9, 3) := by decide +kernel
theorem dX12_later_5 : decode cX12_later 5 = .ok (.sipush 1847, 3) := by decide +kernel
theorem dX12_later_8 : decode cX12_later 8 = .ok (.iaload, 1) := by decide +kernel
theorem dX12_later_9 : decode cX12_later 9 = .ok (.if_icmp .le 7, 3) := by decide +kernel
theorem dX12_later_12 : decode cX12_later 12 = .ok (.iload_n 1, 1) := by decide +kernel
theorem dX12_later_13 : decode cX12_later 13 = .ok (.goto 13, 3) := by decide +kernel
theorem dX12_later_16 : decode cX12_later 16 = .ok (.aload_n 0, 1) := by decide +kernel
theorem dX12_later_17 : decode cX12_later 17 = .ok (.getfield 9, 3) := by decide +kernel
theorem dX12_later_20 : decode cX12_later 20 = .ok (.sipush 1847, 3) := by decide +kernel
theorem dX12_later_23 : decode cX12_later 23 = .ok (.iaload, 1) := by decide +kernel
theorem dX12_later_24 : decode cX12_later 24 = .ok (.iconst 1, 1) := by decide +kernel
theorem dX12_later_25 : decode cX12_later 25 = .ok (.iadd, 1) := by decide +kernel
theorem dX12_later_26 : decode cX12_later 26 = .ok (.ireturn, 1) := by decide +kernel
theorem dX12_group_0 : decode cX12_group 0 = .ok (.iload_n 1, 1) := by decide +kernel
theorem dX12_group_1 : decode cX12_group 1 = .ok (.iconst 0, 1) := by decide +kernel
theorem dX12_group_2 : decode cX12_group 2 = .ok (.bipush 127, 2) := by decide +kernel
theorem dX12_group_4 : decode cX12_group 4 = .ok (.invokestatic 35, 3) := by decide +kernel
theorem dX12_group_7 : decode cX12_group 7 = .ok (.ifCond .eq 12, 3) := by decide +kernel
theorem dX12_group_10 : decode cX12_group 10 = .ok (.iload_n 2, 1) := by decide +kernel
theorem dX12_group_11 : decode cX12_group 11 = .ok (.iconst 0, 1) := by decide +kernel
theorem dX12_group_12 : decode cX12_group 12 = .ok (.iconst 4, 1) := by decide +kernel
theorem dX12_group_13 : decode cX12_group 13 = .ok (.invokestatic 35, 3) := by decide +kernel
theorem dX12_group_16 : decode cX12_group 16 = .ok (.ifCond .ne 5, 3) := by decide +kernel
theorem dX12_group_19 : decode cX12_group 19 = .ok (.iconst (-1), 1) := by decide +kernel
theorem dX12_group_20 : decode cX12_group 20 = .ok (.ireturn, 1) := by decide +kernel
theorem dX12_group_21 : decode cX12_group 21 = .ok (.aload_n 0, 1) := by decide +kernel
theorem dX12_group_22 : decode cX12_group 22 = .ok (.getfield 9, 3) := by decide +kernel
theorem dX12_group_25 : decode cX12_group 25 = .ok (.sipush 1586, 3) := by decide +kernel
theorem dX12_group_28 : decode cX12_group 28 = .ok (.iconst 2, 1) := by decide +kernel
theorem dX12_group_29 : decode cX12_group 29 = .ok (.iload_n 1, 1) := by decide +kernel
theorem dX12_group_30 : decode cX12_group 30 = .ok (.imul, 1) := by decide +kernel
theorem dX12_group_31 : decode cX12_group 31 = .ok (.iadd, 1) := by decide +kernel
theorem dX12_group_32 : decode cX12_group 32 = .ok (.iaload, 1) := by decide +kernel
theorem dX12_group_33 : decode cX12_group 33 = .ok (.iconst 1, 1) := by decide +kernel
theorem dX12_group_34 : decode cX12_group 34 = .ok (.if_icmp .ne 7, 3) := by decide +kernel
theorem dX12_group_37 : decode cX12_group 37 = .ok (.iconst 1, 1) := by decide +kernel
theorem dX12_group_38 : decode cX12_group 38 = .ok (.goto 4, 3) := by decide +kernel
theorem dX12_group_41 : decode cX12_group 41 = .ok (.iconst 0, 1) := by decide +kernel
theorem dX12_group_42 : decode cX12_group 42 = .ok (.istore_n 3, 1) := by decide +kernel
theorem dX12_group_43 : decode cX12_group 43 = .ok (.aload_n 0, 1) := by decide +kernel
theorem dX12_group_44 : decode cX12_group 44 = .ok (.getfield 9, 3) := by decide +kernel
theorem dX12_group_47 : decode cX12_group 47 = .ok (.sipush 1586, 3) := by decide +kernel
theorem dX12_group_50 : decode cX12_group 50 = .ok (.iconst 2, 1) := by decide +kernel
theorem dX12_group_51 : decode cX12_group 51 = .ok (.iload_n 1, 1) := by decide +kernel
theorem dX12_group_52 : decode cX12_group 52 = .ok (.imul, 1) := by decide +kernel
theorem dX12_group_53 : decode cX12_group 53 = .ok (.iadd, 1) := by decide +kernel
theorem dX12_group_54 : decode cX12_group 54 = .ok (.iconst 1, 1) := by decide +kernel
theorem dX12_group_55 : decode cX12_group 55 = .ok (.iadd, 1) := by decide +kernel
theorem dX12_group_56 : decode cX12_group 56 = .ok (.iaload, 1) := by decide +kernel
theorem dX12_group_57 : decode cX12_group 57 = .ok (.istore 4, 2) := by decide +kernel
theorem dX12_group_59 : decode cX12_group 59 = .ok (.iload_n 2, 1) := by decide +kernel
theorem dX12_group_60 : decode cX12_group 60 = .ok (.ifCond .ne 13, 3) := by decide +kernel
theorem dX12_group_63 : decode cX12_group 63 = .ok (.iload_n 3, 1) := by decide +kernel
theorem dX12_group_64 : decode cX12_group 64 = .ok (.ifCond .eq 7, 3) := by decide +kernel
theorem dX12_group_67 : decode cX12_group 67 = .ok (.iconst 1, 1) := by decide +kernel
theorem dX12_group_68 : decode cX12_group 68 = .ok (.goto 4, 3) := by decide +kernel
theorem dX12_group_71 : decode cX12_group 71 = .ok (.iconst 0, 1) := by decide +kernel
theorem dX12_group_72 : decode cX12_group 72 = .ok (.ireturn, 1) := by decide +kernel
theorem dX12_group_73 : decode cX12_group 73 = .ok (.iload_n 2, 1) := by decide +kernel
theorem dX12_group_74 : decode cX12_group 74 = .ok (.iconst 1, 1) := by decide +kernel
theorem dX12_group_75 : decode cX12_group 75 = .ok (.if_icmp .ne 15, 3) := by decide +kernel
theorem dX12_group_78 : decode cX12_group 78 = .ok (.iload_n 3, 1) := by decide +kernel
theorem dX12_group_79 : decode cX12_group 79 = .ok (.ifCond .eq 8, 3) := by decide +kernel
theorem dX12_group_82 : decode cX12_group 82 = .ok (.iload 4, 2) := by decide +kernel
theorem dX12_group_84 : decode cX12_group 84 = .ok (.goto 5, 3) := by decide +kernel
theorem dX12_group_87 : decode cX12_group 87 = .ok (.bipush (-5), 2) := by decide +kernel
theorem dX12_group_89 : decode cX12_group 89 = .ok (.ireturn, 1) := by decide +kernel
theorem dX12_group_90 : decode cX12_group 90 = .ok (.aload_n 0, 1) := by decide +kernel
theorem dX12_group_91 : decode cX12_group 91 = .ok (.aload_n 0, 1) := by decide +kernel
theorem dX12_group_92 : decode cX12_group 92 = .ok (.invokevirtual 148, 3) := by decide +kernel
theorem dX12_group_95 : decode cX12_group 95 = .ok (.iload_n 1, 1) := by decide +kernel
theorem dX12_group_96 : decode cX12_group 96 = .ok (.invokevirtual 152, 3) := by decide +kernel
theorem dX12_group_99 : decode cX12_group 99 = .ok (.lstore 5, 2) := by decide +kernel
theorem dX12_group_101 : decode cX12_group 101 = .ok (.iload_n 3, 1) := by decide +kernel
theorem dX12_group_102 : decode cX12_group 102 = .ok (.ifCond .eq 19, 3) := by decide +kernel
theorem dX12_group_105 : decode cX12_group 105 = .ok (.lload 5, 2) := by decide +kernel
theorem dX12_group_107 : decode cX12_group 107 = .ok (.aload_n 0, 1) := by decide +kernel
theorem dX12_group_108 : decode cX12_group 108 = .ok (.getfield 19, 3) := by decide +kernel
theorem dX12_group_111 : decode cX12_group 111 = .ok (.iload_n 1, 1) := by decide +kernel
theorem dX12_group_112 : decode cX12_group 112 = .ok (.laload, 1) := by decide +kernel
theorem dX12_group_113 : decode cX12_group 113 = .ok (.ldc2_w 160, 3) := by decide +kernel
theorem dX12_group_116 : decode cX12_group 116 = .ok (.lxor, 1) := by decide +kernel
theorem dX12_group_117 : decode cX12_group 117 = .ok (.land, 1) := by decide +kernel
theorem dX12_group_118 : decode cX12_group 118 = .ok (.goto 5, 3) := by decide +kernel
theorem dX12_group_121 : decode cX12_group 121 = .ok (.lload 5, 2) := by decide +kernel
theorem dX12_group_123 : decode cX12_group 123 = .ok (.lstore 7, 2) := by decide +kernel
theorem dX12_group_125 : decode cX12_group 125 = .ok (.iload_n 2, 1) := by decide +kernel
theorem dX12_group_126 : decode cX12_group 126 = .ok (.iconst 4, 1) := by decide +kernel
theorem dX12_group_127 : decode cX12_group 127 = .ok (.if_icmp .ge 19, 3) := by decide +kernel
theorem dX12_group_130 : decode cX12_group 130 = .ok (.iload_n 2, 1) := by decide +kernel
theorem dX12_group_131 : decode cX12_group 131 = .ok (.iconst 2, 1) := by decide +kernel
theorem dX12_group_132 : decode cX12_group 132 = .ok (.if_icmp .ne 8, 3) := by decide +kernel
theorem dX12_group_135 : decode cX12_group 135 = .ok (.lload 5, 2) := by decide +kernel
theorem dX12_group_137 : decode cX12_group 137 = .ok (.goto 5, 3) := by decide +kernel
theorem dX12_group_140 : decode cX12_group 140 = .ok (.lload 7, 2) := by decide +kernel
theorem dX12_group_142 : decode cX12_group 142 = .ok (.invokestatic 138, 3) := by decide +kernel
theorem dX12_group_145 : decode cX12_group 145 = .ok (.ireturn, 1) := by decide +kernel
theorem dX12_group_146 : decode cX12_group 146 = .ok (.iload_n 3, 1) := by decide +kernel
theorem dX12_group_147 : decode cX12_group 147 = .ok (.ifCond .ne 13, 3) := by decide +kernel
theorem dX12_group_150 : decode cX12_group 150 = .ok (.lload 5, 2) := by decide +kernel
theorem dX12_group_152 : decode cX12_group 152 = .ok (.lconst 0, 1) := by decide +kernel
theorem dX12_group_153 : decode cX12_group 153 = .ok (.lcmp, 1) := by decide +kernel
theorem dX12_group_154 : decode cX12_group 154 = .ok (.ifCond .ne 6, 3) := by decide +kernel
theorem dX12_group_157 : decode cX12_group 157 = .ok (.bipush (-5), 2) := by decide +kernel
theorem dX12_group_159 : decode cX12_group 159 = .ok (.ireturn, 1) := by decide +kernel
theorem dX12_group_160 : decode cX12_group 160 = .ok (.iload_n 3, 1) := by decide +kernel
theorem dX12_group_161 : decode cX12_group 161 = .ok (.ifCond .eq 10, 3) := by decide +kernel
theorem dX12_group_164 : decode cX12_group 164 = .ok (.lload 5, 2) := by decide +kernel
theorem dX12_group_166 : decode cX12_group 166 = .ok (.lconst 0, 1) := by decide +kernel
theorem dX12_group_167 : decode cX12_group 167 = .ok (.lcmp, 1) := by decide +kernel
theorem dX12_group_168 : decode cX12_group 168 = .ok (.ifCond .ne 14, 3) := by decide +kernel
theorem dX12_group_171 : decode cX12_group 171 = .ok (.aload_n 0, 1) := by decide +kernel
theorem dX12_group_172 : decode cX12_group 172 = .ok (.getfield 9, 3) := by decide +kernel
theorem dX12_group_175 : decode cX12_group 175 = .ok (.sipush 1847, 3) := by decide +kernel
theorem dX12_group_178 : decode cX12_group 178 = .ok (.iaload, 1) := by decide +kernel
theorem dX12_group_179 : decode cX12_group 179 = .ok (.iconst 1, 1) := by decide +kernel
theorem dX12_group_180 : decode cX12_group 180 = .ok (.iadd, 1) := by decide +kernel
theorem dX12_group_181 : decode cX12_group 181 = .ok (.ireturn, 1) := by decide +kernel
theorem dX12_group_182 : decode cX12_group 182 = .ok (.aload_n 0, 1) := by decide +kernel
theorem dX12_group_183 : decode cX12_group 183 = .ok (.iload 4, 2) := by decide +kernel
theorem dX12_group_185 : decode cX12_group 185 = .ok (.aload_n 0, 1) := by decide +kernel
theorem dX12_group_186 : decode cX12_group 186 = .ok (.getfield 9, 3) := by decide +kernel
theorem dX12_group_189 : decode cX12_group 189 = .ok (.sipush 1843, 3) := by decide +kernel
theorem dX12_group_192 : decode cX12_group 192 = .ok (.iaload, 1) := by decide +kernel
theorem dX12_group_193 : decode cX12_group 193 = .ok (.iadd, 1) := by decide +kernel
theorem dX12_group_194 : decode cX12_group 194 = .ok (.invokevirtual 169, 3) := by decide +kernel
theorem dX12_group_197 : decode cX12_group 197 = .ok (.istore 9, 2) := by decide +kernel
theorem dX12_group_199 : decode cX12_group 199 = .ok (.aload_n 0, 1) := by decide +kernel
theorem dX12_group_200 : decode cX12_group 200 = .ok (.iload 4, 2) := by decide +kernel
theorem dX12_group_202 : decode cX12_group 202 = .ok (.aload_n 0, 1) := by decide +kernel
theorem dX12_group_203 : decode cX12_group 203 = .ok (.getfield 9, 3) := by decide +kernel
theorem dX12_group_206 : decode cX12_group 206 = .ok (.sipush 1842, 3) := by decide +kernel
theorem dX12_group_209 : decode cX12_group 209 = .ok (.iaload, 1) := by decide +kernel
theorem dX12_group_210 : decode cX12_group 210 = .ok (.iadd, 1) := by decide +kernel
theorem dX12_group_211 : decode cX12_group 211 = .ok (.invokevirtual 169, 3) := by decide +kernel
theorem dX12_group_214 : decode cX12_group 214 = .ok (.istore 10, 2) := by decide +kernel
theorem dX12_group_216 : decode cX12_group 216 = .ok (.lload 7, 2) := by decide +kernel
theorem dX12_group_218 : decode cX12_group 218 = .ok (.lconst 0, 1) := by decide +kernel
theorem dX12_group_219 : decode cX12_group 219 = .ok (.lcmp, 1) := by decide +kernel
theorem dX12_group_220 : decode cX12_group 220 = .ok (.ifCond .eq 15, 3) := by decide +kernel
theorem dX12_group_223 : decode cX12_group 223 = .ok (.iload 10, 2) := by decide +kernel
theorem dX12_group_225 : decode cX12_group 225 = .ok (.iload 9, 2) := by decide +kernel
theorem dX12_group_227 : decode cX12_group 227 = .ok (.if_icmp .ge 8, 3) := by decide +kernel
theorem dX12_group_230 : decode cX12_group 230 = .ok (.iload 10, 2) := by decide +kernel
theorem dX12_group_232 : decode cX12_group 232 = .ok (.goto 5, 3) := by decide +kernel
theorem dX12_group_235 : decode cX12_group 235 = .ok (.iload 9, 2) := by decide +kernel
theorem dX12_group_237 : decode cX12_group 237 = .ok (.ireturn, 1) := by decide +kernel
theorem dX12_key_0 : decode cX12_key 0 = .ok (.aload_n 0, 1) := by decide +kernel
theorem dX12_key_1 : decode cX12_key 1 = .ok (.invokevirtual 148, 3) := by decide +kernel
theorem dX12_key_4 : decode cX12_key 4 = .ok (.lstore_n 2, 1) := by decide +kernel
theorem dX12_key_5 : decode cX12_key 5 = .ok (.iconst 0, 1) := by decide +kernel
theorem dX12_key_6 : decode cX12_key 6 = .ok (.istore 4, 2) := by decide +kernel
theorem dX12_key_8 : decode cX12_key 8 = .ok (.iconst 0, 1) := by decide +kernel
theorem dX12_key_9 : decode cX12_key 9 = .ok (.istore 5, 2) := by decide +kernel
theorem dX12_key_11 : decode cX12_key 11 = .ok (.iload 5, 2) := by decide +kernel
theorem dX12_key_13 : decode cX12_key 13 = .ok (.sipush 128, 3) := by decide +kernel
theorem dX12_key_16 : decode cX12_key 16 = .ok (.if_icmp .ge 36, 3) := by decide +kernel
theorem dX12_key_19 : decode cX12_key 19 = .ok (.aload_n 0, 1) := by decide +kernel
theorem dX12_key_20 : decode cX12_key 20 = .ok (.lload_n 2, 1) := by decide +kernel
theorem dX12_key_21 : decode cX12_key 21 = .ok (.iload 5, 2) := by decide +kernel
theorem dX12_key_23 : decode cX12_key 23 = .ok (.invokevirtual 152, 3) := by decide +kernel
theorem dX12_key_26 : decode cX12_key 26 = .ok (.lconst 0, 1) := by decide +kernel
theorem dX12_key_27 : decode cX12_key 27 = .ok (.lcmp, 1) := by decide +kernel
theorem dX12_key_28 : decode cX12_key 28 = .ok (.ifCond .ne 6, 3) := by decide +kernel
theorem dX12_key_31 : decode cX12_key 31 = .ok (.goto 15, 3) := by decide +kernel
theorem dX12_key_34 : decode cX12_key 34 = .ok (.iload 4, 2) := by decide +kernel
theorem dX12_key_36 : decode cX12_key 36 = .ok (.iload_n 1, 1) := by decide +kernel
theorem dX12_key_37 : decode cX12_key 37 = .ok (.if_icmp .ne 6, 3) := by decide +kernel
theorem dX12_key_40 : decode cX12_key 40 = .ok (.iload 5, 2) := by decide +kernel
theorem dX12_key_42 : decode cX12_key 42 = .ok (.ireturn, 1) := by decide +kernel
theorem dX12_key_43 : decode cX12_key 43 = .ok (.iinc 4 1, 3) := by decide +kernel
theorem dX12_key_46 : decode cX12_key 46 = .ok (.iinc 5 1, 3) := by decide +kernel
theorem dX12_key_49 : decode cX12_key 49 = .ok (.goto (-38), 3) := by decide +kernel
theorem dX12_key_52 : decode cX12_key 52 = .ok (.iload_n 1, 1) := by decide +kernel
theorem dX12_key_53 : decode cX12_key 53 = .ok (.iconst (-1), 1) := by decide +kernel
theorem dX12_key_54 : decode cX12_key 54 = .ok (.if_icmp .ne 8, 3) := by decide +kernel
theorem dX12_key_57 : decode cX12_key 57 = .ok (.iload 4, 2) := by decide +kernel
theorem dX12_key_59 : decode cX12_key 59 = .ok (.goto 4, 3) := by decide +kernel
theorem dX12_key_62 : decode cX12_key 62 = .ok (.iconst (-1), 1) := by decide +kernel
theorem dX12_key_63 : decode cX12_key 63 = .ok (.ireturn, 1) := by decide +kernel
theorem dX12_sent_0 : decode cX12_sent 0 = .ok (.aload_n 0, 1) := by decide +kernel
theorem dX12_sent_1 : decode cX12_sent 1 = .ok (.getfield 9, 3) := by decide +kernel
theorem dX12_sent_4 : decode cX12_sent 4 = .ok (.sipush 1848, 3) := by decide +kernel
theorem dX12_sent_7 : decode cX12_sent 7 = .ok (.iaload, 1) := by decide +kernel
theorem dX12_sent_8 : decode cX12_sent 8 = .ok (.bipush 30, 2) := by decide +kernel
theorem dX12_sent_10 : decode cX12_sent 10 = .ok (.if_icmp .ge 14, 3) := by decide +kernel
theorem dX12_sent_13 : decode cX12_sent 13 = .ok (.aload_n 0, 1) := by decide +kernel
theorem dX12_sent_14 : decode cX12_sent 14 = .ok (.getfield 9, 3) := by decide +kernel
theorem dX12_sent_17 : decode cX12_sent 17 = .ok (.sipush 1848, 3) := by decide +kernel
theorem dX12_sent_20 : decode cX12_sent 20 = .ok (.iaload, 1) := by decide +kernel
theorem dX12_sent_21 : decode cX12_sent 21 = .ok (.goto 5, 3) := by decide +kernel
theorem dX12_sent_24 : decode cX12_sent 24 = .ok (.bipush 30, 2) := by decide +kernel
theorem dX12_sent_26 : decode cX12_sent 26 = .ok (.istore_n 3, 1) := by decide +kernel
theorem dX12_sent_27 : decode cX12_sent 27 = .ok (.iload_n 1, 1) := by decide +kernel
theorem dX12_sent_28 : decode cX12_sent 28 = .ok (.iconst 0, 1) := by decide +kernel
theorem dX12_sent_29 : decode cX12_sent 29 = .ok (.iload_n 3, 1) := by decide +kernel
theorem dX12_sent_30 : decode cX12_sent 30 = .ok (.iconst 1, 1) := by decide +kernel
theorem dX12_sent_31 : decode cX12_sent 31 = .ok (.isub, 1) := by decide +kernel
theorem dX12_sent_32 : decode cX12_sent 32 = .ok (.invokestatic 35, 3) := by decide +kernel
theorem dX12_sent_35 : decode cX12_sent 35 = .ok (.ifCond .eq 29, 3) := by decide +kernel
theorem dX12_sent_38 : decode cX12_sent 38 = .ok (.iload_n 2, 1) := by decide +kernel
theorem dX12_sent_39 : decode cX12_sent 39 = .ok (.iconst 0, 1) := by decide +kernel
theorem dX12_sent_40 : decode cX12_sent 40 = .ok (.iconst 4, 1) := by decide +kernel
theorem dX12_sent_41 : decode cX12_sent 41 = .ok (.invokestatic 35, 3) := by decide +kernel
theorem dX12_sent_44 : decode cX12_sent 44 = .ok (.ifCond .eq 20, 3) := by decide +kernel
theorem dX12_sent_47 : decode cX12_sent 47 = .ok (.aload_n 0, 1) := by decide +kernel
theorem dX12_sent_48 : decode cX12_sent 48 = .ok (.getfield 9, 3) := by decide +kernel
theorem dX12_sent_51 : decode cX12_sent 51 = .ok (.sipush 1849, 3) := by decide +kernel
theorem dX12_sent_54 : decode cX12_sent 54 = .ok (.iconst 5, 1) := by decide +kernel
theorem dX12_sent_55 : decode cX12_sent 55 = .ok (.iload_n 1, 1) := by decide +kernel
theorem dX12_sent_56 : decode cX12_sent 56 = .ok (.imul, 1) := by decide +kernel
theorem dX12_sent_57 : decode cX12_sent 57 = .ok (.iadd, 1) := by decide +kernel
theorem dX12_sent_58 : decode cX12_sent 58 = .ok (.iload_n 2, 1) := by decide +kernel
theorem dX12_sent_59 : decode cX12_sent 59 = .ok (.iadd, 1) := by decide +kernel
theorem dX12_sent_60 : decode cX12_sent 60 = .ok (.iaload, 1) := by decide +kernel
theorem dX12_sent_61 : decode cX12_sent 61 = .ok (.goto 4, 3) := by decide +kernel
theorem dX12_sent_64 : decode cX12_sent 64 = .ok (.iconst (-1), 1) := by decide +kernel
theorem dX12_sent_65 : decode cX12_sent 65 = .ok (.ireturn, 1) := by decide +kernel
theorem dX12_looks_0 : decode cX12_looks 0 = .ok (.aload_n 0, 1) := by decide +kernel
theorem dX12_looks_1 : decode cX12_looks 1 = .ok (.getfield 9, 3) := by decide +kernel
theorem dX12_looks_4 : decode cX12_looks 4 = .ok (.aload_n 0, 1) := by decide +kernel
theorem dX12_looks_5 : decode cX12_looks 5 = .ok (.getfield 16, 3) := by decide +kernel
theorem dX12_looks_8 : decode cX12_looks 8 = .ok (.aload_n 0, 1) := by decide +kernel
theorem dX12_looks_9 : decode cX12_looks 9 = .ok (.getfield 19, 3) := by decide +kernel
theorem dX12_looks_12 : decode cX12_looks 12 = .ok (.aload_n 0, 1) := by decide +kernel
theorem dX12_looks_13 : decode cX12_looks 13 = .ok (.getfield 26, 3) := by decide +kernel
theorem dX12_looks_16 : decode cX12_looks 16 = .ok (.invokestatic 172, 3) := by decide +kernel
theorem dX12_looks_19 : decode cX12_looks 19 = .ok (.iconst 0, 1) := by decide +kernel
theorem dX12_looks_20 : decode cX12_looks 20 = .ok (.istore_n 3, 1) := by decide +kernel
theorem dX12_looks_21 : decode cX12_looks 21 = .ok (.bipush (-5), 2) := by decide +kernel
theorem dX12_looks_23 : decode cX12_looks 23 = .ok (.istore 4, 2) := by decide +kernel
theorem dX12_looks_25 : decode cX12_looks 25 = .ok (.iconst 0, 1) := by decide +kernel
theorem dX12_looks_26 : decode cX12_looks 26 = .ok (.istore 5, 2) := by decide +kernel
theorem dX12_looks_28 : decode cX12_looks 28 = .ok (.iload 5, 2) := by decide +kernel
theorem dX12_looks_30 : decode cX12_looks 30 = .ok (.iload_n 1, 1) := by decide +kernel
theorem dX12_looks_31 : decode cX12_looks 31 = .ok (.if_icmp .ge 48, 3) := by decide +kernel
theorem dX12_looks_34 : decode cX12_looks 34 = .ok (.iload_n 2, 1) := by decide +kernel
theorem dX12_looks_35 : decode cX12_looks 35 = .ok (.ifCond .eq 7, 3) := by decide +kernel
theorem dX12_looks_38 : decode cX12_looks 38 = .ok (.iload_n 3, 1) := by decide +kernel
theorem dX12_looks_39 : decode cX12_looks 39 = .ok (.ifCond .ne 40, 3) := by decide +kernel
theorem dX12_looks_42 : decode cX12_looks 42 = .ok (.iload_n 3, 1) := by decide +kernel
theorem dX12_looks_43 : decode cX12_looks 43 = .ok (.aload_n 0, 1) := by decide +kernel
theorem dX12_looks_44 : decode cX12_looks 44 = .ok (.invokevirtual 163, 3) := by decide +kernel
theorem dX12_looks_47 : decode cX12_looks 47 = .ok (.iadd, 1) := by decide +kernel
theorem dX12_looks_48 : decode cX12_looks 48 = .ok (.istore_n 3, 1) := by decide +kernel
theorem dX12_looks_49 : decode cX12_looks 49 = .ok (.iload_n 3, 1) := by decide +kernel
theorem dX12_looks_50 : decode cX12_looks 50 = .ok (.ifCond .le 19, 3) := by decide +kernel
theorem dX12_looks_53 : decode cX12_looks 53 = .ok (.iload 4, 2) := by decide +kernel
theorem dX12_looks_55 : decode cX12_looks 55 = .ok (.ifCond .ge 14, 3) := by decide +kernel
theorem dX12_looks_58 : decode cX12_looks 58 = .ok (.aload_n 0, 1) := by decide +kernel
theorem dX12_looks_59 : decode cX12_looks 59 = .ok (.getfield 9, 3) := by decide +kernel
theorem dX12_looks_62 : decode cX12_looks 62 = .ok (.sipush 1847, 3) := by decide +kernel
theorem dX12_looks_65 : decode cX12_looks 65 = .ok (.iaload, 1) := by decide +kernel
theorem dX12_looks_66 : decode cX12_looks 66 = .ok (.goto 5, 3) := by decide +kernel
theorem dX12_looks_69 : decode cX12_looks 69 = .ok (.iload 4, 2) := by decide +kernel
theorem dX12_looks_71 : decode cX12_looks 71 = .ok (.istore 4, 2) := by decide +kernel
theorem dX12_looks_73 : decode cX12_looks 73 = .ok (.iinc 5 1, 3) := by decide +kernel
theorem dX12_looks_76 : decode cX12_looks 76 = .ok (.goto (-48), 3) := by decide +kernel
theorem dX12_looks_79 : decode cX12_looks 79 = .ok (.aload_n 0, 1) := by decide +kernel
theorem dX12_looks_80 : decode cX12_looks 80 = .ok (.getfield 16, 3) := by decide +kernel
theorem dX12_looks_83 : decode cX12_looks 83 = .ok (.aload_n 0, 1) := by decide +kernel
theorem dX12_looks_84 : decode cX12_looks 84 = .ok (.getfield 9, 3) := by decide +kernel
theorem dX12_looks_87 : decode cX12_looks 87 = .ok (.aload_n 0, 1) := by decide +kernel
theorem dX12_looks_88 : decode cX12_looks 88 = .ok (.getfield 26, 3) := by decide +kernel
theorem dX12_looks_91 : decode cX12_looks 91 = .ok (.aload_n 0, 1) := by decide +kernel
theorem dX12_looks_92 : decode cX12_looks 92 = .ok (.getfield 19, 3) := by decide +kernel
theorem dX12_looks_95 : decode cX12_looks 95 = .ok (.invokestatic 172, 3) := by decide +kernel
theorem dX12_looks_98 : decode cX12_looks 98 = .ok (.iload_n 2, 1) := by decide +kernel
theorem dX12_looks_99 : decode cX12_looks 99 = .ok (.ifCond .eq 8, 3) := by decide +kernel
theorem dX12_looks_102 : decode cX12_looks 102 = .ok (.iload 4, 2) := by decide +kernel
theorem dX12_looks_104 : decode cX12_looks 104 = .ok (.goto 4, 3) := by decide +kernel
theorem dX12_looks_107 : decode cX12_looks 107 = .ok (.iload_n 3, 1) := by decide +kernel
theorem dX12_looks_108 : decode cX12_looks 108 = .ok (.ireturn, 1) := by decide +kernel
theorem dX12_ahead_0 : decode cX12_ahead 0 = .ok (.iload_n 1, 1) := by decide +kernel
theorem dX12_ahead_1 : decode cX12_ahead 1 = .ok (.iconst 1, 1) := by decide +kernel
theorem dX12_ahead_2 : decode cX12_ahead 2 = .ok (.bipush 100, 2) := by decide +kernel
theorem dX12_ahead_4 : decode cX12_ahead 4 = .ok (.invokestatic 35, 3) := by decide +kernel
theorem dX12_ahead_7 : decode cX12_ahead 7 = .ok (.ifCond .eq 12, 3) := by decide +kernel
theorem dX12_ahead_10 : decode cX12_ahead 10 = .ok (.aload_n 0, 1) := by decide +kernel
theorem dX12_ahead_11 : decode cX12_ahead 11 = .ok (.iload_n 1, 1) := by decide +kernel
theorem dX12_ahead_12 : decode cX12_ahead 12 = .ok (.iconst 0, 1) := by decide +kernel
theorem dX12_ahead_13 : decode cX12_ahead 13 = .ok (.invokevirtual 176, 3) := by decide +kernel
theorem dX12_ahead_16 : decode cX12_ahead 16 = .ok (.goto 5, 3) := by decide +kernel
theorem dX12_ahead_19 : decode cX12_ahead 19 = .ok (.bipush (-2), 2) := by decide +kernel
theorem dX12_ahead_21 : decode cX12_ahead 21 = .ok (.ireturn, 1) := by decide +kernel
theorem dX12_next_0 : decode cX12_next 0 = .ok (.iload_n 1, 1) := by decide +kernel
theorem dX12_next_1 : decode cX12_next 1 = .ok (.iconst 1, 1) := by decide +kernel
theorem dX12_next_2 : decode cX12_next 2 = .ok (.bipush 100, 2) := by decide +kernel
theorem dX12_next_4 : decode cX12_next 4 = .ok (.invokestatic 35, 3) := by decide +kernel
theorem dX12_next_7 : decode cX12_next 7 = .ok (.ifCond .eq 12, 3) := by decide +kernel
theorem dX12_next_10 : decode cX12_next 10 = .ok (.aload_n 0, 1) := by decide +kernel
theorem dX12_next_11 : decode cX12_next 11 = .ok (.iload_n 1, 1) := by decide +kernel
theorem dX12_next_12 : decode cX12_next 12 = .ok (.iconst 1, 1) := by decide +kernel
theorem dX12_next_13 : decode cX12_next 13 = .ok (.invokevirtual 176, 3) := by decide +kernel
theorem dX12_next_16 : decode cX12_next 16 = .ok (.goto 5, 3) := by decide +kernel
theorem dX12_next_19 : decode cX12_next 19 = .ok (.bipush (-2), 2) := by decide +kernel
theorem dX12_next_21 : decode cX12_next 21 = .ok (.ireturn, 1) := by decide +kernel
theorem dX12_saved_0 : decode cX12_saved 0 = .ok (.aload_n 0, 1) := by decide +kernel
theorem dX12_saved_1 : decode cX12_saved 1 = .ok (.iconst 1, 1) := by decide +kernel
theorem dX12_saved_2 : decode cX12_saved 2 = .ok (.iload_n 1, 1) := by decide +kernel
theorem dX12_saved_3 : decode cX12_saved 3 = .ok (.invokevirtual 82, 3) := by decide +kernel
theorem dX12_saved_6 : decode cX12_saved 6 = .ok (.ifCond .ne 5, 3) := by decide +kernel
theorem dX12_saved_9 : decode cX12_saved 9 = .ok (.iconst (-1), 1) := by decide +kernel
theorem dX12_saved_10 : decode cX12_saved 10 = .ok (.ireturn, 1) := by decide +kernel
theorem dX12_saved_11 : decode cX12_saved 11 = .ok (.iload_n 2, 1) := by decide +kernel
theorem dX12_saved_12 : decode cX12_saved 12 = .ok (.iconst 1, 1) := by decide +kernel
theorem dX12_saved_13 : decode cX12_saved 13 = .ok (.bipush 100, 2) := by decide +kernel
theorem dX12_saved_15 : decode cX12_saved 15 = .ok (.invokestatic 35, 3) := by decide +kernel
theorem dX12_saved_18 : decode cX12_saved 18 = .ok (.ifCond .ne 6, 3) := by decide +kernel
theorem dX12_saved_21 : decode cX12_saved 21 = .ok (.bipush (-2), 2) := by decide +kernel
theorem dX12_saved_23 : decode cX12_saved 23 = .ok (.ireturn, 1) := by decide +kernel
theorem dX12_saved_24 : decode cX12_saved 24 = .ok (.aload_n 0, 1) := by decide +kernel
theorem dX12_saved_25 : decode cX12_saved 25 = .ok (.iload_n 2, 1) := by decide +kernel
theorem dX12_saved_26 : decode cX12_saved 26 = .ok (.iconst 0, 1) := by decide +kernel
theorem dX12_saved_27 : decode cX12_saved 27 = .ok (.invokevirtual 176, 3) := by decide +kernel
theorem dX12_saved_30 : decode cX12_saved 30 = .ok (.istore_n 3, 1) := by decide +kernel
theorem dX12_saved_31 : decode cX12_saved 31 = .ok (.aload_n 0, 1) := by decide +kernel
theorem dX12_saved_32 : decode cX12_saved 32 = .ok (.getfield 9, 3) := by decide +kernel
theorem dX12_saved_35 : decode cX12_saved 35 = .ok (.bipush 110, 2) := by decide +kernel
theorem dX12_saved_37 : decode cX12_saved 37 = .ok (.bipush 8, 2) := by decide +kernel
theorem dX12_saved_39 : decode cX12_saved 39 = .ok (.iload_n 1, 1) := by decide +kernel
theorem dX12_saved_40 : decode cX12_saved 40 = .ok (.imul, 1) := by decide +kernel
theorem dX12_saved_41 : decode cX12_saved 41 = .ok (.iadd, 1) := by decide +kernel
