theorem dX10_append_24 : decode cX10_append 24 = .ok (.iload_n 1, 1) := by decide +kernel
theorem dX10_append_25 : decode cX10_append 25 = .ok (.iastore, 1) := by decide +kernel
theorem dX10_append_26 : decode cX10_append 26 = .ok (.return_, 1) := by decide +kernel
theorem dX10_clear_0 : decode cX10_clear 0 = .ok (.aload_n 0, 1) := by decide +kernel
theorem dX10_clear_1 : decode cX10_clear 1 = .ok (.iconst 0, 1) := by decide +kernel
theorem dX10_clear_2 : decode cX10_clear 2 = .ok (.putfield 15, 3) := by decide +kernel
theorem dX10_clear_5 : decode cX10_clear 5 = .ok (.return_, 1) := by decide +kernel
theorem dX10_rewind_0 : decode cX10_rewind 0 = .ok (.aload_n 0, 1) := by decide +kernel
theorem dX10_rewind_1 : decode cX10_rewind 1 = .ok (.iconst 0, 1) := by decide +kernel
theorem dX10_rewind_2 : decode cX10_rewind 2 = .ok (.putfield 19, 3) := by decide +kernel
theorem dX10_rewind_5 : decode cX10_rewind 5 = .ok (.aload_n 0, 1) := by decide +kernel
theorem dX10_rewind_6 : decode cX10_rewind 6 = .ok (.iconst 0, 1) := by decide +kernel
theorem dX10_rewind_7 : decode cX10_rewind 7 = .ok (.putfield 22, 3) := by decide +kernel
theorem dX10_rewind_10 : decode cX10_rewind 10 = .ok (.return_, 1) := by decide +kernel
theorem dX10_readRule_0 : decode cX10_readRule 0 = .ok (.aload_n 0, 1) := by decide +kernel
theorem dX10_readRule_1 : decode cX10_readRule 1 = .ok (.invokevirtual 26, 3) := by decide +kernel
theorem dX10_readRule_4 : decode cX10_readRule 4 = .ok (.ifCond .eq 13, 3) := by decide +kernel
theorem dX10_readRule_7 : decode cX10_readRule 7 = .ok (.new 30, 3) := by decide +kernel
theorem dX10_readRule_10 : decode cX10_readRule 10 = .ok (.dup, 1) := by decide +kernel
theorem dX10_readRule_11 : decode cX10_readRule 11 = .ok (.invokespecial 32, 3) := by decide +kernel
theorem dX10_readRule_14 : decode cX10_readRule 14 = .ok (.goto 7, 3) := by decide +kernel
theorem dX10_readRule_17 : decode cX10_readRule 17 = .ok (.aload_n 0, 1) := by decide +kernel
theorem dX10_readRule_18 : decode cX10_readRule 18 = .ok (.invokevirtual 33, 3) := by decide +kernel
theorem dX10_readRule_21 : decode cX10_readRule 21 = .ok (.astore_n 1, 1) := by decide +kernel
theorem dX10_readRule_22 : decode cX10_readRule 22 = .ok (.aload_n 0, 1) := by decide +kernel
theorem dX10_readRule_23 : decode cX10_readRule 23 = .ok (.invokevirtual 37, 3) := by decide +kernel
theorem dX10_readRule_26 : decode cX10_readRule 26 = .ok (.istore_n 2, 1) := by decide +kernel
theorem dX10_readRule_27 : decode cX10_readRule 27 = .ok (.aload_n 0, 1) := by decide +kernel
theorem dX10_readRule_28 : decode cX10_readRule 28 = .ok (.invokevirtual 26, 3) := by decide +kernel
theorem dX10_readRule_31 : decode cX10_readRule 31 = .ok (.ifCond .eq 16, 3) := by decide +kernel
theorem dX10_readRule_34 : decode cX10_readRule 34 = .ok (.aload_n 0, 1) := by decide +kernel
theorem dX10_readRule_35 : decode cX10_readRule 35 = .ok (.dup, 1) := by decide +kernel
theorem dX10_readRule_36 : decode cX10_readRule 36 = .ok (.getfield 19, 3) := by decide +kernel
theorem dX10_readRule_39 : decode cX10_readRule 39 = .ok (.iconst 1, 1) := by decide +kernel
theorem dX10_readRule_40 : decode cX10_readRule 40 = .ok (.iadd, 1) := by decide +kernel
theorem dX10_readRule_41 : decode cX10_readRule 41 = .ok (.putfield 19, 3) := by decide +kernel
theorem dX10_readRule_44 : decode cX10_readRule 44 = .ok (.goto 8, 3) := by decide +kernel
theorem dX10_readRule_47 : decode cX10_readRule 47 = .ok (.aload_n 0, 1) := by decide +kernel
theorem dX10_readRule_48 : decode cX10_readRule 48 = .ok (.iconst 1, 1) := by decide +kernel
theorem dX10_readRule_49 : decode cX10_readRule 49 = .ok (.putfield 22, 3) := by decide +kernel
theorem dX10_readRule_52 : decode cX10_readRule 52 = .ok (.aload_n 0, 1) := by decide +kernel
theorem dX10_readRule_53 : decode cX10_readRule 53 = .ok (.bipush 45, 2) := by decide +kernel
theorem dX10_readRule_55 : decode cX10_readRule 55 = .ok (.invokevirtual 41, 3) := by decide +kernel
theorem dX10_readRule_58 : decode cX10_readRule 58 = .ok (.istore_n 3, 1) := by decide +kernel
theorem dX10_readRule_59 : decode cX10_readRule 59 = .ok (.aload_n 0, 1) := by decide +kernel
theorem dX10_readRule_60 : decode cX10_readRule 60 = .ok (.invokevirtual 45, 3) := by decide +kernel
theorem dX10_readRule_63 : decode cX10_readRule 63 = .ok (.istore 4, 2) := by decide +kernel
theorem dX10_readRule_65 : decode cX10_readRule 65 = .ok (.aload_n 0, 1) := by decide +kernel
theorem dX10_readRule_66 : decode cX10_readRule 66 = .ok (.bipush 102, 2) := by decide +kernel
theorem dX10_readRule_68 : decode cX10_readRule 68 = .ok (.invokevirtual 48, 3) := by decide +kernel
theorem dX10_readRule_71 : decode cX10_readRule 71 = .ok (.aload_n 0, 1) := by decide +kernel
theorem dX10_readRule_72 : decode cX10_readRule 72 = .ok (.bipush 111, 2) := by decide +kernel
theorem dX10_readRule_74 : decode cX10_readRule 74 = .ok (.invokevirtual 48, 3) := by decide +kernel
theorem dX10_readRule_77 : decode cX10_readRule 77 = .ok (.aload_n 0, 1) := by decide +kernel
theorem dX10_readRule_78 : decode cX10_readRule 78 = .ok (.bipush 114, 2) := by decide +kernel
theorem dX10_readRule_80 : decode cX10_readRule 80 = .ok (.invokevirtual 48, 3) := by decide +kernel
theorem dX10_readRule_83 : decode cX10_readRule 83 = .ok (.aload_n 0, 1) := by decide +kernel
theorem dX10_readRule_84 : decode cX10_readRule 84 = .ok (.invokevirtual 45, 3) := by decide +kernel
theorem dX10_readRule_87 : decode cX10_readRule 87 = .ok (.istore 5, 2) := by decide +kernel
theorem dX10_readRule_89 : decode cX10_readRule 89 = .ok (.aload_n 0, 1) := by decide +kernel
theorem dX10_readRule_90 : decode cX10_readRule 90 = .ok (.bipush 115, 2) := by decide +kernel
theorem dX10_readRule_92 : decode cX10_readRule 92 = .ok (.invokevirtual 48, 3) := by decide +kernel
theorem dX10_readRule_95 : decode cX10_readRule 95 = .ok (.aload_n 0, 1) := by decide +kernel
theorem dX10_readRule_96 : decode cX10_readRule 96 = .ok (.bipush 101, 2) := by decide +kernel
theorem dX10_readRule_98 : decode cX10_readRule 98 = .ok (.invokevirtual 48, 3) := by decide +kernel
theorem dX10_readRule_101 : decode cX10_readRule 101 = .ok (.aload_n 0, 1) := by decide +kernel
theorem dX10_readRule_102 : decode cX10_readRule 102 = .ok (.bipush 118, 2) := by decide +kernel
theorem dX10_readRule_104 : decode cX10_readRule 104 = .ok (.invokevirtual 48, 3) := by decide +kernel
theorem dX10_readRule_107 : decode cX10_readRule 107 = .ok (.aload_n 0, 1) := by decide +kernel
theorem dX10_readRule_108 : decode cX10_readRule 108 = .ok (.getstatic 52, 3) := by decide +kernel
theorem dX10_readRule_111 : decode cX10_readRule 111 = .ok (.iconst 3, 1) := by decide +kernel
theorem dX10_readRule_112 : decode cX10_readRule 112 = .ok (.iaload, 1) := by decide +kernel
theorem dX10_readRule_113 : decode cX10_readRule 113 = .ok (.invokevirtual 55, 3) := by decide +kernel
theorem dX10_readRule_116 : decode cX10_readRule 116 = .ok (.istore 6, 2) := by decide +kernel
theorem dX10_readRule_118 : decode cX10_readRule 118 = .ok (.aload_n 0, 1) := by decide +kernel
theorem dX10_readRule_119 : decode cX10_readRule 119 = .ok (.invokevirtual 59, 3) := by decide +kernel
theorem dX10_readRule_122 : decode cX10_readRule 122 = .ok (.aload_n 0, 1) := by decide +kernel
theorem dX10_readRule_123 : decode cX10_readRule 123 = .ok (.getfield 22, 3) := by decide +kernel
theorem dX10_readRule_126 : decode cX10_readRule 126 = .ok (.ifCond .eq 7, 3) := by decide +kernel
theorem dX10_readRule_129 : decode cX10_readRule 129 = .ok (.aconst_null, 1) := by decide +kernel
theorem dX10_readRule_130 : decode cX10_readRule 130 = .ok (.goto 28, 3) := by decide +kernel
theorem dX10_readRule_133 : decode cX10_readRule 133 = .ok (.new 62, 3) := by decide +kernel
theorem dX10_readRule_136 : decode cX10_readRule 136 = .ok (.dup, 1) := by decide +kernel
theorem dX10_readRule_137 : decode cX10_readRule 137 = .ok (.aload_n 1, 1) := by decide +kernel
theorem dX10_readRule_138 : decode cX10_readRule 138 = .ok (.iload_n 2, 1) := by decide +kernel
theorem dX10_readRule_139 : decode cX10_readRule 139 = .ok (.iload_n 3, 1) := by decide +kernel
theorem dX10_readRule_140 : decode cX10_readRule 140 = .ok (.ifCond .eq 9, 3) := by decide +kernel
theorem dX10_readRule_143 : decode cX10_readRule 143 = .ok (.iload 4, 2) := by decide +kernel
theorem dX10_readRule_145 : decode cX10_readRule 145 = .ok (.ineg, 1) := by decide +kernel
theorem dX10_readRule_146 : decode cX10_readRule 146 = .ok (.goto 5, 3) := by decide +kernel
theorem dX10_readRule_149 : decode cX10_readRule 149 = .ok (.iload 4, 2) := by decide +kernel
theorem dX10_readRule_151 : decode cX10_readRule 151 = .ok (.iload 5, 2) := by decide +kernel
theorem dX10_readRule_153 : decode cX10_readRule 153 = .ok (.iload 6, 2) := by decide +kernel
theorem dX10_readRule_155 : decode cX10_readRule 155 = .ok (.invokespecial 64, 3) := by decide +kernel
theorem dX10_readRule_158 : decode cX10_readRule 158 = .ok (.areturn, 1) := by decide +kernel
theorem dX10_readSilence_0 : decode cX10_readSilence 0 = .ok (.aload_n 0, 1) := by decide +kernel
theorem dX10_readSilence_1 : decode cX10_readSilence 1 = .ok (.iconst 0, 1) := by decide +kernel
theorem dX10_readSilence_2 : decode cX10_readSilence 2 = .ok (.invokevirtual 67, 3) := by decide +kernel
theorem dX10_readSilence_5 : decode cX10_readSilence 5 = .ok (.astore_n 1, 1) := by decide +kernel
theorem dX10_readSilence_6 : decode cX10_readSilence 6 = .ok (.aload_n 0, 1) := by decide +kernel
theorem dX10_readSilence_7 : decode cX10_readSilence 7 = .ok (.bipush 64, 2) := by decide +kernel
theorem dX10_readSilence_9 : decode cX10_readSilence 9 = .ok (.invokevirtual 48, 3) := by decide +kernel
theorem dX10_readSilence_12 : decode cX10_readSilence 12 = .ok (.aload_n 0, 1) := by decide +kernel
theorem dX10_readSilence_13 : decode cX10_readSilence 13 = .ok (.invokevirtual 45, 3) := by decide +kernel
theorem dX10_readSilence_16 : decode cX10_readSilence 16 = .ok (.istore_n 2, 1) := by decide +kernel
theorem dX10_readSilence_17 : decode cX10_readSilence 17 = .ok (.aload_n 0, 1) := by decide +kernel
theorem dX10_readSilence_18 : decode cX10_readSilence 18 = .ok (.bipush 43, 2) := by decide +kernel
theorem dX10_readSilence_20 : decode cX10_readSilence 20 = .ok (.invokevirtual 48, 3) := by decide +kernel
theorem dX10_readSilence_23 : decode cX10_readSilence 23 = .ok (.aload_n 0, 1) := by decide +kernel
theorem dX10_readSilence_24 : decode cX10_readSilence 24 = .ok (.invokevirtual 45, 3) := by decide +kernel
theorem dX10_readSilence_27 : decode cX10_readSilence 27 = .ok (.istore_n 3, 1) := by decide +kernel
theorem dX10_readSilence_28 : decode cX10_readSilence 28 = .ok (.aload_n 0, 1) := by decide +kernel
theorem dX10_readSilence_29 : decode cX10_readSilence 29 = .ok (.invokevirtual 59, 3) := by decide +kernel
theorem dX10_readSilence_32 : decode cX10_readSilence 32 = .ok (.aload_n 0, 1) := by decide +kernel
theorem dX10_readSilence_33 : decode cX10_readSilence 33 = .ok (.getfield 22, 3) := by decide +kernel
theorem dX10_readSilence_36 : decode cX10_readSilence 36 = .ok (.ifCond .eq 7, 3) := by decide +kernel
theorem dX10_readSilence_39 : decode cX10_readSilence 39 = .ok (.aconst_null, 1) := by decide +kernel
theorem dX10_readSilence_40 : decode cX10_readSilence 40 = .ok (.goto 13, 3) := by decide +kernel
theorem dX10_readSilence_43 : decode cX10_readSilence 43 = .ok (.new 71, 3) := by decide +kernel
theorem dX10_readSilence_46 : decode cX10_readSilence 46 = .ok (.dup, 1) := by decide +kernel
theorem dX10_readSilence_47 : decode cX10_readSilence 47 = .ok (.aload_n 1, 1) := by decide +kernel
theorem dX10_readSilence_48 : decode cX10_readSilence 48 = .ok (.iload_n 2, 1) := by decide +kernel
theorem dX10_readSilence_49 : decode cX10_readSilence 49 = .ok (.iload_n 3, 1) := by decide +kernel
theorem dX10_readSilence_50 : decode cX10_readSilence 50 = .ok (.invokespecial 73, 3) := by decide +kernel
theorem dX10_readSilence_53 : decode cX10_readSilence 53 = .ok (.areturn, 1) := by decide +kernel
theorem dX10_readInhibition_0 : decode cX10_readInhibition 0 = .ok (.aload_n 0, 1) := by decide +kernel
theorem dX10_readInhibition_1 : decode cX10_readInhibition 1 = .ok (.iconst 0, 1) := by decide +kernel
theorem dX10_readInhibition_2 : decode cX10_readInhibition 2 = .ok (.invokevirtual 67, 3) := by decide +kernel
theorem dX10_readInhibition_5 : decode cX10_readInhibition 5 = .ok (.astore_n 1, 1) := by decide +kernel
theorem dX10_readInhibition_6 : decode cX10_readInhibition 6 = .ok (.aload_n 0, 1) := by decide +kernel
theorem dX10_readInhibition_7 : decode cX10_readInhibition 7 = .ok (.bipush 62, 2) := by decide +kernel
theorem dX10_readInhibition_9 : decode cX10_readInhibition 9 = .ok (.invokevirtual 48, 3) := by decide +kernel
theorem dX10_readInhibition_12 : decode cX10_readInhibition 12 = .ok (.aload_n 0, 1) := by decide +kernel
theorem dX10_readInhibition_13 : decode cX10_readInhibition 13 = .ok (.iconst 0, 1) := by decide +kernel
theorem dX10_readInhibition_14 : decode cX10_readInhibition 14 = .ok (.invokevirtual 67, 3) := by decide +kernel
theorem dX10_readInhibition_17 : decode cX10_readInhibition 17 = .ok (.astore_n 2, 1) := by decide +kernel
theorem dX10_readInhibition_18 : decode cX10_readInhibition 18 = .ok (.aload_n 0, 1) := by decide +kernel
theorem dX10_readInhibition_19 : decode cX10_readInhibition 19 = .ok (.bipush 47, 2) := by decide +kernel
theorem dX10_readInhibition_21 : decode cX10_readInhibition 21 = .ok (.invokevirtual 48, 3) := by decide +kernel
theorem dX10_readInhibition_24 : decode cX10_readInhibition 24 = .ok (.iconst 0, 1) := by decide +kernel
theorem dX10_readInhibition_25 : decode cX10_readInhibition 25 = .ok (.istore_n 3, 1) := by decide +kernel
theorem dX10_readInhibition_26 : decode cX10_readInhibition 26 = .ok (.iconst 0, 1) := by decide +kernel
theorem dX10_readInhibition_27 : decode cX10_readInhibition 27 = .ok (.istore 4, 2) := by decide +kernel
theorem dX10_readInhibition_29 : decode cX10_readInhibition 29 = .ok (.iload 4, 2) := by decide +kernel
theorem dX10_readInhibition_31 : decode cX10_readInhibition 31 = .ok (.bipush 60, 2) := by decide +kernel
theorem dX10_readInhibition_33 : decode cX10_readInhibition 33 = .ok (.if_icmp .ge 49, 3) := by decide +kernel
theorem dX10_readInhibition_36 : decode cX10_readInhibition 36 = .ok (.aload_n 0, 1) := by decide +kernel
theorem dX10_readInhibition_37 : decode cX10_readInhibition 37 = .ok (.invokevirtual 37, 3) := by decide +kernel
theorem dX10_readInhibition_40 : decode cX10_readInhibition 40 = .ok (.invokestatic 76, 3) := by decide +kernel
theorem dX10_readInhibition_43 : decode cX10_readInhibition 43 = .ok (.istore 5, 2) := by decide +kernel
theorem dX10_readInhibition_45 : decode cX10_readInhibition 45 = .ok (.iload 5, 2) := by decide +kernel
theorem dX10_readInhibition_47 : decode cX10_readInhibition 47 = .ok (.ifCond .lt 35, 3) := by decide +kernel
theorem dX10_readInhibition_50 : decode cX10_readInhibition 50 = .ok (.iload 5, 2) := by decide +kernel
theorem dX10_readInhibition_52 : decode cX10_readInhibition 52 = .ok (.iconst 3, 1) := by decide +kernel
theorem dX10_readInhibition_53 : decode cX10_readInhibition 53 = .ok (.if_icmp .ne 6, 3) := by decide +kernel
theorem dX10_readInhibition_56 : decode cX10_readInhibition 56 = .ok (.goto 26, 3) := by decide +kernel
theorem dX10_readInhibition_59 : decode cX10_readInhibition 59 = .ok (.iload_n 3, 1) := by decide +kernel
theorem dX10_readInhibition_60 : decode cX10_readInhibition 60 = .ok (.iconst 1, 1) := by decide +kernel
theorem dX10_readInhibition_61 : decode cX10_readInhibition 61 = .ok (.iload 5, 2) := by decide +kernel
theorem dX10_readInhibition_63 : decode cX10_readInhibition 63 = .ok (.ishl, 1) := by decide +kernel
theorem dX10_readInhibition_64 : decode cX10_readInhibition 64 = .ok (.ior, 1) := by decide +kernel
theorem dX10_readInhibition_65 : decode cX10_readInhibition 65 = .ok (.istore_n 3, 1) := by decide +kernel
theorem dX10_readInhibition_66 : decode cX10_readInhibition 66 = .ok (.aload_n 0, 1) := by decide +kernel
theorem dX10_readInhibition_67 : decode cX10_readInhibition 67 = .ok (.dup, 1) := by decide +kernel
theorem dX10_readInhibition_68 : decode cX10_readInhibition 68 = .ok (.getfield 19, 3) := by decide +kernel
theorem dX10_readInhibition_71 : decode cX10_readInhibition 71 = .ok (.iconst 1, 1) := by decide +kernel
theorem dX10_readInhibition_72 : decode cX10_readInhibition 72 = .ok (.iadd, 1) := by decide +kernel
theorem dX10_readInhibition_73 : decode cX10_readInhibition 73 = .ok (.putfield 19, 3) := by decide +kernel
theorem dX10_readInhibition_76 : decode cX10_readInhibition 76 = .ok (.iinc 4 1, 3) := by decide +kernel
theorem dX10_readInhibition_79 : decode cX10_readInhibition 79 = .ok (.goto (-50), 3) := by decide +kernel
theorem dX10_readInhibition_82 : decode cX10_readInhibition 82 = .ok (.aload_n 0, 1) := by decide +kernel
theorem dX10_readInhibition_83 : decode cX10_readInhibition 83 = .ok (.invokevirtual 59, 3) := by decide +kernel
theorem dX10_readInhibition_86 : decode cX10_readInhibition 86 = .ok (.aload_n 0, 1) := by decide +kernel
theorem dX10_readInhibition_87 : decode cX10_readInhibition 87 = .ok (.getfield 22, 3) := by decide +kernel
theorem dX10_readInhibition_90 : decode cX10_readInhibition 90 = .ok (.ifCond .eq 7, 3) := by decide +kernel
theorem dX10_readInhibition_93 : decode cX10_readInhibition 93 = .ok (.aconst_null, 1) := by decide +kernel
theorem dX10_readInhibition_94 : decode cX10_readInhibition 94 = .ok (.goto 13, 3) := by decide +kernel
theorem dX10_readInhibition_97 : decode cX10_readInhibition 97 = .ok (.new 79, 3) := by decide +kernel
theorem dX10_readInhibition_100 : decode cX10_readInhibition 100 = .ok (.dup, 1) := by decide +kernel
theorem dX10_readInhibition_101 : decode cX10_readInhibition 101 = .ok (.aload_n 1, 1) := by decide +kernel
theorem dX10_readInhibition_102 : decode cX10_readInhibition 102 = .ok (.aload_n 2, 1) := by decide +kernel
theorem dX10_readInhibition_103 : decode cX10_readInhibition 103 = .ok (.iload_n 3, 1) := by decide +kernel
theorem dX10_readInhibition_104 : decode cX10_readInhibition 104 = .ok (.invokespecial 81, 3) := by decide +kernel
theorem dX10_readInhibition_107 : decode cX10_readInhibition 107 = .ok (.areturn, 1) := by decide +kernel
theorem dX10_startsRuleSign_0 : decode cX10_startsRuleSign 0 = .ok (.aload_n 0, 1) := by decide +kernel
theorem dX10_startsRuleSign_1 : decode cX10_startsRuleSign 1 = .ok (.invokevirtual 37, 3) := by decide +kernel
theorem dX10_startsRuleSign_4 : decode cX10_startsRuleSign 4 = .ok (.istore_n 1, 1) := by decide +kernel
theorem dX10_startsRuleSign_5 : decode cX10_startsRuleSign 5 = .ok (.iload_n 1, 1) := by decide +kernel
theorem dX10_startsRuleSign_6 : decode cX10_startsRuleSign 6 = .ok (.bipush 60, 2) := by decide +kernel
theorem dX10_startsRuleSign_8 : decode cX10_startsRuleSign 8 = .ok (.if_icmp .eq 15, 3) := by decide +kernel
theorem dX10_startsRuleSign_11 : decode cX10_startsRuleSign 11 = .ok (.iload_n 1, 1) := by decide +kernel
theorem dX10_startsRuleSign_12 : decode cX10_startsRuleSign 12 = .ok (.bipush 62, 2) := by decide +kernel
theorem dX10_startsRuleSign_14 : decode cX10_startsRuleSign 14 = .ok (.if_icmp .eq 9, 3) := by decide +kernel
theorem dX10_startsRuleSign_17 : decode cX10_startsRuleSign 17 = .ok (.iload_n 1, 1) := by decide +kernel
theorem dX10_startsRuleSign_18 : decode cX10_startsRuleSign 18 = .ok (.bipush 61, 2) := by decide +kernel
theorem dX10_startsRuleSign_20 : decode cX10_startsRuleSign 20 = .ok (.if_icmp .ne 7, 3) := by decide +kernel
theorem dX10_startsRuleSign_23 : decode cX10_startsRuleSign 23 = .ok (.iconst 1, 1) := by decide +kernel
theorem dX10_startsRuleSign_24 : decode cX10_startsRuleSign 24 = .ok (.goto 4, 3) := by decide +kernel
theorem dX10_startsRuleSign_27 : decode cX10_startsRuleSign 27 = .ok (.iconst 0, 1) := by decide +kernel
theorem dX10_startsRuleSign_28 : decode cX10_startsRuleSign 28 = .ok (.ireturn, 1) := by decide +kernel
theorem dX10_readMatchersAhead_0 : decode cX10_readMatchersAhead 0 = .ok (.aload_n 0, 1) := by decide +kernel
theorem dX10_readMatchersAhead_1 : decode cX10_readMatchersAhead 1 = .ok (.iconst 1, 1) := by decide +kernel
theorem dX10_readMatchersAhead_2 : decode cX10_readMatchersAhead 2 = .ok (.invokevirtual 67, 3) := by decide +kernel
theorem dX10_readMatchersAhead_5 : decode cX10_readMatchersAhead 5 = .ok (.astore_n 1, 1) := by decide +kernel
theorem dX10_readMatchersAhead_6 : decode cX10_readMatchersAhead 6 = .ok (.aload_n 0, 1) := by decide +kernel
theorem dX10_readMatchersAhead_7 : decode cX10_readMatchersAhead 7 = .ok (.bipush 58, 2) := by decide +kernel
theorem dX10_readMatchersAhead_9 : decode cX10_readMatchersAhead 9 = .ok (.invokevirtual 48, 3) := by decide +kernel
theorem dX10_readMatchersAhead_12 : decode cX10_readMatchersAhead 12 = .ok (.aload_n 1, 1) := by decide +kernel
theorem dX10_readMatchersAhead_13 : decode cX10_readMatchersAhead 13 = .ok (.areturn, 1) := by decide +kernel
theorem dX10_readMatchers_0 : decode cX10_readMatchers 0 = .ok (.new 30, 3) := by decide +kernel
theorem dX10_readMatchers_3 : decode cX10_readMatchers 3 = .ok (.dup, 1) := by decide +kernel
theorem dX10_readMatchers_4 : decode cX10_readMatchers 4 = .ok (.invokespecial 32, 3) := by decide +kernel
theorem dX10_readMatchers_7 : decode cX10_readMatchers 7 = .ok (.astore_n 2, 1) := by decide +kernel
theorem dX10_readMatchers_8 : decode cX10_readMatchers 8 = .ok (.aload_n 0, 1) := by decide +kernel
theorem dX10_readMatchers_9 : decode cX10_readMatchers 9 = .ok (.aload_n 2, 1) := by decide +kernel
theorem dX10_readMatchers_10 : decode cX10_readMatchers 10 = .ok (.iload_n 1, 1) := by decide +kernel
theorem dX10_readMatchers_11 : decode cX10_readMatchers 11 = .ok (.invokevirtual 84, 3) := by decide +kernel
theorem dX10_readMatchers_14 : decode cX10_readMatchers 14 = .ok (.iconst 1, 1) := by decide +kernel
theorem dX10_readMatchers_15 : decode cX10_readMatchers 15 = .ok (.istore_n 3, 1) := by decide +kernel
theorem dX10_readMatchers_16 : decode cX10_readMatchers 16 = .ok (.iload_n 3, 1) := by decide +kernel
theorem dX10_readMatchers_17 : decode cX10_readMatchers 17 = .ok (.iconst 4, 1) := by decide +kernel
theorem dX10_readMatchers_18 : decode cX10_readMatchers 18 = .ok (.if_icmp .ge 27, 3) := by decide +kernel
theorem dX10_readMatchers_21 : decode cX10_readMatchers 21 = .ok (.aload_n 0, 1) := by decide +kernel
theorem dX10_readMatchers_22 : decode cX10_readMatchers 22 = .ok (.bipush 44, 2) := by decide +kernel
theorem dX10_readMatchers_24 : decode cX10_readMatchers 24 = .ok (.invokevirtual 41, 3) := by decide +kernel
theorem dX10_readMatchers_27 : decode cX10_readMatchers 27 = .ok (.ifCond .ne 6, 3) := by decide +kernel
theorem dX10_readMatchers_30 : decode cX10_readMatchers 30 = .ok (.goto 15, 3) := by decide +kernel
theorem dX10_readMatchers_33 : decode cX10_readMatchers 33 = .ok (.aload_n 0, 1) := by decide +kernel
theorem dX10_readMatchers_34 : decode cX10_readMatchers 34 = .ok (.aload_n 2, 1) := by decide +kernel
theorem dX10_readMatchers_35 : decode cX10_readMatchers 35 = .ok (.iload_n 1, 1) := by decide +kernel
theorem dX10_readMatchers_36 : decode cX10_readMatchers 36 = .ok (.invokevirtual 84, 3) := by decide +kernel
theorem dX10_readMatchers_39 : decode cX10_readMatchers 39 = .ok (.iinc 3 1, 3) := by decide +kernel
theorem dX10_readMatchers_42 : decode cX10_readMatchers 42 = .ok (.goto (-26), 3) := by decide +kernel
theorem dX10_readMatchers_45 : decode cX10_readMatchers 45 = .ok (.aload_n 2, 1) := by decide +kernel
theorem dX10_readMatchers_46 : decode cX10_readMatchers 46 = .ok (.areturn, 1) := by decide +kernel
theorem dX10_readMatcher_0 : decode cX10_readMatcher 0 = .ok (.aload_n 0, 1) := by decide +kernel
theorem dX10_readMatcher_1 : decode cX10_readMatcher 1 = .ok (.bipush 33, 2) := by decide +kernel
theorem dX10_readMatcher_3 : decode cX10_readMatcher 3 = .ok (.invokevirtual 41, 3) := by decide +kernel
theorem dX10_readMatcher_6 : decode cX10_readMatcher 6 = .ok (.istore_n 3, 1) := by decide +kernel
theorem dX10_readMatcher_7 : decode cX10_readMatcher 7 = .ok (.aload_n 0, 1) := by decide +kernel
theorem dX10_readMatcher_8 : decode cX10_readMatcher 8 = .ok (.invokevirtual 37, 3) := by decide +kernel
theorem dX10_readMatcher_11 : decode cX10_readMatcher 11 = .ok (.invokestatic 76, 3) := by decide +kernel
theorem dX10_readMatcher_14 : decode cX10_readMatcher 14 = .ok (.istore 4, 2) := by decide +kernel
theorem dX10_readMatcher_16 : decode cX10_readMatcher 16 = .ok (.iload 4, 2) := by decide +kernel
theorem dX10_readMatcher_18 : decode cX10_readMatcher 18 = .ok (.ifCond .lt 13, 3) := by decide +kernel
theorem dX10_readMatcher_21 : decode cX10_readMatcher 21 = .ok (.iload_n 2, 1) := by decide +kernel
theorem dX10_readMatcher_22 : decode cX10_readMatcher 22 = .ok (.ifCond .eq 15, 3) := by decide +kernel
theorem dX10_readMatcher_25 : decode cX10_readMatcher 25 = .ok (.iload 4, 2) := by decide +kernel
theorem dX10_readMatcher_27 : decode cX10_readMatcher 27 = .ok (.iconst 3, 1) := by decide +kernel
theorem dX10_readMatcher_28 : decode cX10_readMatcher 28 = .ok (.if_icmp .ne 9, 3) := by decide +kernel
theorem dX10_readMatcher_31 : decode cX10_readMatcher 31 = .ok (.aload_n 0, 1) := by decide +kernel
theorem dX10_readMatcher_32 : decode cX10_readMatcher 32 = .ok (.iconst 1, 1) := by decide +kernel
theorem dX10_readMatcher_33 : decode cX10_readMatcher 33 = .ok (.putfield 22, 3) := by decide +kernel
theorem dX10_readMatcher_36 : decode cX10_readMatcher 36 = .ok (.return_, 1) := by decide +kernel
theorem dX10_readMatcher_37 : decode cX10_readMatcher 37 = .ok (.aload_n 0, 1) := by decide +kernel
theorem dX10_readMatcher_38 : decode cX10_readMatcher 38 = .ok (.dup, 1) := by decide +kernel
theorem dX10_readMatcher_39 : decode cX10_readMatcher 39 = .ok (.getfield 19, 3) := by decide +kernel
theorem dX10_readMatcher_42 : decode cX10_readMatcher 42 = .ok (.iconst 1, 1) := by decide +kernel
theorem dX10_readMatcher_43 : decode cX10_readMatcher 43 = .ok (.iadd, 1) := by decide +kernel
theorem dX10_readMatcher_44 : decode cX10_readMatcher 44 = .ok (.putfield 19, 3) := by decide +kernel
theorem dX10_readMatcher_47 : decode cX10_readMatcher 47 = .ok (.aload_n 0, 1) := by decide +kernel
theorem dX10_readMatcher_48 : decode cX10_readMatcher 48 = .ok (.getstatic 52, 3) := by decide +kernel
theorem dX10_readMatcher_51 : decode cX10_readMatcher 51 = .ok (.iload 4, 2) := by decide +kernel
theorem dX10_readMatcher_53 : decode cX10_readMatcher 53 = .ok (.iaload, 1) := by decide +kernel
theorem dX10_readMatcher_54 : decode cX10_readMatcher 54 = .ok (.invokevirtual 55, 3) := by decide +kernel
theorem dX10_readMatcher_57 : decode cX10_readMatcher 57 = .ok (.istore 5, 2) := by decide +kernel
theorem dX10_readMatcher_59 : decode cX10_readMatcher 59 = .ok (.aload_n 0, 1) := by decide +kernel
theorem dX10_readMatcher_60 : decode cX10_readMatcher 60 = .ok (.getfield 22, 3) := by decide +kernel
theorem dX10_readMatcher_63 : decode cX10_readMatcher 63 = .ok (.ifCond .ne 11, 3) := by decide +kernel
theorem dX10_readMatcher_66 : decode cX10_readMatcher 66 = .ok (.aload_n 1, 1) := by decide +kernel
theorem dX10_readMatcher_67 : decode cX10_readMatcher 67 = .ok (.getfield 88, 3) := by decide +kernel
theorem dX10_readMatcher_70 : decode cX10_readMatcher 70 = .ok (.iconst 4, 1) := by decide +kernel
theorem dX10_readMatcher_71 : decode cX10_readMatcher 71 = .ok (.if_icmp .lt 4, 3) := by decide +kernel
theorem dX10_readMatcher_74 : decode cX10_readMatcher 74 = .ok (.return_, 1) := by decide +kernel
theorem dX10_readMatcher_75 : decode cX10_readMatcher 75 = .ok (.aload_n 1, 1) := by decide +kernel
theorem dX10_readMatcher_76 : decode cX10_readMatcher 76 = .ok (.getfield 91, 3) := by decide +kernel
theorem dX10_readMatcher_79 : decode cX10_readMatcher 79 = .ok (.aload_n 1, 1) := by decide +kernel
theorem dX10_readMatcher_80 : decode cX10_readMatcher 80 = .ok (.getfield 88, 3) := by decide +kernel
theorem dX10_readMatcher_83 : decode cX10_readMatcher 83 = .ok (.getstatic 94, 3) := by decide +kernel
theorem dX10_readMatcher_86 : decode cX10_readMatcher 86 = .ok (.iload 4, 2) := by decide +kernel
theorem dX10_readMatcher_88 : decode cX10_readMatcher 88 = .ok (.iaload, 1) := by decide +kernel
theorem dX10_readMatcher_89 : decode cX10_readMatcher 89 = .ok (.iload 5, 2) := by decide +kernel
theorem dX10_readMatcher_91 : decode cX10_readMatcher 91 = .ok (.iadd, 1) := by decide +kernel
theorem dX10_readMatcher_92 : decode cX10_readMatcher 92 = .ok (.iastore, 1) := by decide +kernel
theorem dX10_readMatcher_93 : decode cX10_readMatcher 93 = .ok (.aload_n 1, 1) := by decide +kernel
theorem dX10_readMatcher_94 : decode cX10_readMatcher 94 = .ok (.getfield 97, 3) := by decide +kernel
theorem dX10_readMatcher_97 : decode cX10_readMatcher 97 = .ok (.aload_n 1, 1) := by decide +kernel
theorem dX10_readMatcher_98 : decode cX10_readMatcher 98 = .ok (.getfield 88, 3) := by decide +kernel
theorem dX10_readMatcher_101 : decode cX10_readMatcher 101 = .ok (.iload_n 3, 1) := by decide +kernel
theorem dX10_readMatcher_102 : decode cX10_readMatcher 102 = .ok (.bastore, 1) := by decide +kernel
theorem dX10_readMatcher_103 : decode cX10_readMatcher 103 = .ok (.aload_n 1, 1) := by decide +kernel
theorem dX10_readMatcher_104 : decode cX10_readMatcher 104 = .ok (.dup, 1) := by decide +kernel
theorem dX10_readMatcher_105 : decode cX10_readMatcher 105 = .ok (.getfield 88, 3) := by decide +kernel
theorem dX10_readMatcher_108 : decode cX10_readMatcher 108 = .ok (.iconst 1, 1) := by decide +kernel
theorem dX10_readMatcher_109 : decode cX10_readMatcher 109 = .ok (.iadd, 1) := by decide +kernel
theorem dX10_readMatcher_110 : decode cX10_readMatcher 110 = .ok (.putfield 88, 3) := by decide +kernel
theorem dX10_readMatcher_113 : decode cX10_readMatcher 113 = .ok (.return_, 1) := by decide +kernel
theorem dX10_labelOf_0 : decode cX10_labelOf 0 = .ok (.iload_n 0, 1) := by decide +kernel
theorem dX10_labelOf_1 : decode cX10_labelOf 1 = .ok (.lookupswitch 51 #[(104, 45), (115, 49), (116, 43), (122, 47)], 43) := by decide +kernel
theorem dX10_labelOf_44 : decode cX10_labelOf 44 = .ok (.iconst 0, 1) := by decide +kernel
theorem dX10_labelOf_45 : decode cX10_labelOf 45 = .ok (.ireturn, 1) := by decide +kernel
theorem dX10_labelOf_46 : decode cX10_labelOf 46 = .ok (.iconst 1, 1) := by decide +kernel
theorem dX10_labelOf_47 : decode cX10_labelOf 47 = .ok (.ireturn, 1) := by decide +kernel
theorem dX10_labelOf_48 : decode cX10_labelOf 48 = .ok (.iconst 2, 1) := by decide +kernel
theorem dX10_labelOf_49 : decode cX10_labelOf 49 = .ok (.ireturn, 1) := by decide +kernel
theorem dX10_labelOf_50 : decode cX10_labelOf 50 = .ok (.iconst 3, 1) := by decide +kernel
theorem dX10_labelOf_51 : decode cX10_labelOf 51 = .ok (.ireturn, 1) := by decide +kernel
theorem dX10_labelOf_52 : decode cX10_labelOf 52 = .ok (.bipush (-5), 2) := by decide +kernel
theorem dX10_labelOf_54 : decode cX10_labelOf 54 = .ok (.ireturn, 1) := by decide +kernel
theorem dX10_readNumber_0 : decode cX10_readNumber 0 = .ok (.aload_n 0, 1) := by decide +kernel
theorem dX10_readNumber_1 : decode cX10_readNumber 1 = .ok (.bipush 9, 2) := by decide +kernel
theorem dX10_readNumber_3 : decode cX10_readNumber 3 = .ok (.invokevirtual 55, 3) := by decide +kernel
theorem dX10_readNumber_6 : decode cX10_readNumber 6 = .ok (.istore_n 1, 1) := by decide +kernel
theorem dX10_readNumber_7 : decode cX10_readNumber 7 = .ok (.iconst 1, 1) := by decide +kernel
theorem dX10_readNumber_8 : decode cX10_readNumber 8 = .ok (.istore_n 2, 1) := by decide +kernel
theorem dX10_readNumber_9 : decode cX10_readNumber 9 = .ok (.iload_n 2, 1) := by decide +kernel
theorem dX10_readNumber_10 : decode cX10_readNumber 10 = .ok (.iconst 4, 1) := by decide +kernel
theorem dX10_readNumber_11 : decode cX10_readNumber 11 = .ok (.if_icmp .ge 46, 3) := by decide +kernel
theorem dX10_readNumber_14 : decode cX10_readNumber 14 = .ok (.iload_n 1, 1) := by decide +kernel
theorem dX10_readNumber_15 : decode cX10_readNumber 15 = .ok (.ifCond .eq 42, 3) := by decide +kernel
theorem dX10_readNumber_18 : decode cX10_readNumber 18 = .ok (.aload_n 0, 1) := by decide +kernel
theorem dX10_readNumber_19 : decode cX10_readNumber 19 = .ok (.invokevirtual 37, 3) := by decide +kernel
theorem dX10_readNumber_22 : decode cX10_readNumber 22 = .ok (.bipush 48, 2) := by decide +kernel
theorem dX10_readNumber_24 : decode cX10_readNumber 24 = .ok (.if_icmp .lt 33, 3) := by decide +kernel
theorem dX10_readNumber_27 : decode cX10_readNumber 27 = .ok (.aload_n 0, 1) := by decide +kernel
theorem dX10_readNumber_28 : decode cX10_readNumber 28 = .ok (.invokevirtual 37, 3) := by decide +kernel
theorem dX10_readNumber_31 : decode cX10_readNumber 31 = .ok (.bipush 57, 2) := by decide +kernel
theorem dX10_readNumber_33 : decode cX10_readNumber 33 = .ok (.if_icmp .le 6, 3) := by decide +kernel
theorem dX10_readNumber_36 : decode cX10_readNumber 36 = .ok (.goto 21, 3) := by decide +kernel
theorem dX10_readNumber_39 : decode cX10_readNumber 39 = .ok (.bipush 10, 2) := by decide +kernel
theorem dX10_readNumber_41 : decode cX10_readNumber 41 = .ok (.iload_n 1, 1) := by decide +kernel
theorem dX10_readNumber_42 : decode cX10_readNumber 42 = .ok (.imul, 1) := by decide +kernel
theorem dX10_readNumber_43 : decode cX10_readNumber 43 = .ok (.aload_n 0, 1) := by decide +kernel
theorem dX10_readNumber_44 : decode cX10_readNumber 44 = .ok (.bipush 9, 2) := by decide +kernel
theorem dX10_readNumber_46 : decode cX10_readNumber 46 = .ok (.invokevirtual 55, 3) := by decide +kernel
theorem dX10_readNumber_49 : decode cX10_readNumber 49 = .ok (.iadd, 1) := by decide +kernel
theorem dX10_readNumber_50 : decode cX10_readNumber 50 = .ok (.istore_n 1, 1) := by decide +kernel
theorem dX10_readNumber_51 : decode cX10_readNumber 51 = .ok (.iinc 2 1, 3) := by decide +kernel
theorem dX10_readNumber_54 : decode cX10_readNumber 54 = .ok (.goto (-45), 3) := by decide +kernel
theorem dX10_readNumber_57 : decode cX10_readNumber 57 = .ok (.iload_n 1, 1) := by decide +kernel
theorem dX10_readNumber_58 : decode cX10_readNumber 58 = .ok (.ireturn, 1) := by decide +kernel
theorem dX10_readDigit_0 : decode cX10_readDigit 0 = .ok (.aload_n 0, 1) := by decide +kernel
theorem dX10_readDigit_1 : decode cX10_readDigit 1 = .ok (.invokevirtual 37, 3) := by decide +kernel
theorem dX10_readDigit_4 : decode cX10_readDigit 4 = .ok (.bipush 48, 2) := by decide +kernel
theorem dX10_readDigit_6 : decode cX10_readDigit 6 = .ok (.isub, 1) := by decide +kernel
theorem dX10_readDigit_7 : decode cX10_readDigit 7 = .ok (.istore_n 2, 1) := by decide +kernel
theorem dX10_readDigit_8 : decode cX10_readDigit 8 = .ok (.iload_n 2, 1) := by decide +kernel
theorem dX10_readDigit_9 : decode cX10_readDigit 9 = .ok (.ifCond .lt 8, 3) := by decide +kernel
theorem dX10_readDigit_12 : decode cX10_readDigit 12 = .ok (.iload_n 2, 1) := by decide +kernel
theorem dX10_readDigit_13 : decode cX10_readDigit 13 = .ok (.iload_n 1, 1) := by decide +kernel
theorem dX10_readDigit_14 : decode cX10_readDigit 14 = .ok (.if_icmp .le 10, 3) := by decide +kernel
theorem dX10_readDigit_17 : decode cX10_readDigit 17 = .ok (.aload_n 0, 1) := by decide +kernel
theorem dX10_readDigit_18 : decode cX10_readDigit 18 = .ok (.iconst 1, 1) := by decide +kernel
theorem dX10_readDigit_19 : decode cX10_readDigit 19 = .ok (.putfield 22, 3) := by decide +kernel
theorem dX10_readDigit_22 : decode cX10_readDigit 22 = .ok (.iconst 0, 1) := by decide +kernel
theorem dX10_readDigit_23 : decode cX10_readDigit 23 = .ok (.ireturn, 1) := by decide +kernel
theorem dX10_readDigit_24 : decode cX10_readDigit 24 = .ok (.aload_n 0, 1) := by decide +kernel
theorem dX10_readDigit_25 : decode cX10_readDigit 25 = .ok (.dup, 1) := by decide +kernel
theorem dX10_readDigit_26 : decode cX10_readDigit 26 = .ok (.getfield 19, 3) := by decide +kernel
theorem dX10_readDigit_29 : decode cX10_readDigit 29 = .ok (.iconst 1, 1) := by decide +kernel
theorem dX10_readDigit_30 : decode cX10_readDigit 30 = .ok (.iadd, 1) := by decide +kernel
theorem dX10_readDigit_31 : decode cX10_readDigit 31 = .ok (.putfield 19, 3) := by decide +kernel
theorem dX10_readDigit_34 : decode cX10_readDigit 34 = .ok (.iload_n 2, 1) := by decide +kernel
theorem dX10_readDigit_35 : decode cX10_readDigit 35 = .ok (.ireturn, 1) := by decide +kernel
theorem dX10_peek_0 : decode cX10_peek 0 = .ok (.aload_n 0, 1) := by decide +kernel
theorem dX10_peek_1 : decode cX10_peek 1 = .ok (.getfield 22, 3) := by decide +kernel
theorem dX10_peek_4 : decode cX10_peek 4 = .ok (.ifCond .ne 35, 3) := by decide +kernel
theorem dX10_peek_7 : decode cX10_peek 7 = .ok (.aload_n 0, 1) := by decide +kernel
theorem dX10_peek_8 : decode cX10_peek 8 = .ok (.getfield 19, 3) := by decide +kernel
theorem dX10_peek_11 : decode cX10_peek 11 = .ok (.aload_n 0, 1) := by decide +kernel
theorem dX10_peek_12 : decode cX10_peek 12 = .ok (.getfield 15, 3) := by decide +kernel
theorem dX10_peek_15 : decode cX10_peek 15 = .ok (.if_icmp .ge 24, 3) := by decide +kernel
theorem dX10_peek_18 : decode cX10_peek 18 = .ok (.aload_n 0, 1) := by decide +kernel
theorem dX10_peek_19 : decode cX10_peek 19 = .ok (.getfield 19, 3) := by decide +kernel
theorem dX10_peek_22 : decode cX10_peek 22 = .ok (.bipush 60, 2) := by decide +kernel
theorem dX10_peek_24 : decode cX10_peek 24 = .ok (.if_icmp .ge 15, 3) := by decide +kernel
theorem dX10_peek_27 : decode cX10_peek 27 = .ok (.aload_n 0, 1) := by decide +kernel
theorem dX10_peek_28 : decode cX10_peek 28 = .ok (.getfield 11, 3) := by decide +kernel
theorem dX10_peek_31 : decode cX10_peek 31 = .ok (.aload_n 0, 1) := by decide +kernel
theorem dX10_peek_32 : decode cX10_peek 32 = .ok (.getfield 19, 3) := by decide +kernel
theorem dX10_peek_35 : decode cX10_peek 35 = .ok (.iaload, 1) := by decide +kernel
theorem dX10_peek_36 : decode cX10_peek 36 = .ok (.goto 4, 3) := by decide +kernel
theorem dX10_peek_39 : decode cX10_peek 39 = .ok (.iconst (-1), 1) := by decide +kernel
theorem dX10_peek_40 : decode cX10_peek 40 = .ok (.ireturn, 1) := by decide +kernel
theorem dX10_skip_0 : decode cX10_skip 0 = .ok (.aload_n 0, 1) := by decide +kernel
theorem dX10_skip_1 : decode cX10_skip 1 = .ok (.invokevirtual 37, 3) := by decide +kernel
theorem dX10_skip_4 : decode cX10_skip 4 = .ok (.iload_n 1, 1) := by decide +kernel
theorem dX10_skip_5 : decode cX10_skip 5 = .ok (.if_icmp .eq 5, 3) := by decide +kernel
theorem dX10_skip_8 : decode cX10_skip 8 = .ok (.iconst 0, 1) := by decide +kernel
theorem dX10_skip_9 : decode cX10_skip 9 = .ok (.ireturn, 1) := by decide +kernel
theorem dX10_skip_10 : decode cX10_skip 10 = .ok (.aload_n 0, 1) := by decide +kernel
theorem dX10_skip_11 : decode cX10_skip 11 = .ok (.dup, 1) := by decide +kernel
theorem dX10_skip_12 : decode cX10_skip 12 = .ok (.getfield 19, 3) := by decide +kernel
theorem dX10_skip_15 : decode cX10_skip 15 = .ok (.iconst 1, 1) := by decide +kernel
theorem dX10_skip_16 : decode cX10_skip 16 = .ok (.iadd, 1) := by decide +kernel
theorem dX10_skip_17 : decode cX10_skip 17 = .ok (.putfield 19, 3) := by decide +kernel
theorem dX10_skip_20 : decode cX10_skip 20 = .ok (.iconst 1, 1) := by decide +kernel
theorem dX10_skip_21 : decode cX10_skip 21 = .ok (.ireturn, 1) := by decide +kernel
theorem dX10_expect_0 : decode cX10_expect 0 = .ok (.aload_n 0, 1) := by decide +kernel
theorem dX10_expect_1 : decode cX10_expect 1 = .ok (.iload_n 1, 1) := by decide +kernel
theorem dX10_expect_2 : decode cX10_expect 2 = .ok (.invokevirtual 41, 3) := by decide +kernel
theorem dX10_expect_5 : decode cX10_expect 5 = .ok (.ifCond .ne 8, 3) := by decide +kernel
theorem dX10_expect_8 : decode cX10_expect 8 = .ok (.aload_n 0, 1) := by decide +kernel
theorem dX10_expect_9 : decode cX10_expect 9 = .ok (.iconst 1, 1) := by decide +kernel
theorem dX10_expect_10 : decode cX10_expect 10 = .ok (.putfield 22, 3) := by decide +kernel
theorem dX10_expect_13 : decode cX10_expect 13 = .ok (.return_, 1) := by decide +kernel
theorem dX10_expectEnd_0 : decode cX10_expectEnd 0 = .ok (.aload_n 0, 1) := by decide +kernel
theorem dX10_expectEnd_1 : decode cX10_expectEnd 1 = .ok (.getfield 19, 3) := by decide +kernel
theorem dX10_expectEnd_4 : decode cX10_expectEnd 4 = .ok (.aload_n 0, 1) := by decide +kernel
theorem dX10_expectEnd_5 : decode cX10_expectEnd 5 = .ok (.getfield 15, 3) := by decide +kernel
theorem dX10_expectEnd_8 : decode cX10_expectEnd 8 = .ok (.if_icmp .ge 8, 3) := by decide +kernel
theorem dX10_expectEnd_11 : decode cX10_expectEnd 11 = .ok (.aload_n 0, 1) := by decide +kernel
theorem dX10_expectEnd_12 : decode cX10_expectEnd 12 = .ok (.iconst 1, 1) := by decide +kernel
theorem dX10_expectEnd_13 : decode cX10_expectEnd 13 = .ok (.putfield 22, 3) := by decide +kernel
theorem dX10_expectEnd_16 : decode cX10_expectEnd 16 = .ok (.return_, 1) := by decide +kernel
