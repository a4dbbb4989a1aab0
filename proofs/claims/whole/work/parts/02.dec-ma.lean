theorem dX12_init_0 : decode cX12_init 0 = .ok (.aload_n 0, 1) := by decide +kernel
theorem dX12_init_1 : decode cX12_init 1 = .ok (.invokespecial 3, 3) := by decide +kernel
theorem dX12_init_4 : decode cX12_init 4 = .ok (.aload_n 0, 1) := by decide +kernel
theorem dX12_init_5 : decode cX12_init 5 = .ok (.sipush 1999, 3) := by decide +kernel
theorem dX12_init_8 : decode cX12_init 8 = .ok (.newarray .int, 2) := by decide +kernel
theorem dX12_init_10 : decode cX12_init 10 = .ok (.putfield 9, 3) := by decide +kernel
theorem dX12_init_13 : decode cX12_init 13 = .ok (.aload_n 0, 1) := by decide +kernel
theorem dX12_init_14 : decode cX12_init 14 = .ok (.sipush 1999, 3) := by decide +kernel
theorem dX12_init_17 : decode cX12_init 17 = .ok (.newarray .int, 2) := by decide +kernel
theorem dX12_init_19 : decode cX12_init 19 = .ok (.putfield 13, 3) := by decide +kernel
theorem dX12_init_22 : decode cX12_init 22 = .ok (.aload_n 0, 1) := by decide +kernel
theorem dX12_init_23 : decode cX12_init 23 = .ok (.sipush 1999, 3) := by decide +kernel
theorem dX12_init_26 : decode cX12_init 26 = .ok (.newarray .int, 2) := by decide +kernel
theorem dX12_init_28 : decode cX12_init 28 = .ok (.putfield 16, 3) := by decide +kernel
theorem dX12_init_31 : decode cX12_init 31 = .ok (.aload_n 0, 1) := by decide +kernel
theorem dX12_init_32 : decode cX12_init 32 = .ok (.sipush 128, 3) := by decide +kernel
theorem dX12_init_35 : decode cX12_init 35 = .ok (.newarray .long, 2) := by decide +kernel
theorem dX12_init_37 : decode cX12_init 37 = .ok (.putfield 19, 3) := by decide +kernel
theorem dX12_init_40 : decode cX12_init 40 = .ok (.aload_n 0, 1) := by decide +kernel
theorem dX12_init_41 : decode cX12_init 41 = .ok (.sipush 128, 3) := by decide +kernel
theorem dX12_init_44 : decode cX12_init 44 = .ok (.newarray .long, 2) := by decide +kernel
theorem dX12_init_46 : decode cX12_init 46 = .ok (.putfield 23, 3) := by decide +kernel
theorem dX12_init_49 : decode cX12_init 49 = .ok (.aload_n 0, 1) := by decide +kernel
theorem dX12_init_50 : decode cX12_init 50 = .ok (.sipush 128, 3) := by decide +kernel
theorem dX12_init_53 : decode cX12_init 53 = .ok (.newarray .long, 2) := by decide +kernel
theorem dX12_init_55 : decode cX12_init 55 = .ok (.putfield 26, 3) := by decide +kernel
theorem dX12_init_58 : decode cX12_init 58 = .ok (.aload_n 0, 1) := by decide +kernel
theorem dX12_init_59 : decode cX12_init 59 = .ok (.bipush 60, 2) := by decide +kernel
theorem dX12_init_61 : decode cX12_init 61 = .ok (.newarray .int, 2) := by decide +kernel
theorem dX12_init_63 : decode cX12_init 63 = .ok (.putfield 29, 3) := by decide +kernel
theorem dX12_init_66 : decode cX12_init 66 = .ok (.aload_n 0, 1) := by decide +kernel
theorem dX12_init_67 : decode cX12_init 67 = .ok (.bipush 12, 2) := by decide +kernel
theorem dX12_init_69 : decode cX12_init 69 = .ok (.newarray .int, 2) := by decide +kernel
theorem dX12_init_71 : decode cX12_init 71 = .ok (.putfield 32, 3) := by decide +kernel
theorem dX12_init_74 : decode cX12_init 74 = .ok (.aload_n 0, 1) := by decide +kernel
theorem dX12_init_75 : decode cX12_init 75 = .ok (.getfield 9, 3) := by decide +kernel
theorem dX12_init_78 : decode cX12_init 78 = .ok (.sipush 1842, 3) := by decide +kernel
theorem dX12_init_81 : decode cX12_init 81 = .ok (.iconst 5, 1) := by decide +kernel
theorem dX12_init_82 : decode cX12_init 82 = .ok (.iastore, 1) := by decide +kernel
theorem dX12_init_83 : decode cX12_init 83 = .ok (.aload_n 0, 1) := by decide +kernel
theorem dX12_init_84 : decode cX12_init 84 = .ok (.getfield 9, 3) := by decide +kernel
theorem dX12_init_87 : decode cX12_init 87 = .ok (.sipush 1843, 3) := by decide +kernel
theorem dX12_init_90 : decode cX12_init 90 = .ok (.bipush 60, 2) := by decide +kernel
theorem dX12_init_92 : decode cX12_init 92 = .ok (.iastore, 1) := by decide +kernel
theorem dX12_init_93 : decode cX12_init 93 = .ok (.aload_n 0, 1) := by decide +kernel
theorem dX12_init_94 : decode cX12_init 94 = .ok (.getfield 9, 3) := by decide +kernel
theorem dX12_init_97 : decode cX12_init 97 = .ok (.sipush 1844, 3) := by decide +kernel
theorem dX12_init_100 : decode cX12_init 100 = .ok (.bipush 30, 2) := by decide +kernel
theorem dX12_init_102 : decode cX12_init 102 = .ok (.iastore, 1) := by decide +kernel
theorem dX12_init_103 : decode cX12_init 103 = .ok (.aload_n 0, 1) := by decide +kernel
theorem dX12_init_104 : decode cX12_init 104 = .ok (.getfield 9, 3) := by decide +kernel
theorem dX12_init_107 : decode cX12_init 107 = .ok (.sipush 1845, 3) := by decide +kernel
theorem dX12_init_110 : decode cX12_init 110 = .ok (.iconst 4, 1) := by decide +kernel
theorem dX12_init_111 : decode cX12_init 111 = .ok (.iastore, 1) := by decide +kernel
theorem dX12_init_112 : decode cX12_init 112 = .ok (.aload_n 0, 1) := by decide +kernel
theorem dX12_init_113 : decode cX12_init 113 = .ok (.getfield 9, 3) := by decide +kernel
theorem dX12_init_116 : decode cX12_init 116 = .ok (.sipush 1846, 3) := by decide +kernel
theorem dX12_init_119 : decode cX12_init 119 = .ok (.iconst 1, 1) := by decide +kernel
theorem dX12_init_120 : decode cX12_init 120 = .ok (.iastore, 1) := by decide +kernel
theorem dX12_init_121 : decode cX12_init 121 = .ok (.return_, 1) := by decide +kernel
theorem dX12_isIn_0 : decode cX12_isIn 0 = .ok (.iload_n 0, 1) := by decide +kernel
theorem dX12_isIn_1 : decode cX12_isIn 1 = .ok (.iload_n 1, 1) := by decide +kernel
theorem dX12_isIn_2 : decode cX12_isIn 2 = .ok (.if_icmp .lt 12, 3) := by decide +kernel
theorem dX12_isIn_5 : decode cX12_isIn 5 = .ok (.iload_n 0, 1) := by decide +kernel
theorem dX12_isIn_6 : decode cX12_isIn 6 = .ok (.iload_n 2, 1) := by decide +kernel
theorem dX12_isIn_7 : decode cX12_isIn 7 = .ok (.if_icmp .gt 7, 3) := by decide +kernel
theorem dX12_isIn_10 : decode cX12_isIn 10 = .ok (.iconst 1, 1) := by decide +kernel
theorem dX12_isIn_11 : decode cX12_isIn 11 = .ok (.goto 4, 3) := by decide +kernel
theorem dX12_isIn_14 : decode cX12_isIn 14 = .ok (.iconst 0, 1) := by decide +kernel
theorem dX12_isIn_15 : decode cX12_isIn 15 = .ok (.ireturn, 1) := by decide +kernel
theorem dX12_copies_0 : decode cX12_copies 0 = .ok (.iconst 0, 1) := by decide +kernel
theorem dX12_copies_1 : decode cX12_copies 1 = .ok (.istore 4, 2) := by decide +kernel
theorem dX12_copies_3 : decode cX12_copies 3 = .ok (.iload 4, 2) := by decide +kernel
theorem dX12_copies_5 : decode cX12_copies 5 = .ok (.sipush 1999, 3) := by decide +kernel
theorem dX12_copies_8 : decode cX12_copies 8 = .ok (.if_icmp .ge 17, 3) := by decide +kernel
theorem dX12_copies_11 : decode cX12_copies 11 = .ok (.aload_n 1, 1) := by decide +kernel
theorem dX12_copies_12 : decode cX12_copies 12 = .ok (.iload 4, 2) := by decide +kernel
theorem dX12_copies_14 : decode cX12_copies 14 = .ok (.aload_n 0, 1) := by decide +kernel
theorem dX12_copies_15 : decode cX12_copies 15 = .ok (.iload 4, 2) := by decide +kernel
theorem dX12_copies_17 : decode cX12_copies 17 = .ok (.iaload, 1) := by decide +kernel
theorem dX12_copies_18 : decode cX12_copies 18 = .ok (.iastore, 1) := by decide +kernel
theorem dX12_copies_19 : decode cX12_copies 19 = .ok (.iinc 4 1, 3) := by decide +kernel
theorem dX12_copies_22 : decode cX12_copies 22 = .ok (.goto (-19), 3) := by decide +kernel
theorem dX12_copies_25 : decode cX12_copies 25 = .ok (.iconst 0, 1) := by decide +kernel
theorem dX12_copies_26 : decode cX12_copies 26 = .ok (.istore 4, 2) := by decide +kernel
theorem dX12_copies_28 : decode cX12_copies 28 = .ok (.iload 4, 2) := by decide +kernel
theorem dX12_copies_30 : decode cX12_copies 30 = .ok (.sipush 128, 3) := by decide +kernel
theorem dX12_copies_33 : decode cX12_copies 33 = .ok (.if_icmp .ge 17, 3) := by decide +kernel
theorem dX12_copies_36 : decode cX12_copies 36 = .ok (.aload_n 3, 1) := by decide +kernel
theorem dX12_copies_37 : decode cX12_copies 37 = .ok (.iload 4, 2) := by decide +kernel
theorem dX12_copies_39 : decode cX12_copies 39 = .ok (.aload_n 2, 1) := by decide +kernel
theorem dX12_copies_40 : decode cX12_copies 40 = .ok (.iload 4, 2) := by decide +kernel
theorem dX12_copies_42 : decode cX12_copies 42 = .ok (.laload, 1) := by decide +kernel
theorem dX12_copies_43 : decode cX12_copies 43 = .ok (.lastore, 1) := by decide +kernel
theorem dX12_copies_44 : decode cX12_copies 44 = .ok (.iinc 4 1, 3) := by decide +kernel
theorem dX12_copies_47 : decode cX12_copies 47 = .ok (.goto (-19), 3) := by decide +kernel
theorem dX12_copies_50 : decode cX12_copies 50 = .ok (.return_, 1) := by decide +kernel
theorem dX12_label_0 : decode cX12_label 0 = .ok (.iload_n 1, 1) := by decide +kernel
theorem dX12_label_1 : decode cX12_label 1 = .ok (.iconst 0, 1) := by decide +kernel
theorem dX12_label_2 : decode cX12_label 2 = .ok (.bipush 11, 2) := by decide +kernel
theorem dX12_label_4 : decode cX12_label 4 = .ok (.invokestatic 35, 3) := by decide +kernel
theorem dX12_label_7 : decode cX12_label 7 = .ok (.ifCond .eq 12, 3) := by decide +kernel
theorem dX12_label_10 : decode cX12_label 10 = .ok (.iload_n 2, 1) := by decide +kernel
theorem dX12_label_11 : decode cX12_label 11 = .ok (.iconst 0, 1) := by decide +kernel
theorem dX12_label_12 : decode cX12_label 12 = .ok (.iconst 2, 1) := by decide +kernel
theorem dX12_label_13 : decode cX12_label 13 = .ok (.invokestatic 35, 3) := by decide +kernel
theorem dX12_label_16 : decode cX12_label 16 = .ok (.ifCond .ne 5, 3) := by decide +kernel
theorem dX12_label_19 : decode cX12_label 19 = .ok (.iconst (-1), 1) := by decide +kernel
theorem dX12_label_20 : decode cX12_label 20 = .ok (.ireturn, 1) := by decide +kernel
theorem dX12_label_21 : decode cX12_label 21 = .ok (.iload_n 3, 1) := by decide +kernel
theorem dX12_label_22 : decode cX12_label 22 = .ok (.iconst 0, 1) := by decide +kernel
theorem dX12_label_23 : decode cX12_label 23 = .ok (.iload_n 2, 1) := by decide +kernel
theorem dX12_label_24 : decode cX12_label 24 = .ok (.iconst 1, 1) := by decide +kernel
theorem dX12_label_25 : decode cX12_label 25 = .ok (.if_icmp .ne 8, 3) := by decide +kernel
theorem dX12_label_28 : decode cX12_label 28 = .ok (.bipush 7, 2) := by decide +kernel
theorem dX12_label_30 : decode cX12_label 30 = .ok (.goto 4, 3) := by decide +kernel
theorem dX12_label_33 : decode cX12_label 33 = .ok (.iconst 3, 1) := by decide +kernel
theorem dX12_label_34 : decode cX12_label 34 = .ok (.invokestatic 35, 3) := by decide +kernel
theorem dX12_label_37 : decode cX12_label 37 = .ok (.ifCond .ne 6, 3) := by decide +kernel
theorem dX12_label_40 : decode cX12_label 40 = .ok (.bipush (-2), 2) := by decide +kernel
theorem dX12_label_42 : decode cX12_label 42 = .ok (.ireturn, 1) := by decide +kernel
theorem dX12_label_43 : decode cX12_label 43 = .ok (.aload_n 0, 1) := by decide +kernel
theorem dX12_label_44 : decode cX12_label 44 = .ok (.getfield 9, 3) := by decide +kernel
theorem dX12_label_47 : decode cX12_label 47 = .ok (.iconst 0, 1) := by decide +kernel
theorem dX12_label_48 : decode cX12_label 48 = .ok (.iconst 3, 1) := by decide +kernel
theorem dX12_label_49 : decode cX12_label 49 = .ok (.iload_n 1, 1) := by decide +kernel
theorem dX12_label_50 : decode cX12_label 50 = .ok (.imul, 1) := by decide +kernel
theorem dX12_label_51 : decode cX12_label 51 = .ok (.iadd, 1) := by decide +kernel
theorem dX12_label_52 : decode cX12_label 52 = .ok (.iload_n 2, 1) := by decide +kernel
theorem dX12_label_53 : decode cX12_label 53 = .ok (.iadd, 1) := by decide +kernel
theorem dX12_label_54 : decode cX12_label 54 = .ok (.iaload, 1) := by decide +kernel
theorem dX12_label_55 : decode cX12_label 55 = .ok (.istore 4, 2) := by decide +kernel
theorem dX12_label_57 : decode cX12_label 57 = .ok (.aload_n 0, 1) := by decide +kernel
theorem dX12_label_58 : decode cX12_label 58 = .ok (.getfield 9, 3) := by decide +kernel
theorem dX12_label_61 : decode cX12_label 61 = .ok (.iconst 0, 1) := by decide +kernel
theorem dX12_label_62 : decode cX12_label 62 = .ok (.iconst 3, 1) := by decide +kernel
theorem dX12_label_63 : decode cX12_label 63 = .ok (.iload_n 1, 1) := by decide +kernel
theorem dX12_label_64 : decode cX12_label 64 = .ok (.imul, 1) := by decide +kernel
theorem dX12_label_65 : decode cX12_label 65 = .ok (.iadd, 1) := by decide +kernel
theorem dX12_label_66 : decode cX12_label 66 = .ok (.iload_n 2, 1) := by decide +kernel
theorem dX12_label_67 : decode cX12_label 67 = .ok (.iadd, 1) := by decide +kernel
theorem dX12_label_68 : decode cX12_label 68 = .ok (.iload_n 3, 1) := by decide +kernel
theorem dX12_label_69 : decode cX12_label 69 = .ok (.iastore, 1) := by decide +kernel
theorem dX12_label_70 : decode cX12_label 70 = .ok (.iload 4, 2) := by decide +kernel
theorem dX12_label_72 : decode cX12_label 72 = .ok (.ireturn, 1) := by decide +kernel
theorem dX12_sample_0 : decode cX12_sample 0 = .ok (.iload_n 1, 1) := by decide +kernel
theorem dX12_sample_1 : decode cX12_sample 1 = .ok (.iconst 0, 1) := by decide +kernel
theorem dX12_sample_2 : decode cX12_sample 2 = .ok (.bipush 11, 2) := by decide +kernel
theorem dX12_sample_4 : decode cX12_sample 4 = .ok (.invokestatic 35, 3) := by decide +kernel
theorem dX12_sample_7 : decode cX12_sample 7 = .ok (.ifCond .ne 5, 3) := by decide +kernel
theorem dX12_sample_10 : decode cX12_sample 10 = .ok (.iconst (-1), 1) := by decide +kernel
theorem dX12_sample_11 : decode cX12_sample 11 = .ok (.ireturn, 1) := by decide +kernel
theorem dX12_sample_12 : decode cX12_sample 12 = .ok (.aload_n 0, 1) := by decide +kernel
theorem dX12_sample_13 : decode cX12_sample 13 = .ok (.getfield 9, 3) := by decide +kernel
theorem dX12_sample_16 : decode cX12_sample 16 = .ok (.bipush 48, 2) := by decide +kernel
theorem dX12_sample_18 : decode cX12_sample 18 = .ok (.iload_n 1, 1) := by decide +kernel
theorem dX12_sample_19 : decode cX12_sample 19 = .ok (.iadd, 1) := by decide +kernel
theorem dX12_sample_20 : decode cX12_sample 20 = .ok (.iaload, 1) := by decide +kernel
theorem dX12_sample_21 : decode cX12_sample 21 = .ok (.istore_n 3, 1) := by decide +kernel
theorem dX12_sample_22 : decode cX12_sample 22 = .ok (.aload_n 0, 1) := by decide +kernel
theorem dX12_sample_23 : decode cX12_sample 23 = .ok (.getfield 9, 3) := by decide +kernel
theorem dX12_sample_26 : decode cX12_sample 26 = .ok (.bipush 48, 2) := by decide +kernel
theorem dX12_sample_28 : decode cX12_sample 28 = .ok (.iload_n 1, 1) := by decide +kernel
theorem dX12_sample_29 : decode cX12_sample 29 = .ok (.iadd, 1) := by decide +kernel
theorem dX12_sample_30 : decode cX12_sample 30 = .ok (.iconst 1, 1) := by decide +kernel
theorem dX12_sample_31 : decode cX12_sample 31 = .ok (.iastore, 1) := by decide +kernel
theorem dX12_sample_32 : decode cX12_sample 32 = .ok (.aload_n 0, 1) := by decide +kernel
theorem dX12_sample_33 : decode cX12_sample 33 = .ok (.getfield 9, 3) := by decide +kernel
theorem dX12_sample_36 : decode cX12_sample 36 = .ok (.bipush 36, 2) := by decide +kernel
theorem dX12_sample_38 : decode cX12_sample 38 = .ok (.iload_n 1, 1) := by decide +kernel
theorem dX12_sample_39 : decode cX12_sample 39 = .ok (.iadd, 1) := by decide +kernel
theorem dX12_sample_40 : decode cX12_sample 40 = .ok (.iload_n 2, 1) := by decide +kernel
theorem dX12_sample_41 : decode cX12_sample 41 = .ok (.iastore, 1) := by decide +kernel
theorem dX12_sample_42 : decode cX12_sample 42 = .ok (.iload_n 3, 1) := by decide +kernel
theorem dX12_sample_43 : decode cX12_sample 43 = .ok (.ireturn, 1) := by decide +kernel
theorem dX12_drop_0 : decode cX12_drop 0 = .ok (.iload_n 1, 1) := by decide +kernel
theorem dX12_drop_1 : decode cX12_drop 1 = .ok (.iconst 0, 1) := by decide +kernel
theorem dX12_drop_2 : decode cX12_drop 2 = .ok (.bipush 11, 2) := by decide +kernel
theorem dX12_drop_4 : decode cX12_drop 4 = .ok (.invokestatic 35, 3) := by decide +kernel
theorem dX12_drop_7 : decode cX12_drop 7 = .ok (.ifCond .ne 5, 3) := by decide +kernel
theorem dX12_drop_10 : decode cX12_drop 10 = .ok (.iconst (-1), 1) := by decide +kernel
theorem dX12_drop_11 : decode cX12_drop 11 = .ok (.ireturn, 1) := by decide +kernel
theorem dX12_drop_12 : decode cX12_drop 12 = .ok (.aload_n 0, 1) := by decide +kernel
theorem dX12_drop_13 : decode cX12_drop 13 = .ok (.getfield 9, 3) := by decide +kernel
theorem dX12_drop_16 : decode cX12_drop 16 = .ok (.bipush 48, 2) := by decide +kernel
theorem dX12_drop_18 : decode cX12_drop 18 = .ok (.iload_n 1, 1) := by decide +kernel
theorem dX12_drop_19 : decode cX12_drop 19 = .ok (.iadd, 1) := by decide +kernel
theorem dX12_drop_20 : decode cX12_drop 20 = .ok (.iaload, 1) := by decide +kernel
theorem dX12_drop_21 : decode cX12_drop 21 = .ok (.istore_n 2, 1) := by decide +kernel
theorem dX12_drop_22 : decode cX12_drop 22 = .ok (.aload_n 0, 1) := by decide +kernel
theorem dX12_drop_23 : decode cX12_drop 23 = .ok (.getfield 9, 3) := by decide +kernel
theorem dX12_drop_26 : decode cX12_drop 26 = .ok (.bipush 48, 2) := by decide +kernel
theorem dX12_drop_28 : decode cX12_drop 28 = .ok (.iload_n 1, 1) := by decide +kernel
theorem dX12_drop_29 : decode cX12_drop 29 = .ok (.iadd, 1) := by decide +kernel
theorem dX12_drop_30 : decode cX12_drop 30 = .ok (.iconst 0, 1) := by decide +kernel
theorem dX12_drop_31 : decode cX12_drop 31 = .ok (.iastore, 1) := by decide +kernel
theorem dX12_drop_32 : decode cX12_drop 32 = .ok (.aload_n 0, 1) := by decide +kernel
theorem dX12_drop_33 : decode cX12_drop 33 = .ok (.getfield 9, 3) := by decide +kernel
theorem dX12_drop_36 : decode cX12_drop 36 = .ok (.bipush 36, 2) := by decide +kernel
theorem dX12_drop_38 : decode cX12_drop 38 = .ok (.iload_n 1, 1) := by decide +kernel
theorem dX12_drop_39 : decode cX12_drop 39 = .ok (.iadd, 1) := by decide +kernel
theorem dX12_drop_40 : decode cX12_drop 40 = .ok (.iconst 0, 1) := by decide +kernel
theorem dX12_drop_41 : decode cX12_drop 41 = .ok (.iastore, 1) := by decide +kernel
theorem dX12_drop_42 : decode cX12_drop 42 = .ok (.iload_n 2, 1) := by decide +kernel
theorem dX12_drop_43 : decode cX12_drop 43 = .ok (.ireturn, 1) := by decide +kernel
theorem dX12_feed_0 : decode cX12_feed 0 = .ok (.iload_n 1, 1) := by decide +kernel
theorem dX12_feed_1 : decode cX12_feed 1 = .ok (.iconst 1, 1) := by decide +kernel
theorem dX12_feed_2 : decode cX12_feed 2 = .ok (.iconst 5, 1) := by decide +kernel
theorem dX12_feed_3 : decode cX12_feed 3 = .ok (.invokestatic 35, 3) := by decide +kernel
theorem dX12_feed_6 : decode cX12_feed 6 = .ok (.ifCond .eq 56, 3) := by decide +kernel
theorem dX12_feed_9 : decode cX12_feed 9 = .ok (.iload_n 2, 1) := by decide +kernel
theorem dX12_feed_10 : decode cX12_feed 10 = .ok (.iconst 0, 1) := by decide +kernel
theorem dX12_feed_11 : decode cX12_feed 11 = .ok (.bipush 127, 2) := by decide +kernel
theorem dX12_feed_13 : decode cX12_feed 13 = .ok (.invokestatic 35, 3) := by decide +kernel
theorem dX12_feed_16 : decode cX12_feed 16 = .ok (.ifCond .eq 46, 3) := by decide +kernel
theorem dX12_feed_19 : decode cX12_feed 19 = .ok (.iload_n 3, 1) := by decide +kernel
theorem dX12_feed_20 : decode cX12_feed 20 = .ok (.iconst 0, 1) := by decide +kernel
theorem dX12_feed_21 : decode cX12_feed 21 = .ok (.bipush 127, 2) := by decide +kernel
theorem dX12_feed_23 : decode cX12_feed 23 = .ok (.invokestatic 35, 3) := by decide +kernel
theorem dX12_feed_26 : decode cX12_feed 26 = .ok (.ifCond .eq 36, 3) := by decide +kernel
theorem dX12_feed_29 : decode cX12_feed 29 = .ok (.iload 4, 2) := by decide +kernel
theorem dX12_feed_31 : decode cX12_feed 31 = .ok (.iconst 0, 1) := by decide +kernel
theorem dX12_feed_32 : decode cX12_feed 32 = .ok (.bipush 127, 2) := by decide +kernel
theorem dX12_feed_34 : decode cX12_feed 34 = .ok (.invokestatic 35, 3) := by decide +kernel
theorem dX12_feed_37 : decode cX12_feed 37 = .ok (.ifCond .eq 25, 3) := by decide +kernel
theorem dX12_feed_40 : decode cX12_feed 40 = .ok (.iload 5, 2) := by decide +kernel
theorem dX12_feed_42 : decode cX12_feed 42 = .ok (.iconst 0, 1) := by decide +kernel
theorem dX12_feed_43 : decode cX12_feed 43 = .ok (.bipush 127, 2) := by decide +kernel
theorem dX12_feed_45 : decode cX12_feed 45 = .ok (.invokestatic 35, 3) := by decide +kernel
theorem dX12_feed_48 : decode cX12_feed 48 = .ok (.ifCond .eq 14, 3) := by decide +kernel
theorem dX12_feed_51 : decode cX12_feed 51 = .ok (.iload 6, 2) := by decide +kernel
theorem dX12_feed_53 : decode cX12_feed 53 = .ok (.iconst 0, 1) := by decide +kernel
theorem dX12_feed_54 : decode cX12_feed 54 = .ok (.bipush 127, 2) := by decide +kernel
theorem dX12_feed_56 : decode cX12_feed 56 = .ok (.invokestatic 35, 3) := by decide +kernel
theorem dX12_feed_59 : decode cX12_feed 59 = .ok (.ifCond .ne 6, 3) := by decide +kernel
theorem dX12_feed_62 : decode cX12_feed 62 = .ok (.bipush (-2), 2) := by decide +kernel
theorem dX12_feed_64 : decode cX12_feed 64 = .ok (.ireturn, 1) := by decide +kernel
theorem dX12_feed_65 : decode cX12_feed 65 = .ok (.aload_n 0, 1) := by decide +kernel
theorem dX12_feed_66 : decode cX12_feed 66 = .ok (.getfield 39, 3) := by decide +kernel
theorem dX12_feed_69 : decode cX12_feed 69 = .ok (.iload_n 1, 1) := by decide +kernel
theorem dX12_feed_70 : decode cX12_feed 70 = .ok (.iadd, 1) := by decide +kernel
theorem dX12_feed_71 : decode cX12_feed 71 = .ok (.bipush 60, 2) := by decide +kernel
theorem dX12_feed_73 : decode cX12_feed 73 = .ok (.if_icmp .le 6, 3) := by decide +kernel
theorem dX12_feed_76 : decode cX12_feed 76 = .ok (.bipush (-4), 2) := by decide +kernel
theorem dX12_feed_78 : decode cX12_feed 78 = .ok (.ireturn, 1) := by decide +kernel
theorem dX12_feed_79 : decode cX12_feed 79 = .ok (.iconst 0, 1) := by decide +kernel
theorem dX12_feed_80 : decode cX12_feed 80 = .ok (.istore 7, 2) := by decide +kernel
theorem dX12_feed_82 : decode cX12_feed 82 = .ok (.iload 7, 2) := by decide +kernel
theorem dX12_feed_84 : decode cX12_feed 84 = .ok (.iload_n 1, 1) := by decide +kernel
theorem dX12_feed_85 : decode cX12_feed 85 = .ok (.if_icmp .ge 64, 3) := by decide +kernel
theorem dX12_feed_88 : decode cX12_feed 88 = .ok (.aload_n 0, 1) := by decide +kernel
theorem dX12_feed_89 : decode cX12_feed 89 = .ok (.getfield 29, 3) := by decide +kernel
theorem dX12_feed_92 : decode cX12_feed 92 = .ok (.aload_n 0, 1) := by decide +kernel
theorem dX12_feed_93 : decode cX12_feed 93 = .ok (.getfield 39, 3) := by decide +kernel
theorem dX12_feed_96 : decode cX12_feed 96 = .ok (.iload 7, 2) := by decide +kernel
theorem dX12_feed_98 : decode cX12_feed 98 = .ok (.iadd, 1) := by decide +kernel
theorem dX12_feed_99 : decode cX12_feed 99 = .ok (.iload 7, 2) := by decide +kernel
theorem dX12_feed_101 : decode cX12_feed 101 = .ok (.ifCond .ne 7, 3) := by decide +kernel
theorem dX12_feed_104 : decode cX12_feed 104 = .ok (.iload_n 2, 1) := by decide +kernel
theorem dX12_feed_105 : decode cX12_feed 105 = .ok (.goto 37, 3) := by decide +kernel
theorem dX12_feed_108 : decode cX12_feed 108 = .ok (.iload 7, 2) := by decide +kernel
theorem dX12_feed_110 : decode cX12_feed 110 = .ok (.iconst 1, 1) := by decide +kernel
theorem dX12_feed_111 : decode cX12_feed 111 = .ok (.if_icmp .ne 7, 3) := by decide +kernel
theorem dX12_feed_114 : decode cX12_feed 114 = .ok (.iload_n 3, 1) := by decide +kernel
theorem dX12_feed_115 : decode cX12_feed 115 = .ok (.goto 27, 3) := by decide +kernel
theorem dX12_feed_118 : decode cX12_feed 118 = .ok (.iload 7, 2) := by decide +kernel
theorem dX12_feed_120 : decode cX12_feed 120 = .ok (.iconst 2, 1) := by decide +kernel
theorem dX12_feed_121 : decode cX12_feed 121 = .ok (.if_icmp .ne 8, 3) := by decide +kernel
theorem dX12_feed_124 : decode cX12_feed 124 = .ok (.iload 4, 2) := by decide +kernel
theorem dX12_feed_126 : decode cX12_feed 126 = .ok (.goto 16, 3) := by decide +kernel
theorem dX12_feed_129 : decode cX12_feed 129 = .ok (.iload 7, 2) := by decide +kernel
theorem dX12_feed_131 : decode cX12_feed 131 = .ok (.iconst 3, 1) := by decide +kernel
theorem dX12_feed_132 : decode cX12_feed 132 = .ok (.if_icmp .ne 8, 3) := by decide +kernel
theorem dX12_feed_135 : decode cX12_feed 135 = .ok (.iload 5, 2) := by decide +kernel
theorem dX12_feed_137 : decode cX12_feed 137 = .ok (.goto 5, 3) := by decide +kernel
theorem dX12_feed_140 : decode cX12_feed 140 = .ok (.iload 6, 2) := by decide +kernel
theorem dX12_feed_142 : decode cX12_feed 142 = .ok (.iastore, 1) := by decide +kernel
theorem dX12_feed_143 : decode cX12_feed 143 = .ok (.iinc 7 1, 3) := by decide +kernel
theorem dX12_feed_146 : decode cX12_feed 146 = .ok (.goto (-64), 3) := by decide +kernel
theorem dX12_feed_149 : decode cX12_feed 149 = .ok (.aload_n 0, 1) := by decide +kernel
theorem dX12_feed_150 : decode cX12_feed 150 = .ok (.dup, 1) := by decide +kernel
theorem dX12_feed_151 : decode cX12_feed 151 = .ok (.getfield 39, 3) := by decide +kernel
theorem dX12_feed_154 : decode cX12_feed 154 = .ok (.iload_n 1, 1) := by decide +kernel
theorem dX12_feed_155 : decode cX12_feed 155 = .ok (.iadd, 1) := by decide +kernel
theorem dX12_feed_156 : decode cX12_feed 156 = .ok (.putfield 39, 3) := by decide +kernel
theorem dX12_feed_159 : decode cX12_feed 159 = .ok (.aload_n 0, 1) := by decide +kernel
theorem dX12_feed_160 : decode cX12_feed 160 = .ok (.getfield 39, 3) := by decide +kernel
theorem dX12_feed_163 : decode cX12_feed 163 = .ok (.ireturn, 1) := by decide +kernel
theorem dX12_here_0 : decode cX12_here 0 = .ok (.aload_n 0, 1) := by decide +kernel
theorem dX12_here_1 : decode cX12_here 1 = .ok (.getfield 43, 3) := by decide +kernel
theorem dX12_here_4 : decode cX12_here 4 = .ok (.aload_n 0, 1) := by decide +kernel
theorem dX12_here_5 : decode cX12_here 5 = .ok (.getfield 39, 3) := by decide +kernel
theorem dX12_here_8 : decode cX12_here 8 = .ok (.if_icmp .ge 15, 3) := by decide +kernel
theorem dX12_here_11 : decode cX12_here 11 = .ok (.aload_n 0, 1) := by decide +kernel
theorem dX12_here_12 : decode cX12_here 12 = .ok (.getfield 29, 3) := by decide +kernel
theorem dX12_here_15 : decode cX12_here 15 = .ok (.aload_n 0, 1) := by decide +kernel
theorem dX12_here_16 : decode cX12_here 16 = .ok (.getfield 43, 3) := by decide +kernel
theorem dX12_here_19 : decode cX12_here 19 = .ok (.iaload, 1) := by decide +kernel
theorem dX12_here_20 : decode cX12_here 20 = .ok (.goto 4, 3) := by decide +kernel
theorem dX12_here_23 : decode cX12_here 23 = .ok (.iconst (-1), 1) := by decide +kernel
theorem dX12_here_24 : decode cX12_here 24 = .ok (.ireturn, 1) := by decide +kernel
theorem dX12_sign_0 : decode cX12_sign 0 = .ok (.aload_n 0, 1) := by decide +kernel
theorem dX12_sign_1 : decode cX12_sign 1 = .ok (.dup, 1) := by decide +kernel
theorem dX12_sign_2 : decode cX12_sign 2 = .ok (.getfield 46, 3) := by decide +kernel
theorem dX12_sign_5 : decode cX12_sign 5 = .ok (.aload_n 0, 1) := by decide +kernel
theorem dX12_sign_6 : decode cX12_sign 6 = .ok (.invokevirtual 50, 3) := by decide +kernel
theorem dX12_sign_9 : decode cX12_sign 9 = .ok (.iload_n 1, 1) := by decide +kernel
theorem dX12_sign_10 : decode cX12_sign 10 = .ok (.if_icmp .eq 7, 3) := by decide +kernel
theorem dX12_sign_13 : decode cX12_sign 13 = .ok (.iconst 1, 1) := by decide +kernel
theorem dX12_sign_14 : decode cX12_sign 14 = .ok (.goto 4, 3) := by decide +kernel
theorem dX12_sign_17 : decode cX12_sign 17 = .ok (.iconst 0, 1) := by decide +kernel
theorem dX12_sign_18 : decode cX12_sign 18 = .ok (.ior, 1) := by decide +kernel
theorem dX12_sign_19 : decode cX12_sign 19 = .ok (.putfield 46, 3) := by decide +kernel
theorem dX12_sign_22 : decode cX12_sign 22 = .ok (.aload_n 0, 1) := by decide +kernel
theorem dX12_sign_23 : decode cX12_sign 23 = .ok (.dup, 1) := by decide +kernel
theorem dX12_sign_24 : decode cX12_sign 24 = .ok (.getfield 43, 3) := by decide +kernel
theorem dX12_sign_27 : decode cX12_sign 27 = .ok (.aload_n 0, 1) := by decide +kernel
theorem dX12_sign_28 : decode cX12_sign 28 = .ok (.getfield 46, 3) := by decide +kernel
theorem dX12_sign_31 : decode cX12_sign 31 = .ok (.ifCond .eq 7, 3) := by decide +kernel
theorem dX12_sign_34 : decode cX12_sign 34 = .ok (.iconst 0, 1) := by decide +kernel
theorem dX12_sign_35 : decode cX12_sign 35 = .ok (.goto 4, 3) := by decide +kernel
theorem dX12_sign_38 : decode cX12_sign 38 = .ok (.iconst 1, 1) := by decide +kernel
theorem dX12_sign_39 : decode cX12_sign 39 = .ok (.iadd, 1) := by decide +kernel
theorem dX12_sign_40 : decode cX12_sign 40 = .ok (.putfield 43, 3) := by decide +kernel
theorem dX12_sign_43 : decode cX12_sign 43 = .ok (.return_, 1) := by decide +kernel
theorem dX12_digit_0 : decode cX12_digit 0 = .ok (.aload_n 0, 1) := by decide +kernel
theorem dX12_digit_1 : decode cX12_digit 1 = .ok (.invokevirtual 50, 3) := by decide +kernel
theorem dX12_digit_4 : decode cX12_digit 4 = .ok (.bipush 48, 2) := by decide +kernel
theorem dX12_digit_6 : decode cX12_digit 6 = .ok (.isub, 1) := by decide +kernel
theorem dX12_digit_7 : decode cX12_digit 7 = .ok (.istore_n 2, 1) := by decide +kernel
theorem dX12_digit_8 : decode cX12_digit 8 = .ok (.aload_n 0, 1) := by decide +kernel
theorem dX12_digit_9 : decode cX12_digit 9 = .ok (.dup, 1) := by decide +kernel
theorem dX12_digit_10 : decode cX12_digit 10 = .ok (.getfield 46, 3) := by decide +kernel
theorem dX12_digit_13 : decode cX12_digit 13 = .ok (.iload_n 2, 1) := by decide +kernel
theorem dX12_digit_14 : decode cX12_digit 14 = .ok (.iconst 0, 1) := by decide +kernel
theorem dX12_digit_15 : decode cX12_digit 15 = .ok (.iload_n 1, 1) := by decide +kernel
theorem dX12_digit_16 : decode cX12_digit 16 = .ok (.invokestatic 35, 3) := by decide +kernel
theorem dX12_digit_19 : decode cX12_digit 19 = .ok (.ifCond .ne 7, 3) := by decide +kernel
theorem dX12_digit_22 : decode cX12_digit 22 = .ok (.iconst 1, 1) := by decide +kernel
theorem dX12_digit_23 : decode cX12_digit 23 = .ok (.goto 4, 3) := by decide +kernel
theorem dX12_digit_26 : decode cX12_digit 26 = .ok (.iconst 0, 1) := by decide +kernel
theorem dX12_digit_27 : decode cX12_digit 27 = .ok (.ior, 1) := by decide +kernel
theorem dX12_digit_28 : decode cX12_digit 28 = .ok (.putfield 46, 3) := by decide +kernel
theorem dX12_digit_31 : decode cX12_digit 31 = .ok (.aload_n 0, 1) := by decide +kernel
theorem dX12_digit_32 : decode cX12_digit 32 = .ok (.dup, 1) := by decide +kernel
theorem dX12_digit_33 : decode cX12_digit 33 = .ok (.getfield 43, 3) := by decide +kernel
theorem dX12_digit_36 : decode cX12_digit 36 = .ok (.aload_n 0, 1) := by decide +kernel
theorem dX12_digit_37 : decode cX12_digit 37 = .ok (.getfield 46, 3) := by decide +kernel
theorem dX12_digit_40 : decode cX12_digit 40 = .ok (.ifCond .eq 7, 3) := by decide +kernel
theorem dX12_digit_43 : decode cX12_digit 43 = .ok (.iconst 0, 1) := by decide +kernel
theorem dX12_digit_44 : decode cX12_digit 44 = .ok (.goto 4, 3) := by decide +kernel
theorem dX12_digit_47 : decode cX12_digit 47 = .ok (.iconst 1, 1) := by decide +kernel
theorem dX12_digit_48 : decode cX12_digit 48 = .ok (.iadd, 1) := by decide +kernel
theorem dX12_digit_49 : decode cX12_digit 49 = .ok (.putfield 43, 3) := by decide +kernel
theorem dX12_digit_52 : decode cX12_digit 52 = .ok (.aload_n 0, 1) := by decide +kernel
theorem dX12_digit_53 : decode cX12_digit 53 = .ok (.getfield 46, 3) := by decide +kernel
theorem dX12_digit_56 : decode cX12_digit 56 = .ok (.ifCond .eq 7, 3) := by decide +kernel
theorem dX12_digit_59 : decode cX12_digit 59 = .ok (.iconst 0, 1) := by decide +kernel
theorem dX12_digit_60 : decode cX12_digit 60 = .ok (.goto 4, 3) := by decide +kernel
theorem dX12_digit_63 : decode cX12_digit 63 = .ok (.iload_n 2, 1) := by decide +kernel
theorem dX12_digit_64 : decode cX12_digit 64 = .ok (.ireturn, 1) := by decide +kernel
theorem dX12_number_0 : decode cX12_number 0 = .ok (.aload_n 0, 1) := by decide +kernel
theorem dX12_number_1 : decode cX12_number 1 = .ok (.bipush 9, 2) := by decide +kernel
theorem dX12_number_3 : decode cX12_number 3 = .ok (.invokevirtual 54, 3) := by decide +kernel
theorem dX12_number_6 : decode cX12_number 6 = .ok (.istore_n 1, 1) := by decide +kernel
theorem dX12_number_7 : decode cX12_number 7 = .ok (.iconst 1, 1) := by decide +kernel
theorem dX12_number_8 : decode cX12_number 8 = .ok (.istore_n 2, 1) := by decide +kernel
theorem dX12_number_9 : decode cX12_number 9 = .ok (.iload_n 2, 1) := by decide +kernel
theorem dX12_number_10 : decode cX12_number 10 = .ok (.iconst 4, 1) := by decide +kernel
theorem dX12_number_11 : decode cX12_number 11 = .ok (.if_icmp .ge 46, 3) := by decide +kernel
theorem dX12_number_14 : decode cX12_number 14 = .ok (.iload_n 1, 1) := by decide +kernel
theorem dX12_number_15 : decode cX12_number 15 = .ok (.ifCond .le 42, 3) := by decide +kernel
theorem dX12_number_18 : decode cX12_number 18 = .ok (.aload_n 0, 1) := by decide +kernel
theorem dX12_number_19 : decode cX12_number 19 = .ok (.getfield 46, 3) := by decide +kernel
theorem dX12_number_22 : decode cX12_number 22 = .ok (.ifCond .ne 35, 3) := by decide +kernel
theorem dX12_number_25 : decode cX12_number 25 = .ok (.aload_n 0, 1) := by decide +kernel
theorem dX12_number_26 : decode cX12_number 26 = .ok (.invokevirtual 50, 3) := by decide +kernel
theorem dX12_number_29 : decode cX12_number 29 = .ok (.bipush 48, 2) := by decide +kernel
theorem dX12_number_31 : decode cX12_number 31 = .ok (.bipush 57, 2) := by decide +kernel
theorem dX12_number_33 : decode cX12_number 33 = .ok (.invokestatic 35, 3) := by decide +kernel
theorem dX12_number_36 : decode cX12_number 36 = .ok (.ifCond .eq 21, 3) := by decide +kernel
theorem dX12_number_39 : decode cX12_number 39 = .ok (.bipush 10, 2) := by decide +kernel
theorem dX12_number_41 : decode cX12_number 41 = .ok (.iload_n 1, 1) := by decide +kernel
theorem dX12_number_42 : decode cX12_number 42 = .ok (.imul, 1) := by decide +kernel
theorem dX12_number_43 : decode cX12_number 43 = .ok (.aload_n 0, 1) := by decide +kernel
theorem dX12_number_44 : decode cX12_number 44 = .ok (.bipush 9, 2) := by decide +kernel
theorem dX12_number_46 : decode cX12_number 46 = .ok (.invokevirtual 54, 3) := by decide +kernel
theorem dX12_number_49 : decode cX12_number 49 = .ok (.iadd, 1) := by decide +kernel
theorem dX12_number_50 : decode cX12_number 50 = .ok (.istore_n 1, 1) := by decide +kernel
theorem dX12_number_51 : decode cX12_number 51 = .ok (.iinc 2 1, 3) := by decide +kernel
theorem dX12_number_54 : decode cX12_number 54 = .ok (.goto (-45), 3) := by decide +kernel
theorem dX12_number_57 : decode cX12_number 57 = .ok (.iload_n 1, 1) := by decide +kernel
theorem dX12_number_58 : decode cX12_number 58 = .ok (.ireturn, 1) := by decide +kernel
theorem dX12_matcher_0 : decode cX12_matcher 0 = .ok (.aload_n 0, 1) := by decide +kernel
theorem dX12_matcher_1 : decode cX12_matcher 1 = .ok (.invokevirtual 50, 3) := by decide +kernel
theorem dX12_matcher_4 : decode cX12_matcher 4 = .ok (.bipush 33, 2) := by decide +kernel
theorem dX12_matcher_6 : decode cX12_matcher 6 = .ok (.if_icmp .ne 8, 3) := by decide +kernel
theorem dX12_matcher_9 : decode cX12_matcher 9 = .ok (.bipush 64, 2) := by decide +kernel
theorem dX12_matcher_11 : decode cX12_matcher 11 = .ok (.goto 4, 3) := by decide +kernel
theorem dX12_matcher_14 : decode cX12_matcher 14 = .ok (.iconst 0, 1) := by decide +kernel
theorem dX12_matcher_15 : decode cX12_matcher 15 = .ok (.istore_n 2, 1) := by decide +kernel
theorem dX12_matcher_16 : decode cX12_matcher 16 = .ok (.aload_n 0, 1) := by decide +kernel
theorem dX12_matcher_17 : decode cX12_matcher 17 = .ok (.dup, 1) := by decide +kernel
theorem dX12_matcher_18 : decode cX12_matcher 18 = .ok (.getfield 43, 3) := by decide +kernel
theorem dX12_matcher_21 : decode cX12_matcher 21 = .ok (.iload_n 2, 1) := by decide +kernel
theorem dX12_matcher_22 : decode cX12_matcher 22 = .ok (.ifCond .le 7, 3) := by decide +kernel
theorem dX12_matcher_25 : decode cX12_matcher 25 = .ok (.iconst 1, 1) := by decide +kernel
theorem dX12_matcher_26 : decode cX12_matcher 26 = .ok (.goto 4, 3) := by decide +kernel
theorem dX12_matcher_29 : decode cX12_matcher 29 = .ok (.iconst 0, 1) := by decide +kernel
theorem dX12_matcher_30 : decode cX12_matcher 30 = .ok (.iadd, 1) := by decide +kernel
theorem dX12_matcher_31 : decode cX12_matcher 31 = .ok (.putfield 43, 3) := by decide +kernel
theorem dX12_matcher_34 : decode cX12_matcher 34 = .ok (.aload_n 0, 1) := by decide +kernel
theorem dX12_matcher_35 : decode cX12_matcher 35 = .ok (.invokevirtual 50, 3) := by decide +kernel
theorem dX12_matcher_38 : decode cX12_matcher 38 = .ok (.istore_n 3, 1) := by decide +kernel
theorem dX12_matcher_39 : decode cX12_matcher 39 = .ok (.iload_n 3, 1) := by decide +kernel
theorem dX12_matcher_40 : decode cX12_matcher 40 = .ok (.bipush 116, 2) := by decide +kernel
theorem dX12_matcher_42 : decode cX12_matcher 42 = .ok (.if_icmp .ne 7, 3) := by decide +kernel
theorem dX12_matcher_45 : decode cX12_matcher 45 = .ok (.iconst 0, 1) := by decide +kernel
theorem dX12_matcher_46 : decode cX12_matcher 46 = .ok (.goto 38, 3) := by decide +kernel
theorem dX12_matcher_49 : decode cX12_matcher 49 = .ok (.iload_n 3, 1) := by decide +kernel
theorem dX12_matcher_50 : decode cX12_matcher 50 = .ok (.bipush 104, 2) := by decide +kernel
theorem dX12_matcher_52 : decode cX12_matcher 52 = .ok (.if_icmp .ne 7, 3) := by decide +kernel
theorem dX12_matcher_55 : decode cX12_matcher 55 = .ok (.iconst 1, 1) := by decide +kernel
theorem dX12_matcher_56 : decode cX12_matcher 56 = .ok (.goto 28, 3) := by decide +kernel
theorem dX12_matcher_59 : decode cX12_matcher 59 = .ok (.iload_n 3, 1) := by decide +kernel
theorem dX12_matcher_60 : decode cX12_matcher 60 = .ok (.bipush 122, 2) := by decide +kernel
theorem dX12_matcher_62 : decode cX12_matcher 62 = .ok (.if_icmp .ne 7, 3) := by decide +kernel
theorem dX12_matcher_65 : decode cX12_matcher 65 = .ok (.iconst 2, 1) := by decide +kernel
theorem dX12_matcher_66 : decode cX12_matcher 66 = .ok (.goto 18, 3) := by decide +kernel
theorem dX12_matcher_69 : decode cX12_matcher 69 = .ok (.iload_n 3, 1) := by decide +kernel
theorem dX12_matcher_70 : decode cX12_matcher 70 = .ok (.bipush 115, 2) := by decide +kernel
theorem dX12_matcher_72 : decode cX12_matcher 72 = .ok (.if_icmp .ne 11, 3) := by decide +kernel
theorem dX12_matcher_75 : decode cX12_matcher 75 = .ok (.iload_n 1, 1) := by decide +kernel
theorem dX12_matcher_76 : decode cX12_matcher 76 = .ok (.ifCond .eq 7, 3) := by decide +kernel
theorem dX12_matcher_79 : decode cX12_matcher 79 = .ok (.iconst 3, 1) := by decide +kernel
theorem dX12_matcher_80 : decode cX12_matcher 80 = .ok (.goto 4, 3) := by decide +kernel
theorem dX12_matcher_83 : decode cX12_matcher 83 = .ok (.iconst (-1), 1) := by decide +kernel
theorem dX12_matcher_84 : decode cX12_matcher 84 = .ok (.istore 4, 2) := by decide +kernel
theorem dX12_matcher_86 : decode cX12_matcher 86 = .ok (.aload_n 0, 1) := by decide +kernel
theorem dX12_matcher_87 : decode cX12_matcher 87 = .ok (.dup, 1) := by decide +kernel
theorem dX12_matcher_88 : decode cX12_matcher 88 = .ok (.getfield 46, 3) := by decide +kernel
theorem dX12_matcher_91 : decode cX12_matcher 91 = .ok (.iload 4, 2) := by decide +kernel
theorem dX12_matcher_93 : decode cX12_matcher 93 = .ok (.ifCond .ge 7, 3) := by decide +kernel
theorem dX12_matcher_96 : decode cX12_matcher 96 = .ok (.iconst 1, 1) := by decide +kernel
theorem dX12_matcher_97 : decode cX12_matcher 97 = .ok (.goto 4, 3) := by decide +kernel
theorem dX12_matcher_100 : decode cX12_matcher 100 = .ok (.iconst 0, 1) := by decide +kernel
theorem dX12_matcher_101 : decode cX12_matcher 101 = .ok (.ior, 1) := by decide +kernel
theorem dX12_matcher_102 : decode cX12_matcher 102 = .ok (.putfield 46, 3) := by decide +kernel
theorem dX12_matcher_105 : decode cX12_matcher 105 = .ok (.aload_n 0, 1) := by decide +kernel
theorem dX12_matcher_106 : decode cX12_matcher 106 = .ok (.getfield 46, 3) := by decide +kernel
theorem dX12_matcher_109 : decode cX12_matcher 109 = .ok (.ifCond .eq 5, 3) := by decide +kernel
theorem dX12_matcher_112 : decode cX12_matcher 112 = .ok (.iconst 0, 1) := by decide +kernel
theorem dX12_matcher_113 : decode cX12_matcher 113 = .ok (.ireturn, 1) := by decide +kernel
theorem dX12_matcher_114 : decode cX12_matcher 114 = .ok (.aload_n 0, 1) := by decide +kernel
theorem dX12_matcher_115 : decode cX12_matcher 115 = .ok (.dup, 1) := by decide +kernel
theorem dX12_matcher_116 : decode cX12_matcher 116 = .ok (.getfield 43, 3) := by decide +kernel
theorem dX12_matcher_119 : decode cX12_matcher 119 = .ok (.iconst 1, 1) := by decide +kernel
theorem dX12_matcher_120 : decode cX12_matcher 120 = .ok (.iadd, 1) := by decide +kernel
theorem dX12_matcher_121 : decode cX12_matcher 121 = .ok (.putfield 43, 3) := by decide +kernel
theorem dX12_matcher_124 : decode cX12_matcher 124 = .ok (.iload_n 2, 1) := by decide +kernel
theorem dX12_matcher_125 : decode cX12_matcher 125 = .ok (.bipush 16, 2) := by decide +kernel
theorem dX12_matcher_127 : decode cX12_matcher 127 = .ok (.iload 4, 2) := by decide +kernel
theorem dX12_matcher_129 : decode cX12_matcher 129 = .ok (.imul, 1) := by decide +kernel
theorem dX12_matcher_130 : decode cX12_matcher 130 = .ok (.iadd, 1) := by decide +kernel
theorem dX12_matcher_131 : decode cX12_matcher 131 = .ok (.aload_n 0, 1) := by decide +kernel
theorem dX12_matcher_132 : decode cX12_matcher 132 = .ok (.iload 4, 2) := by decide +kernel
theorem dX12_matcher_134 : decode cX12_matcher 134 = .ok (.iconst 1, 1) := by decide +kernel
theorem dX12_matcher_135 : decode cX12_matcher 135 = .ok (.if_icmp .ne 8, 3) := by decide +kernel
theorem dX12_matcher_138 : decode cX12_matcher 138 = .ok (.bipush 7, 2) := by decide +kernel
theorem dX12_matcher_140 : decode cX12_matcher 140 = .ok (.goto 4, 3) := by decide +kernel
theorem dX12_matcher_143 : decode cX12_matcher 143 = .ok (.iconst 3, 1) := by decide +kernel
theorem dX12_matcher_144 : decode cX12_matcher 144 = .ok (.invokevirtual 54, 3) := by decide +kernel
theorem dX12_matcher_147 : decode cX12_matcher 147 = .ok (.iadd, 1) := by decide +kernel
theorem dX12_matcher_148 : decode cX12_matcher 148 = .ok (.ireturn, 1) := by decide +kernel
theorem dX12_matchers_0 : decode cX12_matchers 0 = .ok (.iconst 0, 1) := by decide +kernel
theorem dX12_matchers_1 : decode cX12_matchers 1 = .ok (.istore_n 3, 1) := by decide +kernel
theorem dX12_matchers_2 : decode cX12_matchers 2 = .ok (.iconst 1, 1) := by decide +kernel
theorem dX12_matchers_3 : decode cX12_matchers 3 = .ok (.istore 4, 2) := by decide +kernel
theorem dX12_matchers_5 : decode cX12_matchers 5 = .ok (.iload 4, 2) := by decide +kernel
theorem dX12_matchers_7 : decode cX12_matchers 7 = .ok (.ifCond .eq 71, 3) := by decide +kernel
theorem dX12_matchers_10 : decode cX12_matchers 10 = .ok (.aload_n 0, 1) := by decide +kernel
theorem dX12_matchers_11 : decode cX12_matchers 11 = .ok (.getfield 32, 3) := by decide +kernel
theorem dX12_matchers_14 : decode cX12_matchers 14 = .ok (.iload_n 1, 1) := by decide +kernel
theorem dX12_matchers_15 : decode cX12_matchers 15 = .ok (.iconst 1, 1) := by decide +kernel
theorem dX12_matchers_16 : decode cX12_matchers 16 = .ok (.iadd, 1) := by decide +kernel
theorem dX12_matchers_17 : decode cX12_matchers 17 = .ok (.iload_n 3, 1) := by decide +kernel
theorem dX12_matchers_18 : decode cX12_matchers 18 = .ok (.iadd, 1) := by decide +kernel
theorem dX12_matchers_19 : decode cX12_matchers 19 = .ok (.aload_n 0, 1) := by decide +kernel
theorem dX12_matchers_20 : decode cX12_matchers 20 = .ok (.iload_n 2, 1) := by decide +kernel
theorem dX12_matchers_21 : decode cX12_matchers 21 = .ok (.invokevirtual 58, 3) := by decide +kernel
theorem dX12_matchers_24 : decode cX12_matchers 24 = .ok (.iastore, 1) := by decide +kernel
theorem dX12_matchers_25 : decode cX12_matchers 25 = .ok (.iinc 3 1, 3) := by decide +kernel
theorem dX12_matchers_28 : decode cX12_matchers 28 = .ok (.aload_n 0, 1) := by decide +kernel
theorem dX12_matchers_29 : decode cX12_matchers 29 = .ok (.getfield 46, 3) := by decide +kernel
theorem dX12_matchers_32 : decode cX12_matchers 32 = .ok (.ifCond .ne 21, 3) := by decide +kernel
theorem dX12_matchers_35 : decode cX12_matchers 35 = .ok (.iload_n 3, 1) := by decide +kernel
theorem dX12_matchers_36 : decode cX12_matchers 36 = .ok (.iconst 4, 1) := by decide +kernel
theorem dX12_matchers_37 : decode cX12_matchers 37 = .ok (.if_icmp .ge 16, 3) := by decide +kernel
theorem dX12_matchers_40 : decode cX12_matchers 40 = .ok (.aload_n 0, 1) := by decide +kernel
theorem dX12_matchers_41 : decode cX12_matchers 41 = .ok (.invokevirtual 50, 3) := by decide +kernel
theorem dX12_matchers_44 : decode cX12_matchers 44 = .ok (.bipush 44, 2) := by decide +kernel
theorem dX12_matchers_46 : decode cX12_matchers 46 = .ok (.if_icmp .ne 7, 3) := by decide +kernel
theorem dX12_matchers_49 : decode cX12_matchers 49 = .ok (.iconst 1, 1) := by decide +kernel
theorem dX12_matchers_50 : decode cX12_matchers 50 = .ok (.goto 4, 3) := by decide +kernel
theorem dX12_matchers_53 : decode cX12_matchers 53 = .ok (.iconst 0, 1) := by decide +kernel
theorem dX12_matchers_54 : decode cX12_matchers 54 = .ok (.istore 4, 2) := by decide +kernel
theorem dX12_matchers_56 : decode cX12_matchers 56 = .ok (.aload_n 0, 1) := by decide +kernel
theorem dX12_matchers_57 : decode cX12_matchers 57 = .ok (.dup, 1) := by decide +kernel
theorem dX12_matchers_58 : decode cX12_matchers 58 = .ok (.getfield 43, 3) := by decide +kernel
theorem dX12_matchers_61 : decode cX12_matchers 61 = .ok (.iload 4, 2) := by decide +kernel
theorem dX12_matchers_63 : decode cX12_matchers 63 = .ok (.ifCond .eq 7, 3) := by decide +kernel
theorem dX12_matchers_66 : decode cX12_matchers 66 = .ok (.iconst 1, 1) := by decide +kernel
theorem dX12_matchers_67 : decode cX12_matchers 67 = .ok (.goto 4, 3) := by decide +kernel
theorem dX12_matchers_70 : decode cX12_matchers 70 = .ok (.iconst 0, 1) := by decide +kernel
theorem dX12_matchers_71 : decode cX12_matchers 71 = .ok (.iadd, 1) := by decide +kernel
theorem dX12_matchers_72 : decode cX12_matchers 72 = .ok (.putfield 43, 3) := by decide +kernel
theorem dX12_matchers_75 : decode cX12_matchers 75 = .ok (.goto (-70), 3) := by decide +kernel
theorem dX12_matchers_78 : decode cX12_matchers 78 = .ok (.aload_n 0, 1) := by decide +kernel
theorem dX12_matchers_79 : decode cX12_matchers 79 = .ok (.getfield 32, 3) := by decide +kernel
theorem dX12_matchers_82 : decode cX12_matchers 82 = .ok (.iload_n 1, 1) := by decide +kernel
theorem dX12_matchers_83 : decode cX12_matchers 83 = .ok (.iload_n 3, 1) := by decide +kernel
theorem dX12_matchers_84 : decode cX12_matchers 84 = .ok (.iastore, 1) := by decide +kernel
theorem dX12_matchers_85 : decode cX12_matchers 85 = .ok (.return_, 1) := by decide +kernel
theorem dX12_rule_0 : decode cX12_rule 0 = .ok (.aload_n 0, 1) := by decide +kernel
theorem dX12_rule_1 : decode cX12_rule 1 = .ok (.invokevirtual 50, 3) := by decide +kernel
theorem dX12_rule_4 : decode cX12_rule 4 = .ok (.bipush 60, 2) := by decide +kernel
theorem dX12_rule_6 : decode cX12_rule 6 = .ok (.if_icmp .eq 40, 3) := by decide +kernel
theorem dX12_rule_9 : decode cX12_rule 9 = .ok (.aload_n 0, 1) := by decide +kernel
theorem dX12_rule_10 : decode cX12_rule 10 = .ok (.invokevirtual 50, 3) := by decide +kernel
theorem dX12_rule_13 : decode cX12_rule 13 = .ok (.bipush 62, 2) := by decide +kernel
theorem dX12_rule_15 : decode cX12_rule 15 = .ok (.if_icmp .eq 31, 3) := by decide +kernel
theorem dX12_rule_18 : decode cX12_rule 18 = .ok (.aload_n 0, 1) := by decide +kernel
theorem dX12_rule_19 : decode cX12_rule 19 = .ok (.invokevirtual 50, 3) := by decide +kernel
theorem dX12_rule_22 : decode cX12_rule 22 = .ok (.bipush 61, 2) := by decide +kernel
theorem dX12_rule_24 : decode cX12_rule 24 = .ok (.if_icmp .eq 22, 3) := by decide +kernel
theorem dX12_rule_27 : decode cX12_rule 27 = .ok (.aload_n 0, 1) := by decide +kernel
theorem dX12_rule_28 : decode cX12_rule 28 = .ok (.iconst 1, 1) := by decide +kernel
theorem dX12_rule_29 : decode cX12_rule 29 = .ok (.iconst 0, 1) := by decide +kernel
theorem dX12_rule_30 : decode cX12_rule 30 = .ok (.invokevirtual 62, 3) := by decide +kernel
theorem dX12_rule_33 : decode cX12_rule 33 = .ok (.aload_n 0, 1) := by decide +kernel
theorem dX12_rule_34 : decode cX12_rule 34 = .ok (.getfield 46, 3) := by decide +kernel
theorem dX12_rule_37 : decode cX12_rule 37 = .ok (.ifCond .ne 9, 3) := by decide +kernel
theorem dX12_rule_40 : decode cX12_rule 40 = .ok (.aload_n 0, 1) := by decide +kernel
theorem dX12_rule_41 : decode cX12_rule 41 = .ok (.bipush 58, 2) := by decide +kernel
theorem dX12_rule_43 : decode cX12_rule 43 = .ok (.invokevirtual 66, 3) := by decide +kernel
theorem dX12_rule_46 : decode cX12_rule 46 = .ok (.aload_n 0, 1) := by decide +kernel
theorem dX12_rule_47 : decode cX12_rule 47 = .ok (.getfield 46, 3) := by decide +kernel
theorem dX12_rule_50 : decode cX12_rule 50 = .ok (.ifCond .eq 4, 3) := by decide +kernel
theorem dX12_rule_53 : decode cX12_rule 53 = .ok (.return_, 1) := by decide +kernel
theorem dX12_rule_54 : decode cX12_rule 54 = .ok (.aload_n 0, 1) := by decide +kernel
theorem dX12_rule_55 : decode cX12_rule 55 = .ok (.invokevirtual 50, 3) := by decide +kernel
theorem dX12_rule_58 : decode cX12_rule 58 = .ok (.istore_n 1, 1) := by decide +kernel
theorem dX12_rule_59 : decode cX12_rule 59 = .ok (.aload_n 0, 1) := by decide +kernel
theorem dX12_rule_60 : decode cX12_rule 60 = .ok (.getfield 32, 3) := by decide +kernel
theorem dX12_rule_63 : decode cX12_rule 63 = .ok (.bipush 6, 2) := by decide +kernel
theorem dX12_rule_65 : decode cX12_rule 65 = .ok (.iload_n 1, 1) := by decide +kernel
theorem dX12_rule_66 : decode cX12_rule 66 = .ok (.bipush 60, 2) := by decide +kernel
theorem dX12_rule_68 : decode cX12_rule 68 = .ok (.if_icmp .ne 7, 3) := by decide +kernel
theorem dX12_rule_71 : decode cX12_rule 71 = .ok (.iconst 0, 1) := by decide +kernel
theorem dX12_rule_72 : decode cX12_rule 72 = .ok (.goto 14, 3) := by decide +kernel
theorem dX12_rule_75 : decode cX12_rule 75 = .ok (.iload_n 1, 1) := by decide +kernel
theorem dX12_rule_76 : decode cX12_rule 76 = .ok (.bipush 62, 2) := by decide +kernel
theorem dX12_rule_78 : decode cX12_rule 78 = .ok (.if_icmp .ne 7, 3) := by decide +kernel
theorem dX12_rule_81 : decode cX12_rule 81 = .ok (.iconst 1, 1) := by decide +kernel
theorem dX12_rule_82 : decode cX12_rule 82 = .ok (.goto 4, 3) := by decide +kernel
theorem dX12_rule_85 : decode cX12_rule 85 = .ok (.iconst 2, 1) := by decide +kernel
theorem dX12_rule_86 : decode cX12_rule 86 = .ok (.iastore, 1) := by decide +kernel
theorem dX12_rule_87 : decode cX12_rule 87 = .ok (.aload_n 0, 1) := by decide +kernel
theorem dX12_rule_88 : decode cX12_rule 88 = .ok (.dup, 1) := by decide +kernel
theorem dX12_rule_89 : decode cX12_rule 89 = .ok (.getfield 46, 3) := by decide +kernel
theorem dX12_rule_92 : decode cX12_rule 92 = .ok (.iload_n 1, 1) := by decide +kernel
theorem dX12_rule_93 : decode cX12_rule 93 = .ok (.bipush 60, 2) := by decide +kernel
theorem dX12_rule_95 : decode cX12_rule 95 = .ok (.if_icmp .eq 19, 3) := by decide +kernel
theorem dX12_rule_98 : decode cX12_rule 98 = .ok (.iload_n 1, 1) := by decide +kernel
theorem dX12_rule_99 : decode cX12_rule 99 = .ok (.bipush 62, 2) := by decide +kernel
theorem dX12_rule_101 : decode cX12_rule 101 = .ok (.if_icmp .eq 13, 3) := by decide +kernel
theorem dX12_rule_104 : decode cX12_rule 104 = .ok (.iload_n 1, 1) := by decide +kernel
theorem dX12_rule_105 : decode cX12_rule 105 = .ok (.bipush 61, 2) := by decide +kernel
theorem dX12_rule_107 : decode cX12_rule 107 = .ok (.if_icmp .eq 7, 3) := by decide +kernel
theorem dX12_rule_110 : decode cX12_rule 110 = .ok (.iconst 1, 1) := by decide +kernel
theorem dX12_rule_111 : decode cX12_rule 111 = .ok (.goto 4, 3) := by decide +kernel
theorem dX12_rule_114 : decode cX12_rule 114 = .ok (.iconst 0, 1) := by decide +kernel
theorem dX12_rule_115 : decode cX12_rule 115 = .ok (.ior, 1) := by decide +kernel
theorem dX12_rule_116 : decode cX12_rule 116 = .ok (.putfield 46, 3) := by decide +kernel
theorem dX12_rule_119 : decode cX12_rule 119 = .ok (.aload_n 0, 1) := by decide +kernel
theorem dX12_rule_120 : decode cX12_rule 120 = .ok (.dup, 1) := by decide +kernel
theorem dX12_rule_121 : decode cX12_rule 121 = .ok (.getfield 43, 3) := by decide +kernel
theorem dX12_rule_124 : decode cX12_rule 124 = .ok (.aload_n 0, 1) := by decide +kernel
theorem dX12_rule_125 : decode cX12_rule 125 = .ok (.getfield 46, 3) := by decide +kernel
theorem dX12_rule_128 : decode cX12_rule 128 = .ok (.ifCond .eq 7, 3) := by decide +kernel
theorem dX12_rule_131 : decode cX12_rule 131 = .ok (.iconst 0, 1) := by decide +kernel
theorem dX12_rule_132 : decode cX12_rule 132 = .ok (.goto 4, 3) := by decide +kernel
theorem dX12_rule_135 : decode cX12_rule 135 = .ok (.iconst 1, 1) := by decide +kernel
theorem dX12_rule_136 : decode cX12_rule 136 = .ok (.iadd, 1) := by decide +kernel
theorem dX12_rule_137 : decode cX12_rule 137 = .ok (.putfield 43, 3) := by decide +kernel
theorem dX12_rule_140 : decode cX12_rule 140 = .ok (.aload_n 0, 1) := by decide +kernel
theorem dX12_rule_141 : decode cX12_rule 141 = .ok (.getfield 46, 3) := by decide +kernel
theorem dX12_rule_144 : decode cX12_rule 144 = .ok (.ifCond .ne 16, 3) := by decide +kernel
theorem dX12_rule_147 : decode cX12_rule 147 = .ok (.aload_n 0, 1) := by decide +kernel
theorem dX12_rule_148 : decode cX12_rule 148 = .ok (.invokevirtual 50, 3) := by decide +kernel
theorem dX12_rule_151 : decode cX12_rule 151 = .ok (.bipush 45, 2) := by decide +kernel
theorem dX12_rule_153 : decode cX12_rule 153 = .ok (.if_icmp .ne 7, 3) := by decide +kernel
theorem dX12_rule_156 : decode cX12_rule 156 = .ok (.iconst 1, 1) := by decide +kernel
theorem dX12_rule_157 : decode cX12_rule 157 = .ok (.goto 4, 3) := by decide +kernel
theorem dX12_rule_160 : decode cX12_rule 160 = .ok (.iconst 0, 1) := by decide +kernel
theorem dX12_rule_161 : decode cX12_rule 161 = .ok (.istore_n 2, 1) := by decide +kernel
theorem dX12_rule_162 : decode cX12_rule 162 = .ok (.aload_n 0, 1) := by decide +kernel
theorem dX12_rule_163 : decode cX12_rule 163 = .ok (.dup, 1) := by decide +kernel
theorem dX12_rule_164 : decode cX12_rule 164 = .ok (.getfield 43, 3) := by decide +kernel
theorem dX12_rule_167 : decode cX12_rule 167 = .ok (.iload_n 2, 1) := by decide +kernel
theorem dX12_rule_168 : decode cX12_rule 168 = .ok (.ifCond .eq 7, 3) := by decide +kernel
theorem dX12_rule_171 : decode cX12_rule 171 = .ok (.iconst 1, 1) := by decide +kernel
theorem dX12_rule_172 : decode cX12_rule 172 = .ok (.goto 4, 3) := by decide +kernel
theorem dX12_rule_175 : decode cX12_rule 175 = .ok (.iconst 0, 1) := by decide +kernel
theorem dX12_rule_176 : decode cX12_rule 176 = .ok (.iadd, 1) := by decide +kernel
theorem dX12_rule_177 : decode cX12_rule 177 = .ok (.putfield 43, 3) := by decide +kernel
theorem dX12_rule_180 : decode cX12_rule 180 = .ok (.aload_n 0, 1) := by decide +kernel
theorem dX12_rule_181 : decode cX12_rule 181 = .ok (.getfield 46, 3) := by decide +kernel
theorem dX12_rule_184 : decode cX12_rule 184 = .ok (.ifCond .ne 14, 3) := by decide +kernel
theorem dX12_rule_187 : decode cX12_rule 187 = .ok (.aload_n 0, 1) := by decide +kernel
theorem dX12_rule_188 : decode cX12_rule 188 = .ok (.getfield 32, 3) := by decide +kernel
theorem dX12_rule_191 : decode cX12_rule 191 = .ok (.bipush 7, 2) := by decide +kernel
theorem dX12_rule_193 : decode cX12_rule 193 = .ok (.aload_n 0, 1) := by decide +kernel
theorem dX12_rule_194 : decode cX12_rule 194 = .ok (.invokevirtual 70, 3) := by decide +kernel
theorem dX12_rule_197 : decode cX12_rule 197 = .ok (.iastore, 1) := by decide +kernel
theorem dX12_rule_198 : decode cX12_rule 198 = .ok (.aload_n 0, 1) := by decide +kernel
theorem dX12_rule_199 : decode cX12_rule 199 = .ok (.getfield 32, 3) := by decide +kernel
theorem dX12_rule_202 : decode cX12_rule 202 = .ok (.bipush 7, 2) := by decide +kernel
theorem dX12_rule_204 : decode cX12_rule 204 = .ok (.iload_n 2, 1) := by decide +kernel
theorem dX12_rule_205 : decode cX12_rule 205 = .ok (.ifCond .eq 14, 3) := by decide +kernel
theorem dX12_rule_208 : decode cX12_rule 208 = .ok (.aload_n 0, 1) := by decide +kernel
theorem dX12_rule_209 : decode cX12_rule 209 = .ok (.getfield 32, 3) := by decide +kernel
theorem dX12_rule_212 : decode cX12_rule 212 = .ok (.bipush 7, 2) := by decide +kernel
theorem dX12_rule_214 : decode cX12_rule 214 = .ok (.iaload, 1) := by decide +kernel
theorem dX12_rule_215 : decode cX12_rule 215 = .ok (.ineg, 1) := by decide +kernel
theorem dX12_rule_216 : decode cX12_rule 216 = .ok (.goto 10, 3) := by decide +kernel
theorem dX12_rule_219 : decode cX12_rule 219 = .ok (.aload_n 0, 1) := by decide +kernel
theorem dX12_rule_220 : decode cX12_rule 220 = .ok (.getfield 32, 3) := by decide +kernel
theorem dX12_rule_223 : decode cX12_rule 223 = .ok (.bipush 7, 2) := by decide +kernel
theorem dX12_rule_225 : decode cX12_rule 225 = .ok (.iaload, 1) := by decide +kernel
theorem dX12_rule_226 : decode cX12_rule 226 = .ok (.iastore, 1) := by decide +kernel
theorem dX12_rule_227 : decode cX12_rule 227 = .ok (.aload_n 0, 1) := by decide +kernel
theorem dX12_rule_228 : decode cX12_rule 228 = .ok (.getfield 46, 3) := by decide +kernel
theorem dX12_rule_231 : decode cX12_rule 231 = .ok (.ifCond .ne 9, 3) := by decide +kernel
theorem dX12_rule_234 : decode cX12_rule 234 = .ok (.aload_n 0, 1) := by decide +kernel
theorem dX12_rule_235 : decode cX12_rule 235 = .ok (.bipush 102, 2) := by decide +kernel
theorem dX12_rule_237 : decode cX12_rule 237 = .ok (.invokevirtual 66, 3) := by decide +kernel
theorem dX12_rule_240 : decode cX12_rule 240 = .ok (.aload_n 0, 1) := by decide +kernel
theorem dX12_rule_241 : decode cX12_rule 241 = .ok (.getfield 46, 3) := by decide +kernel
theorem dX12_rule_244 : decode cX12_rule 244 = .ok (.ifCond .ne 9, 3) := by decide +kernel
theorem dX12_rule_247 : decode cX12_rule 247 = .ok (.aload_n 0, 1) := by decide +kernel
theorem dX12_rule_248 : decode cX12_rule 248 = .ok (.bipush 111, 2) := by decide +kernel
theorem dX12_rule_250 : decode cX12_rule 250 = .ok (.invokevirtual 66, 3) := by decide +kernel
theorem dX12_rule_253 : decode cX12_rule 253 = .ok (.aload_n 0, 1) := by decide +kernel
theorem dX12_rule_254 : decode cX12_rule 254 = .ok (.getfield 46, 3) := by decide +kernel
theorem dX12_rule_257 : decode cX12_rule 257 = .ok (.ifCond .ne 9, 3) := by decide +kernel
theorem dX12_rule_260 : decode cX12_rule 260 = .ok (.aload_n 0, 1) := by decide +kernel
theorem dX12_rule_261 : decode cX12_rule 261 = .ok (.bipush 114, 2) := by decide +kernel
theorem dX12_rule_263 : decode cX12_rule 263 = .ok (.invokevirtual 66, 3) := by decide +kernel
theorem dX12_rule_266 : decode cX12_rule 266 = .ok (.aload_n 0, 1) := by decide +kernel
theorem dX12_rule_267 : decode cX12_rule 267 = .ok (.getfield 46, 3) := by decide +kernel
theorem dX12_rule_270 : decode cX12_rule 270 = .ok (.ifCond .ne 14, 3) := by decide +kernel
theorem dX12_rule_273 : decode cX12_rule 273 = .ok (.aload_n 0, 1) := by decide +kernel
theorem dX12_rule_274 : decode cX12_rule 274 = .ok (.getfield 32, 3) := by decide +kernel
theorem dX12_rule_277 : decode cX12_rule 277 = .ok (.bipush 8, 2) := by decide +kernel
theorem dX12_rule_279 : decode cX12_rule 279 = .ok (.aload_n 0, 1) := by decide +kernel
theorem dX12_rule_280 : decode cX12_rule 280 = .ok (.invokevirtual 70, 3) := by decide +kernel
theorem dX12_rule_283 : decode cX12_rule 283 = .ok (.iastore, 1) := by decide +kernel
theorem dX12_rule_284 : decode cX12_rule 284 = .ok (.aload_n 0, 1) := by decide +kernel
theorem dX12_rule_285 : decode cX12_rule 285 = .ok (.getfield 46, 3) := by decide +kernel
theorem dX12_rule_288 : decode cX12_rule 288 = .ok (.ifCond .ne 9, 3) := by decide +kernel
theorem dX12_rule_291 : decode cX12_rule 291 = .ok (.aload_n 0, 1) := by decide +kernel
theorem dX12_rule_292 : decode cX12_rule 292 = .ok (.bipush 115, 2) := by decide +kernel
theorem dX12_rule_294 : decode cX12_rule 294 = .ok (.invokevirtual 66, 3) := by decide +kernel
theorem dX12_rule_297 : decode cX12_rule 297 = .ok (.aload_n 0, 1) := by decide +kernel
theorem dX12_rule_298 : decode cX12_rule 298 = .ok (.getfield 46, 3) := by decide +kernel
theorem dX12_rule_301 : decode cX12_rule 301 = .ok (.ifCond .ne 9, 3) := by decide +kernel
theorem dX12_rule_304 : decode cX12_rule 304 = .ok (.aload_n 0, 1) := by decide +kernel
theorem dX12_rule_305 : decode cX12_rule 305 = .ok (.bipush 101, 2) := by decide +kernel
theorem dX12_rule_307 : decode cX12_rule 307 = .ok (.invokevirtual 66, 3) := by decide +kernel
theorem dX12_rule_310 : decode cX12_rule 310 = .ok (.aload_n 0, 1) := by decide +kernel
theorem dX12_rule_311 : decode cX12_rule 311 = .ok (.getfield 46, 3) := by decide +kernel
theorem dX12_rule_314 : decode cX12_rule 314 = .ok (.ifCond .ne 9, 3) := by decide +kernel
theorem dX12_rule_317 : decode cX12_rule 317 = .ok (.aload_n 0, 1) := by decide +kernel
theorem dX12_rule_318 : decode cX12_rule 318 = .ok (.bipush 118, 2) := by decide +kernel
theorem dX12_rule_320 : decode cX12_rule 320 = .ok (.invokevirtual 66, 3) := by decide +kernel
theorem dX12_rule_323 : decode cX12_rule 323 = .ok (.aload_n 0, 1) := by decide +kernel
theorem dX12_rule_324 : decode cX12_rule 324 = .ok (.getfield 46, 3) := by decide +kernel
theorem dX12_rule_327 : decode cX12_rule 327 = .ok (.ifCond .ne 15, 3) := by decide +kernel
theorem dX12_rule_330 : decode cX12_rule 330 = .ok (.aload_n 0, 1) := by decide +kernel
theorem dX12_rule_331 : decode cX12_rule 331 = .ok (.getfield 32, 3) := by decide +kernel
theorem dX12_rule_334 : decode cX12_rule 334 = .ok (.bipush 9, 2) := by decide +kernel
theorem dX12_rule_336 : decode cX12_rule 336 = .ok (.aload_n 0, 1) := by decide +kernel
theorem dX12_rule_337 : decode cX12_rule 337 = .ok (.iconst 3, 1) := by decide +kernel
theorem dX12_rule_338 : decode cX12_rule 338 = .ok (.invokevirtual 54, 3) := by decide +kernel
theorem dX12_rule_341 : decode cX12_rule 341 = .ok (.iastore, 1) := by decide +kernel
theorem dX12_rule_342 : decode cX12_rule 342 = .ok (.return_, 1) := by decide +kernel
theorem dX12_silence_0 : decode cX12_silence 0 = .ok (.aload_n 0, 1) := by decide +kernel
theorem dX12_silence_1 : decode cX12_silence 1 = .ok (.iconst 1, 1) := by decide +kernel
theorem dX12_silence_2 : decode cX12_silence 2 = .ok (.iconst 1, 1) := by decide +kernel
theorem dX12_silence_3 : decode cX12_silence 3 = .ok (.invokevirtual 62, 3) := by decide +kernel
theorem dX12_silence_6 : decode cX12_silence 6 = .ok (.aload_n 0, 1) := by decide +kernel
theorem dX12_silence_7 : decode cX12_silence 7 = .ok (.getfield 46, 3) := by decide +kernel
theorem dX12_silence_10 : decode cX12_silence 10 = .ok (.ifCond .ne 9, 3) := by decide +kernel
theorem dX12_silence_13 : decode cX12_silence 13 = .ok (.aload_n 0, 1) := by decide +kernel
theorem dX12_silence_14 : decode cX12_silence 14 = .ok (.bipush 64, 2) := by decide +kernel
theorem dX12_silence_16 : decode cX12_silence 16 = .ok (.invokevirtual 66, 3) := by decide +kernel
theorem dX12_silence_19 : decode cX12_silence 19 = .ok (.aload_n 0, 1) := by decide +kernel
theorem dX12_silence_20 : decode cX12_silence 20 = .ok (.getfield 46, 3) := by decide +kernel
theorem dX12_silence_23 : decode cX12_silence 23 = .ok (.ifCond .ne 14, 3) := by decide +kernel
theorem dX12_silence_26 : decode cX12_silence 26 = .ok (.aload_n 0, 1) := by decide +kernel
theorem dX12_silence_27 : decode cX12_silence 27 = .ok (.getfield 32, 3) := by decide +kernel
theorem dX12_silence_30 : decode cX12_silence 30 = .ok (.bipush 6, 2) := by decide +kernel
theorem dX12_silence_32 : decode cX12_silence 32 = .ok (.aload_n 0, 1) := by decide +kernel
theorem dX12_silence_33 : decode cX12_silence 33 = .ok (.invokevirtual 70, 3) := by decide +kernel
theorem dX12_silence_36 : decode cX12_silence 36 = .ok (.iastore, 1) := by decide +kernel
theorem dX12_silence_37 : decode cX12_silence 37 = .ok (.aload_n 0, 1) := by decide +kernel
theorem dX12_silence_38 : decode cX12_silence 38 = .ok (.getfield 46, 3) := by decide +kernel
theorem dX12_silence_41 : decode cX12_silence 41 = .ok (.ifCond .ne 9, 3) := by decide +kernel
theorem dX12_silence_44 : decode cX12_silence 44 = .ok (.aload_n 0, 1) := by decide +kernel
theorem dX12_silence_45 : decode cX12_silence 45 = .ok (.bipush 43, 2) := by decide +kernel
theorem dX12_silence_47 : decode cX12_silence 47 = .ok (.invokevirtual 66, 3) := by decide +kernel
theorem dX12_silence_50 : decode cX12_silence 50 = .ok (.aload_n 0, 1) := by decide +kernel
theorem dX12_silence_51 : decode cX12_silence 51 = .ok (.getfield 46, 3) := by decide +kernel
theorem dX12_silence_54 : decode cX12_silence 54 = .ok (.ifCond .ne 14, 3) := by decide +kernel
theorem dX12_silence_57 : decode cX12_silence 57 = .ok (.aload_n 0, 1) := by decide +kernel
theorem dX12_silence_58 : decode cX12_silence 58 = .ok (.getfield 32, 3) := by decide +kernel
theorem dX12_silence_61 : decode cX12_silence 61 = .ok (.bipush 7, 2) := by decide +kernel
theorem dX12_silence_63 : decode cX12_silence 63 = .ok (.aload_n 0, 1) := by decide +kernel
theorem dX12_silence_64 : decode cX12_silence 64 = .ok (.invokevirtual 70, 3) := by decide +kernel
theorem dX12_silence_67 : decode cX12_silence 67 = .ok (.iastore, 1) := by decide +kernel
theorem dX12_silence_68 : decode cX12_silence 68 = .ok (.return_, 1) := by decide +kernel
theorem dX12_inhibition_0 : decode cX12_inhibition 0 = .ok (.aload_n 0, 1) := by decide +kernel
theorem dX12_inhibition_1 : decode cX12_inhibition 1 = .ok (.iconst 1, 1) := by decide +kernel
theorem dX12_inhibition_2 : decode cX12_inhibition 2 = .ok (.iconst 1, 1) := by decide +kernel
theorem dX12_inhibition_3 : decode cX12_inhibition 3 = .ok (.invokevirtual 62, 3) := by decide +kernel
theorem dX12_inhibition_6 : decode cX12_inhibition 6 = .ok (.aload_n 0, 1) := by decide +kernel
theorem dX12_inhibition_7 : decode cX12_inhibition 7 = .ok (.getfield 46, 3) := by decide +kernel
theorem dX12_inhibition_10 : decode cX12_inhibition 10 = .ok (.ifCond .ne 9, 3) := by decide +kernel
theorem dX12_inhibition_13 : decode cX12_inhibition 13 = .ok (.aload_n 0, 1) := by decide +kernel
theorem dX12_inhibition_14 : decode cX12_inhibition 14 = .ok (.bipush 62, 2) := by decide +kernel
theorem dX12_inhibition_16 : decode cX12_inhibition 16 = .ok (.invokevirtual 66, 3) := by decide +kernel
theorem dX12_inhibition_19 : decode cX12_inhibition 19 = .ok (.aload_n 0, 1) := by decide +kernel
theorem dX12_inhibition_20 : decode cX12_inhibition 20 = .ok (.getfield 46, 3) := by decide +kernel
theorem dX12_inhibition_23 : decode cX12_inhibition 23 = .ok (.ifCond .ne 10, 3) := by decide +kernel
theorem dX12_inhibition_26 : decode cX12_inhibition 26 = .ok (.aload_n 0, 1) := by decide +kernel
theorem dX12_inhibition_27 : decode cX12_inhibition 27 = .ok (.bipush 6, 2) := by decide +kernel
theorem dX12_inhibition_29 : decode cX12_inhibition 29 = .ok (.iconst 1, 1) := by decide +kernel
theorem dX12_inhibition_30 : decode cX12_inhibition 30 = .ok (.invokevirtual 62, 3) := by decide +kernel
theorem dX12_inhibition_33 : decode cX12_inhibition 33 = .ok (.aload_n 0, 1) := by decide +kernel
theorem dX12_inhibition_34 : decode cX12_inhibition 34 = .ok (.getfield 46, 3) := by decide +kernel
theorem dX12_inhibition_37 : decode cX12_inhibition 37 = .ok (.ifCond .ne 9, 3) := by decide +kernel
theorem dX12_inhibition_40 : decode cX12_inhibition 40 = .ok (.aload_n 0, 1) := by decide +kernel
theorem dX12_inhibition_41 : decode cX12_inhibition 41 = .ok (.bipush 47, 2) := by decide +kernel
theorem dX12_inhibition_43 : decode cX12_inhibition 43 = .ok (.invokevirtual 66, 3) := by decide +kernel
theorem dX12_inhibition_46 : decode cX12_inhibition 46 = .ok (.aload_n 0, 1) := by decide +kernel
theorem dX12_inhibition_47 : decode cX12_inhibition 47 = .ok (.getfield 46, 3) := by decide +kernel
theorem dX12_inhibition_50 : decode cX12_inhibition 50 = .ok (.ifCond .ne 104, 3) := by decide +kernel
theorem dX12_inhibition_53 : decode cX12_inhibition 53 = .ok (.aload_n 0, 1) := by decide +kernel
theorem dX12_inhibition_54 : decode cX12_inhibition 54 = .ok (.getfield 43, 3) := by decide +kernel
theorem dX12_inhibition_57 : decode cX12_inhibition 57 = .ok (.aload_n 0, 1) := by decide +kernel
theorem dX12_inhibition_58 : decode cX12_inhibition 58 = .ok (.getfield 39, 3) := by decide +kernel
theorem dX12_inhibition_61 : decode cX12_inhibition 61 = .ok (.if_icmp .ge 93, 3) := by decide +kernel
theorem dX12_inhibition_64 : decode cX12_inhibition 64 = .ok (.aload_n 0, 1) := by decide +kernel
theorem dX12_inhibition_65 : decode cX12_inhibition 65 = .ok (.invokevirtual 50, 3) := by decide +kernel
theorem dX12_inhibition_68 : decode cX12_inhibition 68 = .ok (.istore_n 1, 1) := by decide +kernel
theorem dX12_inhibition_69 : decode cX12_inhibition 69 = .ok (.iload_n 1, 1) := by decide +kernel
theorem dX12_inhibition_70 : decode cX12_inhibition 70 = .ok (.bipush 116, 2) := by decide +kernel
theorem dX12_inhibition_72 : decode cX12_inhibition 72 = .ok (.if_icmp .ne 7, 3) := by decide +kernel
theorem dX12_inhibition_75 : decode cX12_inhibition 75 = .ok (.iconst 1, 1) := by decide +kernel
theorem dX12_inhibition_76 : decode cX12_inhibition 76 = .ok (.goto 24, 3) := by decide +kernel
theorem dX12_inhibition_79 : decode cX12_inhibition 79 = .ok (.iload_n 1, 1) := by decide +kernel
theorem dX12_inhibition_80 : decode cX12_inhibition 80 = .ok (.bipush 104, 2) := by decide +kernel
theorem dX12_inhibition_82 : decode cX12_inhibition 82 = .ok (.if_icmp .ne 7, 3) := by decide +kernel
theorem dX12_inhibition_85 : decode cX12_inhibition 85 = .ok (.iconst 2, 1) := by decide +kernel
theorem dX12_inhibition_86 : decode cX12_inhibition 86 = .ok (.goto 14, 3) := by decide +kernel
theorem dX12_inhibition_89 : decode cX12_inhibition 89 = .ok (.iload_n 1, 1) := by decide +kernel
theorem dX12_inhibition_90 : decode cX12_inhibition 90 = .ok (.bipush 122, 2) := by decide +kernel
theorem dX12_inhibition_92 : decode cX12_inhibition 92 = .ok (.if_icmp .ne 7, 3) := by decide +kernel
theorem dX12_inhibition_95 : decode cX12_inhibition 95 = .ok (.iconst 4, 1) := by decide +kernel
theorem dX12_inhibition_96 : decode cX12_inhibition 96 = .ok (.goto 4, 3) := by decide +kernel
theorem dX12_inhibition_99 : decode cX12_inhibition 99 = .ok (.iconst 0, 1) := by decide +kernel
theorem dX12_inhibition_100 : decode cX12_inhibition 100 = .ok (.istore_n 2, 1) := by decide +kernel
theorem dX12_inhibition_101 : decode cX12_inhibition 101 = .ok (.aload_n 0, 1) := by decide +kernel
theorem dX12_inhibition_102 : decode cX12_inhibition 102 = .ok (.dup, 1) := by decide +kernel
theorem dX12_inhibition_103 : decode cX12_inhibition 103 = .ok (.getfield 46, 3) := by decide +kernel
theorem dX12_inhibition_106 : decode cX12_inhibition 106 = .ok (.iload_n 2, 1) := by decide +kernel
theorem dX12_inhibition_107 : decode cX12_inhibition 107 = .ok (.ifCond .ne 7, 3) := by decide +kernel
theorem dX12_inhibition_110 : decode cX12_inhibition 110 = .ok (.iconst 1, 1) := by decide +kernel
theorem dX12_inhibition_111 : decode cX12_inhibition 111 = .ok (.goto 4, 3) := by decide +kernel
theorem dX12_inhibition_114 : decode cX12_inhibition 114 = .ok (.iconst 0, 1) := by decide +kernel
theorem dX12_inhibition_115 : decode cX12_inhibition 115 = .ok (.ior, 1) := by decide +kernel
theorem dX12_inhibition_116 : decode cX12_inhibition 116 = .ok (.putfield 46, 3) := by decide +kernel
theorem dX12_inhibition_119 : decode cX12_inhibition 119 = .ok (.aload_n 0, 1) := by decide +kernel
theorem dX12_inhibition_120 : decode cX12_inhibition 120 = .ok (.getfield 32, 3) := by decide +kernel
theorem dX12_inhibition_123 : decode cX12_inhibition 123 = .ok (.bipush 11, 2) := by decide +kernel
theorem dX12_inhibition_125 : decode cX12_inhibition 125 = .ok (.dup2, 1) := by decide +kernel
theorem dX12_inhibition_126 : decode cX12_inhibition 126 = .ok (.iaload, 1) := by decide +kernel
theorem dX12_inhibition_127 : decode cX12_inhibition 127 = .ok (.iload_n 2, 1) := by decide +kernel
theorem dX12_inhibition_128 : decode cX12_inhibition 128 = .ok (.ior, 1) := by decide +kernel
theorem dX12_inhibition_129 : decode cX12_inhibition 129 = .ok (.iastore, 1) := by decide +kernel
theorem dX12_inhibition_130 : decode cX12_inhibition 130 = .ok (.aload_n 0, 1) := by decide +kernel
theorem dX12_inhibition_131 : decode cX12_inhibition 131 = .ok (.dup, 1) := by decide +kernel
theorem dX12_inhibition_132 : decode cX12_inhibition 132 = .ok (.getfield 43, 3) := by decide +kernel
theorem dX12_inhibition_135 : decode cX12_inhibition 135 = .ok (.aload_n 0, 1) := by decide +kernel
theorem dX12_inhibition_136 : decode cX12_inhibition 136 = .ok (.getfield 46, 3) := by decide +kernel
theorem dX12_inhibition_139 : decode cX12_inhibition 139 = .ok (.ifCond .eq 7, 3) := by decide +kernel
theorem dX12_inhibition_142 : decode cX12_inhibition 142 = .ok (.iconst 0, 1) := by decide +kernel
theorem dX12_inhibition_143 : decode cX12_inhibition 143 = .ok (.goto 4, 3) := by decide +kernel
theorem dX12_inhibition_146 : decode cX12_inhibition 146 = .ok (.iconst 1, 1) := by decide +kernel
theorem dX12_inhibition_147 : decode cX12_inhibition 147 = .ok (.iadd, 1) := by decide +kernel
theorem dX12_inhibition_148 : decode cX12_inhibition 148 = .ok (.putfield 43, 3) := by decide +kernel
theorem dX12_inhibition_151 : decode cX12_inhibition 151 = .ok (.goto (-105), 3) := by decide +kernel
theorem dX12_inhibition_154 : decode cX12_inhibition 154 = .ok (.return_, 1) := by decide +kernel
theorem dX12_first_0 : decode cX12_first 0 = .ok (.iload_n 0, 1) := by decide +kernel
theorem dX12_first_1 : decode cX12_first 1 = .ok (.ifCond .ne 8, 3) := by decide +kernel
theorem dX12_first_4 : decode cX12_first 4 = .ok (.bipush 60, 2) := by decide +kernel
theorem dX12_first_6 : decode cX12_first 6 = .ok (.goto 16, 3) := by decide +kernel
theorem dX12_first_9 : decode cX12_first 9 = .ok (.iload_n 0, 1) := by decide +kernel
theorem dX12_first_10 : decode cX12_first 10 = .ok (.iconst 1, 1) := by decide +kernel
theorem dX12_first_11 : decode cX12_first 11 = .ok (.if_icmp .ne 8, 3) := by decide +kernel
theorem dX12_first_14 : decode cX12_first 14 = .ok (.bipush 110, 2) := by decide +kernel
theorem dX12_first_16 : decode cX12_first 16 = .ok (.goto 6, 3) := by decide +kernel
theorem dX12_first_19 : decode cX12_first 19 = .ok (.sipush 158, 3) := by decide +kernel
theorem dX12_first_22 : decode cX12_first 22 = .ok (.ireturn, 1) := by decide +kernel
theorem dX12_wide_0 : decode cX12_wide 0 = .ok (.iload_n 0, 1) := by decide +kernel
theorem dX12_wide_1 : decode cX12_wide 1 = .ok (.ifCond .ne 8, 3) := by decide +kernel
theorem dX12_wide_4 : decode cX12_wide 4 = .ok (.bipush 10, 2) := by decide +kernel
theorem dX12_wide_6 : decode cX12_wide 6 = .ok (.goto 15, 3) := by decide +kernel
theorem dX12_wide_9 : decode cX12_wide 9 = .ok (.iload_n 0, 1) := by decide +kernel
theorem dX12_wide_10 : decode cX12_wide 10 = .ok (.iconst 1, 1) := by decide +kernel
theorem dX12_wide_11 : decode cX12_wide 11 = .ok (.if_icmp .ne 8, 3) := by decide +kernel
theorem dX12_wide_14 : decode cX12_wide 14 = .ok (.bipush 8, 2) := by decide +kernel
theorem dX12_wide_16 : decode cX12_wide 16 = .ok (.goto 5, 3) := by decide +kernel
theorem dX12_wide_19 : decode cX12_wide 19 = .ok (.bipush 12, 2) := by decide +kernel
theorem dX12_wide_21 : decode cX12_wide 21 = .ok (.ireturn, 1) := by decide +kernel
theorem dX12_most_0 : decode cX12_most 0 = .ok (.iload_n 0, 1) := by decide +kernel
theorem dX12_most_1 : decode cX12_most 1 = .ok (.ifCond .ne 7, 3) := by decide +kernel
theorem dX12_most_4 : decode cX12_most 4 = .ok (.iconst 5, 1) := by decide +kernel
theorem dX12_most_5 : decode cX12_most 5 = .ok (.goto 14, 3) := by decide +kernel
theorem dX12_most_8 : decode cX12_most 8 = .ok (.iload_n 0, 1) := by decide +kernel
theorem dX12_most_9 : decode cX12_most 9 = .ok (.iconst 1, 1) := by decide +kernel
theorem dX12_most_10 : decode cX12_most 10 = .ok (.if_icmp .ne 8, 3) := by decide +kernel
theorem dX12_most_13 : decode cX12_most 13 = .ok (.bipush 6, 2) := by decide +kernel
theorem dX12_most_15 : decode cX12_most 15 = .ok (.goto 4, 3) := by decide +kernel
theorem dX12_most_18 : decode cX12_most 18 = .ok (.iconst 4, 1) := by decide +kernel
theorem dX12_most_19 : decode cX12_most 19 = .ok (.ireturn, 1) := by decide +kernel
theorem dX12_isOne_0 : decode cX12_isOne 0 = .ok (.iload_n 2, 1) := by decide +kernel
theorem dX12_isOne_1 : decode cX12_isOne 1 = .ok (.iconst 0, 1) := by decide +kernel
theorem dX12_isOne_2 : decode cX12_isOne 2 = .ok (.iload_n 1, 1) := by decide +kernel
theorem dX12_isOne_3 : decode cX12_isOne 3 = .ok (.invokestatic 73, 3) := by decide +kernel
theorem dX12_isOne_6 : decode cX12_isOne 6 = .ok (.iconst 1, 1) := by decide +kernel
theorem dX12_isOne_7 : decode cX12_isOne 7 = .ok (.isub, 1) := by decide +kernel
theorem dX12_isOne_8 : decode cX12_isOne 8 = .ok (.invokestatic 35, 3) := by decide +kernel
theorem dX12_isOne_11 : decode cX12_isOne 11 = .ok (.ifCond .eq 27, 3) := by decide +kernel
theorem dX12_isOne_14 : decode cX12_isOne 14 = .ok (.aload_n 0, 1) := by decide +kernel
theorem dX12_isOne_15 : decode cX12_isOne 15 = .ok (.getfield 9, 3) := by decide +kernel
theorem dX12_isOne_18 : decode cX12_isOne 18 = .ok (.iload_n 1, 1) := by decide +kernel
theorem dX12_isOne_19 : decode cX12_isOne 19 = .ok (.invokestatic 76, 3) := by decide +kernel
theorem dX12_isOne_22 : decode cX12_isOne 22 = .ok (.iload_n 1, 1) := by decide +kernel
theorem dX12_isOne_23 : decode cX12_isOne 23 = .ok (.invokestatic 79, 3) := by decide +kernel
theorem dX12_isOne_26 : decode cX12_isOne 26 = .ok (.iload_n 2, 1) := by decide +kernel
theorem dX12_isOne_27 : decode cX12_isOne 27 = .ok (.imul, 1) := by decide +kernel
theorem dX12_isOne_28 : decode cX12_isOne 28 = .ok (.iadd, 1) := by decide +kernel
theorem dX12_isOne_29 : decode cX12_isOne 29 = .ok (.iaload, 1) := by decide +kernel
theorem dX12_isOne_30 : decode cX12_isOne 30 = .ok (.iconst 1, 1) := by decide +kernel
theorem dX12_isOne_31 : decode cX12_isOne 31 = .ok (.if_icmp .ne 7, 3) := by decide +kernel
theorem dX12_isOne_34 : decode cX12_isOne 34 = .ok (.iconst 1, 1) := by decide +kernel
theorem dX12_isOne_35 : decode cX12_isOne 35 = .ok (.goto 4, 3) := by decide +kernel
theorem dX12_isOne_38 : decode cX12_isOne 38 = .ok (.iconst 0, 1) := by decide +kernel
theorem dX12_isOne_39 : decode cX12_isOne 39 = .ok (.ireturn, 1) := by decide +kernel
theorem dX12_many_0 : decode cX12_many 0 = .ok (.iconst 0, 1) := by decide +kernel
theorem dX12_many_1 : decode cX12_many 1 = .ok (.istore_n 2, 1) := by decide +kernel
theorem dX12_many_2 : decode cX12_many 2 = .ok (.iconst 0, 1) := by decide +kernel
theorem dX12_many_3 : decode cX12_many 3 = .ok (.istore_n 3, 1) := by decide +kernel
theorem dX12_many_4 : decode cX12_many 4 = .ok (.iload_n 3, 1) := by decide +kernel
theorem dX12_many_5 : decode cX12_many 5 = .ok (.iload_n 1, 1) := by decide +kernel
theorem dX12_many_6 : decode cX12_many 6 = .ok (.invokestatic 73, 3) := by decide +kernel
theorem dX12_many_9 : decode cX12_many 9 = .ok (.if_icmp .ge 26, 3) := by decide +kernel
theorem dX12_many_12 : decode cX12_many 12 = .ok (.iload_n 2, 1) := by decide +kernel
theorem dX12_many_13 : decode cX12_many 13 = .ok (.aload_n 0, 1) := by decide +kernel
theorem dX12_many_14 : decode cX12_many 14 = .ok (.iload_n 1, 1) := by decide +kernel
theorem dX12_many_15 : decode cX12_many 15 = .ok (.iload_n 3, 1) := by decide +kernel
theorem dX12_many_16 : decode cX12_many 16 = .ok (.invokevirtual 82, 3) := by decide +kernel
theorem dX12_many_19 : decode cX12_many 19 = .ok (.ifCond .eq 7, 3) := by decide +kernel
theorem dX12_many_22 : decode cX12_many 22 = .ok (.iconst 1, 1) := by decide +kernel
theorem dX12_many_23 : decode cX12_many 23 = .ok (.goto 4, 3) := by decide +kernel
theorem dX12_many_26 : decode cX12_many 26 = .ok (.iconst 0, 1) := by decide +kernel
theorem dX12_many_27 : decode cX12_many 27 = .ok (.iadd, 1) := by decide +kernel
theorem dX12_many_28 : decode cX12_many 28 = .ok (.istore_n 2, 1) := by decide +kernel
theorem dX12_many_29 : decode cX12_many 29 = .ok (.iinc 3 1, 3) := by decide +kernel
theorem dX12_many_32 : decode cX12_many 32 = .ok (.goto (-28), 3) := by decide +kernel
theorem dX12_many_35 : decode cX12_many 35 = .ok (.iload_n 2, 1) := by decide +kernel
theorem dX12_many_36 : decode cX12_many 36 = .ok (.ireturn, 1) := by decide +kernel
theorem dX12_add_0 : decode cX12_add 0 = .ok (.iload_n 1, 1) := by decide +kernel
theorem dX12_add_1 : decode cX12_add 1 = .ok (.iconst 0, 1) := by decide +kernel
theorem dX12_add_2 : decode cX12_add 2 = .ok (.iconst 2, 1) := by decide +kernel
theorem dX12_add_3 : decode cX12_add 3 = .ok (.invokestatic 35, 3) := by decide +kernel
theorem dX12_add_6 : decode cX12_add 6 = .ok (.ifCond .ne 5, 3) := by decide +kernel
theorem dX12_add_9 : decode cX12_add 9 = .ok (.iconst (-1), 1) := by decide +kernel
