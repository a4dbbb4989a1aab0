theorem dX11_init_0 : decode cX11_init 0 = .ok (.aload_n 0, 1) := by decide +kernel
theorem dX11_init_1 : decode cX11_init 1 = .ok (.invokespecial 3, 3) := by decide +kernel
theorem dX11_init_4 : decode cX11_init 4 = .ok (.aload_n 0, 1) := by decide +kernel
theorem dX11_init_5 : decode cX11_init 5 = .ok (.new 9, 3) := by decide +kernel
theorem dX11_init_8 : decode cX11_init 8 = .ok (.dup, 1) := by decide +kernel
theorem dX11_init_9 : decode cX11_init 9 = .ok (.invokespecial 11, 3) := by decide +kernel
theorem dX11_init_12 : decode cX11_init 12 = .ok (.putfield 12, 3) := by decide +kernel
theorem dX11_init_15 : decode cX11_init 15 = .ok (.aload_n 0, 1) := by decide +kernel
theorem dX11_init_16 : decode cX11_init 16 = .ok (.new 16, 3) := by decide +kernel
theorem dX11_init_19 : decode cX11_init 19 = .ok (.dup, 1) := by decide +kernel
theorem dX11_init_20 : decode cX11_init 20 = .ok (.invokespecial 18, 3) := by decide +kernel
theorem dX11_init_23 : decode cX11_init 23 = .ok (.putfield 19, 3) := by decide +kernel
theorem dX11_init_26 : decode cX11_init 26 = .ok (.aload_n 0, 1) := by decide +kernel
theorem dX11_init_27 : decode cX11_init 27 = .ok (.new 16, 3) := by decide +kernel
theorem dX11_init_30 : decode cX11_init 30 = .ok (.dup, 1) := by decide +kernel
theorem dX11_init_31 : decode cX11_init 31 = .ok (.invokespecial 18, 3) := by decide +kernel
theorem dX11_init_34 : decode cX11_init 34 = .ok (.putfield 23, 3) := by decide +kernel
theorem dX11_init_37 : decode cX11_init 37 = .ok (.aload_n 0, 1) := by decide +kernel
theorem dX11_init_38 : decode cX11_init 38 = .ok (.new 16, 3) := by decide +kernel
theorem dX11_init_41 : decode cX11_init 41 = .ok (.dup, 1) := by decide +kernel
theorem dX11_init_42 : decode cX11_init 42 = .ok (.invokespecial 18, 3) := by decide +kernel
theorem dX11_init_45 : decode cX11_init 45 = .ok (.putfield 26, 3) := by decide +kernel
theorem dX11_init_48 : decode cX11_init 48 = .ok (.return_, 1) := by decide +kernel
theorem dX11_label_0 : decode cX11_label 0 = .ok (.iload_n 1, 1) := by decide +kernel
theorem dX11_label_1 : decode cX11_label 1 = .ok (.invokestatic 29, 3) := by decide +kernel
theorem dX11_label_4 : decode cX11_label 4 = .ok (.ifCond .eq 12, 3) := by decide +kernel
theorem dX11_label_7 : decode cX11_label 7 = .ok (.iload_n 2, 1) := by decide +kernel
theorem dX11_label_8 : decode cX11_label 8 = .ok (.ifCond .lt 8, 3) := by decide +kernel
theorem dX11_label_11 : decode cX11_label 11 = .ok (.iload_n 2, 1) := by decide +kernel
theorem dX11_label_12 : decode cX11_label 12 = .ok (.iconst 3, 1) := by decide +kernel
theorem dX11_label_13 : decode cX11_label 13 = .ok (.if_icmp .lt 5, 3) := by decide +kernel
theorem dX11_label_16 : decode cX11_label 16 = .ok (.iconst (-1), 1) := by decide +kernel
theorem dX11_label_17 : decode cX11_label 17 = .ok (.ireturn, 1) := by decide +kernel
theorem dX11_label_18 : decode cX11_label 18 = .ok (.iload_n 3, 1) := by decide +kernel
theorem dX11_label_19 : decode cX11_label 19 = .ok (.ifCond .lt 12, 3) := by decide +kernel
theorem dX11_label_22 : decode cX11_label 22 = .ok (.iload_n 3, 1) := by decide +kernel
theorem dX11_label_23 : decode cX11_label 23 = .ok (.getstatic 33, 3) := by decide +kernel
theorem dX11_label_26 : decode cX11_label 26 = .ok (.iload_n 2, 1) := by decide +kernel
theorem dX11_label_27 : decode cX11_label 27 = .ok (.iaload, 1) := by decide +kernel
theorem dX11_label_28 : decode cX11_label 28 = .ok (.if_icmp .le 6, 3) := by decide +kernel
theorem dX11_label_31 : decode cX11_label 31 = .ok (.bipush (-2), 2) := by decide +kernel
theorem dX11_label_33 : decode cX11_label 33 = .ok (.ireturn, 1) := by decide +kernel
theorem dX11_label_34 : decode cX11_label 34 = .ok (.aload_n 0, 1) := by decide +kernel
theorem dX11_label_35 : decode cX11_label 35 = .ok (.getfield 19, 3) := by decide +kernel
theorem dX11_label_38 : decode cX11_label 38 = .ok (.getfield 37, 3) := by decide +kernel
theorem dX11_label_41 : decode cX11_label 41 = .ok (.iload_n 1, 1) := by decide +kernel
theorem dX11_label_42 : decode cX11_label 42 = .ok (.iload_n 2, 1) := by decide +kernel
theorem dX11_label_43 : decode cX11_label 43 = .ok (.iload_n 3, 1) := by decide +kernel
theorem dX11_label_44 : decode cX11_label 44 = .ok (.invokevirtual 41, 3) := by decide +kernel
theorem dX11_label_47 : decode cX11_label 47 = .ok (.ireturn, 1) := by decide +kernel
theorem dX11_sample_0 : decode cX11_sample 0 = .ok (.iload_n 1, 1) := by decide +kernel
theorem dX11_sample_1 : decode cX11_sample 1 = .ok (.invokestatic 29, 3) := by decide +kernel
theorem dX11_sample_4 : decode cX11_sample 4 = .ok (.ifCond .ne 5, 3) := by decide +kernel
theorem dX11_sample_7 : decode cX11_sample 7 = .ok (.iconst (-1), 1) := by decide +kernel
theorem dX11_sample_8 : decode cX11_sample 8 = .ok (.ireturn, 1) := by decide +kernel
theorem dX11_sample_9 : decode cX11_sample 9 = .ok (.aload_n 0, 1) := by decide +kernel
theorem dX11_sample_10 : decode cX11_sample 10 = .ok (.getfield 19, 3) := by decide +kernel
theorem dX11_sample_13 : decode cX11_sample 13 = .ok (.getfield 37, 3) := by decide +kernel
theorem dX11_sample_16 : decode cX11_sample 16 = .ok (.getfield 47, 3) := by decide +kernel
theorem dX11_sample_19 : decode cX11_sample 19 = .ok (.iload_n 1, 1) := by decide +kernel
theorem dX11_sample_20 : decode cX11_sample 20 = .ok (.baload, 1) := by decide +kernel
theorem dX11_sample_21 : decode cX11_sample 21 = .ok (.invokestatic 51, 3) := by decide +kernel
theorem dX11_sample_24 : decode cX11_sample 24 = .ok (.istore_n 3, 1) := by decide +kernel
theorem dX11_sample_25 : decode cX11_sample 25 = .ok (.aload_n 0, 1) := by decide +kernel
theorem dX11_sample_26 : decode cX11_sample 26 = .ok (.getfield 19, 3) := by decide +kernel
theorem dX11_sample_29 : decode cX11_sample 29 = .ok (.getfield 37, 3) := by decide +kernel
theorem dX11_sample_32 : decode cX11_sample 32 = .ok (.getfield 47, 3) := by decide +kernel
theorem dX11_sample_35 : decode cX11_sample 35 = .ok (.iload_n 1, 1) := by decide +kernel
theorem dX11_sample_36 : decode cX11_sample 36 = .ok (.iconst 1, 1) := by decide +kernel
theorem dX11_sample_37 : decode cX11_sample 37 = .ok (.bastore, 1) := by decide +kernel
theorem dX11_sample_38 : decode cX11_sample 38 = .ok (.aload_n 0, 1) := by decide +kernel
theorem dX11_sample_39 : decode cX11_sample 39 = .ok (.getfield 19, 3) := by decide +kernel
theorem dX11_sample_42 : decode cX11_sample 42 = .ok (.getfield 37, 3) := by decide +kernel
theorem dX11_sample_45 : decode cX11_sample 45 = .ok (.getfield 55, 3) := by decide +kernel
theorem dX11_sample_48 : decode cX11_sample 48 = .ok (.iload_n 1, 1) := by decide +kernel
theorem dX11_sample_49 : decode cX11_sample 49 = .ok (.iload_n 2, 1) := by decide +kernel
theorem dX11_sample_50 : decode cX11_sample 50 = .ok (.iastore, 1) := by decide +kernel
theorem dX11_sample_51 : decode cX11_sample 51 = .ok (.iload_n 3, 1) := by decide +kernel
theorem dX11_sample_52 : decode cX11_sample 52 = .ok (.ireturn, 1) := by decide +kernel
theorem dX11_drop_0 : decode cX11_drop 0 = .ok (.iload_n 1, 1) := by decide +kernel
theorem dX11_drop_1 : decode cX11_drop 1 = .ok (.invokestatic 29, 3) := by decide +kernel
theorem dX11_drop_4 : decode cX11_drop 4 = .ok (.ifCond .ne 5, 3) := by decide +kernel
theorem dX11_drop_7 : decode cX11_drop 7 = .ok (.iconst (-1), 1) := by decide +kernel
theorem dX11_drop_8 : decode cX11_drop 8 = .ok (.ireturn, 1) := by decide +kernel
theorem dX11_drop_9 : decode cX11_drop 9 = .ok (.aload_n 0, 1) := by decide +kernel
theorem dX11_drop_10 : decode cX11_drop 10 = .ok (.getfield 19, 3) := by decide +kernel
theorem dX11_drop_13 : decode cX11_drop 13 = .ok (.getfield 37, 3) := by decide +kernel
theorem dX11_drop_16 : decode cX11_drop 16 = .ok (.getfield 47, 3) := by decide +kernel
theorem dX11_drop_19 : decode cX11_drop 19 = .ok (.iload_n 1, 1) := by decide +kernel
theorem dX11_drop_20 : decode cX11_drop 20 = .ok (.baload, 1) := by decide +kernel
theorem dX11_drop_21 : decode cX11_drop 21 = .ok (.invokestatic 51, 3) := by decide +kernel
theorem dX11_drop_24 : decode cX11_drop 24 = .ok (.istore_n 2, 1) := by decide +kernel
theorem dX11_drop_25 : decode cX11_drop 25 = .ok (.aload_n 0, 1) := by decide +kernel
theorem dX11_drop_26 : decode cX11_drop 26 = .ok (.getfield 19, 3) := by decide +kernel
theorem dX11_drop_29 : decode cX11_drop 29 = .ok (.getfield 37, 3) := by decide +kernel
theorem dX11_drop_32 : decode cX11_drop 32 = .ok (.getfield 47, 3) := by decide +kernel
theorem dX11_drop_35 : decode cX11_drop 35 = .ok (.iload_n 1, 1) := by decide +kernel
theorem dX11_drop_36 : decode cX11_drop 36 = .ok (.iconst 0, 1) := by decide +kernel
theorem dX11_drop_37 : decode cX11_drop 37 = .ok (.bastore, 1) := by decide +kernel
theorem dX11_drop_38 : decode cX11_drop 38 = .ok (.iload_n 2, 1) := by decide +kernel
theorem dX11_drop_39 : decode cX11_drop 39 = .ok (.ireturn, 1) := by decide +kernel
theorem dX11_feed_0 : decode cX11_feed 0 = .ok (.iload_n 1, 1) := by decide +kernel
theorem dX11_feed_1 : decode cX11_feed 1 = .ok (.iconst 1, 1) := by decide +kernel
theorem dX11_feed_2 : decode cX11_feed 2 = .ok (.if_icmp .lt 8, 3) := by decide +kernel
theorem dX11_feed_5 : decode cX11_feed 5 = .ok (.iload_n 1, 1) := by decide +kernel
theorem dX11_feed_6 : decode cX11_feed 6 = .ok (.iconst 5, 1) := by decide +kernel
theorem dX11_feed_7 : decode cX11_feed 7 = .ok (.if_icmp .le 6, 3) := by decide +kernel
theorem dX11_feed_10 : decode cX11_feed 10 = .ok (.bipush (-2), 2) := by decide +kernel
theorem dX11_feed_12 : decode cX11_feed 12 = .ok (.ireturn, 1) := by decide +kernel
theorem dX11_feed_13 : decode cX11_feed 13 = .ok (.iload_n 2, 1) := by decide +kernel
theorem dX11_feed_14 : decode cX11_feed 14 = .ok (.invokestatic 58, 3) := by decide +kernel
theorem dX11_feed_17 : decode cX11_feed 17 = .ok (.ifCond .eq 34, 3) := by decide +kernel
theorem dX11_feed_20 : decode cX11_feed 20 = .ok (.iload_n 3, 1) := by decide +kernel
theorem dX11_feed_21 : decode cX11_feed 21 = .ok (.invokestatic 58, 3) := by decide +kernel
theorem dX11_feed_24 : decode cX11_feed 24 = .ok (.ifCond .eq 27, 3) := by decide +kernel
theorem dX11_feed_27 : decode cX11_feed 27 = .ok (.iload 4, 2) := by decide +kernel
theorem dX11_feed_29 : decode cX11_feed 29 = .ok (.invokestatic 58, 3) := by decide +kernel
theorem dX11_feed_32 : decode cX11_feed 32 = .ok (.ifCond .eq 19, 3) := by decide +kernel
theorem dX11_feed_35 : decode cX11_feed 35 = .ok (.iload 5, 2) := by decide +kernel
theorem dX11_feed_37 : decode cX11_feed 37 = .ok (.invokestatic 58, 3) := by decide +kernel
theorem dX11_feed_40 : decode cX11_feed 40 = .ok (.ifCond .eq 11, 3) := by decide +kernel
theorem dX11_feed_43 : decode cX11_feed 43 = .ok (.iload 6, 2) := by decide +kernel
theorem dX11_feed_45 : decode cX11_feed 45 = .ok (.invokestatic 58, 3) := by decide +kernel
theorem dX11_feed_48 : decode cX11_feed 48 = .ok (.ifCond .ne 6, 3) := by decide +kernel
theorem dX11_feed_51 : decode cX11_feed 51 = .ok (.bipush (-2), 2) := by decide +kernel
theorem dX11_feed_53 : decode cX11_feed 53 = .ok (.ireturn, 1) := by decide +kernel
theorem dX11_feed_54 : decode cX11_feed 54 = .ok (.aload_n 0, 1) := by decide +kernel
theorem dX11_feed_55 : decode cX11_feed 55 = .ok (.getfield 12, 3) := by decide +kernel
theorem dX11_feed_58 : decode cX11_feed 58 = .ok (.iload_n 1, 1) := by decide +kernel
theorem dX11_feed_59 : decode cX11_feed 59 = .ok (.invokevirtual 61, 3) := by decide +kernel
theorem dX11_feed_62 : decode cX11_feed 62 = .ok (.ifCond .ne 6, 3) := by decide +kernel
theorem dX11_feed_65 : decode cX11_feed 65 = .ok (.bipush (-4), 2) := by decide +kernel
theorem dX11_feed_67 : decode cX11_feed 67 = .ok (.ireturn, 1) := by decide +kernel
theorem dX11_feed_68 : decode cX11_feed 68 = .ok (.aload_n 0, 1) := by decide +kernel
theorem dX11_feed_69 : decode cX11_feed 69 = .ok (.getfield 12, 3) := by decide +kernel
theorem dX11_feed_72 : decode cX11_feed 72 = .ok (.iload_n 2, 1) := by decide +kernel
theorem dX11_feed_73 : decode cX11_feed 73 = .ok (.invokevirtual 64, 3) := by decide +kernel
theorem dX11_feed_76 : decode cX11_feed 76 = .ok (.iload_n 1, 1) := by decide +kernel
theorem dX11_feed_77 : decode cX11_feed 77 = .ok (.iconst 1, 1) := by decide +kernel
theorem dX11_feed_78 : decode cX11_feed 78 = .ok (.if_icmp .le 11, 3) := by decide +kernel
theorem dX11_feed_81 : decode cX11_feed 81 = .ok (.aload_n 0, 1) := by decide +kernel
theorem dX11_feed_82 : decode cX11_feed 82 = .ok (.getfield 12, 3) := by decide +kernel
theorem dX11_feed_85 : decode cX11_feed 85 = .ok (.iload_n 3, 1) := by decide +kernel
theorem dX11_feed_86 : decode cX11_feed 86 = .ok (.invokevirtual 64, 3) := by decide +kernel
theorem dX11_feed_89 : decode cX11_feed 89 = .ok (.iload_n 1, 1) := by decide +kernel
theorem dX11_feed_90 : decode cX11_feed 90 = .ok (.iconst 2, 1) := by decide +kernel
theorem dX11_feed_91 : decode cX11_feed 91 = .ok (.if_icmp .le 12, 3) := by decide +kernel
theorem dX11_feed_94 : decode cX11_feed 94 = .ok (.aload_n 0, 1) := by decide +kernel
theorem dX11_feed_95 : decode cX11_feed 95 = .ok (.getfield 12, 3) := by decide +kernel
theorem dX11_feed_98 : decode cX11_feed 98 = .ok (.iload 4, 2) := by decide +kernel
theorem dX11_feed_100 : decode cX11_feed 100 = .ok (.invokevirtual 64, 3) := by decide +kernel
theorem dX11_feed_103 : decode cX11_feed 103 = .ok (.iload_n 1, 1) := by decide +kernel
theorem dX11_feed_104 : decode cX11_feed 104 = .ok (.iconst 3, 1) := by decide +kernel
theorem dX11_feed_105 : decode cX11_feed 105 = .ok (.if_icmp .le 12, 3) := by decide +kernel
theorem dX11_feed_108 : decode cX11_feed 108 = .ok (.aload_n 0, 1) := by decide +kernel
theorem dX11_feed_109 : decode cX11_feed 109 = .ok (.getfield 12, 3) := by decide +kernel
theorem dX11_feed_112 : decode cX11_feed 112 = .ok (.iload 5, 2) := by decide +kernel
theorem dX11_feed_114 : decode cX11_feed 114 = .ok (.invokevirtual 64, 3) := by decide +kernel
theorem dX11_feed_117 : decode cX11_feed 117 = .ok (.iload_n 1, 1) := by decide +kernel
theorem dX11_feed_118 : decode cX11_feed 118 = .ok (.iconst 4, 1) := by decide +kernel
theorem dX11_feed_119 : decode cX11_feed 119 = .ok (.if_icmp .le 12, 3) := by decide +kernel
theorem dX11_feed_122 : decode cX11_feed 122 = .ok (.aload_n 0, 1) := by decide +kernel
theorem dX11_feed_123 : decode cX11_feed 123 = .ok (.getfield 12, 3) := by decide +kernel
theorem dX11_feed_126 : decode cX11_feed 126 = .ok (.iload 6, 2) := by decide +kernel
theorem dX11_feed_128 : decode cX11_feed 128 = .ok (.invokevirtual 64, 3) := by decide +kernel
theorem dX11_feed_131 : decode cX11_feed 131 = .ok (.aload_n 0, 1) := by decide +kernel
theorem dX11_feed_132 : decode cX11_feed 132 = .ok (.getfield 12, 3) := by decide +kernel
theorem dX11_feed_135 : decode cX11_feed 135 = .ok (.getfield 68, 3) := by decide +kernel
theorem dX11_feed_138 : decode cX11_feed 138 = .ok (.ireturn, 1) := by decide +kernel
theorem dX11_add_0 : decode cX11_add 0 = .ok (.iload_n 1, 1) := by decide +kernel
theorem dX11_add_1 : decode cX11_add 1 = .ok (.invokestatic 72, 3) := by decide +kernel
theorem dX11_add_4 : decode cX11_add 4 = .ok (.ifCond .ne 5, 3) := by decide +kernel
theorem dX11_add_7 : decode cX11_add 7 = .ok (.iconst (-1), 1) := by decide +kernel
theorem dX11_add_8 : decode cX11_add 8 = .ok (.ireturn, 1) := by decide +kernel
theorem dX11_add_9 : decode cX11_add 9 = .ok (.aload_n 0, 1) := by decide +kernel
theorem dX11_add_10 : decode cX11_add 10 = .ok (.getfield 19, 3) := by decide +kernel
theorem dX11_add_13 : decode cX11_add 13 = .ok (.getfield 37, 3) := by decide +kernel
theorem dX11_add_16 : decode cX11_add 16 = .ok (.iload_n 1, 1) := by decide +kernel
theorem dX11_add_17 : decode cX11_add 17 = .ok (.invokevirtual 75, 3) := by decide +kernel
theorem dX11_add_20 : decode cX11_add 20 = .ok (.invokestatic 79, 3) := by decide +kernel
theorem dX11_add_23 : decode cX11_add 23 = .ok (.istore_n 2, 1) := by decide +kernel
theorem dX11_add_24 : decode cX11_add 24 = .ok (.iload_n 2, 1) := by decide +kernel
theorem dX11_add_25 : decode cX11_add 25 = .ok (.bipush (-5), 2) := by decide +kernel
theorem dX11_add_27 : decode cX11_add 27 = .ok (.if_icmp .ne 6, 3) := by decide +kernel
theorem dX11_add_30 : decode cX11_add 30 = .ok (.bipush (-4), 2) := by decide +kernel
theorem dX11_add_32 : decode cX11_add 32 = .ok (.ireturn, 1) := by decide +kernel
theorem dX11_add_33 : decode cX11_add 33 = .ok (.aload_n 0, 1) := by decide +kernel
theorem dX11_add_34 : decode cX11_add 34 = .ok (.getfield 12, 3) := by decide +kernel
theorem dX11_add_37 : decode cX11_add 37 = .ok (.invokevirtual 83, 3) := by decide +kernel
theorem dX11_add_40 : decode cX11_add 40 = .ok (.iload_n 1, 1) := by decide +kernel
theorem dX11_add_41 : decode cX11_add 41 = .ok (.ifCond .ne 21, 3) := by decide +kernel
theorem dX11_add_44 : decode cX11_add 44 = .ok (.aload_n 0, 1) := by decide +kernel
theorem dX11_add_45 : decode cX11_add 45 = .ok (.getfield 19, 3) := by decide +kernel
theorem dX11_add_48 : decode cX11_add 48 = .ok (.getfield 37, 3) := by decide +kernel
theorem dX11_add_51 : decode cX11_add 51 = .ok (.iload_n 2, 1) := by decide +kernel
theorem dX11_add_52 : decode cX11_add 52 = .ok (.aload_n 0, 1) := by decide +kernel
theorem dX11_add_53 : decode cX11_add 53 = .ok (.getfield 12, 3) := by decide +kernel
theorem dX11_add_56 : decode cX11_add 56 = .ok (.invokevirtual 86, 3) := by decide +kernel
theorem dX11_add_59 : decode cX11_add 59 = .ok (.invokevirtual 90, 3) := by decide +kernel
theorem dX11_add_62 : decode cX11_add 62 = .ok (.iload_n 1, 1) := by decide +kernel
theorem dX11_add_63 : decode cX11_add 63 = .ok (.iconst 1, 1) := by decide +kernel
theorem dX11_add_64 : decode cX11_add 64 = .ok (.if_icmp .ne 22, 3) := by decide +kernel
theorem dX11_add_67 : decode cX11_add 67 = .ok (.aload_n 0, 1) := by decide +kernel
theorem dX11_add_68 : decode cX11_add 68 = .ok (.getfield 19, 3) := by decide +kernel
theorem dX11_add_71 : decode cX11_add 71 = .ok (.getfield 37, 3) := by decide +kernel
theorem dX11_add_74 : decode cX11_add 74 = .ok (.getfield 94, 3) := by decide +kernel
theorem dX11_add_77 : decode cX11_add 77 = .ok (.iload_n 2, 1) := by decide +kernel
theorem dX11_add_78 : decode cX11_add 78 = .ok (.aload_n 0, 1) := by decide +kernel
theorem dX11_add_79 : decode cX11_add 79 = .ok (.getfield 12, 3) := by decide +kernel
theorem dX11_add_82 : decode cX11_add 82 = .ok (.invokevirtual 98, 3) := by decide +kernel
theorem dX11_add_85 : decode cX11_add 85 = .ok (.aastore, 1) := by decide +kernel
theorem dX11_add_86 : decode cX11_add 86 = .ok (.iload_n 1, 1) := by decide +kernel
theorem dX11_add_87 : decode cX11_add 87 = .ok (.iconst 2, 1) := by decide +kernel
theorem dX11_add_88 : decode cX11_add 88 = .ok (.if_icmp .ne 22, 3) := by decide +kernel
theorem dX11_add_91 : decode cX11_add 91 = .ok (.aload_n 0, 1) := by decide +kernel
theorem dX11_add_92 : decode cX11_add 92 = .ok (.getfield 19, 3) := by decide +kernel
theorem dX11_add_95 : decode cX11_add 95 = .ok (.getfield 37, 3) := by decide +kernel
theorem dX11_add_98 : decode cX11_add 98 = .ok (.getfield 102, 3) := by decide +kernel
theorem dX11_add_101 : decode cX11_add 101 = .ok (.iload_n 2, 1) := by decide +kernel
theorem dX11_add_102 : decode cX11_add 102 = .ok (.aload_n 0, 1) := by decide +kernel
theorem dX11_add_103 : decode cX11_add 103 = .ok (.getfield 12, 3) := by decide +kernel
theorem dX11_add_106 : decode cX11_add 106 = .ok (.invokevirtual 106, 3) := by decide +kernel
theorem dX11_add_109 : decode cX11_add 109 = .ok (.aastore, 1) := by decide +kernel
theorem dX11_add_110 : decode cX11_add 110 = .ok (.aload_n 0, 1) := by decide +kernel
theorem dX11_add_111 : decode cX11_add 111 = .ok (.getfield 12, 3) := by decide +kernel
theorem dX11_add_114 : decode cX11_add 114 = .ok (.getfield 110, 3) := by decide +kernel
theorem dX11_add_117 : decode cX11_add 117 = .ok (.ifCond .eq 16, 3) := by decide +kernel
theorem dX11_add_120 : decode cX11_add 120 = .ok (.bipush (-100), 2) := by decide +kernel
theorem dX11_add_122 : decode cX11_add 122 = .ok (.aload_n 0, 1) := by decide +kernel
theorem dX11_add_123 : decode cX11_add 123 = .ok (.getfield 12, 3) := by decide +kernel
theorem dX11_add_126 : decode cX11_add 126 = .ok (.getfield 114, 3) := by decide +kernel
theorem dX11_add_129 : decode cX11_add 129 = .ok (.isub, 1) := by decide +kernel
theorem dX11_add_130 : decode cX11_add 130 = .ok (.goto 4, 3) := by decide +kernel
theorem dX11_add_133 : decode cX11_add 133 = .ok (.iload_n 2, 1) := by decide +kernel
theorem dX11_add_134 : decode cX11_add 134 = .ok (.istore_n 3, 1) := by decide +kernel
theorem dX11_add_135 : decode cX11_add 135 = .ok (.aload_n 0, 1) := by decide +kernel
theorem dX11_add_136 : decode cX11_add 136 = .ok (.getfield 12, 3) := by decide +kernel
theorem dX11_add_139 : decode cX11_add 139 = .ok (.invokevirtual 117, 3) := by decide +kernel
theorem dX11_add_142 : decode cX11_add 142 = .ok (.iload_n 3, 1) := by decide +kernel
theorem dX11_add_143 : decode cX11_add 143 = .ok (.ireturn, 1) := by decide +kernel
theorem dX11_remove_0 : decode cX11_remove 0 = .ok (.iload_n 1, 1) := by decide +kernel
theorem dX11_remove_1 : decode cX11_remove 1 = .ok (.invokestatic 72, 3) := by decide +kernel
theorem dX11_remove_4 : decode cX11_remove 4 = .ok (.ifCond .ne 5, 3) := by decide +kernel
theorem dX11_remove_7 : decode cX11_remove 7 = .ok (.iconst (-1), 1) := by decide +kernel
theorem dX11_remove_8 : decode cX11_remove 8 = .ok (.ireturn, 1) := by decide +kernel
theorem dX11_remove_9 : decode cX11_remove 9 = .ok (.aload_n 0, 1) := by decide +kernel
theorem dX11_remove_10 : decode cX11_remove 10 = .ok (.getfield 19, 3) := by decide +kernel
theorem dX11_remove_13 : decode cX11_remove 13 = .ok (.getfield 37, 3) := by decide +kernel
theorem dX11_remove_16 : decode cX11_remove 16 = .ok (.iload_n 1, 1) := by decide +kernel
theorem dX11_remove_17 : decode cX11_remove 17 = .ok (.invokevirtual 75, 3) := by decide +kernel
theorem dX11_remove_20 : decode cX11_remove 20 = .ok (.astore_n 3, 1) := by decide +kernel
theorem dX11_remove_21 : decode cX11_remove 21 = .ok (.aload_n 3, 1) := by decide +kernel
theorem dX11_remove_22 : decode cX11_remove 22 = .ok (.iload_n 2, 1) := by decide +kernel
theorem dX11_remove_23 : decode cX11_remove 23 = .ok (.invokestatic 120, 3) := by decide +kernel
theorem dX11_remove_26 : decode cX11_remove 26 = .ok (.ifCond .ne 5, 3) := by decide +kernel
theorem dX11_remove_29 : decode cX11_remove 29 = .ok (.iconst (-1), 1) := by decide +kernel
theorem dX11_remove_30 : decode cX11_remove 30 = .ok (.ireturn, 1) := by decide +kernel
theorem dX11_remove_31 : decode cX11_remove 31 = .ok (.iload_n 1, 1) := by decide +kernel
theorem dX11_remove_32 : decode cX11_remove 32 = .ok (.ifCond .ne 29, 3) := by decide +kernel
theorem dX11_remove_35 : decode cX11_remove 35 = .ok (.aload_n 0, 1) := by decide +kernel
theorem dX11_remove_36 : decode cX11_remove 36 = .ok (.getfield 19, 3) := by decide +kernel
theorem dX11_remove_39 : decode cX11_remove 39 = .ok (.getfield 37, 3) := by decide +kernel
theorem dX11_remove_42 : decode cX11_remove 42 = .ok (.iload_n 2, 1) := by decide +kernel
theorem dX11_remove_43 : decode cX11_remove 43 = .ok (.aconst_null, 1) := by decide +kernel
theorem dX11_remove_44 : decode cX11_remove 44 = .ok (.invokevirtual 90, 3) := by decide +kernel
theorem dX11_remove_47 : decode cX11_remove 47 = .ok (.aload_n 0, 1) := by decide +kernel
theorem dX11_remove_48 : decode cX11_remove 48 = .ok (.getfield 19, 3) := by decide +kernel
theorem dX11_remove_51 : decode cX11_remove 51 = .ok (.getfield 124, 3) := by decide +kernel
theorem dX11_remove_54 : decode cX11_remove 54 = .ok (.iload_n 2, 1) := by decide +kernel
theorem dX11_remove_55 : decode cX11_remove 55 = .ok (.invokevirtual 128, 3) := by decide +kernel
theorem dX11_remove_58 : decode cX11_remove 58 = .ok (.goto 7, 3) := by decide +kernel
theorem dX11_remove_61 : decode cX11_remove 61 = .ok (.aload_n 3, 1) := by decide +kernel
theorem dX11_remove_62 : decode cX11_remove 62 = .ok (.iload_n 2, 1) := by decide +kernel
theorem dX11_remove_63 : decode cX11_remove 63 = .ok (.aconst_null, 1) := by decide +kernel
theorem dX11_remove_64 : decode cX11_remove 64 = .ok (.aastore, 1) := by decide +kernel
theorem dX11_remove_65 : decode cX11_remove 65 = .ok (.aload_n 3, 1) := by decide +kernel
theorem dX11_remove_66 : decode cX11_remove 66 = .ok (.invokestatic 133, 3) := by decide +kernel
theorem dX11_remove_69 : decode cX11_remove 69 = .ok (.ireturn, 1) := by decide +kernel
theorem dX11_parameter_0 : decode cX11_parameter 0 = .ok (.iload_n 1, 1) := by decide +kernel
theorem dX11_parameter_1 : decode cX11_parameter 1 = .ok (.ifCond .lt 8, 3) := by decide +kernel
theorem dX11_parameter_4 : decode cX11_parameter 4 = .ok (.iload_n 1, 1) := by decide +kernel
theorem dX11_parameter_5 : decode cX11_parameter 5 = .ok (.iconst 5, 1) := by decide +kernel
theorem dX11_parameter_6 : decode cX11_parameter 6 = .ok (.if_icmp .lt 5, 3) := by decide +kernel
theorem dX11_parameter_9 : decode cX11_parameter 9 = .ok (.iconst (-1), 1) := by decide +kernel
theorem dX11_parameter_10 : decode cX11_parameter 10 = .ok (.ireturn, 1) := by decide +kernel
theorem dX11_parameter_11 : decode cX11_parameter 11 = .ok (.iload_n 2, 1) := by decide +kernel
theorem dX11_parameter_12 : decode cX11_parameter 12 = .ok (.getstatic 136, 3) := by decide +kernel
theorem dX11_parameter_15 : decode cX11_parameter 15 = .ok (.iload_n 1, 1) := by decide +kernel
theorem dX11_parameter_16 : decode cX11_parameter 16 = .ok (.iaload, 1) := by decide +kernel
theorem dX11_parameter_17 : decode cX11_parameter 17 = .ok (.if_icmp .lt 12, 3) := by decide +kernel
theorem dX11_parameter_20 : decode cX11_parameter 20 = .ok (.iload_n 2, 1) := by decide +kernel
theorem dX11_parameter_21 : decode cX11_parameter 21 = .ok (.getstatic 139, 3) := by decide +kernel
theorem dX11_parameter_24 : decode cX11_parameter 24 = .ok (.iload_n 1, 1) := by decide +kernel
theorem dX11_parameter_25 : decode cX11_parameter 25 = .ok (.iaload, 1) := by decide +kernel
theorem dX11_parameter_26 : decode cX11_parameter 26 = .ok (.if_icmp .le 6, 3) := by decide +kernel
theorem dX11_parameter_29 : decode cX11_parameter 29 = .ok (.bipush (-2), 2) := by decide +kernel
theorem dX11_parameter_31 : decode cX11_parameter 31 = .ok (.ireturn, 1) := by decide +kernel
theorem dX11_parameter_32 : decode cX11_parameter 32 = .ok (.aload_n 0, 1) := by decide +kernel
theorem dX11_parameter_33 : decode cX11_parameter 33 = .ok (.getfield 19, 3) := by decide +kernel
theorem dX11_parameter_36 : decode cX11_parameter 36 = .ok (.getfield 37, 3) := by decide +kernel
theorem dX11_parameter_39 : decode cX11_parameter 39 = .ok (.getfield 142, 3) := by decide +kernel
theorem dX11_parameter_42 : decode cX11_parameter 42 = .ok (.iload_n 1, 1) := by decide +kernel
theorem dX11_parameter_43 : decode cX11_parameter 43 = .ok (.iaload, 1) := by decide +kernel
theorem dX11_parameter_44 : decode cX11_parameter 44 = .ok (.istore_n 3, 1) := by decide +kernel
theorem dX11_parameter_45 : decode cX11_parameter 45 = .ok (.aload_n 0, 1) := by decide +kernel
theorem dX11_parameter_46 : decode cX11_parameter 46 = .ok (.getfield 19, 3) := by decide +kernel
theorem dX11_parameter_49 : decode cX11_parameter 49 = .ok (.getfield 37, 3) := by decide +kernel
theorem dX11_parameter_52 : decode cX11_parameter 52 = .ok (.getfield 142, 3) := by decide +kernel
theorem dX11_parameter_55 : decode cX11_parameter 55 = .ok (.iload_n 1, 1) := by decide +kernel
theorem dX11_parameter_56 : decode cX11_parameter 56 = .ok (.iload_n 2, 1) := by decide +kernel
theorem dX11_parameter_57 : decode cX11_parameter 57 = .ok (.iastore, 1) := by decide +kernel
theorem dX11_parameter_58 : decode cX11_parameter 58 = .ok (.iload_n 1, 1) := by decide +kernel
theorem dX11_parameter_59 : decode cX11_parameter 59 = .ok (.iconst 4, 1) := by decide +kernel
theorem dX11_parameter_60 : decode cX11_parameter 60 = .ok (.if_icmp .ne 18, 3) := by decide +kernel
theorem dX11_parameter_63 : decode cX11_parameter 63 = .ok (.iload_n 2, 1) := by decide +kernel
theorem dX11_parameter_64 : decode cX11_parameter 64 = .ok (.iload_n 3, 1) := by decide +kernel
theorem dX11_parameter_65 : decode cX11_parameter 65 = .ok (.if_icmp .eq 13, 3) := by decide +kernel
theorem dX11_parameter_68 : decode cX11_parameter 68 = .ok (.aload_n 0, 1) := by decide +kernel
theorem dX11_parameter_69 : decode cX11_parameter 69 = .ok (.getfield 19, 3) := by decide +kernel
theorem dX11_parameter_72 : decode cX11_parameter 72 = .ok (.getfield 145, 3) := by decide +kernel
theorem dX11_parameter_75 : decode cX11_parameter 75 = .ok (.invokevirtual 149, 3) := by decide +kernel
theorem dX11_parameter_78 : decode cX11_parameter 78 = .ok (.iload_n 3, 1) := by decide +kernel
theorem dX11_parameter_79 : decode cX11_parameter 79 = .ok (.ireturn, 1) := by decide +kernel
theorem dX11_pass_0 : decode cX11_pass 0 = .ok (.iload_n 1, 1) := by decide +kernel
theorem dX11_pass_1 : decode cX11_pass 1 = .ok (.invokestatic 154, 3) := by decide +kernel
theorem dX11_pass_4 : decode cX11_pass 4 = .ok (.ifCond .ne 6, 3) := by decide +kernel
theorem dX11_pass_7 : decode cX11_pass 7 = .ok (.bipush (-2), 2) := by decide +kernel
theorem dX11_pass_9 : decode cX11_pass 9 = .ok (.ireturn, 1) := by decide +kernel
theorem dX11_pass_10 : decode cX11_pass 10 = .ok (.aload_n 0, 1) := by decide +kernel
theorem dX11_pass_11 : decode cX11_pass 11 = .ok (.getfield 19, 3) := by decide +kernel
theorem dX11_pass_14 : decode cX11_pass 14 = .ok (.getfield 157, 3) := by decide +kernel
theorem dX11_pass_17 : decode cX11_pass 17 = .ok (.iload_n 1, 1) := by decide +kernel
theorem dX11_pass_18 : decode cX11_pass 18 = .ok (.iadd, 1) := by decide +kernel
theorem dX11_pass_19 : decode cX11_pass 19 = .ok (.ldc 160, 2) := by decide +kernel
theorem dX11_pass_21 : decode cX11_pass 21 = .ok (.if_icmp .le 6, 3) := by decide +kernel
theorem dX11_pass_24 : decode cX11_pass 24 = .ok (.bipush (-4), 2) := by decide +kernel
theorem dX11_pass_26 : decode cX11_pass 26 = .ok (.ireturn, 1) := by decide +kernel
theorem dX11_pass_27 : decode cX11_pass 27 = .ok (.aload_n 0, 1) := by decide +kernel
theorem dX11_pass_28 : decode cX11_pass 28 = .ok (.getfield 19, 3) := by decide +kernel
theorem dX11_pass_31 : decode cX11_pass 31 = .ok (.iload_n 1, 1) := by decide +kernel
theorem dX11_pass_32 : decode cX11_pass 32 = .ok (.invokevirtual 161, 3) := by decide +kernel
theorem dX11_pass_35 : decode cX11_pass 35 = .ok (.ireturn, 1) := by decide +kernel
theorem dX11_alert_0 : decode cX11_alert 0 = .ok (.aload_n 0, 1) := by decide +kernel
theorem dX11_alert_1 : decode cX11_alert 1 = .ok (.getfield 19, 3) := by decide +kernel
theorem dX11_alert_4 : decode cX11_alert 4 = .ok (.getfield 37, 3) := by decide +kernel
theorem dX11_alert_7 : decode cX11_alert 7 = .ok (.getfield 165, 3) := by decide +kernel
theorem dX11_alert_10 : decode cX11_alert 10 = .ok (.iload_n 1, 1) := by decide +kernel
theorem dX11_alert_11 : decode cX11_alert 11 = .ok (.invokestatic 120, 3) := by decide +kernel
theorem dX11_alert_14 : decode cX11_alert 14 = .ok (.ifCond .eq 10, 3) := by decide +kernel
theorem dX11_alert_17 : decode cX11_alert 17 = .ok (.iload_n 2, 1) := by decide +kernel
theorem dX11_alert_18 : decode cX11_alert 18 = .ok (.invokestatic 29, 3) := by decide +kernel
theorem dX11_alert_21 : decode cX11_alert 21 = .ok (.ifCond .ne 5, 3) := by decide +kernel
theorem dX11_alert_24 : decode cX11_alert 24 = .ok (.iconst (-1), 1) := by decide +kernel
theorem dX11_alert_25 : decode cX11_alert 25 = .ok (.ireturn, 1) := by decide +kernel
theorem dX11_alert_26 : decode cX11_alert 26 = .ok (.iload_n 1, 1) := by decide +kernel
theorem dX11_alert_27 : decode cX11_alert 27 = .ok (.bipush 12, 2) := by decide +kernel
theorem dX11_alert_29 : decode cX11_alert 29 = .ok (.imul, 1) := by decide +kernel
theorem dX11_alert_30 : decode cX11_alert 30 = .ok (.iload_n 2, 1) := by decide +kernel
theorem dX11_alert_31 : decode cX11_alert 31 = .ok (.iadd, 1) := by decide +kernel
theorem dX11_alert_32 : decode cX11_alert 32 = .ok (.istore 4, 2) := by decide +kernel
theorem dX11_alert_34 : decode cX11_alert 34 = .ok (.iload_n 3, 1) := by decide +kernel
theorem dX11_alert_35 : decode cX11_alert 35 = .ok (.tableswitch 231 0 10 #[57, 70, 83, 99, 122, 141, 157, 177, 189, 199, 212], 57) := by decide +kernel
theorem dX11_alert_92 : decode cX11_alert 92 = .ok (.aload_n 0, 1) := by decide +kernel
theorem dX11_alert_93 : decode cX11_alert 93 = .ok (.getfield 19, 3) := by decide +kernel
theorem dX11_alert_96 : decode cX11_alert 96 = .ok (.getfield 124, 3) := by decide +kernel
theorem dX11_alert_99 : decode cX11_alert 99 = .ok (.iload 4, 2) := by decide +kernel
theorem dX11_alert_101 : decode cX11_alert 101 = .ok (.invokevirtual 169, 3) := by decide +kernel
theorem dX11_alert_104 : decode cX11_alert 104 = .ok (.ireturn, 1) := by decide +kernel
theorem dX11_alert_105 : decode cX11_alert 105 = .ok (.aload_n 0, 1) := by decide +kernel
theorem dX11_alert_106 : decode cX11_alert 106 = .ok (.getfield 19, 3) := by decide +kernel
theorem dX11_alert_109 : decode cX11_alert 109 = .ok (.getfield 124, 3) := by decide +kernel
theorem dX11_alert_112 : decode cX11_alert 112 = .ok (.iload 4, 2) := by decide +kernel
theorem dX11_alert_114 : decode cX11_alert 114 = .ok (.invokevirtual 172, 3) := by decide +kernel
theorem dX11_alert_117 : decode cX11_alert 117 = .ok (.ireturn, 1) := by decide +kernel
theorem dX11_alert_118 : decode cX11_alert 118 = .ok (.aload_n 0, 1) := by decide +kernel
theorem dX11_alert_119 : decode cX11_alert 119 = .ok (.getfield 19, 3) := by decide +kernel
theorem dX11_alert_122 : decode cX11_alert 122 = .ok (.invokevirtual 175, 3) := by decide +kernel
theorem dX11_alert_125 : decode cX11_alert 125 = .ok (.iload 4, 2) := by decide +kernel
theorem dX11_alert_127 : decode cX11_alert 127 = .ok (.invokestatic 179, 3) := by decide +kernel
theorem dX11_alert_130 : decode cX11_alert 130 = .ok (.invokestatic 51, 3) := by decide +kernel
theorem dX11_alert_133 : decode cX11_alert 133 = .ok (.ireturn, 1) := by decide +kernel
theorem dX11_alert_134 : decode cX11_alert 134 = .ok (.aload_n 0, 1) := by decide +kernel
theorem dX11_alert_135 : decode cX11_alert 135 = .ok (.getfield 19, 3) := by decide +kernel
theorem dX11_alert_138 : decode cX11_alert 138 = .ok (.iload 4, 2) := by decide +kernel
theorem dX11_alert_140 : decode cX11_alert 140 = .ok (.invokevirtual 183, 3) := by decide +kernel
theorem dX11_alert_143 : decode cX11_alert 143 = .ok (.lconst 0, 1) := by decide +kernel
theorem dX11_alert_144 : decode cX11_alert 144 = .ok (.lcmp, 1) := by decide +kernel
theorem dX11_alert_145 : decode cX11_alert 145 = .ok (.ifCond .eq 7, 3) := by decide +kernel
theorem dX11_alert_148 : decode cX11_alert 148 = .ok (.iconst 1, 1) := by decide +kernel
theorem dX11_alert_149 : decode cX11_alert 149 = .ok (.goto 4, 3) := by decide +kernel
theorem dX11_alert_152 : decode cX11_alert 152 = .ok (.iconst 0, 1) := by decide +kernel
theorem dX11_alert_153 : decode cX11_alert 153 = .ok (.invokestatic 51, 3) := by decide +kernel
theorem dX11_alert_156 : decode cX11_alert 156 = .ok (.ireturn, 1) := by decide +kernel
theorem dX11_alert_157 : decode cX11_alert 157 = .ok (.aload_n 0, 1) := by decide +kernel
theorem dX11_alert_158 : decode cX11_alert 158 = .ok (.getfield 19, 3) := by decide +kernel
theorem dX11_alert_161 : decode cX11_alert 161 = .ok (.ldc2_w 187, 3) := by decide +kernel
theorem dX11_alert_164 : decode cX11_alert 164 = .ok (.invokevirtual 189, 3) := by decide +kernel
theorem dX11_alert_167 : decode cX11_alert 167 = .ok (.iload 4, 2) := by decide +kernel
theorem dX11_alert_169 : decode cX11_alert 169 = .ok (.invokestatic 179, 3) := by decide +kernel
theorem dX11_alert_172 : decode cX11_alert 172 = .ok (.invokestatic 51, 3) := by decide +kernel
theorem dX11_alert_175 : decode cX11_alert 175 = .ok (.ireturn, 1) := by decide +kernel
theorem dX11_alert_176 : decode cX11_alert 176 = .ok (.aload_n 0, 1) := by decide +kernel
theorem dX11_alert_177 : decode cX11_alert 177 = .ok (.getfield 19, 3) := by decide +kernel
theorem dX11_alert_180 : decode cX11_alert 180 = .ok (.invokevirtual 193, 3) := by decide +kernel
theorem dX11_alert_183 : decode cX11_alert 183 = .ok (.iload 4, 2) := by decide +kernel
theorem dX11_alert_185 : decode cX11_alert 185 = .ok (.invokestatic 179, 3) := by decide +kernel
theorem dX11_alert_188 : decode cX11_alert 188 = .ok (.invokestatic 51, 3) := by decide +kernel
theorem dX11_alert_191 : decode cX11_alert 191 = .ok (.ireturn, 1) := by decide +kernel
theorem dX11_alert_192 : decode cX11_alert 192 = .ok (.aload_n 0, 1) := by decide +kernel
theorem dX11_alert_193 : decode cX11_alert 193 = .ok (.getfield 19, 3) := by decide +kernel
theorem dX11_alert_196 : decode cX11_alert 196 = .ok (.getfield 124, 3) := by decide +kernel
theorem dX11_alert_199 : decode cX11_alert 199 = .ok (.iload 4, 2) := by decide +kernel
theorem dX11_alert_201 : decode cX11_alert 201 = .ok (.aload_n 0, 1) := by decide +kernel
theorem dX11_alert_202 : decode cX11_alert 202 = .ok (.getfield 19, 3) := by decide +kernel
theorem dX11_alert_205 : decode cX11_alert 205 = .ok (.invokevirtual 196, 3) := by decide +kernel
theorem dX11_alert_208 : decode cX11_alert 208 = .ok (.invokevirtual 200, 3) := by decide +kernel
theorem dX11_alert_211 : decode cX11_alert 211 = .ok (.ireturn, 1) := by decide +kernel
theorem dX11_alert_212 : decode cX11_alert 212 = .ok (.aload_n 0, 1) := by decide +kernel
theorem dX11_alert_213 : decode cX11_alert 213 = .ok (.getfield 19, 3) := by decide +kernel
theorem dX11_alert_216 : decode cX11_alert 216 = .ok (.getfield 37, 3) := by decide +kernel
theorem dX11_alert_219 : decode cX11_alert 219 = .ok (.iload_n 2, 1) := by decide +kernel
theorem dX11_alert_220 : decode cX11_alert 220 = .ok (.invokevirtual 204, 3) := by decide +kernel
theorem dX11_alert_223 : decode cX11_alert 223 = .ok (.ireturn, 1) := by decide +kernel
theorem dX11_alert_224 : decode cX11_alert 224 = .ok (.aload_n 0, 1) := by decide +kernel
theorem dX11_alert_225 : decode cX11_alert 225 = .ok (.getfield 19, 3) := by decide +kernel
theorem dX11_alert_228 : decode cX11_alert 228 = .ok (.iload 4, 2) := by decide +kernel
theorem dX11_alert_230 : decode cX11_alert 230 = .ok (.invokevirtual 207, 3) := by decide +kernel
theorem dX11_alert_233 : decode cX11_alert 233 = .ok (.ireturn, 1) := by decide +kernel
theorem dX11_alert_234 : decode cX11_alert 234 = .ok (.aload_n 0, 1) := by decide +kernel
theorem dX11_alert_235 : decode cX11_alert 235 = .ok (.getfield 19, 3) := by decide +kernel
theorem dX11_alert_238 : decode cX11_alert 238 = .ok (.iload 4, 2) := by decide +kernel
theorem dX11_alert_240 : decode cX11_alert 240 = .ok (.invokevirtual 183, 3) := by decide +kernel
theorem dX11_alert_243 : decode cX11_alert 243 = .ok (.invokestatic 210, 3) := by decide +kernel
theorem dX11_alert_246 : decode cX11_alert 246 = .ok (.ireturn, 1) := by decide +kernel
theorem dX11_alert_247 : decode cX11_alert 247 = .ok (.aload_n 0, 1) := by decide +kernel
theorem dX11_alert_248 : decode cX11_alert 248 = .ok (.getfield 19, 3) := by decide +kernel
theorem dX11_alert_251 : decode cX11_alert 251 = .ok (.getfield 37, 3) := by decide +kernel
theorem dX11_alert_254 : decode cX11_alert 254 = .ok (.invokevirtual 214, 3) := by decide +kernel
theorem dX11_alert_257 : decode cX11_alert 257 = .ok (.iload 4, 2) := by decide +kernel
theorem dX11_alert_259 : decode cX11_alert 259 = .ok (.invokestatic 179, 3) := by decide +kernel
theorem dX11_alert_262 : decode cX11_alert 262 = .ok (.invokestatic 51, 3) := by decide +kernel
theorem dX11_alert_265 : decode cX11_alert 265 = .ok (.ireturn, 1) := by decide +kernel
theorem dX11_alert_266 : decode cX11_alert 266 = .ok (.iconst (-1), 1) := by decide +kernel
theorem dX11_alert_267 : decode cX11_alert 267 = .ok (.ireturn, 1) := by decide +kernel
theorem dX11_alerts_0 : decode cX11_alerts 0 = .ok (.iload_n 1, 1) := by decide +kernel
theorem dX11_alerts_1 : decode cX11_alerts 1 = .ok (.tableswitch 129 0 6 #[43, 54, 65, 84, 92, 110, 118], 43) := by decide +kernel
theorem dX11_alerts_44 : decode cX11_alerts 44 = .ok (.aload_n 0, 1) := by decide +kernel
theorem dX11_alerts_45 : decode cX11_alerts 45 = .ok (.getfield 19, 3) := by decide +kernel
theorem dX11_alerts_48 : decode cX11_alerts 48 = .ok (.getfield 124, 3) := by decide +kernel
theorem dX11_alerts_51 : decode cX11_alerts 51 = .ok (.getfield 217, 3) := by decide +kernel
theorem dX11_alerts_54 : decode cX11_alerts 54 = .ok (.lreturn, 1) := by decide +kernel
theorem dX11_alerts_55 : decode cX11_alerts 55 = .ok (.aload_n 0, 1) := by decide +kernel
theorem dX11_alerts_56 : decode cX11_alerts 56 = .ok (.getfield 19, 3) := by decide +kernel
theorem dX11_alerts_59 : decode cX11_alerts 59 = .ok (.getfield 124, 3) := by decide +kernel
theorem dX11_alerts_62 : decode cX11_alerts 62 = .ok (.getfield 221, 3) := by decide +kernel
theorem dX11_alerts_65 : decode cX11_alerts 65 = .ok (.lreturn, 1) := by decide +kernel
theorem dX11_alerts_66 : decode cX11_alerts 66 = .ok (.aload_n 0, 1) := by decide +kernel
theorem dX11_alerts_67 : decode cX11_alerts 67 = .ok (.getfield 19, 3) := by decide +kernel
theorem dX11_alerts_70 : decode cX11_alerts 70 = .ok (.getfield 124, 3) := by decide +kernel
theorem dX11_alerts_73 : decode cX11_alerts 73 = .ok (.getfield 221, 3) := by decide +kernel
theorem dX11_alerts_76 : decode cX11_alerts 76 = .ok (.aload_n 0, 1) := by decide +kernel
theorem dX11_alerts_77 : decode cX11_alerts 77 = .ok (.getfield 19, 3) := by decide +kernel
theorem dX11_alerts_80 : decode cX11_alerts 80 = .ok (.invokevirtual 175, 3) := by decide +kernel
theorem dX11_alerts_83 : decode cX11_alerts 83 = .ok (.land, 1) := by decide +kernel
theorem dX11_alerts_84 : decode cX11_alerts 84 = .ok (.lreturn, 1) := by decide +kernel
theorem dX11_alerts_85 : decode cX11_alerts 85 = .ok (.aload_n 0, 1) := by decide +kernel
theorem dX11_alerts_86 : decode cX11_alerts 86 = .ok (.getfield 19, 3) := by decide +kernel
theorem dX11_alerts_89 : decode cX11_alerts 89 = .ok (.invokevirtual 224, 3) := by decide +kernel
theorem dX11_alerts_92 : decode cX11_alerts 92 = .ok (.lreturn, 1) := by decide +kernel
theorem dX11_alerts_93 : decode cX11_alerts 93 = .ok (.aload_n 0, 1) := by decide +kernel
theorem dX11_alerts_94 : decode cX11_alerts 94 = .ok (.getfield 19, 3) := by decide +kernel
theorem dX11_alerts_97 : decode cX11_alerts 97 = .ok (.aload_n 0, 1) := by decide +kernel
theorem dX11_alerts_98 : decode cX11_alerts 98 = .ok (.getfield 19, 3) := by decide +kernel
theorem dX11_alerts_101 : decode cX11_alerts 101 = .ok (.getfield 124, 3) := by decide +kernel
theorem dX11_alerts_104 : decode cX11_alerts 104 = .ok (.getfield 221, 3) := by decide +kernel
theorem dX11_alerts_107 : decode cX11_alerts 107 = .ok (.invokevirtual 189, 3) := by decide +kernel
theorem dX11_alerts_110 : decode cX11_alerts 110 = .ok (.lreturn, 1) := by decide +kernel
theorem dX11_alerts_111 : decode cX11_alerts 111 = .ok (.aload_n 0, 1) := by decide +kernel
theorem dX11_alerts_112 : decode cX11_alerts 112 = .ok (.getfield 19, 3) := by decide +kernel
theorem dX11_alerts_115 : decode cX11_alerts 115 = .ok (.invokevirtual 193, 3) := by decide +kernel
theorem dX11_alerts_118 : decode cX11_alerts 118 = .ok (.lreturn, 1) := by decide +kernel
theorem dX11_alerts_119 : decode cX11_alerts 119 = .ok (.aload_n 0, 1) := by decide +kernel
theorem dX11_alerts_120 : decode cX11_alerts 120 = .ok (.getfield 19, 3) := by decide +kernel
theorem dX11_alerts_123 : decode cX11_alerts 123 = .ok (.getfield 37, 3) := by decide +kernel
theorem dX11_alerts_126 : decode cX11_alerts 126 = .ok (.invokevirtual 214, 3) := by decide +kernel
theorem dX11_alerts_129 : decode cX11_alerts 129 = .ok (.lreturn, 1) := by decide +kernel
theorem dX11_alerts_130 : decode cX11_alerts 130 = .ok (.ldc2_w 227, 3) := by decide +kernel
theorem dX11_alerts_133 : decode cX11_alerts 133 = .ok (.lreturn, 1) := by decide +kernel
theorem dX11_group_0 : decode cX11_group 0 = .ok (.iload_n 1, 1) := by decide +kernel
theorem dX11_group_1 : decode cX11_group 1 = .ok (.ifCond .lt 10, 3) := by decide +kernel
theorem dX11_group_4 : decode cX11_group 4 = .ok (.iload_n 1, 1) := by decide +kernel
theorem dX11_group_5 : decode cX11_group 5 = .ok (.sipush 128, 3) := by decide +kernel
theorem dX11_group_8 : decode cX11_group 8 = .ok (.if_icmp .lt 5, 3) := by decide +kernel
theorem dX11_group_11 : decode cX11_group 11 = .ok (.iconst (-1), 1) := by decide +kernel
theorem dX11_group_12 : decode cX11_group 12 = .ok (.ireturn, 1) := by decide +kernel
theorem dX11_group_13 : decode cX11_group 13 = .ok (.aload_n 0, 1) := by decide +kernel
theorem dX11_group_14 : decode cX11_group 14 = .ok (.getfield 19, 3) := by decide +kernel
theorem dX11_group_17 : decode cX11_group 17 = .ok (.getfield 145, 3) := by decide +kernel
theorem dX11_group_20 : decode cX11_group 20 = .ok (.aload_n 0, 1) := by decide +kernel
theorem dX11_group_21 : decode cX11_group 21 = .ok (.getfield 19, 3) := by decide +kernel
theorem dX11_group_24 : decode cX11_group 24 = .ok (.invokevirtual 193, 3) := by decide +kernel
theorem dX11_group_27 : decode cX11_group 27 = .ok (.aload_n 0, 1) := by decide +kernel
theorem dX11_group_28 : decode cX11_group 28 = .ok (.getfield 19, 3) := by decide +kernel
theorem dX11_group_31 : decode cX11_group 31 = .ok (.getfield 37, 3) := by decide +kernel
theorem dX11_group_34 : decode cX11_group 34 = .ok (.invokevirtual 229, 3) := by decide +kernel
theorem dX11_group_37 : decode cX11_group 37 = .ok (.iload_n 2, 1) := by decide +kernel
theorem dX11_group_38 : decode cX11_group 38 = .ok (.tableswitch 140 0 4 #[34, 50, 83, 99, 114], 34) := by decide +kernel
theorem dX11_group_72 : decode cX11_group 72 = .ok (.aload_n 0, 1) := by decide +kernel
theorem dX11_group_73 : decode cX11_group 73 = .ok (.getfield 19, 3) := by decide +kernel
theorem dX11_group_76 : decode cX11_group 76 = .ok (.getfield 145, 3) := by decide +kernel
theorem dX11_group_79 : decode cX11_group 79 = .ok (.getfield 233, 3) := by decide +kernel
theorem dX11_group_82 : decode cX11_group 82 = .ok (.iload_n 1, 1) := by decide +kernel
theorem dX11_group_83 : decode cX11_group 83 = .ok (.baload, 1) := by decide +kernel
theorem dX11_group_84 : decode cX11_group 84 = .ok (.invokestatic 51, 3) := by decide +kernel
theorem dX11_group_87 : decode cX11_group 87 = .ok (.ireturn, 1) := by decide +kernel
theorem dX11_group_88 : decode cX11_group 88 = .ok (.aload_n 0, 1) := by decide +kernel
theorem dX11_group_89 : decode cX11_group 89 = .ok (.getfield 19, 3) := by decide +kernel
theorem dX11_group_92 : decode cX11_group 92 = .ok (.getfield 145, 3) := by decide +kernel
theorem dX11_group_95 : decode cX11_group 95 = .ok (.getfield 233, 3) := by decide +kernel
theorem dX11_group_98 : decode cX11_group 98 = .ok (.iload_n 1, 1) := by decide +kernel
theorem dX11_group_99 : decode cX11_group 99 = .ok (.baload, 1) := by decide +kernel
theorem dX11_group_100 : decode cX11_group 100 = .ok (.ifCond .eq 18, 3) := by decide +kernel
theorem dX11_group_103 : decode cX11_group 103 = .ok (.aload_n 0, 1) := by decide +kernel
theorem dX11_group_104 : decode cX11_group 104 = .ok (.getfield 19, 3) := by decide +kernel
theorem dX11_group_107 : decode cX11_group 107 = .ok (.getfield 145, 3) := by decide +kernel
theorem dX11_group_110 : decode cX11_group 110 = .ok (.getfield 236, 3) := by decide +kernel
theorem dX11_group_113 : decode cX11_group 113 = .ok (.iload_n 1, 1) := by decide +kernel
theorem dX11_group_114 : decode cX11_group 114 = .ok (.iaload, 1) := by decide +kernel
theorem dX11_group_115 : decode cX11_group 115 = .ok (.goto 5, 3) := by decide +kernel
theorem dX11_group_118 : decode cX11_group 118 = .ok (.bipush (-5), 2) := by decide +kernel
theorem dX11_group_120 : decode cX11_group 120 = .ok (.ireturn, 1) := by decide +kernel
theorem dX11_group_121 : decode cX11_group 121 = .ok (.aload_n 0, 1) := by decide +kernel
theorem dX11_group_122 : decode cX11_group 122 = .ok (.getfield 19, 3) := by decide +kernel
theorem dX11_group_125 : decode cX11_group 125 = .ok (.getfield 145, 3) := by decide +kernel
theorem dX11_group_128 : decode cX11_group 128 = .ok (.getfield 239, 3) := by decide +kernel
theorem dX11_group_131 : decode cX11_group 131 = .ok (.iload_n 1, 1) := by decide +kernel
theorem dX11_group_132 : decode cX11_group 132 = .ok (.laload, 1) := by decide +kernel
theorem dX11_group_133 : decode cX11_group 133 = .ok (.invokestatic 243, 3) := by decide +kernel
theorem dX11_group_136 : decode cX11_group 136 = .ok (.ireturn, 1) := by decide +kernel
theorem dX11_group_137 : decode cX11_group 137 = .ok (.aload_n 0, 1) := by decide +kernel
theorem dX11_group_138 : decode cX11_group 138 = .ok (.getfield 19, 3) := by decide +kernel
theorem dX11_group_141 : decode cX11_group 141 = .ok (.getfield 145, 3) := by decide +kernel
theorem dX11_group_144 : decode cX11_group 144 = .ok (.iload_n 1, 1) := by decide +kernel
theorem dX11_group_145 : decode cX11_group 145 = .ok (.invokevirtual 248, 3) := by decide +kernel
theorem dX11_group_148 : decode cX11_group 148 = .ok (.invokestatic 243, 3) := by decide +kernel
theorem dX11_group_151 : decode cX11_group 151 = .ok (.ireturn, 1) := by decide +kernel
theorem dX11_group_152 : decode cX11_group 152 = .ok (.aload_n 0, 1) := by decide +kernel
theorem dX11_group_153 : decode cX11_group 153 = .ok (.getfield 19, 3) := by decide +kernel
theorem dX11_group_156 : decode cX11_group 156 = .ok (.getfield 145, 3) := by decide +kernel
theorem dX11_group_159 : decode cX11_group 159 = .ok (.iload_n 1, 1) := by decide +kernel
theorem dX11_group_160 : decode cX11_group 160 = .ok (.aload_n 0, 1) := by decide +kernel
theorem dX11_group_161 : decode cX11_group 161 = .ok (.getfield 19, 3) := by decide +kernel
theorem dX11_group_164 : decode cX11_group 164 = .ok (.getfield 157, 3) := by decide +kernel
theorem dX11_group_167 : decode cX11_group 167 = .ok (.aload_n 0, 1) := by decide +kernel
theorem dX11_group_168 : decode cX11_group 168 = .ok (.getfield 19, 3) := by decide +kernel
theorem dX11_group_171 : decode cX11_group 171 = .ok (.getfield 37, 3) := by decide +kernel
theorem dX11_group_174 : decode cX11_group 174 = .ok (.invokevirtual 251, 3) := by decide +kernel
theorem dX11_group_177 : decode cX11_group 177 = .ok (.ireturn, 1) := by decide +kernel
theorem dX11_group_178 : decode cX11_group 178 = .ok (.iconst (-1), 1) := by decide +kernel
theorem dX11_group_179 : decode cX11_group 179 = .ok (.ireturn, 1) := by decide +kernel
theorem dX11_key_0 : decode cX11_key 0 = .ok (.iload_n 1, 1) := by decide +kernel
theorem dX11_key_1 : decode cX11_key 1 = .ok (.iconst (-1), 1) := by decide +kernel
theorem dX11_key_2 : decode cX11_key 2 = .ok (.if_icmp .lt 10, 3) := by decide +kernel
theorem dX11_key_5 : decode cX11_key 5 = .ok (.iload_n 1, 1) := by decide +kernel
theorem dX11_key_6 : decode cX11_key 6 = .ok (.sipush 128, 3) := by decide +kernel
theorem dX11_key_9 : decode cX11_key 9 = .ok (.if_icmp .lt 5, 3) := by decide +kernel
theorem dX11_key_12 : decode cX11_key 12 = .ok (.iconst (-1), 1) := by decide +kernel
theorem dX11_key_13 : decode cX11_key 13 = .ok (.ireturn, 1) := by decide +kernel
theorem dX11_key_14 : decode cX11_key 14 = .ok (.aload_n 0, 1) := by decide +kernel
theorem dX11_key_15 : decode cX11_key 15 = .ok (.getfield 19, 3) := by decide +kernel
theorem dX11_key_18 : decode cX11_key 18 = .ok (.getfield 145, 3) := by decide +kernel
theorem dX11_key_21 : decode cX11_key 21 = .ok (.aload_n 0, 1) := by decide +kernel
theorem dX11_key_22 : decode cX11_key 22 = .ok (.getfield 19, 3) := by decide +kernel
theorem dX11_key_25 : decode cX11_key 25 = .ok (.invokevirtual 193, 3) := by decide +kernel
theorem dX11_key_28 : decode cX11_key 28 = .ok (.aload_n 0, 1) := by decide +kernel
theorem dX11_key_29 : decode cX11_key 29 = .ok (.getfield 19, 3) := by decide +kernel
theorem dX11_key_32 : decode cX11_key 32 = .ok (.getfield 37, 3) := by decide +kernel
theorem dX11_key_35 : decode cX11_key 35 = .ok (.invokevirtual 229, 3) := by decide +kernel
theorem dX11_key_38 : decode cX11_key 38 = .ok (.iload_n 1, 1) := by decide +kernel
theorem dX11_key_39 : decode cX11_key 39 = .ok (.iconst (-1), 1) := by decide +kernel
theorem dX11_key_40 : decode cX11_key 40 = .ok (.if_icmp .ne 16, 3) := by decide +kernel
theorem dX11_key_43 : decode cX11_key 43 = .ok (.aload_n 0, 1) := by decide +kernel
theorem dX11_key_44 : decode cX11_key 44 = .ok (.getfield 19, 3) := by decide +kernel
theorem dX11_key_47 : decode cX11_key 47 = .ok (.getfield 145, 3) := by decide +kernel
theorem dX11_key_50 : decode cX11_key 50 = .ok (.invokevirtual 255, 3) := by decide +kernel
theorem dX11_key_53 : decode cX11_key 53 = .ok (.goto 14, 3) := by decide +kernel
theorem dX11_key_56 : decode cX11_key 56 = .ok (.aload_n 0, 1) := by decide +kernel
theorem dX11_key_57 : decode cX11_key 57 = .ok (.getfield 19, 3) := by decide +kernel
theorem dX11_key_60 : decode cX11_key 60 = .ok (.getfield 145, 3) := by decide +kernel
theorem dX11_key_63 : decode cX11_key 63 = .ok (.iload_n 1, 1) := by decide +kernel
theorem dX11_key_64 : decode cX11_key 64 = .ok (.invokevirtual 258, 3) := by decide +kernel
theorem dX11_key_67 : decode cX11_key 67 = .ok (.ireturn, 1) := by decide +kernel
theorem dX11_sent_0 : decode cX11_sent 0 = .ok (.aload_n 0, 1) := by decide +kernel
theorem dX11_sent_1 : decode cX11_sent 1 = .ok (.getfield 19, 3) := by decide +kernel
theorem dX11_sent_4 : decode cX11_sent 4 = .ok (.getfield 261, 3) := by decide +kernel
theorem dX11_sent_7 : decode cX11_sent 7 = .ok (.iload_n 1, 1) := by decide +kernel
theorem dX11_sent_8 : decode cX11_sent 8 = .ok (.invokevirtual 265, 3) := by decide +kernel
theorem dX11_sent_11 : decode cX11_sent 11 = .ok (.ifCond .eq 12, 3) := by decide +kernel
theorem dX11_sent_14 : decode cX11_sent 14 = .ok (.iload_n 2, 1) := by decide +kernel
theorem dX11_sent_15 : decode cX11_sent 15 = .ok (.ifCond .lt 8, 3) := by decide +kernel
theorem dX11_sent_18 : decode cX11_sent 18 = .ok (.iload_n 2, 1) := by decide +kernel
theorem dX11_sent_19 : decode cX11_sent 19 = .ok (.iconst 5, 1) := by decide +kernel
theorem dX11_sent_20 : decode cX11_sent 20 = .ok (.if_icmp .lt 5, 3) := by decide +kernel
theorem dX11_sent_23 : decode cX11_sent 23 = .ok (.iconst (-1), 1) := by decide +kernel
theorem dX11_sent_24 : decode cX11_sent 24 = .ok (.ireturn, 1) := by decide +kernel
theorem dX11_sent_25 : decode cX11_sent 25 = .ok (.aload_n 0, 1) := by decide +kernel
theorem dX11_sent_26 : decode cX11_sent 26 = .ok (.getfield 19, 3) := by decide +kernel
theorem dX11_sent_29 : decode cX11_sent 29 = .ok (.getfield 261, 3) := by decide +kernel
theorem dX11_sent_32 : decode cX11_sent 32 = .ok (.iload_n 1, 1) := by decide +kernel
theorem dX11_sent_33 : decode cX11_sent 33 = .ok (.iload_n 2, 1) := by decide +kernel
theorem dX11_sent_34 : decode cX11_sent 34 = .ok (.invokevirtual 270, 3) := by decide +kernel
theorem dX11_sent_37 : decode cX11_sent 37 = .ok (.ireturn, 1) := by decide +kernel
theorem dX11_ahead_0 : decode cX11_ahead 0 = .ok (.iload_n 1, 1) := by decide +kernel
theorem dX11_ahead_1 : decode cX11_ahead 1 = .ok (.invokestatic 154, 3) := by decide +kernel
theorem dX11_ahead_4 : decode cX11_ahead 4 = .ok (.ifCond .ne 6, 3) := by decide +kernel
theorem dX11_ahead_7 : decode cX11_ahead 7 = .ok (.bipush (-2), 2) := by decide +kernel
theorem dX11_ahead_9 : decode cX11_ahead 9 = .ok (.ireturn, 1) := by decide +kernel
theorem dX11_ahead_10 : decode cX11_ahead 10 = .ok (.aload_n 0, 1) := by decide +kernel
theorem dX11_ahead_11 : decode cX11_ahead 11 = .ok (.getfield 26, 3) := by decide +kernel
theorem dX11_ahead_14 : decode cX11_ahead 14 = .ok (.aload_n 0, 1) := by decide +kernel
theorem dX11_ahead_15 : decode cX11_ahead 15 = .ok (.getfield 19, 3) := by decide +kernel
theorem dX11_ahead_18 : decode cX11_ahead 18 = .ok (.invokevirtual 273, 3) := by decide +kernel
theorem dX11_ahead_21 : decode cX11_ahead 21 = .ok (.aload_n 0, 1) := by decide +kernel
theorem dX11_ahead_22 : decode cX11_ahead 22 = .ok (.getfield 26, 3) := by decide +kernel
theorem dX11_ahead_25 : decode cX11_ahead 25 = .ok (.iload_n 1, 1) := by decide +kernel
theorem dX11_ahead_26 : decode cX11_ahead 26 = .ok (.invokevirtual 161, 3) := by decide +kernel
theorem dX11_ahead_29 : decode cX11_ahead 29 = .ok (.ireturn, 1) := by decide +kernel
theorem dX11_next_0 : decode cX11_next 0 = .ok (.iload_n 1, 1) := by decide +kernel
theorem dX11_next_1 : decode cX11_next 1 = .ok (.invokestatic 154, 3) := by decide +kernel
theorem dX11_next_4 : decode cX11_next 4 = .ok (.ifCond .ne 6, 3) := by decide +kernel
theorem dX11_next_7 : decode cX11_next 7 = .ok (.bipush (-2), 2) := by decide +kernel
theorem dX11_next_9 : decode cX11_next 9 = .ok (.ireturn, 1) := by decide +kernel
theorem dX11_next_10 : decode cX11_next 10 = .ok (.aload_n 0, 1) := by decide +kernel
theorem dX11_next_11 : decode cX11_next 11 = .ok (.getfield 26, 3) := by decide +kernel
theorem dX11_next_14 : decode cX11_next 14 = .ok (.aload_n 0, 1) := by decide +kernel
theorem dX11_next_15 : decode cX11_next 15 = .ok (.getfield 19, 3) := by decide +kernel
theorem dX11_next_18 : decode cX11_next 18 = .ok (.invokevirtual 273, 3) := by decide +kernel
theorem dX11_next_21 : decode cX11_next 21 = .ok (.iconst 0, 1) := by decide +kernel
theorem dX11_next_22 : decode cX11_next 22 = .ok (.istore_n 2, 1) := by decide +kernel
theorem dX11_next_23 : decode cX11_next 23 = .ok (.iload_n 2, 1) := by decide +kernel
theorem dX11_next_24 : decode cX11_next 24 = .ok (.iload_n 1, 1) := by decide +kernel
theorem dX11_next_25 : decode cX11_next 25 = .ok (.if_icmp .ge 27, 3) := by decide +kernel
theorem dX11_next_28 : decode cX11_next 28 = .ok (.aload_n 0, 1) := by decide +kernel
theorem dX11_next_29 : decode cX11_next 29 = .ok (.getfield 26, 3) := by decide +kernel
theorem dX11_next_32 : decode cX11_next 32 = .ok (.invokevirtual 277, 3) := by decide +kernel
theorem dX11_next_35 : decode cX11_next 35 = .ok (.ifCond .le 11, 3) := by decide +kernel
theorem dX11_next_38 : decode cX11_next 38 = .ok (.aload_n 0, 1) := by decide +kernel
theorem dX11_next_39 : decode cX11_next 39 = .ok (.getfield 26, 3) := by decide +kernel
theorem dX11_next_42 : decode cX11_next 42 = .ok (.getfield 157, 3) := by decide +kernel
theorem dX11_next_45 : decode cX11_next 45 = .ok (.ireturn, 1) := by decide +kernel
theorem dX11_next_46 : decode cX11_next 46 = .ok (.iinc 2 1, 3) := by decide +kernel
theorem dX11_next_49 : decode cX11_next 49 = .ok (.goto (-26), 3) := by decide +kernel
theorem dX11_next_52 : decode cX11_next 52 = .ok (.bipush (-5), 2) := by decide +kernel
theorem dX11_next_54 : decode cX11_next 54 = .ok (.ireturn, 1) := by decide +kernel
theorem dX11_saved_0 : decode cX11_saved 0 = .ok (.aload_n 0, 1) := by decide +kernel
theorem dX11_saved_1 : decode cX11_saved 1 = .ok (.getfield 19, 3) := by decide +kernel
theorem dX11_saved_4 : decode cX11_saved 4 = .ok (.getfield 37, 3) := by decide +kernel
theorem dX11_saved_7 : decode cX11_saved 7 = .ok (.getfield 94, 3) := by decide +kernel
theorem dX11_saved_10 : decode cX11_saved 10 = .ok (.iload_n 1, 1) := by decide +kernel
theorem dX11_saved_11 : decode cX11_saved 11 = .ok (.invokestatic 120, 3) := by decide +kernel
theorem dX11_saved_14 : decode cX11_saved 14 = .ok (.ifCond .ne 5, 3) := by decide +kernel
theorem dX11_saved_17 : decode cX11_saved 17 = .ok (.iconst (-1), 1) := by decide +kernel
theorem dX11_saved_18 : decode cX11_saved 18 = .ok (.ireturn, 1) := by decide +kernel
theorem dX11_saved_19 : decode cX11_saved 19 = .ok (.iload_n 2, 1) := by decide +kernel
theorem dX11_saved_20 : decode cX11_saved 20 = .ok (.invokestatic 154, 3) := by decide +kernel
theorem dX11_saved_23 : decode cX11_saved 23 = .ok (.ifCond .ne 6, 3) := by decide +kernel
theorem dX11_saved_26 : decode cX11_saved 26 = .ok (.bipush (-2), 2) := by decide +kernel
theorem dX11_saved_28 : decode cX11_saved 28 = .ok (.ireturn, 1) := by decide +kernel
theorem dX11_saved_29 : decode cX11_saved 29 = .ok (.aload_n 0, 1) := by decide +kernel
theorem dX11_saved_30 : decode cX11_saved 30 = .ok (.getfield 26, 3) := by decide +kernel
theorem dX11_saved_33 : decode cX11_saved 33 = .ok (.aload_n 0, 1) := by decide +kernel
theorem dX11_saved_34 : decode cX11_saved 34 = .ok (.getfield 19, 3) := by decide +kernel
theorem dX11_saved_37 : decode cX11_saved 37 = .ok (.invokevirtual 273, 3) := by decide +kernel
theorem dX11_saved_40 : decode cX11_saved 40 = .ok (.aload_n 0, 1) := by decide +kernel
theorem dX11_saved_41 : decode cX11_saved 41 = .ok (.getfield 26, 3) := by decide +kernel
theorem dX11_saved_44 : decode cX11_saved 44 = .ok (.iload_n 2, 1) := by decide +kernel
theorem dX11_saved_45 : decode cX11_saved 45 = .ok (.invokevirtual 161, 3) := by decide +kernel
theorem dX11_saved_48 : decode cX11_saved 48 = .ok (.istore_n 3, 1) := by decide +kernel
theorem dX11_saved_49 : decode cX11_saved 49 = .ok (.aload_n 0, 1) := by decide +kernel
theorem dX11_saved_50 : decode cX11_saved 50 = .ok (.getfield 26, 3) := by decide +kernel
theorem dX11_saved_53 : decode cX11_saved 53 = .ok (.aload_n 0, 1) := by decide +kernel
theorem dX11_saved_54 : decode cX11_saved 54 = .ok (.getfield 19, 3) := by decide +kernel
theorem dX11_saved_57 : decode cX11_saved 57 = .ok (.invokevirtual 273, 3) := by decide +kernel
theorem dX11_saved_60 : decode cX11_saved 60 = .ok (.aload_n 0, 1) := by decide +kernel
theorem dX11_saved_61 : decode cX11_saved 61 = .ok (.getfield 26, 3) := by decide +kernel
theorem dX11_saved_64 : decode cX11_saved 64 = .ok (.getfield 37, 3) := by decide +kernel
theorem dX11_saved_67 : decode cX11_saved 67 = .ok (.getfield 94, 3) := by decide +kernel
theorem dX11_saved_70 : decode cX11_saved 70 = .ok (.iload_n 1, 1) := by decide +kernel
theorem dX11_saved_71 : decode cX11_saved 71 = .ok (.aconst_null, 1) := by decide +kernel
theorem dX11_saved_72 : decode cX11_saved 72 = .ok (.aastore, 1) := by decide +kernel
theorem dX11_saved_73 : decode cX11_saved 73 = .ok (.aload_n 0, 1) := by decide +kernel
theorem dX11_saved_74 : decode cX11_saved 74 = .ok (.getfield 26, 3) := by decide +kernel
theorem dX11_saved_77 : decode cX11_saved 77 = .ok (.iload_n 2, 1) := by decide +kernel
theorem dX11_saved_78 : decode cX11_saved 78 = .ok (.invokevirtual 161, 3) := by decide +kernel
theorem dX11_saved_81 : decode cX11_saved 81 = .ok (.iload_n 3, 1) := by decide +kernel
theorem dX11_saved_82 : decode cX11_saved 82 = .ok (.isub, 1) := by decide +kernel
theorem dX11_saved_83 : decode cX11_saved 83 = .ok (.sipush 1000, 3) := by decide +kernel
theorem dX11_saved_86 : decode cX11_saved 86 = .ok (.iadd, 1) := by decide +kernel
theorem dX11_saved_87 : decode cX11_saved 87 = .ok (.ireturn, 1) := by decide +kernel
theorem dX11_image_0 : decode cX11_image 0 = .ok (.aload_n 0, 1) := by decide +kernel
theorem dX11_image_1 : decode cX11_image 1 = .ok (.getfield 23, 3) := by decide +kernel
theorem dX11_image_4 : decode cX11_image 4 = .ok (.aload_n 0, 1) := by decide +kernel
theorem dX11_image_5 : decode cX11_image 5 = .ok (.getfield 19, 3) := by decide +kernel
theorem dX11_image_8 : decode cX11_image 8 = .ok (.invokevirtual 273, 3) := by decide +kernel
theorem dX11_image_11 : decode cX11_image 11 = .ok (.aload_n 0, 1) := by decide +kernel
theorem dX11_image_12 : decode cX11_image 12 = .ok (.iconst 1, 1) := by decide +kernel
theorem dX11_image_13 : decode cX11_image 13 = .ok (.putfield 280, 3) := by decide +kernel
theorem dX11_image_16 : decode cX11_image 16 = .ok (.aload_n 0, 1) := by decide +kernel
theorem dX11_image_17 : decode cX11_image 17 = .ok (.getfield 19, 3) := by decide +kernel
theorem dX11_image_20 : decode cX11_image 20 = .ok (.getfield 157, 3) := by decide +kernel
theorem dX11_image_23 : decode cX11_image 23 = .ok (.ireturn, 1) := by decide +kernel
theorem dX11_undo_0 : decode cX11_undo 0 = .ok (.aload_n 0, 1) := by decide +kernel
theorem dX11_undo_1 : decode cX11_undo 1 = .ok (.getfield 280, 3) := by decide +kernel
theorem dX11_undo_4 : decode cX11_undo 4 = .ok (.ifCond .ne 6, 3) := by decide +kernel
theorem dX11_undo_7 : decode cX11_undo 7 = .ok (.bipush (-3), 2) := by decide +kernel
theorem dX11_undo_9 : decode cX11_undo 9 = .ok (.ireturn, 1) := by decide +kernel
theorem dX11_undo_10 : decode cX11_undo 10 = .ok (.aload_n 0, 1) := by decide +kernel
theorem dX11_undo_11 : decode cX11_undo 11 = .ok (.getfield 19, 3) := by decide +kernel
theorem dX11_undo_14 : decode cX11_undo 14 = .ok (.aload_n 0, 1) := by decide +kernel
theorem dX11_undo_15 : decode cX11_undo 15 = .ok (.getfield 23, 3) := by decide +kernel
theorem dX11_undo_18 : decode cX11_undo 18 = .ok (.invokevirtual 273, 3) := by decide +kernel
theorem dX11_undo_21 : decode cX11_undo 21 = .ok (.aload_n 0, 1) := by decide +kernel
theorem dX11_undo_22 : decode cX11_undo 22 = .ok (.getfield 19, 3) := by decide +kernel
theorem dX11_undo_25 : decode cX11_undo 25 = .ok (.getfield 157, 3) := by decide +kernel
theorem dX11_undo_28 : decode cX11_undo 28 = .ok (.ireturn, 1) := by decide +kernel
theorem dX11_count_0 : decode cX11_count 0 = .ok (.iload_n 1, 1) := by decide +kernel
theorem dX11_count_1 : decode cX11_count 1 = .ok (.tableswitch 172 0 9 #[55, 63, 77, 91, 105, 116, 127, 138, 156, 164], 55) := by decide +kernel
theorem dX11_count_56 : decode cX11_count 56 = .ok (.aload_n 0, 1) := by decide +kernel
theorem dX11_count_57 : decode cX11_count 57 = .ok (.getfield 19, 3) := by decide +kernel
theorem dX11_count_60 : decode cX11_count 60 = .ok (.getfield 157, 3) := by decide +kernel
theorem dX11_count_63 : decode cX11_count 63 = .ok (.ireturn, 1) := by decide +kernel
theorem dX11_count_64 : decode cX11_count 64 = .ok (.aload_n 0, 1) := by decide +kernel
theorem dX11_count_65 : decode cX11_count 65 = .ok (.getfield 19, 3) := by decide +kernel
theorem dX11_count_68 : decode cX11_count 68 = .ok (.getfield 37, 3) := by decide +kernel
theorem dX11_count_71 : decode cX11_count 71 = .ok (.getfield 165, 3) := by decide +kernel
theorem dX11_count_74 : decode cX11_count 74 = .ok (.invokestatic 133, 3) := by decide +kernel
theorem dX11_count_77 : decode cX11_count 77 = .ok (.ireturn, 1) := by decide +kernel
theorem dX11_count_78 : decode cX11_count 78 = .ok (.aload_n 0, 1) := by decide +kernel
theorem dX11_count_79 : decode cX11_count 79 = .ok (.getfield 19, 3) := by decide +kernel
theorem dX11_count_82 : decode cX11_count 82 = .ok (.getfield 37, 3) := by decide +kernel
theorem dX11_count_85 : decode cX11_count 85 = .ok (.getfield 94, 3) := by decide +kernel
theorem dX11_count_88 : decode cX11_count 88 = .ok (.invokestatic 133, 3) := by decide +kernel
theorem dX11_count_91 : decode cX11_count 91 = .ok (.ireturn, 1) := by decide +kernel
theorem dX11_count_92 : decode cX11_count 92 = .ok (.aload_n 0, 1) := by decide +kernel
theorem dX11_count_93 : decode cX11_count 93 = .ok (.getfield 19, 3) := by decide +kernel
theorem dX11_count_96 : decode cX11_count 96 = .ok (.getfield 37, 3) := by decide +kernel
theorem dX11_count_99 : decode cX11_count 99 = .ok (.getfield 102, 3) := by decide +kernel
theorem dX11_count_102 : decode cX11_count 102 = .ok (.invokestatic 133, 3) := by decide +kernel
theorem dX11_count_105 : decode cX11_count 105 = .ok (.ireturn, 1) := by decide +kernel
theorem dX11_count_106 : decode cX11_count 106 = .ok (.aload_n 0, 1) := by decide +kernel
theorem dX11_count_107 : decode cX11_count 107 = .ok (.getfield 19, 3) := by decide +kernel
theorem dX11_count_110 : decode cX11_count 110 = .ok (.getfield 37, 3) := by decide +kernel
theorem dX11_count_113 : decode cX11_count 113 = .ok (.invokevirtual 283, 3) := by decide +kernel
theorem dX11_count_116 : decode cX11_count 116 = .ok (.ireturn, 1) := by decide +kernel
theorem dX11_count_117 : decode cX11_count 117 = .ok (.aload_n 0, 1) := by decide +kernel
theorem dX11_count_118 : decode cX11_count 118 = .ok (.getfield 19, 3) := by decide +kernel
theorem dX11_count_121 : decode cX11_count 121 = .ok (.getfield 261, 3) := by decide +kernel
theorem dX11_count_124 : decode cX11_count 124 = .ok (.getfield 286, 3) := by decide +kernel
theorem dX11_count_127 : decode cX11_count 127 = .ok (.ireturn, 1) := by decide +kernel
theorem dX11_count_128 : decode cX11_count 128 = .ok (.aload_n 0, 1) := by decide +kernel
theorem dX11_count_129 : decode cX11_count 129 = .ok (.getfield 19, 3) := by decide +kernel
theorem dX11_count_132 : decode cX11_count 132 = .ok (.getfield 145, 3) := by decide +kernel
theorem dX11_count_135 : decode cX11_count 135 = .ok (.invokevirtual 289, 3) := by decide +kernel
theorem dX11_count_138 : decode cX11_count 138 = .ok (.ireturn, 1) := by decide +kernel
theorem dX11_count_139 : decode cX11_count 139 = .ok (.aload_n 0, 1) := by decide +kernel
theorem dX11_count_140 : decode cX11_count 140 = .ok (.getfield 19, 3) := by decide +kernel
theorem dX11_count_143 : decode cX11_count 143 = .ok (.getfield 37, 3) := by decide +kernel
theorem dX11_count_146 : decode cX11_count 146 = .ok (.aload_n 0, 1) := by decide +kernel
theorem dX11_count_147 : decode cX11_count 147 = .ok (.getfield 19, 3) := by decide +kernel
theorem dX11_count_150 : decode cX11_count 150 = .ok (.invokevirtual 193, 3) := by decide +kernel
theorem dX11_count_153 : decode cX11_count 153 = .ok (.invokevirtual 292, 3) := by decide +kernel
theorem dX11_count_156 : decode cX11_count 156 = .ok (.ireturn, 1) := by decide +kernel
theorem dX11_count_157 : decode cX11_count 157 = .ok (.aload_n 0, 1) := by decide +kernel
theorem dX11_count_158 : decode cX11_count 158 = .ok (.getfield 19, 3) := by decide +kernel
theorem dX11_count_161 : decode cX11_count 161 = .ok (.invokevirtual 295, 3) := by decide +kernel
theorem dX11_count_164 : decode cX11_count 164 = .ok (.ireturn, 1) := by decide +kernel
theorem dX11_count_165 : decode cX11_count 165 = .ok (.aload_n 0, 1) := by decide +kernel
theorem dX11_count_166 : decode cX11_count 166 = .ok (.getfield 12, 3) := by decide +kernel
theorem dX11_count_169 : decode cX11_count 169 = .ok (.getfield 68, 3) := by decide +kernel
theorem dX11_count_172 : decode cX11_count 172 = .ok (.ireturn, 1) := by decide +kernel
theorem dX11_count_173 : decode cX11_count 173 = .ok (.aload_n 0, 1) := by decide +kernel
theorem dX11_count_174 : decode cX11_count 174 = .ok (.iload_n 1, 1) := by decide +kernel
theorem dX11_count_175 : decode cX11_count 175 = .ok (.bipush 10, 2) := by decide +kernel
theorem dX11_count_177 : decode cX11_count 177 = .ok (.isub, 1) := by decide +kernel
theorem dX11_count_178 : decode cX11_count 178 = .ok (.invokevirtual 298, 3) := by decide +kernel
theorem dX11_count_181 : decode cX11_count 181 = .ok (.ireturn, 1) := by decide +kernel
theorem dX11_parameterOrNone_0 : decode cX11_parameterOrNone 0 = .ok (.iload_n 1, 1) := by decide +kernel
theorem dX11_parameterOrNone_1 : decode cX11_parameterOrNone 1 = .ok (.ifCond .lt 23, 3) := by decide +kernel
theorem dX11_parameterOrNone_4 : decode cX11_parameterOrNone 4 = .ok (.iload_n 1, 1) := by decide +kernel
theorem dX11_parameterOrNone_5 : decode cX11_parameterOrNone 5 = .ok (.iconst 5, 1) := by decide +kernel
theorem dX11_parameterOrNone_6 : decode cX11_parameterOrNone 6 = .ok (.if_icmp .ge 18, 3) := by decide +kernel
theorem dX11_parameterOrNone_9 : decode cX11_parameterOrNone 9 = .ok (.aload_n 0, 1) := by decide +kernel
theorem dX11_parameterOrNone_10 : decode cX11_parameterOrNone 10 = .ok (.getfield 19, 3) := by decide +kernel
theorem dX11_parameterOrNone_13 : decode cX11_parameterOrNone 13 = .ok (.getfield 37, 3) := by decide +kernel
theorem dX11_parameterOrNone_16 : decode cX11_parameterOrNone 16 = .ok (.getfield 142, 3) := by decide +kernel
theorem dX11_parameterOrNone_19 : decode cX11_parameterOrNone 19 = .ok (.iload_n 1, 1) := by decide +kernel
theorem dX11_parameterOrNone_20 : decode cX11_parameterOrNone 20 = .ok (.iaload, 1) := by decide +kernel
theorem dX11_parameterOrNone_21 : decode cX11_parameterOrNone 21 = .ok (.goto 4, 3) := by decide +kernel
theorem dX11_parameterOrNone_24 : decode cX11_parameterOrNone 24 = .ok (.iconst (-1), 1) := by decide +kernel
theorem dX11_parameterOrNone_25 : decode cX11_parameterOrNone 25 = .ok (.ireturn, 1) := by decide +kernel
theorem dX11_isSeries_0 : decode cX11_isSeries 0 = .ok (.iload_n 0, 1) := by decide +kernel
theorem dX11_isSeries_1 : decode cX11_isSeries 1 = .ok (.ifCond .lt 13, 3) := by decide +kernel
theorem dX11_isSeries_4 : decode cX11_isSeries 4 = .ok (.iload_n 0, 1) := by decide +kernel
theorem dX11_isSeries_5 : decode cX11_isSeries 5 = .ok (.bipush 12, 2) := by decide +kernel
theorem dX11_isSeries_7 : decode cX11_isSeries 7 = .ok (.if_icmp .ge 7, 3) := by decide +kernel
theorem dX11_isSeries_10 : decode cX11_isSeries 10 = .ok (.iconst 1, 1) := by decide +kernel
theorem dX11_isSeries_11 : decode cX11_isSeries 11 = .ok (.goto 4, 3) := by decide +kernel
theorem dX11_isSeries_14 : decode cX11_isSeries 14 = .ok (.iconst 0, 1) := by decide +kernel
theorem dX11_isSeries_15 : decode cX11_isSeries 15 = .ok (.ireturn, 1) := by decide +kernel
theorem dX11_isByte_0 : decode cX11_isByte 0 = .ok (.iload_n 0, 1) := by decide +kernel
theorem dX11_isByte_1 : decode cX11_isByte 1 = .ok (.ifCond .lt 13, 3) := by decide +kernel
theorem dX11_isByte_4 : decode cX11_isByte 4 = .ok (.iload_n 0, 1) := by decide +kernel
theorem dX11_isByte_5 : decode cX11_isByte 5 = .ok (.bipush 127, 2) := by decide +kernel
theorem dX11_isByte_7 : decode cX11_isByte 7 = .ok (.if_icmp .gt 7, 3) := by decide +kernel
theorem dX11_isByte_10 : decode cX11_isByte 10 = .ok (.iconst 1, 1) := by decide +kernel
theorem dX11_isByte_11 : decode cX11_isByte 11 = .ok (.goto 4, 3) := by decide +kernel
theorem dX11_isByte_14 : decode cX11_isByte 14 = .ok (.iconst 0, 1) := by decide +kernel
theorem dX11_isByte_15 : decode cX11_isByte 15 = .ok (.ireturn, 1) := by decide +kernel
theorem dX11_isKind_0 : decode cX11_isKind 0 = .ok (.iload_n 0, 1) := by decide +kernel
theorem dX11_isKind_1 : decode cX11_isKind 1 = .ok (.ifCond .lt 12, 3) := by decide +kernel
theorem dX11_isKind_4 : decode cX11_isKind 4 = .ok (.iload_n 0, 1) := by decide +kernel
theorem dX11_isKind_5 : decode cX11_isKind 5 = .ok (.iconst 2, 1) := by decide +kernel
theorem dX11_isKind_6 : decode cX11_isKind 6 = .ok (.if_icmp .gt 7, 3) := by decide +kernel
theorem dX11_isKind_9 : decode cX11_isKind 9 = .ok (.iconst 1, 1) := by decide +kernel
theorem dX11_isKind_10 : decode cX11_isKind 10 = .ok (.goto 4, 3) := by decide +kernel
theorem dX11_isKind_13 : decode cX11_isKind 13 = .ok (.iconst 0, 1) := by decide +kernel
theorem dX11_isKind_14 : decode cX11_isKind 14 = .ok (.ireturn, 1) := by decide +kernel
theorem dX11_isSpan_0 : decode cX11_isSpan 0 = .ok (.iload_n 0, 1) := by decide +kernel
theorem dX11_isSpan_1 : decode cX11_isSpan 1 = .ok (.iconst 1, 1) := by decide +kernel
theorem dX11_isSpan_2 : decode cX11_isSpan 2 = .ok (.if_icmp .lt 13, 3) := by decide +kernel
theorem dX11_isSpan_5 : decode cX11_isSpan 5 = .ok (.iload_n 0, 1) := by decide +kernel
theorem dX11_isSpan_6 : decode cX11_isSpan 6 = .ok (.bipush 100, 2) := by decide +kernel
theorem dX11_isSpan_8 : decode cX11_isSpan 8 = .ok (.if_icmp .gt 7, 3) := by decide +kernel
theorem dX11_isSpan_11 : decode cX11_isSpan 11 = .ok (.iconst 1, 1) := by decide +kernel
theorem dX11_isSpan_12 : decode cX11_isSpan 12 = .ok (.goto 4, 3) := by decide +kernel
theorem dX11_isSpan_15 : decode cX11_isSpan 15 = .ok (.iconst 0, 1) := by decide +kernel
theorem dX11_isSpan_16 : decode cX11_isSpan 16 = .ok (.ireturn, 1) := by decide +kernel
theorem dX11_bit_0 : decode cX11_bit 0 = .ok (.iload_n 0, 1) := by decide +kernel
theorem dX11_bit_1 : decode cX11_bit 1 = .ok (.ifCond .eq 7, 3) := by decide +kernel
theorem dX11_bit_4 : decode cX11_bit 4 = .ok (.iconst 1, 1) := by decide +kernel
theorem dX11_bit_5 : decode cX11_bit 5 = .ok (.goto 4, 3) := by decide +kernel
theorem dX11_bit_8 : decode cX11_bit 8 = .ok (.iconst 0, 1) := by decide +kernel
theorem dX11_bit_9 : decode cX11_bit 9 = .ok (.ireturn, 1) := by decide +kernel
theorem dX11_has_0 : decode cX11_has 0 = .ok (.lload_n 0, 1) := by decide +kernel
theorem dX11_has_1 : decode cX11_has 1 = .ok (.iload_n 2, 1) := by decide +kernel
theorem dX11_has_2 : decode cX11_has 2 = .ok (.lushr, 1) := by decide +kernel
theorem dX11_has_3 : decode cX11_has 3 = .ok (.lconst 1, 1) := by decide +kernel
theorem dX11_has_4 : decode cX11_has 4 = .ok (.land, 1) := by decide +kernel
theorem dX11_has_5 : decode cX11_has 5 = .ok (.lconst 0, 1) := by decide +kernel
theorem dX11_has_6 : decode cX11_has 6 = .ok (.lcmp, 1) := by decide +kernel
theorem dX11_has_7 : decode cX11_has 7 = .ok (.ifCond .eq 7, 3) := by decide +kernel
theorem dX11_has_10 : decode cX11_has 10 = .ok (.iconst 1, 1) := by decide +kernel
theorem dX11_has_11 : decode cX11_has 11 = .ok (.goto 4, 3) := by decide +kernel
theorem dX11_has_14 : decode cX11_has 14 = .ok (.iconst 0, 1) := by decide +kernel
theorem dX11_has_15 : decode cX11_has 15 = .ok (.ireturn, 1) := by decide +kernel
theorem dX11_lowest_0 : decode cX11_lowest 0 = .ok (.lload_n 0, 1) := by decide +kernel
theorem dX11_lowest_1 : decode cX11_lowest 1 = .ok (.lconst 0, 1) := by decide +kernel
theorem dX11_lowest_2 : decode cX11_lowest 2 = .ok (.lcmp, 1) := by decide +kernel
theorem dX11_lowest_3 : decode cX11_lowest 3 = .ok (.ifCond .ne 8, 3) := by decide +kernel
theorem dX11_lowest_6 : decode cX11_lowest 6 = .ok (.bipush (-5), 2) := by decide +kernel
theorem dX11_lowest_8 : decode cX11_lowest 8 = .ok (.goto 7, 3) := by decide +kernel
theorem dX11_lowest_11 : decode cX11_lowest 11 = .ok (.lload_n 0, 1) := by decide +kernel
theorem dX11_lowest_12 : decode cX11_lowest 12 = .ok (.invokestatic 301, 3) := by decide +kernel
theorem dX11_lowest_15 : decode cX11_lowest 15 = .ok (.ireturn, 1) := by decide +kernel
theorem dX11_holdsEntry_0 : decode cX11_holdsEntry 0 = .ok (.iload_n 1, 1) := by decide +kernel
theorem dX11_holdsEntry_1 : decode cX11_holdsEntry 1 = .ok (.ifCond .lt 19, 3) := by decide +kernel
theorem dX11_holdsEntry_4 : decode cX11_holdsEntry 4 = .ok (.iload_n 1, 1) := by decide +kernel
theorem dX11_holdsEntry_5 : decode cX11_holdsEntry 5 = .ok (.aload_n 0, 1) := by decide +kernel
theorem dX11_holdsEntry_6 : decode cX11_holdsEntry 6 = .ok (.arraylength, 1) := by decide +kernel
theorem dX11_holdsEntry_7 : decode cX11_holdsEntry 7 = .ok (.if_icmp .ge 13, 3) := by decide +kernel
theorem dX11_holdsEntry_10 : decode cX11_holdsEntry 10 = .ok (.aload_n 0, 1) := by decide +kernel
theorem dX11_holdsEntry_11 : decode cX11_holdsEntry 11 = .ok (.iload_n 1, 1) := by decide +kernel
theorem dX11_holdsEntry_12 : decode cX11_holdsEntry 12 = .ok (.aaload, 1) := by decide +kernel
theorem dX11_holdsEntry_13 : decode cX11_holdsEntry 13 = .ok (.ifnull 7, 3) := by decide +kernel
theorem dX11_holdsEntry_16 : decode cX11_holdsEntry 16 = .ok (.iconst 1, 1) := by decide +kernel
theorem dX11_holdsEntry_17 : decode cX11_holdsEntry 17 = .ok (.goto 4, 3) := by decide +kernel
theorem dX11_holdsEntry_20 : decode cX11_holdsEntry 20 = .ok (.iconst 0, 1) := by decide +kernel
theorem dX11_holdsEntry_21 : decode cX11_holdsEntry 21 = .ok (.ireturn, 1) := by decide +kernel
theorem dX11_lowestFree_0 : decode cX11_lowestFree 0 = .ok (.iconst 0, 1) := by decide +kernel
theorem dX11_lowestFree_1 : decode cX11_lowestFree 1 = .ok (.istore_n 1, 1) := by decide +kernel
theorem dX11_lowestFree_2 : decode cX11_lowestFree 2 = .ok (.iload_n 1, 1) := by decide +kernel
theorem dX11_lowestFree_3 : decode cX11_lowestFree 3 = .ok (.aload_n 0, 1) := by decide +kernel
theorem dX11_lowestFree_4 : decode cX11_lowestFree 4 = .ok (.arraylength, 1) := by decide +kernel
theorem dX11_lowestFree_5 : decode cX11_lowestFree 5 = .ok (.if_icmp .ge 17, 3) := by decide +kernel
theorem dX11_lowestFree_8 : decode cX11_lowestFree 8 = .ok (.aload_n 0, 1) := by decide +kernel
theorem dX11_lowestFree_9 : decode cX11_lowestFree 9 = .ok (.iload_n 1, 1) := by decide +kernel
theorem dX11_lowestFree_10 : decode cX11_lowestFree 10 = .ok (.aaload, 1) := by decide +kernel
theorem dX11_lowestFree_11 : decode cX11_lowestFree 11 = .ok (.ifnonnull 5, 3) := by decide +kernel
theorem dX11_lowestFree_14 : decode cX11_lowestFree 14 = .ok (.iload_n 1, 1) := by decide +kernel
theorem dX11_lowestFree_15 : decode cX11_lowestFree 15 = .ok (.ireturn, 1) := by decide +kernel
theorem dX11_lowestFree_16 : decode cX11_lowestFree 16 = .ok (.iinc 1 1, 3) := by decide +kernel
theorem dX11_lowestFree_19 : decode cX11_lowestFree 19 = .ok (.goto (-17), 3) := by decide +kernel
theorem dX11_lowestFree_22 : decode cX11_lowestFree 22 = .ok (.bipush (-5), 2) := by decide +kernel
theorem dX11_lowestFree_24 : decode cX11_lowestFree 24 = .ok (.ireturn, 1) := by decide +kernel
theorem dX11_countEntries_0 : decode cX11_countEntries 0 = .ok (.iconst 0, 1) := by decide +kernel
theorem dX11_countEntries_1 : decode cX11_countEntries 1 = .ok (.istore_n 1, 1) := by decide +kernel
theorem dX11_countEntries_2 : decode cX11_countEntries 2 = .ok (.iconst 0, 1) := by decide +kernel
theorem dX11_countEntries_3 : decode cX11_countEntries 3 = .ok (.istore_n 2, 1) := by decide +kernel
theorem dX11_countEntries_4 : decode cX11_countEntries 4 = .ok (.iload_n 2, 1) := by decide +kernel
theorem dX11_countEntries_5 : decode cX11_countEntries 5 = .ok (.aload_n 0, 1) := by decide +kernel
