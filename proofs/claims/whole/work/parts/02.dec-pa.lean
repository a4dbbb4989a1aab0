theorem dX0_init_0 : decode cX0_init 0 = .ok (.aload_n 0, 1) := by decide +kernel
theorem dX0_init_1 : decode cX0_init 1 = .ok (.invokespecial 3, 3) := by decide +kernel
theorem dX0_init_4 : decode cX0_init 4 = .ok (.aload_n 0, 1) := by decide +kernel
theorem dX0_init_5 : decode cX0_init 5 = .ok (.bipush 60, 2) := by decide +kernel
theorem dX0_init_7 : decode cX0_init 7 = .ok (.newarray .int, 2) := by decide +kernel
theorem dX0_init_9 : decode cX0_init 9 = .ok (.putfield 9, 3) := by decide +kernel
theorem dX0_init_12 : decode cX0_init 12 = .ok (.aload_n 0, 1) := by decide +kernel
theorem dX0_init_13 : decode cX0_init 13 = .ok (.sipush 1200, 3) := by decide +kernel
theorem dX0_init_16 : decode cX0_init 16 = .ok (.newarray .int, 2) := by decide +kernel
theorem dX0_init_18 : decode cX0_init 18 = .ok (.putfield 15, 3) := by decide +kernel
theorem dX0_init_21 : decode cX0_init 21 = .ok (.aload_n 0, 1) := by decide +kernel
theorem dX0_init_22 : decode cX0_init 22 = .ok (.bipush 60, 2) := by decide +kernel
theorem dX0_init_24 : decode cX0_init 24 = .ok (.newarray .int, 2) := by decide +kernel
theorem dX0_init_26 : decode cX0_init 26 = .ok (.putfield 18, 3) := by decide +kernel
theorem dX0_init_29 : decode cX0_init 29 = .ok (.return_, 1) := by decide +kernel
theorem dX0_copyFrom_0 : decode cX0_copyFrom 0 = .ok (.aload_n 0, 1) := by decide +kernel
theorem dX0_copyFrom_1 : decode cX0_copyFrom 1 = .ok (.aload_n 1, 1) := by decide +kernel
theorem dX0_copyFrom_2 : decode cX0_copyFrom 2 = .ok (.getfield 21, 3) := by decide +kernel
theorem dX0_copyFrom_5 : decode cX0_copyFrom 5 = .ok (.putfield 21, 3) := by decide +kernel
theorem dX0_copyFrom_8 : decode cX0_copyFrom 8 = .ok (.aload_n 0, 1) := by decide +kernel
theorem dX0_copyFrom_9 : decode cX0_copyFrom 9 = .ok (.aload_n 1, 1) := by decide +kernel
theorem dX0_copyFrom_10 : decode cX0_copyFrom 10 = .ok (.getfield 25, 3) := by decide +kernel
theorem dX0_copyFrom_13 : decode cX0_copyFrom 13 = .ok (.putfield 25, 3) := by decide +kernel
theorem dX0_copyFrom_16 : decode cX0_copyFrom 16 = .ok (.aload_n 1, 1) := by decide +kernel
theorem dX0_copyFrom_17 : decode cX0_copyFrom 17 = .ok (.getfield 9, 3) := by decide +kernel
theorem dX0_copyFrom_20 : decode cX0_copyFrom 20 = .ok (.iconst 0, 1) := by decide +kernel
theorem dX0_copyFrom_21 : decode cX0_copyFrom 21 = .ok (.aload_n 0, 1) := by decide +kernel
theorem dX0_copyFrom_22 : decode cX0_copyFrom 22 = .ok (.getfield 9, 3) := by decide +kernel
theorem dX0_copyFrom_25 : decode cX0_copyFrom 25 = .ok (.iconst 0, 1) := by decide +kernel
theorem dX0_copyFrom_26 : decode cX0_copyFrom 26 = .ok (.aload_n 0, 1) := by decide +kernel
theorem dX0_copyFrom_27 : decode cX0_copyFrom 27 = .ok (.getfield 9, 3) := by decide +kernel
theorem dX0_copyFrom_30 : decode cX0_copyFrom 30 = .ok (.arraylength, 1) := by decide +kernel
theorem dX0_copyFrom_31 : decode cX0_copyFrom 31 = .ok (.invokestatic 28, 3) := by decide +kernel
theorem dX0_copyFrom_34 : decode cX0_copyFrom 34 = .ok (.aload_n 1, 1) := by decide +kernel
theorem dX0_copyFrom_35 : decode cX0_copyFrom 35 = .ok (.getfield 15, 3) := by decide +kernel
theorem dX0_copyFrom_38 : decode cX0_copyFrom 38 = .ok (.iconst 0, 1) := by decide +kernel
theorem dX0_copyFrom_39 : decode cX0_copyFrom 39 = .ok (.aload_n 0, 1) := by decide +kernel
theorem dX0_copyFrom_40 : decode cX0_copyFrom 40 = .ok (.getfield 15, 3) := by decide +kernel
theorem dX0_copyFrom_43 : decode cX0_copyFrom 43 = .ok (.iconst 0, 1) := by decide +kernel
theorem dX0_copyFrom_44 : decode cX0_copyFrom 44 = .ok (.aload_n 0, 1) := by decide +kernel
theorem dX0_copyFrom_45 : decode cX0_copyFrom 45 = .ok (.getfield 15, 3) := by decide +kernel
theorem dX0_copyFrom_48 : decode cX0_copyFrom 48 = .ok (.arraylength, 1) := by decide +kernel
theorem dX0_copyFrom_49 : decode cX0_copyFrom 49 = .ok (.invokestatic 28, 3) := by decide +kernel
theorem dX0_copyFrom_52 : decode cX0_copyFrom 52 = .ok (.aload_n 1, 1) := by decide +kernel
theorem dX0_copyFrom_53 : decode cX0_copyFrom 53 = .ok (.getfield 18, 3) := by decide +kernel
theorem dX0_copyFrom_56 : decode cX0_copyFrom 56 = .ok (.iconst 0, 1) := by decide +kernel
theorem dX0_copyFrom_57 : decode cX0_copyFrom 57 = .ok (.aload_n 0, 1) := by decide +kernel
theorem dX0_copyFrom_58 : decode cX0_copyFrom 58 = .ok (.getfield 18, 3) := by decide +kernel
theorem dX0_copyFrom_61 : decode cX0_copyFrom 61 = .ok (.iconst 0, 1) := by decide +kernel
theorem dX0_copyFrom_62 : decode cX0_copyFrom 62 = .ok (.aload_n 0, 1) := by decide +kernel
theorem dX0_copyFrom_63 : decode cX0_copyFrom 63 = .ok (.getfield 18, 3) := by decide +kernel
theorem dX0_copyFrom_66 : decode cX0_copyFrom 66 = .ok (.arraylength, 1) := by decide +kernel
theorem dX0_copyFrom_67 : decode cX0_copyFrom 67 = .ok (.invokestatic 28, 3) := by decide +kernel
theorem dX0_copyFrom_70 : decode cX0_copyFrom 70 = .ok (.return_, 1) := by decide +kernel
theorem dX0_stateOf_0 : decode cX0_stateOf 0 = .ok (.aload_n 0, 1) := by decide +kernel
theorem dX0_stateOf_1 : decode cX0_stateOf 1 = .ok (.getfield 25, 3) := by decide +kernel
theorem dX0_stateOf_4 : decode cX0_stateOf 4 = .ok (.iload_n 1, 1) := by decide +kernel
theorem dX0_stateOf_5 : decode cX0_stateOf 5 = .ok (.invokestatic 34, 3) := by decide +kernel
theorem dX0_stateOf_8 : decode cX0_stateOf 8 = .ok (.ifCond .eq 5, 3) := by decide +kernel
theorem dX0_stateOf_11 : decode cX0_stateOf 11 = .ok (.iconst 2, 1) := by decide +kernel
theorem dX0_stateOf_12 : decode cX0_stateOf 12 = .ok (.ireturn, 1) := by decide +kernel
theorem dX0_stateOf_13 : decode cX0_stateOf 13 = .ok (.aload_n 0, 1) := by decide +kernel
theorem dX0_stateOf_14 : decode cX0_stateOf 14 = .ok (.getfield 21, 3) := by decide +kernel
theorem dX0_stateOf_17 : decode cX0_stateOf 17 = .ok (.iload_n 1, 1) := by decide +kernel
theorem dX0_stateOf_18 : decode cX0_stateOf 18 = .ok (.invokestatic 34, 3) := by decide +kernel
theorem dX0_stateOf_21 : decode cX0_stateOf 21 = .ok (.ifCond .eq 7, 3) := by decide +kernel
theorem dX0_stateOf_24 : decode cX0_stateOf 24 = .ok (.iconst 1, 1) := by decide +kernel
theorem dX0_stateOf_25 : decode cX0_stateOf 25 = .ok (.goto 4, 3) := by decide +kernel
theorem dX0_stateOf_28 : decode cX0_stateOf 28 = .ok (.iconst 0, 1) := by decide +kernel
theorem dX0_stateOf_29 : decode cX0_stateOf 29 = .ok (.ireturn, 1) := by decide +kernel
theorem dX0_sinceOf_0 : decode cX0_sinceOf 0 = .ok (.aload_n 0, 1) := by decide +kernel
theorem dX0_sinceOf_1 : decode cX0_sinceOf 1 = .ok (.iload_n 1, 1) := by decide +kernel
theorem dX0_sinceOf_2 : decode cX0_sinceOf 2 = .ok (.invokevirtual 38, 3) := by decide +kernel
theorem dX0_sinceOf_5 : decode cX0_sinceOf 5 = .ok (.ifCond .ne 8, 3) := by decide +kernel
theorem dX0_sinceOf_8 : decode cX0_sinceOf 8 = .ok (.bipush (-5), 2) := by decide +kernel
theorem dX0_sinceOf_10 : decode cX0_sinceOf 10 = .ok (.goto 9, 3) := by decide +kernel
theorem dX0_sinceOf_13 : decode cX0_sinceOf 13 = .ok (.aload_n 0, 1) := by decide +kernel
theorem dX0_sinceOf_14 : decode cX0_sinceOf 14 = .ok (.getfield 9, 3) := by decide +kernel
theorem dX0_sinceOf_17 : decode cX0_sinceOf 17 = .ok (.iload_n 1, 1) := by decide +kernel
theorem dX0_sinceOf_18 : decode cX0_sinceOf 18 = .ok (.iaload, 1) := by decide +kernel
theorem dX0_sinceOf_19 : decode cX0_sinceOf 19 = .ok (.ireturn, 1) := by decide +kernel
theorem dX0_advance_0 : decode cX0_advance 0 = .ok (.iconst 0, 1) := by decide +kernel
theorem dX0_advance_1 : decode cX0_advance 1 = .ok (.istore 5, 2) := by decide +kernel
theorem dX0_advance_3 : decode cX0_advance 3 = .ok (.iload 5, 2) := by decide +kernel
theorem dX0_advance_5 : decode cX0_advance 5 = .ok (.bipush 60, 2) := by decide +kernel
theorem dX0_advance_7 : decode cX0_advance 7 = .ok (.if_icmp .ge 42, 3) := by decide +kernel
theorem dX0_advance_10 : decode cX0_advance 10 = .ok (.lload_n 2, 1) := by decide +kernel
theorem dX0_advance_11 : decode cX0_advance 11 = .ok (.iload 5, 2) := by decide +kernel
theorem dX0_advance_13 : decode cX0_advance 13 = .ok (.invokestatic 34, 3) := by decide +kernel
theorem dX0_advance_16 : decode cX0_advance 16 = .ok (.ifCond .eq 20, 3) := by decide +kernel
theorem dX0_advance_19 : decode cX0_advance 19 = .ok (.aload_n 0, 1) := by decide +kernel
theorem dX0_advance_20 : decode cX0_advance 20 = .ok (.iload 5, 2) := by decide +kernel
theorem dX0_advance_22 : decode cX0_advance 22 = .ok (.iload_n 1, 1) := by decide +kernel
theorem dX0_advance_23 : decode cX0_advance 23 = .ok (.aload 4, 2) := by decide +kernel
theorem dX0_advance_25 : decode cX0_advance 25 = .ok (.iload 5, 2) := by decide +kernel
theorem dX0_advance_27 : decode cX0_advance 27 = .ok (.invokevirtual 42, 3) := by decide +kernel
theorem dX0_advance_30 : decode cX0_advance 30 = .ok (.invokevirtual 47, 3) := by decide +kernel
theorem dX0_advance_33 : decode cX0_advance 33 = .ok (.goto 10, 3) := by decide +kernel
theorem dX0_advance_36 : decode cX0_advance 36 = .ok (.aload_n 0, 1) := by decide +kernel
theorem dX0_advance_37 : decode cX0_advance 37 = .ok (.iload 5, 2) := by decide +kernel
theorem dX0_advance_39 : decode cX0_advance 39 = .ok (.iload_n 1, 1) := by decide +kernel
theorem dX0_advance_40 : decode cX0_advance 40 = .ok (.invokevirtual 51, 3) := by decide +kernel
theorem dX0_advance_43 : decode cX0_advance 43 = .ok (.iinc 5 1, 3) := by decide +kernel
theorem dX0_advance_46 : decode cX0_advance 46 = .ok (.goto (-43), 3) := by decide +kernel
theorem dX0_advance_49 : decode cX0_advance 49 = .ok (.return_, 1) := by decide +kernel
theorem dX0_rise_0 : decode cX0_rise 0 = .ok (.aload_n 0, 1) := by decide +kernel
theorem dX0_rise_1 : decode cX0_rise 1 = .ok (.iload_n 1, 1) := by decide +kernel
theorem dX0_rise_2 : decode cX0_rise 2 = .ok (.invokevirtual 38, 3) := by decide +kernel
theorem dX0_rise_5 : decode cX0_rise 5 = .ok (.ifCond .ne 22, 3) := by decide +kernel
theorem dX0_rise_8 : decode cX0_rise 8 = .ok (.aload_n 0, 1) := by decide +kernel
theorem dX0_rise_9 : decode cX0_rise 9 = .ok (.dup, 1) := by decide +kernel
theorem dX0_rise_10 : decode cX0_rise 10 = .ok (.getfield 21, 3) := by decide +kernel
theorem dX0_rise_13 : decode cX0_rise 13 = .ok (.lconst 1, 1) := by decide +kernel
theorem dX0_rise_14 : decode cX0_rise 14 = .ok (.iload_n 1, 1) := by decide +kernel
theorem dX0_rise_15 : decode cX0_rise 15 = .ok (.lshl, 1) := by decide +kernel
theorem dX0_rise_16 : decode cX0_rise 16 = .ok (.lor, 1) := by decide +kernel
theorem dX0_rise_17 : decode cX0_rise 17 = .ok (.putfield 21, 3) := by decide +kernel
theorem dX0_rise_20 : decode cX0_rise 20 = .ok (.aload_n 0, 1) := by decide +kernel
theorem dX0_rise_21 : decode cX0_rise 21 = .ok (.getfield 9, 3) := by decide +kernel
theorem dX0_rise_24 : decode cX0_rise 24 = .ok (.iload_n 1, 1) := by decide +kernel
theorem dX0_rise_25 : decode cX0_rise 25 = .ok (.iload_n 2, 1) := by decide +kernel
theorem dX0_rise_26 : decode cX0_rise 26 = .ok (.iastore, 1) := by decide +kernel
theorem dX0_rise_27 : decode cX0_rise 27 = .ok (.aload_n 0, 1) := by decide +kernel
theorem dX0_rise_28 : decode cX0_rise 28 = .ok (.iload_n 1, 1) := by decide +kernel
theorem dX0_rise_29 : decode cX0_rise 29 = .ok (.invokevirtual 38, 3) := by decide +kernel
theorem dX0_rise_32 : decode cX0_rise 32 = .ok (.iconst 1, 1) := by decide +kernel
theorem dX0_rise_33 : decode cX0_rise 33 = .ok (.if_icmp .ne 56, 3) := by decide +kernel
theorem dX0_rise_36 : decode cX0_rise 36 = .ok (.iload_n 2, 1) := by decide +kernel
theorem dX0_rise_37 : decode cX0_rise 37 = .ok (.aload_n 0, 1) := by decide +kernel
theorem dX0_rise_38 : decode cX0_rise 38 = .ok (.getfield 9, 3) := by decide +kernel
theorem dX0_rise_41 : decode cX0_rise 41 = .ok (.iload_n 1, 1) := by decide +kernel
theorem dX0_rise_42 : decode cX0_rise 42 = .ok (.iaload, 1) := by decide +kernel
theorem dX0_rise_43 : decode cX0_rise 43 = .ok (.isub, 1) := by decide +kernel
theorem dX0_rise_44 : decode cX0_rise 44 = .ok (.iload_n 3, 1) := by decide +kernel
theorem dX0_rise_45 : decode cX0_rise 45 = .ok (.if_icmp .lt 44, 3) := by decide +kernel
theorem dX0_rise_48 : decode cX0_rise 48 = .ok (.aload_n 0, 1) := by decide +kernel
theorem dX0_rise_49 : decode cX0_rise 49 = .ok (.dup, 1) := by decide +kernel
theorem dX0_rise_50 : decode cX0_rise 50 = .ok (.getfield 21, 3) := by decide +kernel
theorem dX0_rise_53 : decode cX0_rise 53 = .ok (.lconst 1, 1) := by decide +kernel
theorem dX0_rise_54 : decode cX0_rise 54 = .ok (.iload_n 1, 1) := by decide +kernel
theorem dX0_rise_55 : decode cX0_rise 55 = .ok (.lshl, 1) := by decide +kernel
theorem dX0_rise_56 : decode cX0_rise 56 = .ok (.ldc2_w 55, 3) := by decide +kernel
theorem dX0_rise_59 : decode cX0_rise 59 = .ok (.lxor, 1) := by decide +kernel
theorem dX0_rise_60 : decode cX0_rise 60 = .ok (.land, 1) := by decide +kernel
theorem dX0_rise_61 : decode cX0_rise 61 = .ok (.putfield 21, 3) := by decide +kernel
theorem dX0_rise_64 : decode cX0_rise 64 = .ok (.aload_n 0, 1) := by decide +kernel
theorem dX0_rise_65 : decode cX0_rise 65 = .ok (.dup, 1) := by decide +kernel
theorem dX0_rise_66 : decode cX0_rise 66 = .ok (.getfield 25, 3) := by decide +kernel
theorem dX0_rise_69 : decode cX0_rise 69 = .ok (.lconst 1, 1) := by decide +kernel
theorem dX0_rise_70 : decode cX0_rise 70 = .ok (.iload_n 1, 1) := by decide +kernel
theorem dX0_rise_71 : decode cX0_rise 71 = .ok (.lshl, 1) := by decide +kernel
theorem dX0_rise_72 : decode cX0_rise 72 = .ok (.lor, 1) := by decide +kernel
theorem dX0_rise_73 : decode cX0_rise 73 = .ok (.putfield 25, 3) := by decide +kernel
theorem dX0_rise_76 : decode cX0_rise 76 = .ok (.aload_n 0, 1) := by decide +kernel
theorem dX0_rise_77 : decode cX0_rise 77 = .ok (.getfield 9, 3) := by decide +kernel
theorem dX0_rise_80 : decode cX0_rise 80 = .ok (.iload_n 1, 1) := by decide +kernel
theorem dX0_rise_81 : decode cX0_rise 81 = .ok (.iload_n 2, 1) := by decide +kernel
theorem dX0_rise_82 : decode cX0_rise 82 = .ok (.iastore, 1) := by decide +kernel
theorem dX0_rise_83 : decode cX0_rise 83 = .ok (.aload_n 0, 1) := by decide +kernel
theorem dX0_rise_84 : decode cX0_rise 84 = .ok (.iload_n 1, 1) := by decide +kernel
theorem dX0_rise_85 : decode cX0_rise 85 = .ok (.iload_n 2, 1) := by decide +kernel
theorem dX0_rise_86 : decode cX0_rise 86 = .ok (.invokevirtual 57, 3) := by decide +kernel
theorem dX0_rise_89 : decode cX0_rise 89 = .ok (.return_, 1) := by decide +kernel
theorem dX0_settle_0 : decode cX0_settle 0 = .ok (.aload_n 0, 1) := by decide +kernel
theorem dX0_settle_1 : decode cX0_settle 1 = .ok (.iload_n 1, 1) := by decide +kernel
theorem dX0_settle_2 : decode cX0_settle 2 = .ok (.invokevirtual 38, 3) := by decide +kernel
theorem dX0_settle_5 : decode cX0_settle 5 = .ok (.iconst 2, 1) := by decide +kernel
theorem dX0_settle_6 : decode cX0_settle 6 = .ok (.if_icmp .ne 9, 3) := by decide +kernel
theorem dX0_settle_9 : decode cX0_settle 9 = .ok (.aload_n 0, 1) := by decide +kernel
theorem dX0_settle_10 : decode cX0_settle 10 = .ok (.iload_n 1, 1) := by decide +kernel
theorem dX0_settle_11 : decode cX0_settle 11 = .ok (.iload_n 2, 1) := by decide +kernel
theorem dX0_settle_12 : decode cX0_settle 12 = .ok (.invokevirtual 57, 3) := by decide +kernel
theorem dX0_settle_15 : decode cX0_settle 15 = .ok (.aload_n 0, 1) := by decide +kernel
theorem dX0_settle_16 : decode cX0_settle 16 = .ok (.dup, 1) := by decide +kernel
theorem dX0_settle_17 : decode cX0_settle 17 = .ok (.getfield 21, 3) := by decide +kernel
theorem dX0_settle_20 : decode cX0_settle 20 = .ok (.lconst 1, 1) := by decide +kernel
theorem dX0_settle_21 : decode cX0_settle 21 = .ok (.iload_n 1, 1) := by decide +kernel
theorem dX0_settle_22 : decode cX0_settle 22 = .ok (.lshl, 1) := by decide +kernel
theorem dX0_settle_23 : decode cX0_settle 23 = .ok (.ldc2_w 55, 3) := by decide +kernel
theorem dX0_settle_26 : decode cX0_settle 26 = .ok (.lxor, 1) := by decide +kernel
theorem dX0_settle_27 : decode cX0_settle 27 = .ok (.land, 1) := by decide +kernel
theorem dX0_settle_28 : decode cX0_settle 28 = .ok (.putfield 21, 3) := by decide +kernel
theorem dX0_settle_31 : decode cX0_settle 31 = .ok (.aload_n 0, 1) := by decide +kernel
theorem dX0_settle_32 : decode cX0_settle 32 = .ok (.dup, 1) := by decide +kernel
theorem dX0_settle_33 : decode cX0_settle 33 = .ok (.getfield 25, 3) := by decide +kernel
theorem dX0_settle_36 : decode cX0_settle 36 = .ok (.lconst 1, 1) := by decide +kernel
theorem dX0_settle_37 : decode cX0_settle 37 = .ok (.iload_n 1, 1) := by decide +kernel
theorem dX0_settle_38 : decode cX0_settle 38 = .ok (.lshl, 1) := by decide +kernel
theorem dX0_settle_39 : decode cX0_settle 39 = .ok (.ldc2_w 55, 3) := by decide +kernel
theorem dX0_settle_42 : decode cX0_settle 42 = .ok (.lxor, 1) := by decide +kernel
theorem dX0_settle_43 : decode cX0_settle 43 = .ok (.land, 1) := by decide +kernel
theorem dX0_settle_44 : decode cX0_settle 44 = .ok (.putfield 25, 3) := by decide +kernel
theorem dX0_settle_47 : decode cX0_settle 47 = .ok (.return_, 1) := by decide +kernel
theorem dX0_remember_0 : decode cX0_remember 0 = .ok (.aload_n 0, 1) := by decide +kernel
theorem dX0_remember_1 : decode cX0_remember 1 = .ok (.getfield 15, 3) := by decide +kernel
theorem dX0_remember_4 : decode cX0_remember 4 = .ok (.iload_n 1, 1) := by decide +kernel
theorem dX0_remember_5 : decode cX0_remember 5 = .ok (.bipush 20, 2) := by decide +kernel
theorem dX0_remember_7 : decode cX0_remember 7 = .ok (.imul, 1) := by decide +kernel
theorem dX0_remember_8 : decode cX0_remember 8 = .ok (.aload_n 0, 1) := by decide +kernel
theorem dX0_remember_9 : decode cX0_remember 9 = .ok (.getfield 18, 3) := by decide +kernel
theorem dX0_remember_12 : decode cX0_remember 12 = .ok (.iload_n 1, 1) := by decide +kernel
theorem dX0_remember_13 : decode cX0_remember 13 = .ok (.iaload, 1) := by decide +kernel
theorem dX0_remember_14 : decode cX0_remember 14 = .ok (.bipush 20, 2) := by decide +kernel
theorem dX0_remember_16 : decode cX0_remember 16 = .ok (.irem, 1) := by decide +kernel
theorem dX0_remember_17 : decode cX0_remember 17 = .ok (.iadd, 1) := by decide +kernel
theorem dX0_remember_18 : decode cX0_remember 18 = .ok (.iload_n 2, 1) := by decide +kernel
theorem dX0_remember_19 : decode cX0_remember 19 = .ok (.iastore, 1) := by decide +kernel
theorem dX0_remember_20 : decode cX0_remember 20 = .ok (.aload_n 0, 1) := by decide +kernel
theorem dX0_remember_21 : decode cX0_remember 21 = .ok (.getfield 18, 3) := by decide +kernel
theorem dX0_remember_24 : decode cX0_remember 24 = .ok (.iload_n 1, 1) := by decide +kernel
theorem dX0_remember_25 : decode cX0_remember 25 = .ok (.dup2, 1) := by decide +kernel
theorem dX0_remember_26 : decode cX0_remember 26 = .ok (.iaload, 1) := by decide +kernel
theorem dX0_remember_27 : decode cX0_remember 27 = .ok (.iconst 1, 1) := by decide +kernel
theorem dX0_remember_28 : decode cX0_remember 28 = .ok (.iadd, 1) := by decide +kernel
theorem dX0_remember_29 : decode cX0_remember 29 = .ok (.iastore, 1) := by decide +kernel
theorem dX0_remember_30 : decode cX0_remember 30 = .ok (.return_, 1) := by decide +kernel
theorem dX0_transitionsAfter_0 : decode cX0_transitionsAfter 0 = .ok (.iconst 0, 1) := by decide +kernel
theorem dX0_transitionsAfter_1 : decode cX0_transitionsAfter 1 = .ok (.istore_n 3, 1) := by decide +kernel
theorem dX0_transitionsAfter_2 : decode cX0_transitionsAfter 2 = .ok (.iconst 0, 1) := by decide +kernel
theorem dX0_transitionsAfter_3 : decode cX0_transitionsAfter 3 = .ok (.istore 4, 2) := by decide +kernel
theorem dX0_transitionsAfter_5 : decode cX0_transitionsAfter 5 = .ok (.iload 4, 2) := by decide +kernel
theorem dX0_transitionsAfter_7 : decode cX0_transitionsAfter 7 = .ok (.bipush 20, 2) := by decide +kernel
theorem dX0_transitionsAfter_9 : decode cX0_transitionsAfter 9 = .ok (.if_icmp .ge 39, 3) := by decide +kernel
theorem dX0_transitionsAfter_12 : decode cX0_transitionsAfter 12 = .ok (.iload 4, 2) := by decide +kernel
theorem dX0_transitionsAfter_14 : decode cX0_transitionsAfter 14 = .ok (.aload_n 0, 1) := by decide +kernel
theorem dX0_transitionsAfter_15 : decode cX0_transitionsAfter 15 = .ok (.getfield 18, 3) := by decide +kernel
theorem dX0_transitionsAfter_18 : decode cX0_transitionsAfter 18 = .ok (.iload_n 1, 1) := by decide +kernel
theorem dX0_transitionsAfter_19 : decode cX0_transitionsAfter 19 = .ok (.iaload, 1) := by decide +kernel
theorem dX0_transitionsAfter_20 : decode cX0_transitionsAfter 20 = .ok (.if_icmp .ge 28, 3) := by decide +kernel
theorem dX0_transitionsAfter_23 : decode cX0_transitionsAfter 23 = .ok (.aload_n 0, 1) := by decide +kernel
theorem dX0_transitionsAfter_24 : decode cX0_transitionsAfter 24 = .ok (.getfield 15, 3) := by decide +kernel
theorem dX0_transitionsAfter_27 : decode cX0_transitionsAfter 27 = .ok (.iload_n 1, 1) := by decide +kernel
theorem dX0_transitionsAfter_28 : decode cX0_transitionsAfter 28 = .ok (.bipush 20, 2) := by decide +kernel
theorem dX0_transitionsAfter_30 : decode cX0_transitionsAfter 30 = .ok (.imul, 1) := by decide +kernel
theorem dX0_transitionsAfter_31 : decode cX0_transitionsAfter 31 = .ok (.iload 4, 2) := by decide +kernel
theorem dX0_transitionsAfter_33 : decode cX0_transitionsAfter 33 = .ok (.iadd, 1) := by decide +kernel
theorem dX0_transitionsAfter_34 : decode cX0_transitionsAfter 34 = .ok (.iaload, 1) := by decide +kernel
theorem dX0_transitionsAfter_35 : decode cX0_transitionsAfter 35 = .ok (.iload_n 2, 1) := by decide +kernel
theorem dX0_transitionsAfter_36 : decode cX0_transitionsAfter 36 = .ok (.if_icmp .le 6, 3) := by decide +kernel
theorem dX0_transitionsAfter_39 : decode cX0_transitionsAfter 39 = .ok (.iinc 3 1, 3) := by decide +kernel
theorem dX0_transitionsAfter_42 : decode cX0_transitionsAfter 42 = .ok (.iinc 4 1, 3) := by decide +kernel
theorem dX0_transitionsAfter_45 : decode cX0_transitionsAfter 45 = .ok (.goto (-40), 3) := by decide +kernel
theorem dX0_transitionsAfter_48 : decode cX0_transitionsAfter 48 = .ok (.iload_n 3, 1) := by decide +kernel
theorem dX0_transitionsAfter_49 : decode cX0_transitionsAfter 49 = .ok (.ireturn, 1) := by decide +kernel
theorem dX0_flapping_0 : decode cX0_flapping 0 = .ok (.lconst 0, 1) := by decide +kernel
theorem dX0_flapping_1 : decode cX0_flapping 1 = .ok (.lstore 5, 2) := by decide +kernel
theorem dX0_flapping_3 : decode cX0_flapping 3 = .ok (.iconst 0, 1) := by decide +kernel
theorem dX0_flapping_4 : decode cX0_flapping 4 = .ok (.istore 7, 2) := by decide +kernel
theorem dX0_flapping_6 : decode cX0_flapping 6 = .ok (.iload 7, 2) := by decide +kernel
theorem dX0_flapping_8 : decode cX0_flapping 8 = .ok (.bipush 60, 2) := by decide +kernel
theorem dX0_flapping_10 : decode cX0_flapping 10 = .ok (.if_icmp .ge 39, 3) := by decide +kernel
theorem dX0_flapping_13 : decode cX0_flapping 13 = .ok (.lload_n 1, 1) := by decide +kernel
theorem dX0_flapping_14 : decode cX0_flapping 14 = .ok (.iload 7, 2) := by decide +kernel
theorem dX0_flapping_16 : decode cX0_flapping 16 = .ok (.invokestatic 34, 3) := by decide +kernel
theorem dX0_flapping_19 : decode cX0_flapping 19 = .ok (.ifCond .eq 24, 3) := by decide +kernel
theorem dX0_flapping_22 : decode cX0_flapping 22 = .ok (.aload_n 0, 1) := by decide +kernel
theorem dX0_flapping_23 : decode cX0_flapping 23 = .ok (.iload 7, 2) := by decide +kernel
theorem dX0_flapping_25 : decode cX0_flapping 25 = .ok (.iload_n 3, 1) := by decide +kernel
theorem dX0_flapping_26 : decode cX0_flapping 26 = .ok (.invokevirtual 60, 3) := by decide +kernel
theorem dX0_flapping_29 : decode cX0_flapping 29 = .ok (.iload 4, 2) := by decide +kernel
theorem dX0_flapping_31 : decode cX0_flapping 31 = .ok (.if_icmp .lt 12, 3) := by decide +kernel
theorem dX0_flapping_34 : decode cX0_flapping 34 = .ok (.lload 5, 2) := by decide +kernel
theorem dX0_flapping_36 : decode cX0_flapping 36 = .ok (.lconst 1, 1) := by decide +kernel
theorem dX0_flapping_37 : decode cX0_flapping 37 = .ok (.iload 7, 2) := by decide +kernel
theorem dX0_flapping_39 : decode cX0_flapping 39 = .ok (.lshl, 1) := by decide +kernel
theorem dX0_flapping_40 : decode cX0_flapping 40 = .ok (.lor, 1) := by decide +kernel
theorem dX0_flapping_41 : decode cX0_flapping 41 = .ok (.lstore 5, 2) := by decide +kernel
theorem dX0_flapping_43 : decode cX0_flapping 43 = .ok (.iinc 7 1, 3) := by decide +kernel
theorem dX0_flapping_46 : decode cX0_flapping 46 = .ok (.goto (-40), 3) := by decide +kernel
theorem dX0_flapping_49 : decode cX0_flapping 49 = .ok (.lload 5, 2) := by decide +kernel
theorem dX0_flapping_51 : decode cX0_flapping 51 = .ok (.lreturn, 1) := by decide +kernel
theorem dX0_forgetRule_0 : decode cX0_forgetRule 0 = .ok (.ldc2_w 64, 3) := by decide +kernel
theorem dX0_forgetRule_3 : decode cX0_forgetRule 3 = .ok (.iload_n 1, 1) := by decide +kernel
theorem dX0_forgetRule_4 : decode cX0_forgetRule 4 = .ok (.bipush 12, 2) := by decide +kernel
theorem dX0_forgetRule_6 : decode cX0_forgetRule 6 = .ok (.imul, 1) := by decide +kernel
theorem dX0_forgetRule_7 : decode cX0_forgetRule 7 = .ok (.lshl, 1) := by decide +kernel
theorem dX0_forgetRule_8 : decode cX0_forgetRule 8 = .ok (.lstore_n 2, 1) := by decide +kernel
theorem dX0_forgetRule_9 : decode cX0_forgetRule 9 = .ok (.aload_n 0, 1) := by decide +kernel
theorem dX0_forgetRule_10 : decode cX0_forgetRule 10 = .ok (.dup, 1) := by decide +kernel
theorem dX0_forgetRule_11 : decode cX0_forgetRule 11 = .ok (.getfield 21, 3) := by decide +kernel
theorem dX0_forgetRule_14 : decode cX0_forgetRule 14 = .ok (.lload_n 2, 1) := by decide +kernel
theorem dX0_forgetRule_15 : decode cX0_forgetRule 15 = .ok (.ldc2_w 55, 3) := by decide +kernel
theorem dX0_forgetRule_18 : decode cX0_forgetRule 18 = .ok (.lxor, 1) := by decide +kernel
theorem dX0_forgetRule_19 : decode cX0_forgetRule 19 = .ok (.land, 1) := by decide +kernel
theorem dX0_forgetRule_20 : decode cX0_forgetRule 20 = .ok (.putfield 21, 3) := by decide +kernel
theorem dX0_forgetRule_23 : decode cX0_forgetRule 23 = .ok (.aload_n 0, 1) := by decide +kernel
theorem dX0_forgetRule_24 : decode cX0_forgetRule 24 = .ok (.dup, 1) := by decide +kernel
theorem dX0_forgetRule_25 : decode cX0_forgetRule 25 = .ok (.getfield 25, 3) := by decide +kernel
theorem dX0_forgetRule_28 : decode cX0_forgetRule 28 = .ok (.lload_n 2, 1) := by decide +kernel
theorem dX0_forgetRule_29 : decode cX0_forgetRule 29 = .ok (.ldc2_w 55, 3) := by decide +kernel
theorem dX0_forgetRule_32 : decode cX0_forgetRule 32 = .ok (.lxor, 1) := by decide +kernel
theorem dX0_forgetRule_33 : decode cX0_forgetRule 33 = .ok (.land, 1) := by decide +kernel
theorem dX0_forgetRule_34 : decode cX0_forgetRule 34 = .ok (.putfield 25, 3) := by decide +kernel
theorem dX0_forgetRule_37 : decode cX0_forgetRule 37 = .ok (.iconst 0, 1) := by decide +kernel
theorem dX0_forgetRule_38 : decode cX0_forgetRule 38 = .ok (.istore 4, 2) := by decide +kernel
theorem dX0_forgetRule_40 : decode cX0_forgetRule 40 = .ok (.iload 4, 2) := by decide +kernel
theorem dX0_forgetRule_42 : decode cX0_forgetRule 42 = .ok (.bipush 12, 2) := by decide +kernel
theorem dX0_forgetRule_44 : decode cX0_forgetRule 44 = .ok (.if_icmp .ge 22, 3) := by decide +kernel
theorem dX0_forgetRule_47 : decode cX0_forgetRule 47 = .ok (.aload_n 0, 1) := by decide +kernel
theorem dX0_forgetRule_48 : decode cX0_forgetRule 48 = .ok (.getfield 18, 3) := by decide +kernel
theorem dX0_forgetRule_51 : decode cX0_forgetRule 51 = .ok (.iload_n 1, 1) := by decide +kernel
theorem dX0_forgetRule_52 : decode cX0_forgetRule 52 = .ok (.bipush 12, 2) := by decide +kernel
theorem dX0_forgetRule_54 : decode cX0_forgetRule 54 = .ok (.imul, 1) := by decide +kernel
theorem dX0_forgetRule_55 : decode cX0_forgetRule 55 = .ok (.iload 4, 2) := by decide +kernel
theorem dX0_forgetRule_57 : decode cX0_forgetRule 57 = .ok (.iadd, 1) := by decide +kernel
theorem dX0_forgetRule_58 : decode cX0_forgetRule 58 = .ok (.iconst 0, 1) := by decide +kernel
theorem dX0_forgetRule_59 : decode cX0_forgetRule 59 = .ok (.iastore, 1) := by decide +kernel
theorem dX0_forgetRule_60 : decode cX0_forgetRule 60 = .ok (.iinc 4 1, 3) := by decide +kernel
theorem dX0_forgetRule_63 : decode cX0_forgetRule 63 = .ok (.goto (-23), 3) := by decide +kernel
theorem dX0_forgetRule_66 : decode cX0_forgetRule 66 = .ok (.return_, 1) := by decide +kernel
theorem dX1_init_0 : decode cX1_init 0 = .ok (.aload_n 0, 1) := by decide +kernel
theorem dX1_init_1 : decode cX1_init 1 = .ok (.invokespecial 1, 3) := by decide +kernel
theorem dX1_init_4 : decode cX1_init 4 = .ok (.return_, 1) := by decide +kernel
theorem dX2_init_0 : decode cX2_init 0 = .ok (.aload_n 0, 1) := by decide +kernel
theorem dX2_init_1 : decode cX2_init 1 = .ok (.invokespecial 3, 3) := by decide +kernel
theorem dX2_init_4 : decode cX2_init 4 = .ok (.aload_n 0, 1) := by decide +kernel
theorem dX2_init_5 : decode cX2_init 5 = .ok (.sipush 128, 3) := by decide +kernel
theorem dX2_init_8 : decode cX2_init 8 = .ok (.newarray .boolean, 2) := by decide +kernel
theorem dX2_init_10 : decode cX2_init 10 = .ok (.putfield 9, 3) := by decide +kernel
theorem dX2_init_13 : decode cX2_init 13 = .ok (.aload_n 0, 1) := by decide +kernel
theorem dX2_init_14 : decode cX2_init 14 = .ok (.sipush 128, 3) := by decide +kernel
theorem dX2_init_17 : decode cX2_init 17 = .ok (.newarray .int, 2) := by decide +kernel
theorem dX2_init_19 : decode cX2_init 19 = .ok (.putfield 15, 3) := by decide +kernel
theorem dX2_init_22 : decode cX2_init 22 = .ok (.aload_n 0, 1) := by decide +kernel
theorem dX2_init_23 : decode cX2_init 23 = .ok (.sipush 128, 3) := by decide +kernel
theorem dX2_init_26 : decode cX2_init 26 = .ok (.newarray .long, 2) := by decide +kernel
theorem dX2_init_28 : decode cX2_init 28 = .ok (.putfield 19, 3) := by decide +kernel
theorem dX2_init_31 : decode cX2_init 31 = .ok (.aload_n 0, 1) := by decide +kernel
theorem dX2_init_32 : decode cX2_init 32 = .ok (.sipush 128, 3) := by decide +kernel
theorem dX2_init_35 : decode cX2_init 35 = .ok (.newarray .long, 2) := by decide +kernel
theorem dX2_init_37 : decode cX2_init 37 = .ok (.putfield 23, 3) := by decide +kernel
theorem dX2_init_40 : decode cX2_init 40 = .ok (.return_, 1) := by decide +kernel
theorem dX2_copyFrom_0 : decode cX2_copyFrom 0 = .ok (.iconst 0, 1) := by decide +kernel
theorem dX2_copyFrom_1 : decode cX2_copyFrom 1 = .ok (.istore_n 2, 1) := by decide +kernel
theorem dX2_copyFrom_2 : decode cX2_copyFrom 2 = .ok (.iload_n 2, 1) := by decide +kernel
theorem dX2_copyFrom_3 : decode cX2_copyFrom 3 = .ok (.sipush 128, 3) := by decide +kernel
theorem dX2_copyFrom_6 : decode cX2_copyFrom 6 = .ok (.if_icmp .ge 21, 3) := by decide +kernel
theorem dX2_copyFrom_9 : decode cX2_copyFrom 9 = .ok (.aload_n 0, 1) := by decide +kernel
theorem dX2_copyFrom_10 : decode cX2_copyFrom 10 = .ok (.getfield 9, 3) := by decide +kernel
theorem dX2_copyFrom_13 : decode cX2_copyFrom 13 = .ok (.iload_n 2, 1) := by decide +kernel
theorem dX2_copyFrom_14 : decode cX2_copyFrom 14 = .ok (.aload_n 1, 1) := by decide +kernel
theorem dX2_copyFrom_15 : decode cX2_copyFrom 15 = .ok (.getfield 9, 3) := by decide +kernel
theorem dX2_copyFrom_18 : decode cX2_copyFrom 18 = .ok (.iload_n 2, 1) := by decide +kernel
theorem dX2_copyFrom_19 : decode cX2_copyFrom 19 = .ok (.baload, 1) := by decide +kernel
theorem dX2_copyFrom_20 : decode cX2_copyFrom 20 = .ok (.bastore, 1) := by decide +kernel
theorem dX2_copyFrom_21 : decode cX2_copyFrom 21 = .ok (.iinc 2 1, 3) := by decide +kernel
theorem dX2_copyFrom_24 : decode cX2_copyFrom 24 = .ok (.goto (-22), 3) := by decide +kernel
theorem dX2_copyFrom_27 : decode cX2_copyFrom 27 = .ok (.aload_n 1, 1) := by decide +kernel
theorem dX2_copyFrom_28 : decode cX2_copyFrom 28 = .ok (.getfield 15, 3) := by decide +kernel
theorem dX2_copyFrom_31 : decode cX2_copyFrom 31 = .ok (.iconst 0, 1) := by decide +kernel
theorem dX2_copyFrom_32 : decode cX2_copyFrom 32 = .ok (.aload_n 0, 1) := by decide +kernel
theorem dX2_copyFrom_33 : decode cX2_copyFrom 33 = .ok (.getfield 15, 3) := by decide +kernel
theorem dX2_copyFrom_36 : decode cX2_copyFrom 36 = .ok (.iconst 0, 1) := by decide +kernel
theorem dX2_copyFrom_37 : decode cX2_copyFrom 37 = .ok (.sipush 128, 3) := by decide +kernel
theorem dX2_copyFrom_40 : decode cX2_copyFrom 40 = .ok (.invokestatic 26, 3) := by decide +kernel
theorem dX2_copyFrom_43 : decode cX2_copyFrom 43 = .ok (.aload_n 1, 1) := by decide +kernel
theorem dX2_copyFrom_44 : decode cX2_copyFrom 44 = .ok (.getfield 19, 3) := by decide +kernel
theorem dX2_copyFrom_47 : decode cX2_copyFrom 47 = .ok (.iconst 0, 1) := by decide +kernel
theorem dX2_copyFrom_48 : decode cX2_copyFrom 48 = .ok (.aload_n 0, 1) := by decide +kernel
theorem dX2_copyFrom_49 : decode cX2_copyFrom 49 = .ok (.getfield 19, 3) := by decide +kernel
theorem dX2_copyFrom_52 : decode cX2_copyFrom 52 = .ok (.iconst 0, 1) := by decide +kernel
theorem dX2_copyFrom_53 : decode cX2_copyFrom 53 = .ok (.sipush 128, 3) := by decide +kernel
theorem dX2_copyFrom_56 : decode cX2_copyFrom 56 = .ok (.invokestatic 26, 3) := by decide +kernel
theorem dX2_copyFrom_59 : decode cX2_copyFrom 59 = .ok (.return_, 1) := by decide +kernel
theorem dX2_forgetAll_0 : decode cX2_forgetAll 0 = .ok (.iconst 0, 1) := by decide +kernel
theorem dX2_forgetAll_1 : decode cX2_forgetAll 1 = .ok (.istore_n 1, 1) := by decide +kernel
theorem dX2_forgetAll_2 : decode cX2_forgetAll 2 = .ok (.iload_n 1, 1) := by decide +kernel
theorem dX2_forgetAll_3 : decode cX2_forgetAll 3 = .ok (.sipush 128, 3) := by decide +kernel
theorem dX2_forgetAll_6 : decode cX2_forgetAll 6 = .ok (.if_icmp .ge 16, 3) := by decide +kernel
theorem dX2_forgetAll_9 : decode cX2_forgetAll 9 = .ok (.aload_n 0, 1) := by decide +kernel
theorem dX2_forgetAll_10 : decode cX2_forgetAll 10 = .ok (.getfield 9, 3) := by decide +kernel
theorem dX2_forgetAll_13 : decode cX2_forgetAll 13 = .ok (.iload_n 1, 1) := by decide +kernel
theorem dX2_forgetAll_14 : decode cX2_forgetAll 14 = .ok (.iconst 0, 1) := by decide +kernel
theorem dX2_forgetAll_15 : decode cX2_forgetAll 15 = .ok (.bastore, 1) := by decide +kernel
theorem dX2_forgetAll_16 : decode cX2_forgetAll 16 = .ok (.iinc 1 1, 3) := by decide +kernel
theorem dX2_forgetAll_19 : decode cX2_forgetAll 19 = .ok (.goto (-17), 3) := by decide +kernel
theorem dX2_forgetAll_22 : decode cX2_forgetAll 22 = .ok (.return_, 1) := by decide +kernel
theorem dX2_sort_0 : decode cX2_sort 0 = .ok (.iconst 0, 1) := by decide +kernel
theorem dX2_sort_1 : decode cX2_sort 1 = .ok (.istore 4, 2) := by decide +kernel
theorem dX2_sort_3 : decode cX2_sort 3 = .ok (.iload 4, 2) := by decide +kernel
theorem dX2_sort_5 : decode cX2_sort 5 = .ok (.sipush 128, 3) := by decide +kernel
theorem dX2_sort_8 : decode cX2_sort 8 = .ok (.if_icmp .ge 17, 3) := by decide +kernel
theorem dX2_sort_11 : decode cX2_sort 11 = .ok (.aload_n 0, 1) := by decide +kernel
theorem dX2_sort_12 : decode cX2_sort 12 = .ok (.getfield 23, 3) := by decide +kernel
theorem dX2_sort_15 : decode cX2_sort 15 = .ok (.iload 4, 2) := by decide +kernel
theorem dX2_sort_17 : decode cX2_sort 17 = .ok (.lconst 0, 1) := by decide +kernel
theorem dX2_sort_18 : decode cX2_sort 18 = .ok (.lastore, 1) := by decide +kernel
theorem dX2_sort_19 : decode cX2_sort 19 = .ok (.iinc 4 1, 3) := by decide +kernel
theorem dX2_sort_22 : decode cX2_sort 22 = .ok (.goto (-19), 3) := by decide +kernel
theorem dX2_sort_25 : decode cX2_sort 25 = .ok (.iconst 0, 1) := by decide +kernel
theorem dX2_sort_26 : decode cX2_sort 26 = .ok (.istore 4, 2) := by decide +kernel
theorem dX2_sort_28 : decode cX2_sort 28 = .ok (.iload 4, 2) := by decide +kernel
theorem dX2_sort_30 : decode cX2_sort 30 = .ok (.bipush 12, 2) := by decide +kernel
theorem dX2_sort_32 : decode cX2_sort 32 = .ok (.if_icmp .ge 31, 3) := by decide +kernel
theorem dX2_sort_35 : decode cX2_sort 35 = .ok (.aload_n 0, 1) := by decide +kernel
theorem dX2_sort_36 : decode cX2_sort 36 = .ok (.getfield 23, 3) := by decide +kernel
theorem dX2_sort_39 : decode cX2_sort 39 = .ok (.aload_n 3, 1) := by decide +kernel
theorem dX2_sort_40 : decode cX2_sort 40 = .ok (.iload 4, 2) := by decide +kernel
theorem dX2_sort_42 : decode cX2_sort 42 = .ok (.invokevirtual 32, 3) := by decide +kernel
theorem dX2_sort_45 : decode cX2_sort 45 = .ok (.dup2, 1) := by decide +kernel
theorem dX2_sort_46 : decode cX2_sort 46 = .ok (.laload, 1) := by decide +kernel
theorem dX2_sort_47 : decode cX2_sort 47 = .ok (.lload_n 1, 1) := by decide +kernel
theorem dX2_sort_48 : decode cX2_sort 48 = .ok (.ldc2_w 38, 3) := by decide +kernel
theorem dX2_sort_51 : decode cX2_sort 51 = .ok (.iload 4, 2) := by decide +kernel
theorem dX2_sort_53 : decode cX2_sort 53 = .ok (.lshl, 1) := by decide +kernel
theorem dX2_sort_54 : decode cX2_sort 54 = .ok (.land, 1) := by decide +kernel
theorem dX2_sort_55 : decode cX2_sort 55 = .ok (.lor, 1) := by decide +kernel
theorem dX2_sort_56 : decode cX2_sort 56 = .ok (.lastore, 1) := by decide +kernel
theorem dX2_sort_57 : decode cX2_sort 57 = .ok (.iinc 4 1, 3) := by decide +kernel
theorem dX2_sort_60 : decode cX2_sort 60 = .ok (.goto (-32), 3) := by decide +kernel
theorem dX2_sort_63 : decode cX2_sort 63 = .ok (.return_, 1) := by decide +kernel
theorem dX2_newcomers_0 : decode cX2_newcomers 0 = .ok (.aload_n 0, 1) := by decide +kernel
theorem dX2_newcomers_1 : decode cX2_newcomers 1 = .ok (.getfield 9, 3) := by decide +kernel
theorem dX2_newcomers_4 : decode cX2_newcomers 4 = .ok (.iload_n 1, 1) := by decide +kernel
theorem dX2_newcomers_5 : decode cX2_newcomers 5 = .ok (.baload, 1) := by decide +kernel
theorem dX2_newcomers_6 : decode cX2_newcomers 6 = .ok (.ifCond .eq 23, 3) := by decide +kernel
theorem dX2_newcomers_9 : decode cX2_newcomers 9 = .ok (.aload_n 0, 1) := by decide +kernel
theorem dX2_newcomers_10 : decode cX2_newcomers 10 = .ok (.getfield 23, 3) := by decide +kernel
theorem dX2_newcomers_13 : decode cX2_newcomers 13 = .ok (.iload_n 1, 1) := by decide +kernel
theorem dX2_newcomers_14 : decode cX2_newcomers 14 = .ok (.laload, 1) := by decide +kernel
theorem dX2_newcomers_15 : decode cX2_newcomers 15 = .ok (.aload_n 0, 1) := by decide +kernel
theorem dX2_newcomers_16 : decode cX2_newcomers 16 = .ok (.getfield 19, 3) := by decide +kernel
theorem dX2_newcomers_19 : decode cX2_newcomers 19 = .ok (.iload_n 1, 1) := by decide +kernel
theorem dX2_newcomers_20 : decode cX2_newcomers 20 = .ok (.laload, 1) := by decide +kernel
theorem dX2_newcomers_21 : decode cX2_newcomers 21 = .ok (.ldc2_w 40, 3) := by decide +kernel
theorem dX2_newcomers_24 : decode cX2_newcomers 24 = .ok (.lxor, 1) := by decide +kernel
theorem dX2_newcomers_25 : decode cX2_newcomers 25 = .ok (.land, 1) := by decide +kernel
theorem dX2_newcomers_26 : decode cX2_newcomers 26 = .ok (.goto 9, 3) := by decide +kernel
theorem dX2_newcomers_29 : decode cX2_newcomers 29 = .ok (.aload_n 0, 1) := by decide +kernel
theorem dX2_newcomers_30 : decode cX2_newcomers 30 = .ok (.getfield 23, 3) := by decide +kernel
theorem dX2_newcomers_33 : decode cX2_newcomers 33 = .ok (.iload_n 1, 1) := by decide +kernel
theorem dX2_newcomers_34 : decode cX2_newcomers 34 = .ok (.laload, 1) := by decide +kernel
theorem dX2_newcomers_35 : decode cX2_newcomers 35 = .ok (.lreturn, 1) := by decide +kernel
theorem dX2_dueKind_0 : decode cX2_dueKind 0 = .ok (.aload_n 0, 1) := by decide +kernel
theorem dX2_dueKind_1 : decode cX2_dueKind 1 = .ok (.getfield 9, 3) := by decide +kernel
theorem dX2_dueKind_4 : decode cX2_dueKind 4 = .ok (.iload_n 1, 1) := by decide +kernel
theorem dX2_dueKind_5 : decode cX2_dueKind 5 = .ok (.baload, 1) := by decide +kernel
theorem dX2_dueKind_6 : decode cX2_dueKind 6 = .ok (.ifCond .ne 21, 3) := by decide +kernel
theorem dX2_dueKind_9 : decode cX2_dueKind 9 = .ok (.aload_n 0, 1) := by decide +kernel
theorem dX2_dueKind_10 : decode cX2_dueKind 10 = .ok (.getfield 23, 3) := by decide +kernel
theorem dX2_dueKind_13 : decode cX2_dueKind 13 = .ok (.iload_n 1, 1) := by decide +kernel
theorem dX2_dueKind_14 : decode cX2_dueKind 14 = .ok (.laload, 1) := by decide +kernel
theorem dX2_dueKind_15 : decode cX2_dueKind 15 = .ok (.lconst 0, 1) := by decide +kernel
theorem dX2_dueKind_16 : decode cX2_dueKind 16 = .ok (.lcmp, 1) := by decide +kernel
theorem dX2_dueKind_17 : decode cX2_dueKind 17 = .ok (.ifCond .ne 8, 3) := by decide +kernel
theorem dX2_dueKind_20 : decode cX2_dueKind 20 = .ok (.bipush (-5), 2) := by decide +kernel
theorem dX2_dueKind_22 : decode cX2_dueKind 22 = .ok (.goto 4, 3) := by decide +kernel
theorem dX2_dueKind_25 : decode cX2_dueKind 25 = .ok (.iconst 0, 1) := by decide +kernel
theorem dX2_dueKind_26 : decode cX2_dueKind 26 = .ok (.ireturn, 1) := by decide +kernel
theorem dX2_dueKind_27 : decode cX2_dueKind 27 = .ok (.aload_n 0, 1) := by decide +kernel
theorem dX2_dueKind_28 : decode cX2_dueKind 28 = .ok (.getfield 23, 3) := by decide +kernel
theorem dX2_dueKind_31 : decode cX2_dueKind 31 = .ok (.iload_n 1, 1) := by decide +kernel
theorem dX2_dueKind_32 : decode cX2_dueKind 32 = .ok (.laload, 1) := by decide +kernel
theorem dX2_dueKind_33 : decode cX2_dueKind 33 = .ok (.lconst 0, 1) := by decide +kernel
theorem dX2_dueKind_34 : decode cX2_dueKind 34 = .ok (.lcmp, 1) := by decide +kernel
theorem dX2_dueKind_35 : decode cX2_dueKind 35 = .ok (.ifCond .ne 5, 3) := by decide +kernel
theorem dX2_dueKind_38 : decode cX2_dueKind 38 = .ok (.iconst 3, 1) := by decide +kernel
theorem dX2_dueKind_39 : decode cX2_dueKind 39 = .ok (.ireturn, 1) := by decide +kernel
theorem dX2_dueKind_40 : decode cX2_dueKind 40 = .ok (.iload_n 2, 1) := by decide +kernel
theorem dX2_dueKind_41 : decode cX2_dueKind 41 = .ok (.aload_n 0, 1) := by decide +kernel
theorem dX2_dueKind_42 : decode cX2_dueKind 42 = .ok (.getfield 15, 3) := by decide +kernel
theorem dX2_dueKind_45 : decode cX2_dueKind 45 = .ok (.iload_n 1, 1) := by decide +kernel
theorem dX2_dueKind_46 : decode cX2_dueKind 46 = .ok (.iaload, 1) := by decide +kernel
theorem dX2_dueKind_47 : decode cX2_dueKind 47 = .ok (.isub, 1) := by decide +kernel
theorem dX2_dueKind_48 : decode cX2_dueKind 48 = .ok (.istore 4, 2) := by decide +kernel
theorem dX2_dueKind_50 : decode cX2_dueKind 50 = .ok (.aload_n 0, 1) := by decide +kernel
theorem dX2_dueKind_51 : decode cX2_dueKind 51 = .ok (.iload_n 1, 1) := by decide +kernel
theorem dX2_dueKind_52 : decode cX2_dueKind 52 = .ok (.invokevirtual 42, 3) := by decide +kernel
theorem dX2_dueKind_55 : decode cX2_dueKind 55 = .ok (.lconst 0, 1) := by decide +kernel
theorem dX2_dueKind_56 : decode cX2_dueKind 56 = .ok (.lcmp, 1) := by decide +kernel
theorem dX2_dueKind_57 : decode cX2_dueKind 57 = .ok (.ifCond .eq 16, 3) := by decide +kernel
theorem dX2_dueKind_60 : decode cX2_dueKind 60 = .ok (.iload 4, 2) := by decide +kernel
theorem dX2_dueKind_62 : decode cX2_dueKind 62 = .ok (.aload_n 3, 1) := by decide +kernel
theorem dX2_dueKind_63 : decode cX2_dueKind 63 = .ok (.getfield 46, 3) := by decide +kernel
theorem dX2_dueKind_66 : decode cX2_dueKind 66 = .ok (.iconst 0, 1) := by decide +kernel
theorem dX2_dueKind_67 : decode cX2_dueKind 67 = .ok (.iaload, 1) := by decide +kernel
theorem dX2_dueKind_68 : decode cX2_dueKind 68 = .ok (.if_icmp .lt 5, 3) := by decide +kernel
theorem dX2_dueKind_71 : decode cX2_dueKind 71 = .ok (.iconst 1, 1) := by decide +kernel
theorem dX2_dueKind_72 : decode cX2_dueKind 72 = .ok (.ireturn, 1) := by decide +kernel
theorem dX2_dueKind_73 : decode cX2_dueKind 73 = .ok (.iload 4, 2) := by decide +kernel
theorem dX2_dueKind_75 : decode cX2_dueKind 75 = .ok (.aload_n 3, 1) := by decide +kernel
theorem dX2_dueKind_76 : decode cX2_dueKind 76 = .ok (.getfield 46, 3) := by decide +kernel
theorem dX2_dueKind_79 : decode cX2_dueKind 79 = .ok (.iconst 1, 1) := by decide +kernel
theorem dX2_dueKind_80 : decode cX2_dueKind 80 = .ok (.iaload, 1) := by decide +kernel
theorem dX2_dueKind_81 : decode cX2_dueKind 81 = .ok (.if_icmp .lt 7, 3) := by decide +kernel
theorem dX2_dueKind_84 : decode cX2_dueKind 84 = .ok (.iconst 2, 1) := by decide +kernel
theorem dX2_dueKind_85 : decode cX2_dueKind 85 = .ok (.goto 5, 3) := by decide +kernel
theorem dX2_dueKind_88 : decode cX2_dueKind 88 = .ok (.bipush (-5), 2) := by decide +kernel
theorem dX2_dueKind_90 : decode cX2_dueKind 90 = .ok (.ireturn, 1) := by decide +kernel
theorem dX2_nextMinute_0 : decode cX2_nextMinute 0 = .ok (.aload_n 0, 1) := by decide +kernel
theorem dX2_nextMinute_1 : decode cX2_nextMinute 1 = .ok (.getfield 23, 3) := by decide +kernel
theorem dX2_nextMinute_4 : decode cX2_nextMinute 4 = .ok (.iload_n 1, 1) := by decide +kernel
theorem dX2_nextMinute_5 : decode cX2_nextMinute 5 = .ok (.laload, 1) := by decide +kernel
theorem dX2_nextMinute_6 : decode cX2_nextMinute 6 = .ok (.lconst 0, 1) := by decide +kernel
theorem dX2_nextMinute_7 : decode cX2_nextMinute 7 = .ok (.lcmp, 1) := by decide +kernel
theorem dX2_nextMinute_8 : decode cX2_nextMinute 8 = .ok (.ifCond .ne 7, 3) := by decide +kernel
theorem dX2_nextMinute_11 : decode cX2_nextMinute 11 = .ok (.iconst 1, 1) := by decide +kernel
theorem dX2_nextMinute_12 : decode cX2_nextMinute 12 = .ok (.goto 4, 3) := by decide +kernel
theorem dX2_nextMinute_15 : decode cX2_nextMinute 15 = .ok (.iconst 0, 1) := by decide +kernel
theorem dX2_nextMinute_16 : decode cX2_nextMinute 16 = .ok (.istore 4, 2) := by decide +kernel
theorem dX2_nextMinute_18 : decode cX2_nextMinute 18 = .ok (.aload_n 0, 1) := by decide +kernel
theorem dX2_nextMinute_19 : decode cX2_nextMinute 19 = .ok (.getfield 9, 3) := by decide +kernel
theorem dX2_nextMinute_22 : decode cX2_nextMinute 22 = .ok (.iload_n 1, 1) := by decide +kernel
theorem dX2_nextMinute_23 : decode cX2_nextMinute 23 = .ok (.baload, 1) := by decide +kernel
theorem dX2_nextMinute_24 : decode cX2_nextMinute 24 = .ok (.ifCond .ne 11, 3) := by decide +kernel
theorem dX2_nextMinute_27 : decode cX2_nextMinute 27 = .ok (.iload 4, 2) := by decide +kernel
theorem dX2_nextMinute_29 : decode cX2_nextMinute 29 = .ok (.ifCond .eq 6, 3) := by decide +kernel
theorem dX2_nextMinute_32 : decode cX2_nextMinute 32 = .ok (.bipush (-5), 2) := by decide +kernel
theorem dX2_nextMinute_34 : decode cX2_nextMinute 34 = .ok (.ireturn, 1) := by decide +kernel
theorem dX2_nextMinute_35 : decode cX2_nextMinute 35 = .ok (.aload_n 0, 1) := by decide +kernel
theorem dX2_nextMinute_36 : decode cX2_nextMinute 36 = .ok (.getfield 9, 3) := by decide +kernel
theorem dX2_nextMinute_39 : decode cX2_nextMinute 39 = .ok (.iload_n 1, 1) := by decide +kernel
theorem dX2_nextMinute_40 : decode cX2_nextMinute 40 = .ok (.baload, 1) := by decide +kernel
theorem dX2_nextMinute_41 : decode cX2_nextMinute 41 = .ok (.ifCond .eq 8, 3) := by decide +kernel
theorem dX2_nextMinute_44 : decode cX2_nextMinute 44 = .ok (.iload 4, 2) := by decide +kernel
theorem dX2_nextMinute_46 : decode cX2_nextMinute 46 = .ok (.ifCond .eq 7, 3) := by decide +kernel
theorem dX2_nextMinute_49 : decode cX2_nextMinute 49 = .ok (.iload_n 2, 1) := by decide +kernel
theorem dX2_nextMinute_50 : decode cX2_nextMinute 50 = .ok (.iconst 1, 1) := by decide +kernel
theorem dX2_nextMinute_51 : decode cX2_nextMinute 51 = .ok (.iadd, 1) := by decide +kernel
theorem dX2_nextMinute_52 : decode cX2_nextMinute 52 = .ok (.ireturn, 1) := by decide +kernel
theorem dX2_nextMinute_53 : decode cX2_nextMinute 53 = .ok (.aload_n 3, 1) := by decide +kernel
theorem dX2_nextMinute_54 : decode cX2_nextMinute 54 = .ok (.getfield 46, 3) := by decide +kernel
theorem dX2_nextMinute_57 : decode cX2_nextMinute 57 = .ok (.iconst 1, 1) := by decide +kernel
theorem dX2_nextMinute_58 : decode cX2_nextMinute 58 = .ok (.iaload, 1) := by decide +kernel
theorem dX2_nextMinute_59 : decode cX2_nextMinute 59 = .ok (.istore 5, 2) := by decide +kernel
theorem dX2_nextMinute_61 : decode cX2_nextMinute 61 = .ok (.aload_n 0, 1) := by decide +kernel
theorem dX2_nextMinute_62 : decode cX2_nextMinute 62 = .ok (.iload_n 1, 1) := by decide +kernel
theorem dX2_nextMinute_63 : decode cX2_nextMinute 63 = .ok (.invokevirtual 42, 3) := by decide +kernel
theorem dX2_nextMinute_66 : decode cX2_nextMinute 66 = .ok (.lconst 0, 1) := by decide +kernel
theorem dX2_nextMinute_67 : decode cX2_nextMinute 67 = .ok (.lcmp, 1) := by decide +kernel
theorem dX2_nextMinute_68 : decode cX2_nextMinute 68 = .ok (.ifCond .eq 16, 3) := by decide +kernel
theorem dX2_nextMinute_71 : decode cX2_nextMinute 71 = .ok (.iload 5, 2) := by decide +kernel
theorem dX2_nextMinute_73 : decode cX2_nextMinute 73 = .ok (.aload_n 3, 1) := by decide +kernel
theorem dX2_nextMinute_74 : decode cX2_nextMinute 74 = .ok (.getfield 46, 3) := by decide +kernel
theorem dX2_nextMinute_77 : decode cX2_nextMinute 77 = .ok (.iconst 0, 1) := by decide +kernel
theorem dX2_nextMinute_78 : decode cX2_nextMinute 78 = .ok (.iaload, 1) := by decide +kernel
theorem dX2_nextMinute_79 : decode cX2_nextMinute 79 = .ok (.invokestatic 49, 3) := by decide +kernel
theorem dX2_nextMinute_82 : decode cX2_nextMinute 82 = .ok (.istore 5, 2) := by decide +kernel
theorem dX2_nextMinute_84 : decode cX2_nextMinute 84 = .ok (.iload_n 2, 1) := by decide +kernel
theorem dX2_nextMinute_85 : decode cX2_nextMinute 85 = .ok (.iconst 1, 1) := by decide +kernel
theorem dX2_nextMinute_86 : decode cX2_nextMinute 86 = .ok (.iadd, 1) := by decide +kernel
theorem dX2_nextMinute_87 : decode cX2_nextMinute 87 = .ok (.aload_n 0, 1) := by decide +kernel
theorem dX2_nextMinute_88 : decode cX2_nextMinute 88 = .ok (.getfield 15, 3) := by decide +kernel
theorem dX2_nextMinute_91 : decode cX2_nextMinute 91 = .ok (.iload_n 1, 1) := by decide +kernel
theorem dX2_nextMinute_92 : decode cX2_nextMinute 92 = .ok (.iaload, 1) := by decide +kernel
theorem dX2_nextMinute_93 : decode cX2_nextMinute 93 = .ok (.iload 5, 2) := by decide +kernel
theorem dX2_nextMinute_95 : decode cX2_nextMinute 95 = .ok (.iadd, 1) := by decide +kernel
theorem dX2_nextMinute_96 : decode cX2_nextMinute 96 = .ok (.invokestatic 55, 3) := by decide +kernel
theorem dX2_nextMinute_99 : decode cX2_nextMinute 99 = .ok (.ireturn, 1) := by decide +kernel
theorem dX2_markSent_0 : decode cX2_markSent 0 = .ok (.aload_n 0, 1) := by decide +kernel
theorem dX2_markSent_1 : decode cX2_markSent 1 = .ok (.getfield 9, 3) := by decide +kernel
theorem dX2_markSent_4 : decode cX2_markSent 4 = .ok (.iload_n 1, 1) := by decide +kernel
theorem dX2_markSent_5 : decode cX2_markSent 5 = .ok (.iload_n 2, 1) := by decide +kernel
theorem dX2_markSent_6 : decode cX2_markSent 6 = .ok (.iconst 3, 1) := by decide +kernel
theorem dX2_markSent_7 : decode cX2_markSent 7 = .ok (.if_icmp .eq 7, 3) := by decide +kernel
theorem dX2_markSent_10 : decode cX2_markSent 10 = .ok (.iconst 1, 1) := by decide +kernel
theorem dX2_markSent_11 : decode cX2_markSent 11 = .ok (.goto 4, 3) := by decide +kernel
theorem dX2_markSent_14 : decode cX2_markSent 14 = .ok (.iconst 0, 1) := by decide +kernel
theorem dX2_markSent_15 : decode cX2_markSent 15 = .ok (.bastore, 1) := by decide +kernel
theorem dX2_markSent_16 : decode cX2_markSent 16 = .ok (.aload_n 0, 1) := by decide +kernel
theorem dX2_markSent_17 : decode cX2_markSent 17 = .ok (.getfield 15, 3) := by decide +kernel
theorem dX2_markSent_20 : decode cX2_markSent 20 = .ok (.iload_n 1, 1) := by decide +kernel
theorem dX2_markSent_21 : decode cX2_markSent 21 = .ok (.iload_n 3, 1) := by decide +kernel
theorem dX2_markSent_22 : decode cX2_markSent 22 = .ok (.iastore, 1) := by decide +kernel
theorem dX2_markSent_23 : decode cX2_markSent 23 = .ok (.aload_n 0, 1) := by decide +kernel
theorem dX2_markSent_24 : decode cX2_markSent 24 = .ok (.getfield 19, 3) := by decide +kernel
theorem dX2_markSent_27 : decode cX2_markSent 27 = .ok (.iload_n 1, 1) := by decide +kernel
theorem dX2_markSent_28 : decode cX2_markSent 28 = .ok (.aload_n 0, 1) := by decide +kernel
theorem dX2_markSent_29 : decode cX2_markSent 29 = .ok (.getfield 23, 3) := by decide +kernel
theorem dX2_markSent_32 : decode cX2_markSent 32 = .ok (.iload_n 1, 1) := by decide +kernel
theorem dX2_markSent_33 : decode cX2_markSent 33 = .ok (.laload, 1) := by decide +kernel
theorem dX2_markSent_34 : decode cX2_markSent 34 = .ok (.lastore, 1) := by decide +kernel
theorem dX2_markSent_35 : decode cX2_markSent 35 = .ok (.return_, 1) := by decide +kernel
theorem dX2_countOpen_0 : decode cX2_countOpen 0 = .ok (.iconst 0, 1) := by decide +kernel
theorem dX2_countOpen_1 : decode cX2_countOpen 1 = .ok (.istore_n 1, 1) := by decide +kernel
theorem dX2_countOpen_2 : decode cX2_countOpen 2 = .ok (.iconst 0, 1) := by decide +kernel
theorem dX2_countOpen_3 : decode cX2_countOpen 3 = .ok (.istore_n 2, 1) := by decide +kernel
theorem dX2_countOpen_4 : decode cX2_countOpen 4 = .ok (.iload_n 2, 1) := by decide +kernel
theorem dX2_countOpen_5 : decode cX2_countOpen 5 = .ok (.sipush 128, 3) := by decide +kernel
theorem dX2_countOpen_8 : decode cX2_countOpen 8 = .ok (.if_icmp .ge 21, 3) := by decide +kernel
theorem dX2_countOpen_11 : decode cX2_countOpen 11 = .ok (.aload_n 0, 1) := by decide +kernel
theorem dX2_countOpen_12 : decode cX2_countOpen 12 = .ok (.getfield 9, 3) := by decide +kernel
theorem dX2_countOpen_15 : decode cX2_countOpen 15 = .ok (.iload_n 2, 1) := by decide +kernel
theorem dX2_countOpen_16 : decode cX2_countOpen 16 = .ok (.baload, 1) := by decide +kernel
theorem dX2_countOpen_17 : decode cX2_countOpen 17 = .ok (.ifCond .eq 6, 3) := by decide +kernel
theorem dX2_countOpen_20 : decode cX2_countOpen 20 = .ok (.iinc 1 1, 3) := by decide +kernel
theorem dX2_countOpen_23 : decode cX2_countOpen 23 = .ok (.iinc 2 1, 3) := by decide +kernel
theorem dX2_countOpen_26 : decode cX2_countOpen 26 = .ok (.goto (-22), 3) := by decide +kernel
theorem dX2_countOpen_29 : decode cX2_countOpen 29 = .ok (.iload_n 1, 1) := by decide +kernel
theorem dX2_countOpen_30 : decode cX2_countOpen 30 = .ok (.ireturn, 1) := by decide +kernel
theorem dX2_countNonEmpty_0 : decode cX2_countNonEmpty 0 = .ok (.iconst 0, 1) := by decide +kernel
theorem dX2_countNonEmpty_1 : decode cX2_countNonEmpty 1 = .ok (.istore_n 1, 1) := by decide +kernel
theorem dX2_countNonEmpty_2 : decode cX2_countNonEmpty 2 = .ok (.iconst 0, 1) := by decide +kernel
theorem dX2_countNonEmpty_3 : decode cX2_countNonEmpty 3 = .ok (.istore_n 2, 1) := by decide +kernel
theorem dX2_countNonEmpty_4 : decode cX2_countNonEmpty 4 = .ok (.iload_n 2, 1) := by decide +kernel
theorem dX2_countNonEmpty_5 : decode cX2_countNonEmpty 5 = .ok (.sipush 128, 3) := by decide +kernel
theorem dX2_countNonEmpty_8 : decode cX2_countNonEmpty 8 = .ok (.if_icmp .ge 23, 3) := by decide +kernel
theorem dX2_countNonEmpty_11 : decode cX2_countNonEmpty 11 = .ok (.aload_n 0, 1) := by decide +kernel
theorem dX2_countNonEmpty_12 : decode cX2_countNonEmpty 12 = .ok (.getfield 23, 3) := by decide +kernel
theorem dX2_countNonEmpty_15 : decode cX2_countNonEmpty 15 = .ok (.iload_n 2, 1) := by decide +kernel
theorem dX2_countNonEmpty_16 : decode cX2_countNonEmpty 16 = .ok (.laload, 1) := by decide +kernel
theorem dX2_countNonEmpty_17 : decode cX2_countNonEmpty 17 = .ok (.lconst 0, 1) := by decide +kernel
theorem dX2_countNonEmpty_18 : decode cX2_countNonEmpty 18 = .ok (.lcmp, 1) := by decide +kernel
theorem dX2_countNonEmpty_19 : decode cX2_countNonEmpty 19 = .ok (.ifCond .eq 6, 3) := by decide +kernel
theorem dX2_countNonEmpty_22 : decode cX2_countNonEmpty 22 = .ok (.iinc 1 1, 3) := by decide +kernel
theorem dX2_countNonEmpty_25 : decode cX2_countNonEmpty 25 = .ok (.iinc 2 1, 3) := by decide +kernel
theorem dX2_countNonEmpty_28 : decode cX2_countNonEmpty 28 = .ok (.goto (-24), 3) := by decide +kernel
theorem dX2_countNonEmpty_31 : decode cX2_countNonEmpty 31 = .ok (.iload_n 1, 1) := by decide +kernel
theorem dX2_countNonEmpty_32 : decode cX2_countNonEmpty 32 = .ok (.ireturn, 1) := by decide +kernel
theorem dX2_keyAt_0 : decode cX2_keyAt 0 = .ok (.iload_n 1, 1) := by decide +kernel
theorem dX2_keyAt_1 : decode cX2_keyAt 1 = .ok (.istore_n 2, 1) := by decide +kernel
theorem dX2_keyAt_2 : decode cX2_keyAt 2 = .ok (.iconst 0, 1) := by decide +kernel
theorem dX2_keyAt_3 : decode cX2_keyAt 3 = .ok (.istore_n 3, 1) := by decide +kernel
theorem dX2_keyAt_4 : decode cX2_keyAt 4 = .ok (.iload_n 3, 1) := by decide +kernel
theorem dX2_keyAt_5 : decode cX2_keyAt 5 = .ok (.sipush 128, 3) := by decide +kernel
theorem dX2_keyAt_8 : decode cX2_keyAt 8 = .ok (.if_icmp .ge 32, 3) := by decide +kernel
theorem dX2_keyAt_11 : decode cX2_keyAt 11 = .ok (.aload_n 0, 1) := by decide +kernel
theorem dX2_keyAt_12 : decode cX2_keyAt 12 = .ok (.getfield 23, 3) := by decide +kernel
theorem dX2_keyAt_15 : decode cX2_keyAt 15 = .ok (.iload_n 3, 1) := by decide +kernel
theorem dX2_keyAt_16 : decode cX2_keyAt 16 = .ok (.laload, 1) := by decide +kernel
theorem dX2_keyAt_17 : decode cX2_keyAt 17 = .ok (.lconst 0, 1) := by decide +kernel
theorem dX2_keyAt_18 : decode cX2_keyAt 18 = .ok (.lcmp, 1) := by decide +kernel
theorem dX2_keyAt_19 : decode cX2_keyAt 19 = .ok (.ifCond .ne 6, 3) := by decide +kernel
theorem dX2_keyAt_22 : decode cX2_keyAt 22 = .ok (.goto 12, 3) := by decide +kernel
theorem dX2_keyAt_25 : decode cX2_keyAt 25 = .ok (.iload_n 2, 1) := by decide +kernel
theorem dX2_keyAt_26 : decode cX2_keyAt 26 = .ok (.ifCond .ne 5, 3) := by decide +kernel
theorem dX2_keyAt_29 : decode cX2_keyAt 29 = .ok (.iload_n 3, 1) := by decide +kernel
theorem dX2_keyAt_30 : decode cX2_keyAt 30 = .ok (.ireturn, 1) := by decide +kernel
theorem dX2_keyAt_31 : decode cX2_keyAt 31 = .ok (.iinc 2 (-1), 3) := by decide +kernel
theorem dX2_keyAt_34 : decode cX2_keyAt 34 = .ok (.iinc 3 1, 3) := by decide +kernel
theorem dX2_keyAt_37 : decode cX2_keyAt 37 = .ok (.goto (-33), 3) := by decide +kernel
theorem dX2_keyAt_40 : decode cX2_keyAt 40 = .ok (.iconst (-1), 1) := by decide +kernel
theorem dX2_keyAt_41 : decode cX2_keyAt 41 = .ok (.ireturn, 1) := by decide +kernel
theorem dX3_init_0 : decode cX3_init 0 = .ok (.aload_n 0, 1) := by decide +kernel
theorem dX3_init_1 : decode cX3_init 1 = .ok (.invokespecial 1, 3) := by decide +kernel
theorem dX3_init_4 : decode cX3_init 4 = .ok (.aload_n 0, 1) := by decide +kernel
theorem dX3_init_5 : decode cX3_init 5 = .ok (.aload_n 1, 1) := by decide +kernel
theorem dX3_init_6 : decode cX3_init 6 = .ok (.putfield 7, 3) := by decide +kernel
theorem dX3_init_9 : decode cX3_init 9 = .ok (.aload_n 0, 1) := by decide +kernel
theorem dX3_init_10 : decode cX3_init 10 = .ok (.aload_n 2, 1) := by decide +kernel
theorem dX3_init_11 : decode cX3_init 11 = .ok (.putfield 13, 3) := by decide +kernel
theorem dX3_init_14 : decode cX3_init 14 = .ok (.aload_n 0, 1) := by decide +kernel
theorem dX3_init_15 : decode cX3_init 15 = .ok (.iload_n 3, 1) := by decide +kernel
theorem dX3_init_16 : decode cX3_init 16 = .ok (.putfield 16, 3) := by decide +kernel
theorem dX3_init_19 : decode cX3_init 19 = .ok (.return_, 1) := by decide +kernel
theorem dX4_init_0 : decode cX4_init 0 = .ok (.aload_n 0, 1) := by decide +kernel
theorem dX4_init_1 : decode cX4_init 1 = .ok (.invokespecial 1, 3) := by decide +kernel
theorem dX4_init_4 : decode cX4_init 4 = .ok (.aload_n 0, 1) := by decide +kernel
theorem dX4_init_5 : decode cX4_init 5 = .ok (.sipush 150, 3) := by decide +kernel
theorem dX4_init_8 : decode cX4_init 8 = .ok (.newarray .int, 2) := by decide +kernel
theorem dX4_init_10 : decode cX4_init 10 = .ok (.putfield 9, 3) := by decide +kernel
theorem dX4_init_13 : decode cX4_init 13 = .ok (.return_, 1) := by decide +kernel
theorem dX4_copyFrom_0 : decode cX4_copyFrom 0 = .ok (.aload_n 0, 1) := by decide +kernel
theorem dX4_copyFrom_1 : decode cX4_copyFrom 1 = .ok (.aload_n 1, 1) := by decide +kernel
theorem dX4_copyFrom_2 : decode cX4_copyFrom 2 = .ok (.getfield 13, 3) := by decide +kernel
theorem dX4_copyFrom_5 : decode cX4_copyFrom 5 = .ok (.putfield 13, 3) := by decide +kernel
theorem dX4_copyFrom_8 : decode cX4_copyFrom 8 = .ok (.aload_n 1, 1) := by decide +kernel
theorem dX4_copyFrom_9 : decode cX4_copyFrom 9 = .ok (.getfield 9, 3) := by decide +kernel
theorem dX4_copyFrom_12 : decode cX4_copyFrom 12 = .ok (.iconst 0, 1) := by decide +kernel
theorem dX4_copyFrom_13 : decode cX4_copyFrom 13 = .ok (.aload_n 0, 1) := by decide +kernel
theorem dX4_copyFrom_14 : decode cX4_copyFrom 14 = .ok (.getfield 9, 3) := by decide +kernel
theorem dX4_copyFrom_17 : decode cX4_copyFrom 17 = .ok (.iconst 0, 1) := by decide +kernel
theorem dX4_copyFrom_18 : decode cX4_copyFrom 18 = .ok (.aload_n 0, 1) := by decide +kernel
theorem dX4_copyFrom_19 : decode cX4_copyFrom 19 = .ok (.getfield 9, 3) := by decide +kernel
theorem dX4_copyFrom_22 : decode cX4_copyFrom 22 = .ok (.arraylength, 1) := by decide +kernel
theorem dX4_copyFrom_23 : decode cX4_copyFrom 23 = .ok (.invokestatic 17, 3) := by decide +kernel
theorem dX4_copyFrom_26 : decode cX4_copyFrom 26 = .ok (.return_, 1) := by decide +kernel
theorem dX4_write_0 : decode cX4_write 0 = .ok (.aload_n 0, 1) := by decide +kernel
theorem dX4_write_1 : decode cX4_write 1 = .ok (.getfield 13, 3) := by decide +kernel
theorem dX4_write_4 : decode cX4_write 4 = .ok (.bipush 30, 2) := by decide +kernel
theorem dX4_write_6 : decode cX4_write 6 = .ok (.irem, 1) := by decide +kernel
theorem dX4_write_7 : decode cX4_write 7 = .ok (.iconst 5, 1) := by decide +kernel
theorem dX4_write_8 : decode cX4_write 8 = .ok (.imul, 1) := by decide +kernel
theorem dX4_write_9 : decode cX4_write 9 = .ok (.istore 6, 2) := by decide +kernel
theorem dX4_write_11 : decode cX4_write 11 = .ok (.aload_n 0, 1) := by decide +kernel
theorem dX4_write_12 : decode cX4_write 12 = .ok (.getfield 9, 3) := by decide +kernel
theorem dX4_write_15 : decode cX4_write 15 = .ok (.iload 6, 2) := by decide +kernel
theorem dX4_write_17 : decode cX4_write 17 = .ok (.iload_n 1, 1) := by decide +kernel
theorem dX4_write_18 : decode cX4_write 18 = .ok (.iastore, 1) := by decide +kernel
theorem dX4_write_19 : decode cX4_write 19 = .ok (.aload_n 0, 1) := by decide +kernel
theorem dX4_write_20 : decode cX4_write 20 = .ok (.getfield 9, 3) := by decide +kernel
theorem dX4_write_23 : decode cX4_write 23 = .ok (.iload 6, 2) := by decide +kernel
theorem dX4_write_25 : decode cX4_write 25 = .ok (.iconst 1, 1) := by decide +kernel
theorem dX4_write_26 : decode cX4_write 26 = .ok (.iadd, 1) := by decide +kernel
theorem dX4_write_27 : decode cX4_write 27 = .ok (.iload_n 2, 1) := by decide +kernel
theorem dX4_write_28 : decode cX4_write 28 = .ok (.iastore, 1) := by decide +kernel
theorem dX4_write_29 : decode cX4_write 29 = .ok (.aload_n 0, 1) := by decide +kernel
theorem dX4_write_30 : decode cX4_write 30 = .ok (.getfield 9, 3) := by decide +kernel
theorem dX4_write_33 : decode cX4_write 33 = .ok (.iload 6, 2) := by decide +kernel
theorem dX4_write_35 : decode cX4_write 35 = .ok (.iconst 2, 1) := by decide +kernel
theorem dX4_write_36 : decode cX4_write 36 = .ok (.iadd, 1) := by decide +kernel
theorem dX4_write_37 : decode cX4_write 37 = .ok (.iload_n 3, 1) := by decide +kernel
theorem dX4_write_38 : decode cX4_write 38 = .ok (.iastore, 1) := by decide +kernel
theorem dX4_write_39 : decode cX4_write 39 = .ok (.aload_n 0, 1) := by decide +kernel
theorem dX4_write_40 : decode cX4_write 40 = .ok (.getfield 9, 3) := by decide +kernel
theorem dX4_write_43 : decode cX4_write 43 = .ok (.iload 6, 2) := by decide +kernel
theorem dX4_write_45 : decode cX4_write 45 = .ok (.iconst 3, 1) := by decide +kernel
theorem dX4_write_46 : decode cX4_write 46 = .ok (.iadd, 1) := by decide +kernel
theorem dX4_write_47 : decode cX4_write 47 = .ok (.iload 4, 2) := by decide +kernel
theorem dX4_write_49 : decode cX4_write 49 = .ok (.iastore, 1) := by decide +kernel
theorem dX4_write_50 : decode cX4_write 50 = .ok (.aload_n 0, 1) := by decide +kernel
theorem dX4_write_51 : decode cX4_write 51 = .ok (.getfield 9, 3) := by decide +kernel
theorem dX4_write_54 : decode cX4_write 54 = .ok (.iload 6, 2) := by decide +kernel
theorem dX4_write_56 : decode cX4_write 56 = .ok (.iconst 4, 1) := by decide +kernel
theorem dX4_write_57 : decode cX4_write 57 = .ok (.iadd, 1) := by decide +kernel
theorem dX4_write_58 : decode cX4_write 58 = .ok (.iload 5, 2) := by decide +kernel
theorem dX4_write_60 : decode cX4_write 60 = .ok (.iastore, 1) := by decide +kernel
theorem dX4_write_61 : decode cX4_write 61 = .ok (.aload_n 0, 1) := by decide +kernel
theorem dX4_write_62 : decode cX4_write 62 = .ok (.dup, 1) := by decide +kernel
theorem dX4_write_63 : decode cX4_write 63 = .ok (.getfield 13, 3) := by decide +kernel
theorem dX4_write_66 : decode cX4_write 66 = .ok (.iconst 1, 1) := by decide +kernel
theorem dX4_write_67 : decode cX4_write 67 = .ok (.iadd, 1) := by decide +kernel
theorem dX4_write_68 : decode cX4_write 68 = .ok (.putfield 13, 3) := by decide +kernel
theorem dX4_write_71 : decode cX4_write 71 = .ok (.return_, 1) := by decide +kernel
theorem dX4_keeps_0 : decode cX4_keeps 0 = .ok (.iload_n 1, 1) := by decide +kernel
theorem dX4_keeps_1 : decode cX4_keeps 1 = .ok (.ifCond .lt 21, 3) := by decide +kernel
theorem dX4_keeps_4 : decode cX4_keeps 4 = .ok (.iload_n 1, 1) := by decide +kernel
theorem dX4_keeps_5 : decode cX4_keeps 5 = .ok (.bipush 30, 2) := by decide +kernel
theorem dX4_keeps_7 : decode cX4_keeps 7 = .ok (.if_icmp .ge 15, 3) := by decide +kernel
theorem dX4_keeps_10 : decode cX4_keeps 10 = .ok (.iload_n 1, 1) := by decide +kernel
theorem dX4_keeps_11 : decode cX4_keeps 11 = .ok (.aload_n 0, 1) := by decide +kernel
theorem dX4_keeps_12 : decode cX4_keeps 12 = .ok (.getfield 13, 3) := by decide +kernel
theorem dX4_keeps_15 : decode cX4_keeps 15 = .ok (.if_icmp .ge 7, 3) := by decide +kernel
theorem dX4_keeps_18 : decode cX4_keeps 18 = .ok (.iconst 1, 1) := by decide +kernel
theorem dX4_keeps_19 : decode cX4_keeps 19 = .ok (.goto 4, 3) := by decide +kernel
theorem dX4_keeps_22 : decode cX4_keeps 22 = .ok (.iconst 0, 1) := by decide +kernel
theorem dX4_keeps_23 : decode cX4_keeps 23 = .ok (.ireturn, 1) := by decide +kernel
theorem dX4_read_0 : decode cX4_read 0 = .ok (.aload_n 0, 1) := by decide +kernel
theorem dX4_read_1 : decode cX4_read 1 = .ok (.getfield 9, 3) := by decide +kernel
theorem dX4_read_4 : decode cX4_read 4 = .ok (.aload_n 0, 1) := by decide +kernel
theorem dX4_read_5 : decode cX4_read 5 = .ok (.getfield 13, 3) := by decide +kernel
theorem dX4_read_8 : decode cX4_read 8 = .ok (.iconst 1, 1) := by decide +kernel
theorem dX4_read_9 : decode cX4_read 9 = .ok (.isub, 1) := by decide +kernel
theorem dX4_read_10 : decode cX4_read 10 = .ok (.iload_n 1, 1) := by decide +kernel
theorem dX4_read_11 : decode cX4_read 11 = .ok (.isub, 1) := by decide +kernel
theorem dX4_read_12 : decode cX4_read 12 = .ok (.bipush 30, 2) := by decide +kernel
theorem dX4_read_14 : decode cX4_read 14 = .ok (.irem, 1) := by decide +kernel
theorem dX4_read_15 : decode cX4_read 15 = .ok (.iconst 5, 1) := by decide +kernel
theorem dX4_read_16 : decode cX4_read 16 = .ok (.imul, 1) := by decide +kernel
theorem dX4_read_17 : decode cX4_read 17 = .ok (.iload_n 2, 1) := by decide +kernel
theorem dX4_read_18 : decode cX4_read 18 = .ok (.iadd, 1) := by decide +kernel
theorem dX4_read_19 : decode cX4_read 19 = .ok (.iaload, 1) := by decide +kernel
theorem dX4_read_20 : decode cX4_read 20 = .ok (.ireturn, 1) := by decide +kernel
theorem dX5_init_0 : decode cX5_init 0 = .ok (.aload_n 0, 1) := by decide +kernel
theorem dX5_init_1 : decode cX5_init 1 = .ok (.invokespecial 1, 3) := by decide +kernel
theorem dX5_init_4 : decode cX5_init 4 = .ok (.aload_n 0, 1) := by decide +kernel
theorem dX5_init_5 : decode cX5_init 5 = .ok (.iconst 4, 1) := by decide +kernel
theorem dX5_init_6 : decode cX5_init 6 = .ok (.newarray .int, 2) := by decide +kernel
theorem dX5_init_8 : decode cX5_init 8 = .ok (.putfield 9, 3) := by decide +kernel
theorem dX5_init_11 : decode cX5_init 11 = .ok (.aload_n 0, 1) := by decide +kernel
theorem dX5_init_12 : decode cX5_init 12 = .ok (.iconst 4, 1) := by decide +kernel
theorem dX5_init_13 : decode cX5_init 13 = .ok (.newarray .boolean, 2) := by decide +kernel
theorem dX5_init_15 : decode cX5_init 15 = .ok (.putfield 13, 3) := by decide +kernel
theorem dX5_init_18 : decode cX5_init 18 = .ok (.return_, 1) := by decide +kernel
theorem dX6_init_0 : decode cX6_init 0 = .ok (.aload_n 0, 1) := by decide +kernel
theorem dX6_init_1 : decode cX6_init 1 = .ok (.invokespecial 1, 3) := by decide +kernel
theorem dX6_init_4 : decode cX6_init 4 = .ok (.aload_n 0, 1) := by decide +kernel
theorem dX6_init_5 : decode cX6_init 5 = .ok (.aload_n 1, 1) := by decide +kernel
theorem dX6_init_6 : decode cX6_init 6 = .ok (.putfield 7, 3) := by decide +kernel
theorem dX6_init_9 : decode cX6_init 9 = .ok (.aload_n 0, 1) := by decide +kernel
theorem dX6_init_10 : decode cX6_init 10 = .ok (.iload_n 2, 1) := by decide +kernel
theorem dX6_init_11 : decode cX6_init 11 = .ok (.putfield 13, 3) := by decide +kernel
theorem dX6_init_14 : decode cX6_init 14 = .ok (.aload_n 0, 1) := by decide +kernel
theorem dX6_init_15 : decode cX6_init 15 = .ok (.iload_n 3, 1) := by decide +kernel
theorem dX6_init_16 : decode cX6_init 16 = .ok (.putfield 17, 3) := by decide +kernel
theorem dX6_init_19 : decode cX6_init 19 = .ok (.aload_n 0, 1) := by decide +kernel
theorem dX6_init_20 : decode cX6_init 20 = .ok (.iload 4, 2) := by decide +kernel
theorem dX6_init_22 : decode cX6_init 22 = .ok (.putfield 20, 3) := by decide +kernel
theorem dX6_init_25 : decode cX6_init 25 = .ok (.aload_n 0, 1) := by decide +kernel
theorem dX6_init_26 : decode cX6_init 26 = .ok (.iload 5, 2) := by decide +kernel
theorem dX6_init_28 : decode cX6_init 28 = .ok (.putfield 23, 3) := by decide +kernel
theorem dX6_init_31 : decode cX6_init 31 = .ok (.return_, 1) := by decide +kernel
theorem dX6_accepts_0 : decode cX6_accepts 0 = .ok (.aload_n 0, 1) := by decide +kernel
theorem dX6_accepts_1 : decode cX6_accepts 1 = .ok (.getfield 13, 3) := by decide +kernel
theorem dX6_accepts_4 : decode cX6_accepts 4 = .ok (.bipush 60, 2) := by decide +kernel
theorem dX6_accepts_6 : decode cX6_accepts 6 = .ok (.if_icmp .ne 17, 3) := by decide +kernel
theorem dX6_accepts_9 : decode cX6_accepts 9 = .ok (.iload_n 1, 1) := by decide +kernel
theorem dX6_accepts_10 : decode cX6_accepts 10 = .ok (.aload_n 0, 1) := by decide +kernel
theorem dX6_accepts_11 : decode cX6_accepts 11 = .ok (.getfield 17, 3) := by decide +kernel
theorem dX6_accepts_14 : decode cX6_accepts 14 = .ok (.if_icmp .ge 7, 3) := by decide +kernel
theorem dX6_accepts_17 : decode cX6_accepts 17 = .ok (.iconst 1, 1) := by decide +kernel
theorem dX6_accepts_18 : decode cX6_accepts 18 = .ok (.goto 4, 3) := by decide +kernel
theorem dX6_accepts_21 : decode cX6_accepts 21 = .ok (.iconst 0, 1) := by decide +kernel
theorem dX6_accepts_22 : decode cX6_accepts 22 = .ok (.ireturn, 1) := by decide +kernel
theorem dX6_accepts_23 : decode cX6_accepts 23 = .ok (.aload_n 0, 1) := by decide +kernel
theorem dX6_accepts_24 : decode cX6_accepts 24 = .ok (.getfield 13, 3) := by decide +kernel
theorem dX6_accepts_27 : decode cX6_accepts 27 = .ok (.bipush 62, 2) := by decide +kernel
theorem dX6_accepts_29 : decode cX6_accepts 29 = .ok (.if_icmp .ne 17, 3) := by decide +kernel
theorem dX6_accepts_32 : decode cX6_accepts 32 = .ok (.iload_n 1, 1) := by decide +kernel
theorem dX6_accepts_33 : decode cX6_accepts 33 = .ok (.aload_n 0, 1) := by decide +kernel
theorem dX6_accepts_34 : decode cX6_accepts 34 = .ok (.getfield 17, 3) := by decide +kernel
theorem dX6_accepts_37 : decode cX6_accepts 37 = .ok (.if_icmp .le 7, 3) := by decide +kernel
theorem dX6_accepts_40 : decode cX6_accepts 40 = .ok (.iconst 1, 1) := by decide +kernel
theorem dX6_accepts_41 : decode cX6_accepts 41 = .ok (.goto 4, 3) := by decide +kernel
theorem dX6_accepts_44 : decode cX6_accepts 44 = .ok (.iconst 0, 1) := by decide +kernel
theorem dX6_accepts_45 : decode cX6_accepts 45 = .ok (.ireturn, 1) := by decide +kernel
theorem dX6_accepts_46 : decode cX6_accepts 46 = .ok (.iload_n 1, 1) := by decide +kernel
theorem dX6_accepts_47 : decode cX6_accepts 47 = .ok (.aload_n 0, 1) := by decide +kernel
theorem dX6_accepts_48 : decode cX6_accepts 48 = .ok (.getfield 17, 3) := by decide +kernel
theorem dX6_accepts_51 : decode cX6_accepts 51 = .ok (.if_icmp .ne 7, 3) := by decide +kernel
theorem dX6_accepts_54 : decode cX6_accepts 54 = .ok (.iconst 1, 1) := by decide +kernel
theorem dX6_accepts_55 : decode cX6_accepts 55 = .ok (.goto 4, 3) := by decide +kernel
theorem dX6_accepts_58 : decode cX6_accepts 58 = .ok (.iconst 0, 1) := by decide +kernel
theorem dX6_accepts_59 : decode cX6_accepts 59 = .ok (.ireturn, 1) := by decide +kernel
theorem dX7_init_0 : decode cX7_init 0 = .ok (.aload_n 0, 1) := by decide +kernel
theorem dX7_init_1 : decode cX7_init 1 = .ok (.invokespecial 3, 3) := by decide +kernel
theorem dX7_init_4 : decode cX7_init 4 = .ok (.aload_n 0, 1) := by decide +kernel
theorem dX7_init_5 : decode cX7_init 5 = .ok (.bipush 36, 2) := by decide +kernel
theorem dX7_init_7 : decode cX7_init 7 = .ok (.newarray .int, 2) := by decide +kernel
theorem dX7_init_9 : decode cX7_init 9 = .ok (.putfield 9, 3) := by decide +kernel
theorem dX7_init_12 : decode cX7_init 12 = .ok (.aload_n 0, 1) := by decide +kernel
theorem dX7_init_13 : decode cX7_init 13 = .ok (.bipush 12, 2) := by decide +kernel
theorem dX7_init_15 : decode cX7_init 15 = .ok (.newarray .int, 2) := by decide +kernel
theorem dX7_init_17 : decode cX7_init 17 = .ok (.putfield 15, 3) := by decide +kernel
theorem dX7_init_20 : decode cX7_init 20 = .ok (.aload_n 0, 1) := by decide +kernel
theorem dX7_init_21 : decode cX7_init 21 = .ok (.bipush 12, 2) := by decide +kernel
theorem dX7_init_23 : decode cX7_init 23 = .ok (.newarray .boolean, 2) := by decide +kernel
theorem dX7_init_25 : decode cX7_init 25 = .ok (.putfield 18, 3) := by decide +kernel
theorem dX7_init_28 : decode cX7_init 28 = .ok (.aload_n 0, 1) := by decide +kernel
theorem dX7_init_29 : decode cX7_init 29 = .ok (.iconst 5, 1) := by decide +kernel
theorem dX7_init_30 : decode cX7_init 30 = .ok (.anewarray 22, 3) := by decide +kernel
theorem dX7_init_33 : decode cX7_init 33 = .ok (.putfield 24, 3) := by decide +kernel
theorem dX7_init_36 : decode cX7_init 36 = .ok (.aload_n 0, 1) := by decide +kernel
theorem dX7_init_37 : decode cX7_init 37 = .ok (.bipush 6, 2) := by decide +kernel
theorem dX7_init_39 : decode cX7_init 39 = .ok (.anewarray 28, 3) := by decide +kernel
theorem dX7_init_42 : decode cX7_init 42 = .ok (.putfield 30, 3) := by decide +kernel
theorem dX7_init_45 : decode cX7_init 45 = .ok (.aload_n 0, 1) := by decide +kernel
theorem dX7_init_46 : decode cX7_init 46 = .ok (.iconst 4, 1) := by decide +kernel
theorem dX7_init_47 : decode cX7_init 47 = .ok (.anewarray 34, 3) := by decide +kernel
theorem dX7_init_50 : decode cX7_init 50 = .ok (.putfield 36, 3) := by decide +kernel
theorem dX7_init_53 : decode cX7_init 53 = .ok (.aload_n 0, 1) := by decide +kernel
theorem dX7_init_54 : decode cX7_init 54 = .ok (.iconst 5, 1) := by decide +kernel
theorem dX7_init_55 : decode cX7_init 55 = .ok (.newarray .int, 2) := by decide +kernel
theorem dX7_init_57 : decode cX7_init 57 = .ok (.dup, 1) := by decide +kernel
theorem dX7_init_58 : decode cX7_init 58 = .ok (.iconst 0, 1) := by decide +kernel
theorem dX7_init_59 : decode cX7_init 59 = .ok (.iconst 5, 1) := by decide +kernel
theorem dX7_init_60 : decode cX7_init 60 = .ok (.iastore, 1) := by decide +kernel
theorem dX7_init_61 : decode cX7_init 61 = .ok (.dup, 1) := by decide +kernel
theorem dX7_init_62 : decode cX7_init 62 = .ok (.iconst 1, 1) := by decide +kernel
theorem dX7_init_63 : decode cX7_init 63 = .ok (.bipush 60, 2) := by decide +kernel
theorem dX7_init_65 : decode cX7_init 65 = .ok (.iastore, 1) := by decide +kernel
theorem dX7_init_66 : decode cX7_init 66 = .ok (.dup, 1) := by decide +kernel
theorem dX7_init_67 : decode cX7_init 67 = .ok (.iconst 2, 1) := by decide +kernel
theorem dX7_init_68 : decode cX7_init 68 = .ok (.bipush 30, 2) := by decide +kernel
theorem dX7_init_70 : decode cX7_init 70 = .ok (.iastore, 1) := by decide +kernel
theorem dX7_init_71 : decode cX7_init 71 = .ok (.dup, 1) := by decide +kernel
theorem dX7_init_72 : decode cX7_init 72 = .ok (.iconst 3, 1) := by decide +kernel
theorem dX7_init_73 : decode cX7_init 73 = .ok (.iconst 4, 1) := by decide +kernel
theorem dX7_init_74 : decode cX7_init 74 = .ok (.iastore, 1) := by decide +kernel
theorem dX7_init_75 : decode cX7_init 75 = .ok (.dup, 1) := by decide +kernel
theorem dX7_init_76 : decode cX7_init 76 = .ok (.iconst 4, 1) := by decide +kernel
theorem dX7_init_77 : decode cX7_init 77 = .ok (.iconst 1, 1) := by decide +kernel
theorem dX7_init_78 : decode cX7_init 78 = .ok (.iastore, 1) := by decide +kernel
theorem dX7_init_79 : decode cX7_init 79 = .ok (.putfield 40, 3) := by decide +kernel
theorem dX7_init_82 : decode cX7_init 82 = .ok (.aload_n 0, 1) := by decide +kernel
theorem dX7_init_83 : decode cX7_init 83 = .ok (.bipush 20, 2) := by decide +kernel
theorem dX7_init_85 : decode cX7_init 85 = .ok (.newarray .long, 2) := by decide +kernel
theorem dX7_init_87 : decode cX7_init 87 = .ok (.putfield 43, 3) := by decide +kernel
theorem dX7_init_90 : decode cX7_init 90 = .ok (.aload_n 0, 1) := by decide +kernel
theorem dX7_init_91 : decode cX7_init 91 = .ok (.invokevirtual 47, 3) := by decide +kernel
theorem dX7_init_94 : decode cX7_init 94 = .ok (.return_, 1) := by decide +kernel
theorem dX7_copyFrom_0 : decode cX7_copyFrom 0 = .ok (.aload_n 1, 1) := by decide +kernel
theorem dX7_copyFrom_1 : decode cX7_copyFrom 1 = .ok (.getfield 9, 3) := by decide +kernel
theorem dX7_copyFrom_4 : decode cX7_copyFrom 4 = .ok (.iconst 0, 1) := by decide +kernel
theorem dX7_copyFrom_5 : decode cX7_copyFrom 5 = .ok (.aload_n 0, 1) := by decide +kernel
theorem dX7_copyFrom_6 : decode cX7_copyFrom 6 = .ok (.getfield 9, 3) := by decide +kernel
theorem dX7_copyFrom_9 : decode cX7_copyFrom 9 = .ok (.iconst 0, 1) := by decide +kernel
theorem dX7_copyFrom_10 : decode cX7_copyFrom 10 = .ok (.aload_n 0, 1) := by decide +kernel
theorem dX7_copyFrom_11 : decode cX7_copyFrom 11 = .ok (.getfield 9, 3) := by decide +kernel
theorem dX7_copyFrom_14 : decode cX7_copyFrom 14 = .ok (.arraylength, 1) := by decide +kernel
theorem dX7_copyFrom_15 : decode cX7_copyFrom 15 = .ok (.invokestatic 50, 3) := by decide +kernel
theorem dX7_copyFrom_18 : decode cX7_copyFrom 18 = .ok (.aload_n 1, 1) := by decide +kernel
theorem dX7_copyFrom_19 : decode cX7_copyFrom 19 = .ok (.getfield 15, 3) := by decide +kernel
theorem dX7_copyFrom_22 : decode cX7_copyFrom 22 = .ok (.iconst 0, 1) := by decide +kernel
theorem dX7_copyFrom_23 : decode cX7_copyFrom 23 = .ok (.aload_n 0, 1) := by decide +kernel
theorem dX7_copyFrom_24 : decode cX7_copyFrom 24 = .ok (.getfield 15, 3) := by decide +kernel
theorem dX7_copyFrom_27 : decode cX7_copyFrom 27 = .ok (.iconst 0, 1) := by decide +kernel
theorem dX7_copyFrom_28 : decode cX7_copyFrom 28 = .ok (.aload_n 0, 1) := by decide +kernel
theorem dX7_copyFrom_29 : decode cX7_copyFrom 29 = .ok (.getfield 15, 3) := by decide +kernel
theorem dX7_copyFrom_32 : decode cX7_copyFrom 32 = .ok (.arraylength, 1) := by decide +kernel
theorem dX7_copyFrom_33 : decode cX7_copyFrom 33 = .ok (.invokestatic 50, 3) := by decide +kernel
theorem dX7_copyFrom_36 : decode cX7_copyFrom 36 = .ok (.iconst 0, 1) := by decide +kernel
theorem dX7_copyFrom_37 : decode cX7_copyFrom 37 = .ok (.istore_n 2, 1) := by decide +kernel
theorem dX7_copyFrom_38 : decode cX7_copyFrom 38 = .ok (.iload_n 2, 1) := by decide +kernel
theorem dX7_copyFrom_39 : decode cX7_copyFrom 39 = .ok (.bipush 12, 2) := by decide +kernel
theorem dX7_copyFrom_41 : decode cX7_copyFrom 41 = .ok (.if_icmp .ge 21, 3) := by decide +kernel
theorem dX7_copyFrom_44 : decode cX7_copyFrom 44 = .ok (.aload_n 0, 1) := by decide +kernel
theorem dX7_copyFrom_45 : decode cX7_copyFrom 45 = .ok (.getfield 18, 3) := by decide +kernel
theorem dX7_copyFrom_48 : decode cX7_copyFrom 48 = .ok (.iload_n 2, 1) := by decide +kernel
theorem dX7_copyFrom_49 : decode cX7_copyFrom 49 = .ok (.aload_n 1, 1) := by decide +kernel
theorem dX7_copyFrom_50 : decode cX7_copyFrom 50 = .ok (.getfield 18, 3) := by decide +kernel
theorem dX7_copyFrom_53 : decode cX7_copyFrom 53 = .ok (.iload_n 2, 1) := by decide +kernel
theorem dX7_copyFrom_54 : decode cX7_copyFrom 54 = .ok (.baload, 1) := by decide +kernel
theorem dX7_copyFrom_55 : decode cX7_copyFrom 55 = .ok (.bastore, 1) := by decide +kernel
theorem dX7_copyFrom_56 : decode cX7_copyFrom 56 = .ok (.iinc 2 1, 3) := by decide +kernel
theorem dX7_copyFrom_59 : decode cX7_copyFrom 59 = .ok (.goto (-21), 3) := by decide +kernel
theorem dX7_copyFrom_62 : decode cX7_copyFrom 62 = .ok (.iconst 0, 1) := by decide +kernel
theorem dX7_copyFrom_63 : decode cX7_copyFrom 63 = .ok (.istore_n 2, 1) := by decide +kernel
theorem dX7_copyFrom_64 : decode cX7_copyFrom 64 = .ok (.iload_n 2, 1) := by decide +kernel
theorem dX7_copyFrom_65 : decode cX7_copyFrom 65 = .ok (.iconst 5, 1) := by decide +kernel
