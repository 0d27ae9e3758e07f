theorem dL_init_0 : decode cL_init 0 = .ok (.aload_n 0, 1) := by decide +kernel
theorem dL_init_1 : decode cL_init 1 = .ok (.invokespecial 3, 3) := by decide +kernel
theorem dL_init_4 : decode cL_init 4 = .ok (.aload_n 0, 1) := by decide +kernel
theorem dL_init_5 : decode cL_init 5 = .ok (.bipush 24, 2) := by decide +kernel
theorem dL_init_7 : decode cL_init 7 = .ok (.newarray .int, 2) := by decide +kernel
theorem dL_init_9 : decode cL_init 9 = .ok (.putfield 9, 3) := by decide +kernel
theorem dL_init_12 : decode cL_init 12 = .ok (.aload_n 0, 1) := by decide +kernel
theorem dL_init_13 : decode cL_init 13 = .ok (.bipush 24, 2) := by decide +kernel
theorem dL_init_15 : decode cL_init 15 = .ok (.newarray .int, 2) := by decide +kernel
theorem dL_init_17 : decode cL_init 17 = .ok (.putfield 15, 3) := by decide +kernel
theorem dL_init_20 : decode cL_init 20 = .ok (.aload_n 0, 1) := by decide +kernel
theorem dL_init_21 : decode cL_init 21 = .ok (.bipush 24, 2) := by decide +kernel
theorem dL_init_23 : decode cL_init 23 = .ok (.newarray .int, 2) := by decide +kernel
theorem dL_init_25 : decode cL_init 25 = .ok (.putfield 18, 3) := by decide +kernel
theorem dL_init_28 : decode cL_init 28 = .ok (.aload_n 0, 1) := by decide +kernel
theorem dL_init_29 : decode cL_init 29 = .ok (.iconst 0, 1) := by decide +kernel
theorem dL_init_30 : decode cL_init 30 = .ok (.putfield 21, 3) := by decide +kernel
theorem dL_init_33 : decode cL_init 33 = .ok (.aload_n 0, 1) := by decide +kernel
theorem dL_init_34 : decode cL_init 34 = .ok (.invokevirtual 25, 3) := by decide +kernel
theorem dL_init_37 : decode cL_init 37 = .ok (.return_, 1) := by decide +kernel
theorem dL_clear_0 : decode cL_clear 0 = .ok (.aload_n 0, 1) := by decide +kernel
theorem dL_clear_1 : decode cL_clear 1 = .ok (.getfield 9, 3) := by decide +kernel
theorem dL_clear_4 : decode cL_clear 4 = .ok (.ldc 28, 2) := by decide +kernel
theorem dL_clear_6 : decode cL_clear 6 = .ok (.invokestatic 29, 3) := by decide +kernel
theorem dL_clear_9 : decode cL_clear 9 = .ok (.aload_n 0, 1) := by decide +kernel
theorem dL_clear_10 : decode cL_clear 10 = .ok (.getfield 15, 3) := by decide +kernel
theorem dL_clear_13 : decode cL_clear 13 = .ok (.ldc 28, 2) := by decide +kernel
theorem dL_clear_15 : decode cL_clear 15 = .ok (.invokestatic 29, 3) := by decide +kernel
theorem dL_clear_18 : decode cL_clear 18 = .ok (.aload_n 0, 1) := by decide +kernel
theorem dL_clear_19 : decode cL_clear 19 = .ok (.getfield 18, 3) := by decide +kernel
theorem dL_clear_22 : decode cL_clear 22 = .ok (.ldc 28, 2) := by decide +kernel
theorem dL_clear_24 : decode cL_clear 24 = .ok (.invokestatic 29, 3) := by decide +kernel
theorem dL_clear_27 : decode cL_clear 27 = .ok (.aload_n 0, 1) := by decide +kernel
theorem dL_clear_28 : decode cL_clear 28 = .ok (.iconst 0, 1) := by decide +kernel
theorem dL_clear_29 : decode cL_clear 29 = .ok (.putfield 21, 3) := by decide +kernel
theorem dL_clear_32 : decode cL_clear 32 = .ok (.return_, 1) := by decide +kernel
theorem dL_settle_0 : decode cL_settle 0 = .ok (.aload_n 0, 1) := by decide +kernel
theorem dL_settle_1 : decode cL_settle 1 = .ok (.invokevirtual 25, 3) := by decide +kernel
theorem dL_settle_4 : decode cL_settle 4 = .ok (.aload_n 1, 1) := by decide +kernel
theorem dL_settle_5 : decode cL_settle 5 = .ok (.iload_n 2, 1) := by decide +kernel
theorem dL_settle_6 : decode cL_settle 6 = .ok (.invokevirtual 35, 3) := by decide +kernel
theorem dL_settle_9 : decode cL_settle 9 = .ok (.ifCond .ne 4, 3) := by decide +kernel
theorem dL_settle_12 : decode cL_settle 12 = .ok (.return_, 1) := by decide +kernel
theorem dL_settle_13 : decode cL_settle 13 = .ok (.aload_n 0, 1) := by decide +kernel
theorem dL_settle_14 : decode cL_settle 14 = .ok (.getfield 9, 3) := by decide +kernel
theorem dL_settle_17 : decode cL_settle 17 = .ok (.iload_n 2, 1) := by decide +kernel
theorem dL_settle_18 : decode cL_settle 18 = .ok (.iconst 0, 1) := by decide +kernel
theorem dL_settle_19 : decode cL_settle 19 = .ok (.iastore, 1) := by decide +kernel
theorem dL_settle_20 : decode cL_settle 20 = .ok (.aload_n 0, 1) := by decide +kernel
theorem dL_settle_21 : decode cL_settle 21 = .ok (.getfield 15, 3) := by decide +kernel
theorem dL_settle_24 : decode cL_settle 24 = .ok (.iload_n 2, 1) := by decide +kernel
theorem dL_settle_25 : decode cL_settle 25 = .ok (.iconst 0, 1) := by decide +kernel
theorem dL_settle_26 : decode cL_settle 26 = .ok (.iastore, 1) := by decide +kernel
theorem dL_settle_27 : decode cL_settle 27 = .ok (.iconst 1, 1) := by decide +kernel
theorem dL_settle_28 : decode cL_settle 28 = .ok (.iload_n 2, 1) := by decide +kernel
theorem dL_settle_29 : decode cL_settle 29 = .ok (.ishl, 1) := by decide +kernel
theorem dL_settle_30 : decode cL_settle 30 = .ok (.istore_n 3, 1) := by decide +kernel
theorem dL_settle_31 : decode cL_settle 31 = .ok (.iconst 0, 1) := by decide +kernel
theorem dL_settle_32 : decode cL_settle 32 = .ok (.istore 4, 2) := by decide +kernel
theorem dL_settle_34 : decode cL_settle 34 = .ok (.iload 4, 2) := by decide +kernel
theorem dL_settle_36 : decode cL_settle 36 = .ok (.aload_n 1, 1) := by decide +kernel
theorem dL_settle_37 : decode cL_settle 37 = .ok (.getfield 41, 3) := by decide +kernel
theorem dL_settle_40 : decode cL_settle 40 = .ok (.if_icmp .ge 56, 3) := by decide +kernel
theorem dL_settle_43 : decode cL_settle 43 = .ok (.iload_n 3, 1) := by decide +kernel
theorem dL_settle_44 : decode cL_settle 44 = .ok (.ifCond .eq 52, 3) := by decide +kernel
theorem dL_settle_47 : decode cL_settle 47 = .ok (.iload_n 3, 1) := by decide +kernel
theorem dL_settle_48 : decode cL_settle 48 = .ok (.istore 5, 2) := by decide +kernel
theorem dL_settle_50 : decode cL_settle 50 = .ok (.iconst 0, 1) := by decide +kernel
theorem dL_settle_51 : decode cL_settle 51 = .ok (.istore_n 3, 1) := by decide +kernel
theorem dL_settle_52 : decode cL_settle 52 = .ok (.iconst 0, 1) := by decide +kernel
theorem dL_settle_53 : decode cL_settle 53 = .ok (.istore 6, 2) := by decide +kernel
theorem dL_settle_55 : decode cL_settle 55 = .ok (.iload 6, 2) := by decide +kernel
theorem dL_settle_57 : decode cL_settle 57 = .ok (.aload_n 1, 1) := by decide +kernel
theorem dL_settle_58 : decode cL_settle 58 = .ok (.getfield 41, 3) := by decide +kernel
theorem dL_settle_61 : decode cL_settle 61 = .ok (.if_icmp .ge 29, 3) := by decide +kernel
theorem dL_settle_64 : decode cL_settle 64 = .ok (.iload 5, 2) := by decide +kernel
theorem dL_settle_66 : decode cL_settle 66 = .ok (.iload 6, 2) := by decide +kernel
theorem dL_settle_68 : decode cL_settle 68 = .ok (.ishr, 1) := by decide +kernel
theorem dL_settle_69 : decode cL_settle 69 = .ok (.iconst 1, 1) := by decide +kernel
theorem dL_settle_70 : decode cL_settle 70 = .ok (.iand, 1) := by decide +kernel
theorem dL_settle_71 : decode cL_settle 71 = .ok (.ifCond .eq 13, 3) := by decide +kernel
theorem dL_settle_74 : decode cL_settle 74 = .ok (.iload_n 3, 1) := by decide +kernel
theorem dL_settle_75 : decode cL_settle 75 = .ok (.aload_n 0, 1) := by decide +kernel
theorem dL_settle_76 : decode cL_settle 76 = .ok (.iload 6, 2) := by decide +kernel
theorem dL_settle_78 : decode cL_settle 78 = .ok (.aload_n 1, 1) := by decide +kernel
theorem dL_settle_79 : decode cL_settle 79 = .ok (.invokevirtual 44, 3) := by decide +kernel
theorem dL_settle_82 : decode cL_settle 82 = .ok (.ior, 1) := by decide +kernel
theorem dL_settle_83 : decode cL_settle 83 = .ok (.istore_n 3, 1) := by decide +kernel
theorem dL_settle_84 : decode cL_settle 84 = .ok (.iinc 6 1, 3) := by decide +kernel
theorem dL_settle_87 : decode cL_settle 87 = .ok (.goto (-32), 3) := by decide +kernel
theorem dL_settle_90 : decode cL_settle 90 = .ok (.iinc 4 1, 3) := by decide +kernel
theorem dL_settle_93 : decode cL_settle 93 = .ok (.goto (-59), 3) := by decide +kernel
theorem dL_settle_96 : decode cL_settle 96 = .ok (.iconst 0, 1) := by decide +kernel
theorem dL_settle_97 : decode cL_settle 97 = .ok (.istore 4, 2) := by decide +kernel
theorem dL_settle_99 : decode cL_settle 99 = .ok (.iload 4, 2) := by decide +kernel
theorem dL_settle_101 : decode cL_settle 101 = .ok (.aload_n 1, 1) := by decide +kernel
theorem dL_settle_102 : decode cL_settle 102 = .ok (.getfield 41, 3) := by decide +kernel
theorem dL_settle_105 : decode cL_settle 105 = .ok (.if_icmp .ge 25, 3) := by decide +kernel
theorem dL_settle_108 : decode cL_settle 108 = .ok (.aload_n 0, 1) := by decide +kernel
theorem dL_settle_109 : decode cL_settle 109 = .ok (.iload 4, 2) := by decide +kernel
theorem dL_settle_111 : decode cL_settle 111 = .ok (.invokevirtual 48, 3) := by decide +kernel
theorem dL_settle_114 : decode cL_settle 114 = .ok (.ifCond .eq 10, 3) := by decide +kernel
theorem dL_settle_117 : decode cL_settle 117 = .ok (.aload_n 0, 1) := by decide +kernel
theorem dL_settle_118 : decode cL_settle 118 = .ok (.iload 4, 2) := by decide +kernel
theorem dL_settle_120 : decode cL_settle 120 = .ok (.aload_n 1, 1) := by decide +kernel
theorem dL_settle_121 : decode cL_settle 121 = .ok (.invokevirtual 51, 3) := by decide +kernel
theorem dL_settle_124 : decode cL_settle 124 = .ok (.iinc 4 1, 3) := by decide +kernel
theorem dL_settle_127 : decode cL_settle 127 = .ok (.goto (-28), 3) := by decide +kernel
theorem dL_settle_130 : decode cL_settle 130 = .ok (.return_, 1) := by decide +kernel
theorem dL_followArcs_0 : decode cL_followArcs 0 = .ok (.iconst 0, 1) := by decide +kernel
theorem dL_followArcs_1 : decode cL_followArcs 1 = .ok (.istore_n 3, 1) := by decide +kernel
theorem dL_followArcs_2 : decode cL_followArcs 2 = .ok (.iconst 0, 1) := by decide +kernel
theorem dL_followArcs_3 : decode cL_followArcs 3 = .ok (.istore 4, 2) := by decide +kernel
theorem dL_followArcs_5 : decode cL_followArcs 5 = .ok (.iload 4, 2) := by decide +kernel
theorem dL_followArcs_7 : decode cL_followArcs 7 = .ok (.aload_n 2, 1) := by decide +kernel
theorem dL_followArcs_8 : decode cL_followArcs 8 = .ok (.getfield 41, 3) := by decide +kernel
theorem dL_followArcs_11 : decode cL_followArcs 11 = .ok (.if_icmp .ge 89, 3) := by decide +kernel
theorem dL_followArcs_14 : decode cL_followArcs 14 = .ok (.aload_n 2, 1) := by decide +kernel
theorem dL_followArcs_15 : decode cL_followArcs 15 = .ok (.iload_n 1, 1) := by decide +kernel
theorem dL_followArcs_16 : decode cL_followArcs 16 = .ok (.iload 4, 2) := by decide +kernel
theorem dL_followArcs_18 : decode cL_followArcs 18 = .ok (.invokevirtual 55, 3) := by decide +kernel
theorem dL_followArcs_21 : decode cL_followArcs 21 = .ok (.istore 5, 2) := by decide +kernel
theorem dL_followArcs_23 : decode cL_followArcs 23 = .ok (.iload 5, 2) := by decide +kernel
theorem dL_followArcs_25 : decode cL_followArcs 25 = .ok (.ldc 28, 2) := by decide +kernel
theorem dL_followArcs_27 : decode cL_followArcs 27 = .ok (.if_icmp .eq 67, 3) := by decide +kernel
theorem dL_followArcs_30 : decode cL_followArcs 30 = .ok (.aload_n 0, 1) := by decide +kernel
theorem dL_followArcs_31 : decode cL_followArcs 31 = .ok (.iload 4, 2) := by decide +kernel
theorem dL_followArcs_33 : decode cL_followArcs 33 = .ok (.aload_n 0, 1) := by decide +kernel
theorem dL_followArcs_34 : decode cL_followArcs 34 = .ok (.getfield 9, 3) := by decide +kernel
theorem dL_followArcs_37 : decode cL_followArcs 37 = .ok (.iload_n 1, 1) := by decide +kernel
theorem dL_followArcs_38 : decode cL_followArcs 38 = .ok (.iaload, 1) := by decide +kernel
theorem dL_followArcs_39 : decode cL_followArcs 39 = .ok (.iload 5, 2) := by decide +kernel
theorem dL_followArcs_41 : decode cL_followArcs 41 = .ok (.iadd, 1) := by decide +kernel
theorem dL_followArcs_42 : decode cL_followArcs 42 = .ok (.aload_n 0, 1) := by decide +kernel
theorem dL_followArcs_43 : decode cL_followArcs 43 = .ok (.getfield 15, 3) := by decide +kernel
theorem dL_followArcs_46 : decode cL_followArcs 46 = .ok (.iload_n 1, 1) := by decide +kernel
theorem dL_followArcs_47 : decode cL_followArcs 47 = .ok (.iaload, 1) := by decide +kernel
theorem dL_followArcs_48 : decode cL_followArcs 48 = .ok (.iconst 1, 1) := by decide +kernel
theorem dL_followArcs_49 : decode cL_followArcs 49 = .ok (.iadd, 1) := by decide +kernel
theorem dL_followArcs_50 : decode cL_followArcs 50 = .ok (.invokevirtual 59, 3) := by decide +kernel
theorem dL_followArcs_53 : decode cL_followArcs 53 = .ok (.ifCond .eq 41, 3) := by decide +kernel
theorem dL_followArcs_56 : decode cL_followArcs 56 = .ok (.aload_n 0, 1) := by decide +kernel
theorem dL_followArcs_57 : decode cL_followArcs 57 = .ok (.getfield 9, 3) := by decide +kernel
theorem dL_followArcs_60 : decode cL_followArcs 60 = .ok (.iload 4, 2) := by decide +kernel
theorem dL_followArcs_62 : decode cL_followArcs 62 = .ok (.aload_n 0, 1) := by decide +kernel
theorem dL_followArcs_63 : decode cL_followArcs 63 = .ok (.getfield 9, 3) := by decide +kernel
theorem dL_followArcs_66 : decode cL_followArcs 66 = .ok (.iload_n 1, 1) := by decide +kernel
theorem dL_followArcs_67 : decode cL_followArcs 67 = .ok (.iaload, 1) := by decide +kernel
theorem dL_followArcs_68 : decode cL_followArcs 68 = .ok (.iload 5, 2) := by decide +kernel
theorem dL_followArcs_70 : decode cL_followArcs 70 = .ok (.iadd, 1) := by decide +kernel
theorem dL_followArcs_71 : decode cL_followArcs 71 = .ok (.iastore, 1) := by decide +kernel
theorem dL_followArcs_72 : decode cL_followArcs 72 = .ok (.aload_n 0, 1) := by decide +kernel
theorem dL_followArcs_73 : decode cL_followArcs 73 = .ok (.getfield 15, 3) := by decide +kernel
theorem dL_followArcs_76 : decode cL_followArcs 76 = .ok (.iload 4, 2) := by decide +kernel
theorem dL_followArcs_78 : decode cL_followArcs 78 = .ok (.aload_n 0, 1) := by decide +kernel
theorem dL_followArcs_79 : decode cL_followArcs 79 = .ok (.getfield 15, 3) := by decide +kernel
theorem dL_followArcs_82 : decode cL_followArcs 82 = .ok (.iload_n 1, 1) := by decide +kernel
theorem dL_followArcs_83 : decode cL_followArcs 83 = .ok (.iaload, 1) := by decide +kernel
theorem dL_followArcs_84 : decode cL_followArcs 84 = .ok (.iconst 1, 1) := by decide +kernel
theorem dL_followArcs_85 : decode cL_followArcs 85 = .ok (.iadd, 1) := by decide +kernel
theorem dL_followArcs_86 : decode cL_followArcs 86 = .ok (.iastore, 1) := by decide +kernel
theorem dL_followArcs_87 : decode cL_followArcs 87 = .ok (.iload_n 3, 1) := by decide +kernel
theorem dL_followArcs_88 : decode cL_followArcs 88 = .ok (.iconst 1, 1) := by decide +kernel
theorem dL_followArcs_89 : decode cL_followArcs 89 = .ok (.iload 4, 2) := by decide +kernel
theorem dL_followArcs_91 : decode cL_followArcs 91 = .ok (.ishl, 1) := by decide +kernel
theorem dL_followArcs_92 : decode cL_followArcs 92 = .ok (.ior, 1) := by decide +kernel
theorem dL_followArcs_93 : decode cL_followArcs 93 = .ok (.istore_n 3, 1) := by decide +kernel
theorem dL_followArcs_94 : decode cL_followArcs 94 = .ok (.iinc 4 1, 3) := by decide +kernel
theorem dL_followArcs_97 : decode cL_followArcs 97 = .ok (.goto (-92), 3) := by decide +kernel
theorem dL_followArcs_100 : decode cL_followArcs 100 = .ok (.iload_n 3, 1) := by decide +kernel
theorem dL_followArcs_101 : decode cL_followArcs 101 = .ok (.ireturn, 1) := by decide +kernel
theorem dL_isBetter_0 : decode cL_isBetter 0 = .ok (.aload_n 0, 1) := by decide +kernel
theorem dL_isBetter_1 : decode cL_isBetter 1 = .ok (.getfield 9, 3) := by decide +kernel
theorem dL_isBetter_4 : decode cL_isBetter 4 = .ok (.iload_n 1, 1) := by decide +kernel
theorem dL_isBetter_5 : decode cL_isBetter 5 = .ok (.iaload, 1) := by decide +kernel
theorem dL_isBetter_6 : decode cL_isBetter 6 = .ok (.ldc 28, 2) := by decide +kernel
theorem dL_isBetter_8 : decode cL_isBetter 8 = .ok (.if_icmp .eq 33, 3) := by decide +kernel
theorem dL_isBetter_11 : decode cL_isBetter 11 = .ok (.iload_n 2, 1) := by decide +kernel
theorem dL_isBetter_12 : decode cL_isBetter 12 = .ok (.aload_n 0, 1) := by decide +kernel
theorem dL_isBetter_13 : decode cL_isBetter 13 = .ok (.getfield 9, 3) := by decide +kernel
theorem dL_isBetter_16 : decode cL_isBetter 16 = .ok (.iload_n 1, 1) := by decide +kernel
theorem dL_isBetter_17 : decode cL_isBetter 17 = .ok (.iaload, 1) := by decide +kernel
theorem dL_isBetter_18 : decode cL_isBetter 18 = .ok (.if_icmp .lt 23, 3) := by decide +kernel
theorem dL_isBetter_21 : decode cL_isBetter 21 = .ok (.iload_n 2, 1) := by decide +kernel
theorem dL_isBetter_22 : decode cL_isBetter 22 = .ok (.aload_n 0, 1) := by decide +kernel
theorem dL_isBetter_23 : decode cL_isBetter 23 = .ok (.getfield 9, 3) := by decide +kernel
theorem dL_isBetter_26 : decode cL_isBetter 26 = .ok (.iload_n 1, 1) := by decide +kernel
theorem dL_isBetter_27 : decode cL_isBetter 27 = .ok (.iaload, 1) := by decide +kernel
theorem dL_isBetter_28 : decode cL_isBetter 28 = .ok (.if_icmp .ne 17, 3) := by decide +kernel
theorem dL_isBetter_31 : decode cL_isBetter 31 = .ok (.iload_n 3, 1) := by decide +kernel
theorem dL_isBetter_32 : decode cL_isBetter 32 = .ok (.aload_n 0, 1) := by decide +kernel
theorem dL_isBetter_33 : decode cL_isBetter 33 = .ok (.getfield 15, 3) := by decide +kernel
theorem dL_isBetter_36 : decode cL_isBetter 36 = .ok (.iload_n 1, 1) := by decide +kernel
theorem dL_isBetter_37 : decode cL_isBetter 37 = .ok (.iaload, 1) := by decide +kernel
theorem dL_isBetter_38 : decode cL_isBetter 38 = .ok (.if_icmp .ge 7, 3) := by decide +kernel
theorem dL_isBetter_41 : decode cL_isBetter 41 = .ok (.iconst 1, 1) := by decide +kernel
theorem dL_isBetter_42 : decode cL_isBetter 42 = .ok (.goto 4, 3) := by decide +kernel
theorem dL_isBetter_45 : decode cL_isBetter 45 = .ok (.iconst 0, 1) := by decide +kernel
theorem dL_isBetter_46 : decode cL_isBetter 46 = .ok (.ireturn, 1) := by decide +kernel
theorem dL_findTightArcs_0 : decode cL_findTightArcs 0 = .ok (.iconst 0, 1) := by decide +kernel
theorem dL_findTightArcs_1 : decode cL_findTightArcs 1 = .ok (.istore_n 3, 1) := by decide +kernel
theorem dL_findTightArcs_2 : decode cL_findTightArcs 2 = .ok (.iload_n 3, 1) := by decide +kernel
theorem dL_findTightArcs_3 : decode cL_findTightArcs 3 = .ok (.aload_n 2, 1) := by decide +kernel
theorem dL_findTightArcs_4 : decode cL_findTightArcs 4 = .ok (.getfield 41, 3) := by decide +kernel
theorem dL_findTightArcs_7 : decode cL_findTightArcs 7 = .ok (.if_icmp .ge 87, 3) := by decide +kernel
theorem dL_findTightArcs_10 : decode cL_findTightArcs 10 = .ok (.aload_n 2, 1) := by decide +kernel
theorem dL_findTightArcs_11 : decode cL_findTightArcs 11 = .ok (.iload_n 1, 1) := by decide +kernel
theorem dL_findTightArcs_12 : decode cL_findTightArcs 12 = .ok (.iload_n 3, 1) := by decide +kernel
theorem dL_findTightArcs_13 : decode cL_findTightArcs 13 = .ok (.invokevirtual 55, 3) := by decide +kernel
theorem dL_findTightArcs_16 : decode cL_findTightArcs 16 = .ok (.istore 4, 2) := by decide +kernel
theorem dL_findTightArcs_18 : decode cL_findTightArcs 18 = .ok (.iload 4, 2) := by decide +kernel
theorem dL_findTightArcs_20 : decode cL_findTightArcs 20 = .ok (.ldc 28, 2) := by decide +kernel
theorem dL_findTightArcs_22 : decode cL_findTightArcs 22 = .ok (.if_icmp .eq 66, 3) := by decide +kernel
theorem dL_findTightArcs_25 : decode cL_findTightArcs 25 = .ok (.aload_n 0, 1) := by decide +kernel
theorem dL_findTightArcs_26 : decode cL_findTightArcs 26 = .ok (.getfield 9, 3) := by decide +kernel
theorem dL_findTightArcs_29 : decode cL_findTightArcs 29 = .ok (.iload_n 1, 1) := by decide +kernel
theorem dL_findTightArcs_30 : decode cL_findTightArcs 30 = .ok (.iaload, 1) := by decide +kernel
theorem dL_findTightArcs_31 : decode cL_findTightArcs 31 = .ok (.iload 4, 2) := by decide +kernel
theorem dL_findTightArcs_33 : decode cL_findTightArcs 33 = .ok (.iadd, 1) := by decide +kernel
theorem dL_findTightArcs_34 : decode cL_findTightArcs 34 = .ok (.aload_n 0, 1) := by decide +kernel
theorem dL_findTightArcs_35 : decode cL_findTightArcs 35 = .ok (.getfield 9, 3) := by decide +kernel
theorem dL_findTightArcs_38 : decode cL_findTightArcs 38 = .ok (.iload_n 3, 1) := by decide +kernel
theorem dL_findTightArcs_39 : decode cL_findTightArcs 39 = .ok (.iaload, 1) := by decide +kernel
theorem dL_findTightArcs_40 : decode cL_findTightArcs 40 = .ok (.if_icmp .ne 48, 3) := by decide +kernel
theorem dL_findTightArcs_43 : decode cL_findTightArcs 43 = .ok (.aload_n 0, 1) := by decide +kernel
theorem dL_findTightArcs_44 : decode cL_findTightArcs 44 = .ok (.dup, 1) := by decide +kernel
theorem dL_findTightArcs_45 : decode cL_findTightArcs 45 = .ok (.getfield 21, 3) := by decide +kernel
theorem dL_findTightArcs_48 : decode cL_findTightArcs 48 = .ok (.iconst 1, 1) := by decide +kernel
theorem dL_findTightArcs_49 : decode cL_findTightArcs 49 = .ok (.iadd, 1) := by decide +kernel
theorem dL_findTightArcs_50 : decode cL_findTightArcs 50 = .ok (.putfield 21, 3) := by decide +kernel
theorem dL_findTightArcs_53 : decode cL_findTightArcs 53 = .ok (.aload_n 0, 1) := by decide +kernel
theorem dL_findTightArcs_54 : decode cL_findTightArcs 54 = .ok (.getfield 18, 3) := by decide +kernel
theorem dL_findTightArcs_57 : decode cL_findTightArcs 57 = .ok (.iload_n 3, 1) := by decide +kernel
theorem dL_findTightArcs_58 : decode cL_findTightArcs 58 = .ok (.iaload, 1) := by decide +kernel
theorem dL_findTightArcs_59 : decode cL_findTightArcs 59 = .ok (.ldc 28, 2) := by decide +kernel
theorem dL_findTightArcs_61 : decode cL_findTightArcs 61 = .ok (.if_icmp .ne 27, 3) := by decide +kernel
theorem dL_findTightArcs_64 : decode cL_findTightArcs 64 = .ok (.aload_n 0, 1) := by decide +kernel
theorem dL_findTightArcs_65 : decode cL_findTightArcs 65 = .ok (.getfield 15, 3) := by decide +kernel
theorem dL_findTightArcs_68 : decode cL_findTightArcs 68 = .ok (.iload_n 1, 1) := by decide +kernel
theorem dL_findTightArcs_69 : decode cL_findTightArcs 69 = .ok (.iaload, 1) := by decide +kernel
theorem dL_findTightArcs_70 : decode cL_findTightArcs 70 = .ok (.iconst 1, 1) := by decide +kernel
theorem dL_findTightArcs_71 : decode cL_findTightArcs 71 = .ok (.iadd, 1) := by decide +kernel
theorem dL_findTightArcs_72 : decode cL_findTightArcs 72 = .ok (.aload_n 0, 1) := by decide +kernel
theorem dL_findTightArcs_73 : decode cL_findTightArcs 73 = .ok (.getfield 15, 3) := by decide +kernel
theorem dL_findTightArcs_76 : decode cL_findTightArcs 76 = .ok (.iload_n 3, 1) := by decide +kernel
theorem dL_findTightArcs_77 : decode cL_findTightArcs 77 = .ok (.iaload, 1) := by decide +kernel
theorem dL_findTightArcs_78 : decode cL_findTightArcs 78 = .ok (.if_icmp .ne 10, 3) := by decide +kernel
theorem dL_findTightArcs_81 : decode cL_findTightArcs 81 = .ok (.aload_n 0, 1) := by decide +kernel
theorem dL_findTightArcs_82 : decode cL_findTightArcs 82 = .ok (.getfield 18, 3) := by decide +kernel
theorem dL_findTightArcs_85 : decode cL_findTightArcs 85 = .ok (.iload_n 3, 1) := by decide +kernel
theorem dL_findTightArcs_86 : decode cL_findTightArcs 86 = .ok (.iload_n 1, 1) := by decide +kernel
theorem dL_findTightArcs_87 : decode cL_findTightArcs 87 = .ok (.iastore, 1) := by decide +kernel
theorem dL_findTightArcs_88 : decode cL_findTightArcs 88 = .ok (.iinc 3 1, 3) := by decide +kernel
theorem dL_findTightArcs_91 : decode cL_findTightArcs 91 = .ok (.goto (-89), 3) := by decide +kernel
theorem dL_findTightArcs_94 : decode cL_findTightArcs 94 = .ok (.return_, 1) := by decide +kernel
theorem dL_reaches_0 : decode cL_reaches 0 = .ok (.aload_n 0, 1) := by decide +kernel
theorem dL_reaches_1 : decode cL_reaches 1 = .ok (.getfield 9, 3) := by decide +kernel
theorem dL_reaches_4 : decode cL_reaches 4 = .ok (.iload_n 1, 1) := by decide +kernel
theorem dL_reaches_5 : decode cL_reaches 5 = .ok (.iaload, 1) := by decide +kernel
theorem dL_reaches_6 : decode cL_reaches 6 = .ok (.ldc 28, 2) := by decide +kernel
theorem dL_reaches_8 : decode cL_reaches 8 = .ok (.if_icmp .eq 7, 3) := by decide +kernel
theorem dL_reaches_11 : decode cL_reaches 11 = .ok (.iconst 1, 1) := by decide +kernel
theorem dL_reaches_12 : decode cL_reaches 12 = .ok (.goto 4, 3) := by decide +kernel
theorem dL_reaches_15 : decode cL_reaches 15 = .ok (.iconst 0, 1) := by decide +kernel
theorem dL_reaches_16 : decode cL_reaches 16 = .ok (.ireturn, 1) := by decide +kernel
theorem dL_sizeOfWay_0 : decode cL_sizeOfWay 0 = .ok (.aload_n 0, 1) := by decide +kernel
theorem dL_sizeOfWay_1 : decode cL_sizeOfWay 1 = .ok (.getfield 15, 3) := by decide +kernel
theorem dL_sizeOfWay_4 : decode cL_sizeOfWay 4 = .ok (.iload_n 1, 1) := by decide +kernel
theorem dL_sizeOfWay_5 : decode cL_sizeOfWay 5 = .ok (.iaload, 1) := by decide +kernel
theorem dL_sizeOfWay_6 : decode cL_sizeOfWay 6 = .ok (.iconst 1, 1) := by decide +kernel
theorem dL_sizeOfWay_7 : decode cL_sizeOfWay 7 = .ok (.iadd, 1) := by decide +kernel
theorem dL_sizeOfWay_8 : decode cL_sizeOfWay 8 = .ok (.ireturn, 1) := by decide +kernel
theorem dL_nodeOnWay_0 : decode cL_nodeOnWay 0 = .ok (.iload_n 1, 1) := by decide +kernel
theorem dL_nodeOnWay_1 : decode cL_nodeOnWay 1 = .ok (.istore_n 3, 1) := by decide +kernel
theorem dL_nodeOnWay_2 : decode cL_nodeOnWay 2 = .ok (.aload_n 0, 1) := by decide +kernel
theorem dL_nodeOnWay_3 : decode cL_nodeOnWay 3 = .ok (.getfield 15, 3) := by decide +kernel
theorem dL_nodeOnWay_6 : decode cL_nodeOnWay 6 = .ok (.iload_n 1, 1) := by decide +kernel
theorem dL_nodeOnWay_7 : decode cL_nodeOnWay 7 = .ok (.iaload, 1) := by decide +kernel
theorem dL_nodeOnWay_8 : decode cL_nodeOnWay 8 = .ok (.istore 4, 2) := by decide +kernel
theorem dL_nodeOnWay_10 : decode cL_nodeOnWay 10 = .ok (.iload 4, 2) := by decide +kernel
theorem dL_nodeOnWay_12 : decode cL_nodeOnWay 12 = .ok (.iload_n 2, 1) := by decide +kernel
theorem dL_nodeOnWay_13 : decode cL_nodeOnWay 13 = .ok (.if_icmp .le 20, 3) := by decide +kernel
theorem dL_nodeOnWay_16 : decode cL_nodeOnWay 16 = .ok (.iload_n 3, 1) := by decide +kernel
theorem dL_nodeOnWay_17 : decode cL_nodeOnWay 17 = .ok (.ifCond .lt 16, 3) := by decide +kernel
theorem dL_nodeOnWay_20 : decode cL_nodeOnWay 20 = .ok (.aload_n 0, 1) := by decide +kernel
theorem dL_nodeOnWay_21 : decode cL_nodeOnWay 21 = .ok (.getfield 18, 3) := by decide +kernel
theorem dL_nodeOnWay_24 : decode cL_nodeOnWay 24 = .ok (.iload_n 3, 1) := by decide +kernel
theorem dL_nodeOnWay_25 : decode cL_nodeOnWay 25 = .ok (.iaload, 1) := by decide +kernel
theorem dL_nodeOnWay_26 : decode cL_nodeOnWay 26 = .ok (.istore_n 3, 1) := by decide +kernel
theorem dL_nodeOnWay_27 : decode cL_nodeOnWay 27 = .ok (.iinc 4 (-1), 3) := by decide +kernel
theorem dL_nodeOnWay_30 : decode cL_nodeOnWay 30 = .ok (.goto (-20), 3) := by decide +kernel
theorem dL_nodeOnWay_33 : decode cL_nodeOnWay 33 = .ok (.iload_n 3, 1) := by decide +kernel
theorem dL_nodeOnWay_34 : decode cL_nodeOnWay 34 = .ok (.ireturn, 1) := by decide +kernel
theorem dL_differingNodes_0 : decode cL_differingNodes 0 = .ok (.iconst 0, 1) := by decide +kernel
theorem dL_differingNodes_1 : decode cL_differingNodes 1 = .ok (.istore_n 2, 1) := by decide +kernel
theorem dL_differingNodes_2 : decode cL_differingNodes 2 = .ok (.iconst 0, 1) := by decide +kernel
theorem dL_differingNodes_3 : decode cL_differingNodes 3 = .ok (.istore_n 3, 1) := by decide +kernel
theorem dL_differingNodes_4 : decode cL_differingNodes 4 = .ok (.iload_n 3, 1) := by decide +kernel
theorem dL_differingNodes_5 : decode cL_differingNodes 5 = .ok (.bipush 24, 2) := by decide +kernel
theorem dL_differingNodes_7 : decode cL_differingNodes 7 = .ok (.if_icmp .ge 60, 3) := by decide +kernel
theorem dL_differingNodes_10 : decode cL_differingNodes 10 = .ok (.aload_n 0, 1) := by decide +kernel
theorem dL_differingNodes_11 : decode cL_differingNodes 11 = .ok (.getfield 9, 3) := by decide +kernel
theorem dL_differingNodes_14 : decode cL_differingNodes 14 = .ok (.iload_n 3, 1) := by decide +kernel
theorem dL_differingNodes_15 : decode cL_differingNodes 15 = .ok (.iaload, 1) := by decide +kernel
theorem dL_differingNodes_16 : decode cL_differingNodes 16 = .ok (.aload_n 1, 1) := by decide +kernel
theorem dL_differingNodes_17 : decode cL_differingNodes 17 = .ok (.getfield 9, 3) := by decide +kernel
theorem dL_differingNodes_20 : decode cL_differingNodes 20 = .ok (.iload_n 3, 1) := by decide +kernel
theorem dL_differingNodes_21 : decode cL_differingNodes 21 = .ok (.iaload, 1) := by decide +kernel
theorem dL_differingNodes_22 : decode cL_differingNodes 22 = .ok (.if_icmp .ne 33, 3) := by decide +kernel
theorem dL_differingNodes_25 : decode cL_differingNodes 25 = .ok (.aload_n 0, 1) := by decide +kernel
theorem dL_differingNodes_26 : decode cL_differingNodes 26 = .ok (.getfield 15, 3) := by decide +kernel
theorem dL_differingNodes_29 : decode cL_differingNodes 29 = .ok (.iload_n 3, 1) := by decide +kernel
theorem dL_differingNodes_30 : decode cL_differingNodes 30 = .ok (.iaload, 1) := by decide +kernel
theorem dL_differingNodes_31 : decode cL_differingNodes 31 = .ok (.aload_n 1, 1) := by decide +kernel
theorem dL_differingNodes_32 : decode cL_differingNodes 32 = .ok (.getfield 15, 3) := by decide +kernel
theorem dL_differingNodes_35 : decode cL_differingNodes 35 = .ok (.iload_n 3, 1) := by decide +kernel
theorem dL_differingNodes_36 : decode cL_differingNodes 36 = .ok (.iaload, 1) := by decide +kernel
theorem dL_differingNodes_37 : decode cL_differingNodes 37 = .ok (.if_icmp .ne 18, 3) := by decide +kernel
theorem dL_differingNodes_40 : decode cL_differingNodes 40 = .ok (.aload_n 0, 1) := by decide +kernel
theorem dL_differingNodes_41 : decode cL_differingNodes 41 = .ok (.getfield 18, 3) := by decide +kernel
theorem dL_differingNodes_44 : decode cL_differingNodes 44 = .ok (.iload_n 3, 1) := by decide +kernel
theorem dL_differingNodes_45 : decode cL_differingNodes 45 = .ok (.iaload, 1) := by decide +kernel
theorem dL_differingNodes_46 : decode cL_differingNodes 46 = .ok (.aload_n 1, 1) := by decide +kernel
theorem dL_differingNodes_47 : decode cL_differingNodes 47 = .ok (.getfield 18, 3) := by decide +kernel
theorem dL_differingNodes_50 : decode cL_differingNodes 50 = .ok (.iload_n 3, 1) := by decide +kernel
theorem dL_differingNodes_51 : decode cL_differingNodes 51 = .ok (.iaload, 1) := by decide +kernel
theorem dL_differingNodes_52 : decode cL_differingNodes 52 = .ok (.if_icmp .eq 9, 3) := by decide +kernel
theorem dL_differingNodes_55 : decode cL_differingNodes 55 = .ok (.iload_n 2, 1) := by decide +kernel
theorem dL_differingNodes_56 : decode cL_differingNodes 56 = .ok (.iconst 1, 1) := by decide +kernel
theorem dL_differingNodes_57 : decode cL_differingNodes 57 = .ok (.iload_n 3, 1) := by decide +kernel
theorem dL_differingNodes_58 : decode cL_differingNodes 58 = .ok (.ishl, 1) := by decide +kernel
theorem dL_differingNodes_59 : decode cL_differingNodes 59 = .ok (.ior, 1) := by decide +kernel
theorem dL_differingNodes_60 : decode cL_differingNodes 60 = .ok (.istore_n 2, 1) := by decide +kernel
theorem dL_differingNodes_61 : decode cL_differingNodes 61 = .ok (.iinc 3 1, 3) := by decide +kernel
theorem dL_differingNodes_64 : decode cL_differingNodes 64 = .ok (.goto (-60), 3) := by decide +kernel
theorem dL_differingNodes_67 : decode cL_differingNodes 67 = .ok (.iload_n 2, 1) := by decide +kernel
theorem dL_differingNodes_68 : decode cL_differingNodes 68 = .ok (.ireturn, 1) := by decide +kernel
theorem dN_init_0 : decode cN_init 0 = .ok (.aload_n 0, 1) := by decide +kernel
theorem dN_init_1 : decode cN_init 1 = .ok (.invokespecial 3, 3) := by decide +kernel
theorem dN_init_4 : decode cN_init 4 = .ok (.aload_n 0, 1) := by decide +kernel
theorem dN_init_5 : decode cN_init 5 = .ok (.iconst 0, 1) := by decide +kernel
theorem dN_init_6 : decode cN_init 6 = .ok (.putfield 9, 3) := by decide +kernel
theorem dN_init_9 : decode cN_init 9 = .ok (.aload_n 0, 1) := by decide +kernel
theorem dN_init_10 : decode cN_init 10 = .ok (.iconst 0, 1) := by decide +kernel
theorem dN_init_11 : decode cN_init 11 = .ok (.putfield 15, 3) := by decide +kernel
theorem dN_init_14 : decode cN_init 14 = .ok (.aload_n 0, 1) := by decide +kernel
theorem dN_init_15 : decode cN_init 15 = .ok (.sipush 576, 3) := by decide +kernel
theorem dN_init_18 : decode cN_init 18 = .ok (.newarray .int, 2) := by decide +kernel
theorem dN_init_20 : decode cN_init 20 = .ok (.putfield 18, 3) := by decide +kernel
theorem dN_init_23 : decode cN_init 23 = .ok (.aload_n 0, 1) := by decide +kernel
theorem dN_init_24 : decode cN_init 24 = .ok (.getfield 18, 3) := by decide +kernel
theorem dN_init_27 : decode cN_init 27 = .ok (.ldc 22, 2) := by decide +kernel
theorem dN_init_29 : decode cN_init 29 = .ok (.invokestatic 23, 3) := by decide +kernel
theorem dN_init_32 : decode cN_init 32 = .ok (.return_, 1) := by decide +kernel
theorem dN_addNode_0 : decode cN_addNode 0 = .ok (.aload_n 0, 1) := by decide +kernel
theorem dN_addNode_1 : decode cN_addNode 1 = .ok (.dup, 1) := by decide +kernel
theorem dN_addNode_2 : decode cN_addNode 2 = .ok (.getfield 9, 3) := by decide +kernel
theorem dN_addNode_5 : decode cN_addNode 5 = .ok (.dup_x1, 1) := by decide +kernel
theorem dN_addNode_6 : decode cN_addNode 6 = .ok (.iconst 1, 1) := by decide +kernel
theorem dN_addNode_7 : decode cN_addNode 7 = .ok (.iadd, 1) := by decide +kernel
theorem dN_addNode_8 : decode cN_addNode 8 = .ok (.putfield 9, 3) := by decide +kernel
theorem dN_addNode_11 : decode cN_addNode 11 = .ok (.ireturn, 1) := by decide +kernel
theorem dN_isNode_0 : decode cN_isNode 0 = .ok (.iload_n 1, 1) := by decide +kernel
theorem dN_isNode_1 : decode cN_isNode 1 = .ok (.ifCond .lt 15, 3) := by decide +kernel
theorem dN_isNode_4 : decode cN_isNode 4 = .ok (.iload_n 1, 1) := by decide +kernel
theorem dN_isNode_5 : decode cN_isNode 5 = .ok (.aload_n 0, 1) := by decide +kernel
theorem dN_isNode_6 : decode cN_isNode 6 = .ok (.getfield 9, 3) := by decide +kernel
theorem dN_isNode_9 : decode cN_isNode 9 = .ok (.if_icmp .ge 7, 3) := by decide +kernel
theorem dN_isNode_12 : decode cN_isNode 12 = .ok (.iconst 1, 1) := by decide +kernel
theorem dN_isNode_13 : decode cN_isNode 13 = .ok (.goto 4, 3) := by decide +kernel
theorem dN_isNode_16 : decode cN_isNode 16 = .ok (.iconst 0, 1) := by decide +kernel
theorem dN_isNode_17 : decode cN_isNode 17 = .ok (.ireturn, 1) := by decide +kernel
theorem dN_areTwoNodes_0 : decode cN_areTwoNodes 0 = .ok (.aload_n 0, 1) := by decide +kernel
theorem dN_areTwoNodes_1 : decode cN_areTwoNodes 1 = .ok (.iload_n 1, 1) := by decide +kernel
theorem dN_areTwoNodes_2 : decode cN_areTwoNodes 2 = .ok (.invokevirtual 29, 3) := by decide +kernel
theorem dN_areTwoNodes_5 : decode cN_areTwoNodes 5 = .ok (.ifCond .eq 20, 3) := by decide +kernel
theorem dN_areTwoNodes_8 : decode cN_areTwoNodes 8 = .ok (.aload_n 0, 1) := by decide +kernel
theorem dN_areTwoNodes_9 : decode cN_areTwoNodes 9 = .ok (.iload_n 2, 1) := by decide +kernel
theorem dN_areTwoNodes_10 : decode cN_areTwoNodes 10 = .ok (.invokevirtual 29, 3) := by decide +kernel
theorem dN_areTwoNodes_13 : decode cN_areTwoNodes 13 = .ok (.ifCond .eq 12, 3) := by decide +kernel
theorem dN_areTwoNodes_16 : decode cN_areTwoNodes 16 = .ok (.iload_n 1, 1) := by decide +kernel
theorem dN_areTwoNodes_17 : decode cN_areTwoNodes 17 = .ok (.iload_n 2, 1) := by decide +kernel
theorem dN_areTwoNodes_18 : decode cN_areTwoNodes 18 = .ok (.if_icmp .eq 7, 3) := by decide +kernel
theorem dN_areTwoNodes_21 : decode cN_areTwoNodes 21 = .ok (.iconst 1, 1) := by decide +kernel
theorem dN_areTwoNodes_22 : decode cN_areTwoNodes 22 = .ok (.goto 4, 3) := by decide +kernel
theorem dN_areTwoNodes_25 : decode cN_areTwoNodes 25 = .ok (.iconst 0, 1) := by decide +kernel
theorem dN_areTwoNodes_26 : decode cN_areTwoNodes 26 = .ok (.ireturn, 1) := by decide +kernel
theorem dN_lengthOf_0 : decode cN_lengthOf 0 = .ok (.aload_n 0, 1) := by decide +kernel
theorem dN_lengthOf_1 : decode cN_lengthOf 1 = .ok (.getfield 18, 3) := by decide +kernel
theorem dN_lengthOf_4 : decode cN_lengthOf 4 = .ok (.iload_n 1, 1) := by decide +kernel
theorem dN_lengthOf_5 : decode cN_lengthOf 5 = .ok (.bipush 24, 2) := by decide +kernel
theorem dN_lengthOf_7 : decode cN_lengthOf 7 = .ok (.imul, 1) := by decide +kernel
theorem dN_lengthOf_8 : decode cN_lengthOf 8 = .ok (.iload_n 2, 1) := by decide +kernel
theorem dN_lengthOf_9 : decode cN_lengthOf 9 = .ok (.iadd, 1) := by decide +kernel
theorem dN_lengthOf_10 : decode cN_lengthOf 10 = .ok (.iaload, 1) := by decide +kernel
theorem dN_lengthOf_11 : decode cN_lengthOf 11 = .ok (.ireturn, 1) := by decide +kernel
theorem dN_setLength_0 : decode cN_setLength 0 = .ok (.aload_n 0, 1) := by decide +kernel
theorem dN_setLength_1 : decode cN_setLength 1 = .ok (.iload_n 1, 1) := by decide +kernel
theorem dN_setLength_2 : decode cN_setLength 2 = .ok (.iload_n 2, 1) := by decide +kernel
theorem dN_setLength_3 : decode cN_setLength 3 = .ok (.invokevirtual 33, 3) := by decide +kernel
theorem dN_setLength_6 : decode cN_setLength 6 = .ok (.istore 4, 2) := by decide +kernel
theorem dN_setLength_8 : decode cN_setLength 8 = .ok (.iload 4, 2) := by decide +kernel
theorem dN_setLength_10 : decode cN_setLength 10 = .ok (.ldc 22, 2) := by decide +kernel
theorem dN_setLength_12 : decode cN_setLength 12 = .ok (.if_icmp .ne 19, 3) := by decide +kernel
theorem dN_setLength_15 : decode cN_setLength 15 = .ok (.iload_n 3, 1) := by decide +kernel
theorem dN_setLength_16 : decode cN_setLength 16 = .ok (.ldc 22, 2) := by decide +kernel
theorem dN_setLength_18 : decode cN_setLength 18 = .ok (.if_icmp .eq 13, 3) := by decide +kernel
theorem dN_setLength_21 : decode cN_setLength 21 = .ok (.aload_n 0, 1) := by decide +kernel
theorem dN_setLength_22 : decode cN_setLength 22 = .ok (.dup, 1) := by decide +kernel
theorem dN_setLength_23 : decode cN_setLength 23 = .ok (.getfield 15, 3) := by decide +kernel
theorem dN_setLength_26 : decode cN_setLength 26 = .ok (.iconst 1, 1) := by decide +kernel
theorem dN_setLength_27 : decode cN_setLength 27 = .ok (.iadd, 1) := by decide +kernel
theorem dN_setLength_28 : decode cN_setLength 28 = .ok (.putfield 15, 3) := by decide +kernel
theorem dN_setLength_31 : decode cN_setLength 31 = .ok (.iload 4, 2) := by decide +kernel
theorem dN_setLength_33 : decode cN_setLength 33 = .ok (.ldc 22, 2) := by decide +kernel
theorem dN_setLength_35 : decode cN_setLength 35 = .ok (.if_icmp .eq 19, 3) := by decide +kernel
theorem dN_setLength_38 : decode cN_setLength 38 = .ok (.iload_n 3, 1) := by decide +kernel
theorem dN_setLength_39 : decode cN_setLength 39 = .ok (.ldc 22, 2) := by decide +kernel
theorem dN_setLength_41 : decode cN_setLength 41 = .ok (.if_icmp .ne 13, 3) := by decide +kernel
theorem dN_setLength_44 : decode cN_setLength 44 = .ok (.aload_n 0, 1) := by decide +kernel
theorem dN_setLength_45 : decode cN_setLength 45 = .ok (.dup, 1) := by decide +kernel
theorem dN_setLength_46 : decode cN_setLength 46 = .ok (.getfield 15, 3) := by decide +kernel
theorem dN_setLength_49 : decode cN_setLength 49 = .ok (.iconst 1, 1) := by decide +kernel
theorem dN_setLength_50 : decode cN_setLength 50 = .ok (.isub, 1) := by decide +kernel
theorem dN_setLength_51 : decode cN_setLength 51 = .ok (.putfield 15, 3) := by decide +kernel
theorem dN_setLength_54 : decode cN_setLength 54 = .ok (.aload_n 0, 1) := by decide +kernel
theorem dN_setLength_55 : decode cN_setLength 55 = .ok (.getfield 18, 3) := by decide +kernel
theorem dN_setLength_58 : decode cN_setLength 58 = .ok (.iload_n 1, 1) := by decide +kernel
theorem dN_setLength_59 : decode cN_setLength 59 = .ok (.bipush 24, 2) := by decide +kernel
theorem dN_setLength_61 : decode cN_setLength 61 = .ok (.imul, 1) := by decide +kernel
theorem dN_setLength_62 : decode cN_setLength 62 = .ok (.iload_n 2, 1) := by decide +kernel
theorem dN_setLength_63 : decode cN_setLength 63 = .ok (.iadd, 1) := by decide +kernel
theorem dN_setLength_64 : decode cN_setLength 64 = .ok (.iload_n 3, 1) := by decide +kernel
theorem dN_setLength_65 : decode cN_setLength 65 = .ok (.iastore, 1) := by decide +kernel
theorem dN_setLength_66 : decode cN_setLength 66 = .ok (.return_, 1) := by decide +kernel
theorem dA_fill_0 : decode cA_fill 0 = .ok (.iconst 0, 1) := by decide +kernel
theorem dA_fill_1 : decode cA_fill 1 = .ok (.istore_n 2, 1) := by decide +kernel
theorem dA_fill_2 : decode cA_fill 2 = .ok (.aload_n 0, 1) := by decide +kernel
theorem dA_fill_3 : decode cA_fill 3 = .ok (.arraylength, 1) := by decide +kernel
theorem dA_fill_4 : decode cA_fill 4 = .ok (.istore_n 3, 1) := by decide +kernel
theorem dA_fill_5 : decode cA_fill 5 = .ok (.iload_n 2, 1) := by decide +kernel
theorem dA_fill_6 : decode cA_fill 6 = .ok (.iload_n 3, 1) := by decide +kernel
theorem dA_fill_7 : decode cA_fill 7 = .ok (.if_icmp .ge 13, 3) := by decide +kernel
theorem dA_fill_10 : decode cA_fill 10 = .ok (.aload_n 0, 1) := by decide +kernel
theorem dA_fill_11 : decode cA_fill 11 = .ok (.iload_n 2, 1) := by decide +kernel
theorem dA_fill_12 : decode cA_fill 12 = .ok (.iload_n 1, 1) := by decide +kernel
theorem dA_fill_13 : decode cA_fill 13 = .ok (.iastore, 1) := by decide +kernel
theorem dA_fill_14 : decode cA_fill 14 = .ok (.iinc 2 1, 3) := by decide +kernel
theorem dA_fill_17 : decode cA_fill 17 = .ok (.goto (-12), 3) := by decide +kernel
theorem dA_fill_20 : decode cA_fill 20 = .ok (.return_, 1) := by decide +kernel
