theorem dH_init_0 : decode cH_init 0 = .ok (.aload_n 0, 1) := by decide +kernel
theorem dH_init_1 : decode cH_init 1 = .ok (.invokespecial 3, 3) := by decide +kernel
theorem dH_init_4 : decode cH_init 4 = .ok (.aload_n 0, 1) := by decide +kernel
theorem dH_init_5 : decode cH_init 5 = .ok (.iconst 0, 1) := by decide +kernel
theorem dH_init_6 : decode cH_init 6 = .ok (.putfield 9, 3) := by decide +kernel
theorem dH_init_9 : decode cH_init 9 = .ok (.aload_n 0, 1) := by decide +kernel
theorem dH_init_10 : decode cH_init 10 = .ok (.iconst 0, 1) := by decide +kernel
theorem dH_init_11 : decode cH_init 11 = .ok (.putfield 15, 3) := by decide +kernel
theorem dH_init_14 : decode cH_init 14 = .ok (.aload_n 0, 1) := by decide +kernel
theorem dH_init_15 : decode cH_init 15 = .ok (.bipush 41, 2) := by decide +kernel
theorem dH_init_17 : decode cH_init 17 = .ok (.newarray .int, 2) := by decide +kernel
theorem dH_init_19 : decode cH_init 19 = .ok (.putfield 18, 3) := by decide +kernel
theorem dH_init_22 : decode cH_init 22 = .ok (.aload_n 0, 1) := by decide +kernel
theorem dH_init_23 : decode cH_init 23 = .ok (.sipush 1230, 3) := by decide +kernel
theorem dH_init_26 : decode cH_init 26 = .ok (.newarray .int, 2) := by decide +kernel
theorem dH_init_28 : decode cH_init 28 = .ok (.putfield 22, 3) := by decide +kernel
theorem dH_init_31 : decode cH_init 31 = .ok (.aload_n 0, 1) := by decide +kernel
theorem dH_init_32 : decode cH_init 32 = .ok (.sipush 1230, 3) := by decide +kernel
theorem dH_init_35 : decode cH_init 35 = .ok (.newarray .int, 2) := by decide +kernel
theorem dH_init_37 : decode cH_init 37 = .ok (.putfield 25, 3) := by decide +kernel
theorem dH_init_40 : decode cH_init 40 = .ok (.aload_n 0, 1) := by decide +kernel
theorem dH_init_41 : decode cH_init 41 = .ok (.sipush 1230, 3) := by decide +kernel
theorem dH_init_44 : decode cH_init 44 = .ok (.newarray .int, 2) := by decide +kernel
theorem dH_init_46 : decode cH_init 46 = .ok (.putfield 28, 3) := by decide +kernel
theorem dH_init_49 : decode cH_init 49 = .ok (.return_, 1) := by decide +kernel
theorem dH_openSlot_0 : decode cH_openSlot 0 = .ok (.aload_n 0, 1) := by decide +kernel
theorem dH_openSlot_1 : decode cH_openSlot 1 = .ok (.getfield 15, 3) := by decide +kernel
theorem dH_openSlot_4 : decode cH_openSlot 4 = .ok (.aload_n 0, 1) := by decide +kernel
theorem dH_openSlot_5 : decode cH_openSlot 5 = .ok (.getfield 9, 3) := by decide +kernel
theorem dH_openSlot_8 : decode cH_openSlot 8 = .ok (.iadd, 1) := by decide +kernel
theorem dH_openSlot_9 : decode cH_openSlot 9 = .ok (.bipush 41, 2) := by decide +kernel
theorem dH_openSlot_11 : decode cH_openSlot 11 = .ok (.irem, 1) := by decide +kernel
theorem dH_openSlot_12 : decode cH_openSlot 12 = .ok (.ireturn, 1) := by decide +kernel
theorem dH_openChanges_0 : decode cH_openChanges 0 = .ok (.aload_n 0, 1) := by decide +kernel
theorem dH_openChanges_1 : decode cH_openChanges 1 = .ok (.getfield 18, 3) := by decide +kernel
theorem dH_openChanges_4 : decode cH_openChanges 4 = .ok (.aload_n 0, 1) := by decide +kernel
theorem dH_openChanges_5 : decode cH_openChanges 5 = .ok (.invokevirtual 31, 3) := by decide +kernel
theorem dH_openChanges_8 : decode cH_openChanges 8 = .ok (.iaload, 1) := by decide +kernel
theorem dH_openChanges_9 : decode cH_openChanges 9 = .ok (.ireturn, 1) := by decide +kernel
theorem dH_note_0 : decode cH_note 0 = .ok (.aload_n 0, 1) := by decide +kernel
theorem dH_note_1 : decode cH_note 1 = .ok (.invokevirtual 31, 3) := by decide +kernel
theorem dH_note_4 : decode cH_note 4 = .ok (.istore 4, 2) := by decide +kernel
theorem dH_note_6 : decode cH_note 6 = .ok (.aload_n 0, 1) := by decide +kernel
theorem dH_note_7 : decode cH_note 7 = .ok (.getfield 18, 3) := by decide +kernel
theorem dH_note_10 : decode cH_note 10 = .ok (.iload 4, 2) := by decide +kernel
theorem dH_note_12 : decode cH_note 12 = .ok (.iaload, 1) := by decide +kernel
theorem dH_note_13 : decode cH_note 13 = .ok (.bipush 30, 2) := by decide +kernel
theorem dH_note_15 : decode cH_note 15 = .ok (.if_icmp .lt 4, 3) := by decide +kernel
theorem dH_note_18 : decode cH_note 18 = .ok (.return_, 1) := by decide +kernel
theorem dH_note_19 : decode cH_note 19 = .ok (.iload 4, 2) := by decide +kernel
theorem dH_note_21 : decode cH_note 21 = .ok (.bipush 30, 2) := by decide +kernel
theorem dH_note_23 : decode cH_note 23 = .ok (.imul, 1) := by decide +kernel
theorem dH_note_24 : decode cH_note 24 = .ok (.aload_n 0, 1) := by decide +kernel
theorem dH_note_25 : decode cH_note 25 = .ok (.getfield 18, 3) := by decide +kernel
theorem dH_note_28 : decode cH_note 28 = .ok (.iload 4, 2) := by decide +kernel
theorem dH_note_30 : decode cH_note 30 = .ok (.iaload, 1) := by decide +kernel
theorem dH_note_31 : decode cH_note 31 = .ok (.iadd, 1) := by decide +kernel
theorem dH_note_32 : decode cH_note 32 = .ok (.istore 5, 2) := by decide +kernel
theorem dH_note_34 : decode cH_note 34 = .ok (.aload_n 0, 1) := by decide +kernel
theorem dH_note_35 : decode cH_note 35 = .ok (.getfield 22, 3) := by decide +kernel
theorem dH_note_38 : decode cH_note 38 = .ok (.iload 5, 2) := by decide +kernel
theorem dH_note_40 : decode cH_note 40 = .ok (.iload_n 1, 1) := by decide +kernel
theorem dH_note_41 : decode cH_note 41 = .ok (.iastore, 1) := by decide +kernel
theorem dH_note_42 : decode cH_note 42 = .ok (.aload_n 0, 1) := by decide +kernel
theorem dH_note_43 : decode cH_note 43 = .ok (.getfield 25, 3) := by decide +kernel
theorem dH_note_46 : decode cH_note 46 = .ok (.iload 5, 2) := by decide +kernel
theorem dH_note_48 : decode cH_note 48 = .ok (.iload_n 2, 1) := by decide +kernel
theorem dH_note_49 : decode cH_note 49 = .ok (.iastore, 1) := by decide +kernel
theorem dH_note_50 : decode cH_note 50 = .ok (.aload_n 0, 1) := by decide +kernel
theorem dH_note_51 : decode cH_note 51 = .ok (.getfield 28, 3) := by decide +kernel
theorem dH_note_54 : decode cH_note 54 = .ok (.iload 5, 2) := by decide +kernel
theorem dH_note_56 : decode cH_note 56 = .ok (.iload_n 3, 1) := by decide +kernel
theorem dH_note_57 : decode cH_note 57 = .ok (.iastore, 1) := by decide +kernel
theorem dH_note_58 : decode cH_note 58 = .ok (.aload_n 0, 1) := by decide +kernel
theorem dH_note_59 : decode cH_note 59 = .ok (.getfield 18, 3) := by decide +kernel
theorem dH_note_62 : decode cH_note 62 = .ok (.iload 4, 2) := by decide +kernel
theorem dH_note_64 : decode cH_note 64 = .ok (.dup2, 1) := by decide +kernel
theorem dH_note_65 : decode cH_note 65 = .ok (.iaload, 1) := by decide +kernel
theorem dH_note_66 : decode cH_note 66 = .ok (.iconst 1, 1) := by decide +kernel
theorem dH_note_67 : decode cH_note 67 = .ok (.iadd, 1) := by decide +kernel
theorem dH_note_68 : decode cH_note 68 = .ok (.iastore, 1) := by decide +kernel
theorem dH_note_69 : decode cH_note 69 = .ok (.return_, 1) := by decide +kernel
theorem dH_keepOpen_0 : decode cH_keepOpen 0 = .ok (.aload_n 0, 1) := by decide +kernel
theorem dH_keepOpen_1 : decode cH_keepOpen 1 = .ok (.getfield 9, 3) := by decide +kernel
theorem dH_keepOpen_4 : decode cH_keepOpen 4 = .ok (.bipush 40, 2) := by decide +kernel
theorem dH_keepOpen_6 : decode cH_keepOpen 6 = .ok (.if_icmp .ge 16, 3) := by decide +kernel
theorem dH_keepOpen_9 : decode cH_keepOpen 9 = .ok (.aload_n 0, 1) := by decide +kernel
theorem dH_keepOpen_10 : decode cH_keepOpen 10 = .ok (.dup, 1) := by decide +kernel
theorem dH_keepOpen_11 : decode cH_keepOpen 11 = .ok (.getfield 9, 3) := by decide +kernel
theorem dH_keepOpen_14 : decode cH_keepOpen 14 = .ok (.iconst 1, 1) := by decide +kernel
theorem dH_keepOpen_15 : decode cH_keepOpen 15 = .ok (.iadd, 1) := by decide +kernel
theorem dH_keepOpen_16 : decode cH_keepOpen 16 = .ok (.putfield 9, 3) := by decide +kernel
theorem dH_keepOpen_19 : decode cH_keepOpen 19 = .ok (.goto 16, 3) := by decide +kernel
theorem dH_keepOpen_22 : decode cH_keepOpen 22 = .ok (.aload_n 0, 1) := by decide +kernel
theorem dH_keepOpen_23 : decode cH_keepOpen 23 = .ok (.aload_n 0, 1) := by decide +kernel
theorem dH_keepOpen_24 : decode cH_keepOpen 24 = .ok (.getfield 15, 3) := by decide +kernel
theorem dH_keepOpen_27 : decode cH_keepOpen 27 = .ok (.iconst 1, 1) := by decide +kernel
theorem dH_keepOpen_28 : decode cH_keepOpen 28 = .ok (.iadd, 1) := by decide +kernel
theorem dH_keepOpen_29 : decode cH_keepOpen 29 = .ok (.bipush 41, 2) := by decide +kernel
theorem dH_keepOpen_31 : decode cH_keepOpen 31 = .ok (.irem, 1) := by decide +kernel
theorem dH_keepOpen_32 : decode cH_keepOpen 32 = .ok (.putfield 15, 3) := by decide +kernel
theorem dH_keepOpen_35 : decode cH_keepOpen 35 = .ok (.aload_n 0, 1) := by decide +kernel
theorem dH_keepOpen_36 : decode cH_keepOpen 36 = .ok (.getfield 18, 3) := by decide +kernel
theorem dH_keepOpen_39 : decode cH_keepOpen 39 = .ok (.aload_n 0, 1) := by decide +kernel
theorem dH_keepOpen_40 : decode cH_keepOpen 40 = .ok (.invokevirtual 31, 3) := by decide +kernel
theorem dH_keepOpen_43 : decode cH_keepOpen 43 = .ok (.iconst 0, 1) := by decide +kernel
theorem dH_keepOpen_44 : decode cH_keepOpen 44 = .ok (.iastore, 1) := by decide +kernel
theorem dH_keepOpen_45 : decode cH_keepOpen 45 = .ok (.return_, 1) := by decide +kernel
theorem dH_takeBackLatest_0 : decode cH_takeBackLatest 0 = .ok (.aload_n 0, 1) := by decide +kernel
theorem dH_takeBackLatest_1 : decode cH_takeBackLatest 1 = .ok (.getfield 9, 3) := by decide +kernel
theorem dH_takeBackLatest_4 : decode cH_takeBackLatest 4 = .ok (.ifCond .ne 4, 3) := by decide +kernel
theorem dH_takeBackLatest_7 : decode cH_takeBackLatest 7 = .ok (.return_, 1) := by decide +kernel
theorem dH_takeBackLatest_8 : decode cH_takeBackLatest 8 = .ok (.aload_n 0, 1) := by decide +kernel
theorem dH_takeBackLatest_9 : decode cH_takeBackLatest 9 = .ok (.dup, 1) := by decide +kernel
theorem dH_takeBackLatest_10 : decode cH_takeBackLatest 10 = .ok (.getfield 9, 3) := by decide +kernel
theorem dH_takeBackLatest_13 : decode cH_takeBackLatest 13 = .ok (.iconst 1, 1) := by decide +kernel
theorem dH_takeBackLatest_14 : decode cH_takeBackLatest 14 = .ok (.isub, 1) := by decide +kernel
theorem dH_takeBackLatest_15 : decode cH_takeBackLatest 15 = .ok (.putfield 9, 3) := by decide +kernel
theorem dH_takeBackLatest_18 : decode cH_takeBackLatest 18 = .ok (.aload_n 0, 1) := by decide +kernel
theorem dH_takeBackLatest_19 : decode cH_takeBackLatest 19 = .ok (.invokevirtual 31, 3) := by decide +kernel
theorem dH_takeBackLatest_22 : decode cH_takeBackLatest 22 = .ok (.istore_n 2, 1) := by decide +kernel
theorem dH_takeBackLatest_23 : decode cH_takeBackLatest 23 = .ok (.aload_n 0, 1) := by decide +kernel
theorem dH_takeBackLatest_24 : decode cH_takeBackLatest 24 = .ok (.getfield 18, 3) := by decide +kernel
theorem dH_takeBackLatest_27 : decode cH_takeBackLatest 27 = .ok (.iload_n 2, 1) := by decide +kernel
theorem dH_takeBackLatest_28 : decode cH_takeBackLatest 28 = .ok (.iaload, 1) := by decide +kernel
theorem dH_takeBackLatest_29 : decode cH_takeBackLatest 29 = .ok (.iconst 1, 1) := by decide +kernel
theorem dH_takeBackLatest_30 : decode cH_takeBackLatest 30 = .ok (.isub, 1) := by decide +kernel
theorem dH_takeBackLatest_31 : decode cH_takeBackLatest 31 = .ok (.istore_n 3, 1) := by decide +kernel
theorem dH_takeBackLatest_32 : decode cH_takeBackLatest 32 = .ok (.iload_n 3, 1) := by decide +kernel
theorem dH_takeBackLatest_33 : decode cH_takeBackLatest 33 = .ok (.ifCond .lt 42, 3) := by decide +kernel
theorem dH_takeBackLatest_36 : decode cH_takeBackLatest 36 = .ok (.iload_n 2, 1) := by decide +kernel
theorem dH_takeBackLatest_37 : decode cH_takeBackLatest 37 = .ok (.bipush 30, 2) := by decide +kernel
theorem dH_takeBackLatest_39 : decode cH_takeBackLatest 39 = .ok (.imul, 1) := by decide +kernel
theorem dH_takeBackLatest_40 : decode cH_takeBackLatest 40 = .ok (.iload_n 3, 1) := by decide +kernel
theorem dH_takeBackLatest_41 : decode cH_takeBackLatest 41 = .ok (.iadd, 1) := by decide +kernel
theorem dH_takeBackLatest_42 : decode cH_takeBackLatest 42 = .ok (.istore 4, 2) := by decide +kernel
theorem dH_takeBackLatest_44 : decode cH_takeBackLatest 44 = .ok (.aload_n 1, 1) := by decide +kernel
theorem dH_takeBackLatest_45 : decode cH_takeBackLatest 45 = .ok (.aload_n 0, 1) := by decide +kernel
theorem dH_takeBackLatest_46 : decode cH_takeBackLatest 46 = .ok (.getfield 22, 3) := by decide +kernel
theorem dH_takeBackLatest_49 : decode cH_takeBackLatest 49 = .ok (.iload 4, 2) := by decide +kernel
theorem dH_takeBackLatest_51 : decode cH_takeBackLatest 51 = .ok (.iaload, 1) := by decide +kernel
theorem dH_takeBackLatest_52 : decode cH_takeBackLatest 52 = .ok (.aload_n 0, 1) := by decide +kernel
theorem dH_takeBackLatest_53 : decode cH_takeBackLatest 53 = .ok (.getfield 25, 3) := by decide +kernel
theorem dH_takeBackLatest_56 : decode cH_takeBackLatest 56 = .ok (.iload 4, 2) := by decide +kernel
theorem dH_takeBackLatest_58 : decode cH_takeBackLatest 58 = .ok (.iaload, 1) := by decide +kernel
theorem dH_takeBackLatest_59 : decode cH_takeBackLatest 59 = .ok (.aload_n 0, 1) := by decide +kernel
theorem dH_takeBackLatest_60 : decode cH_takeBackLatest 60 = .ok (.getfield 28, 3) := by decide +kernel
theorem dH_takeBackLatest_63 : decode cH_takeBackLatest 63 = .ok (.iload 4, 2) := by decide +kernel
theorem dH_takeBackLatest_65 : decode cH_takeBackLatest 65 = .ok (.iaload, 1) := by decide +kernel
theorem dH_takeBackLatest_66 : decode cH_takeBackLatest 66 = .ok (.invokevirtual 35, 3) := by decide +kernel
theorem dH_takeBackLatest_69 : decode cH_takeBackLatest 69 = .ok (.iinc 3 (-1), 3) := by decide +kernel
theorem dH_takeBackLatest_72 : decode cH_takeBackLatest 72 = .ok (.goto (-40), 3) := by decide +kernel
theorem dH_takeBackLatest_75 : decode cH_takeBackLatest 75 = .ok (.aload_n 0, 1) := by decide +kernel
theorem dH_takeBackLatest_76 : decode cH_takeBackLatest 76 = .ok (.getfield 18, 3) := by decide +kernel
theorem dH_takeBackLatest_79 : decode cH_takeBackLatest 79 = .ok (.iload_n 2, 1) := by decide +kernel
theorem dH_takeBackLatest_80 : decode cH_takeBackLatest 80 = .ok (.iconst 0, 1) := by decide +kernel
theorem dH_takeBackLatest_81 : decode cH_takeBackLatest 81 = .ok (.iastore, 1) := by decide +kernel
theorem dH_takeBackLatest_82 : decode cH_takeBackLatest 82 = .ok (.return_, 1) := by decide +kernel
theorem dS_init_0 : decode cS_init 0 = .ok (.aload_n 0, 1) := by decide +kernel
theorem dS_init_1 : decode cS_init 1 = .ok (.invokespecial 3, 3) := by decide +kernel
theorem dS_init_4 : decode cS_init 4 = .ok (.aload_n 0, 1) := by decide +kernel
theorem dS_init_5 : decode cS_init 5 = .ok (.iconst (-1), 1) := by decide +kernel
theorem dS_init_6 : decode cS_init 6 = .ok (.putfield 9, 3) := by decide +kernel
theorem dS_init_9 : decode cS_init 9 = .ok (.aload_n 0, 1) := by decide +kernel
theorem dS_init_10 : decode cS_init 10 = .ok (.iconst 0, 1) := by decide +kernel
theorem dS_init_11 : decode cS_init 11 = .ok (.putfield 15, 3) := by decide +kernel
theorem dS_init_14 : decode cS_init 14 = .ok (.aload_n 0, 1) := by decide +kernel
theorem dS_init_15 : decode cS_init 15 = .ok (.new 18, 3) := by decide +kernel
theorem dS_init_18 : decode cS_init 18 = .ok (.dup, 1) := by decide +kernel
theorem dS_init_19 : decode cS_init 19 = .ok (.invokespecial 20, 3) := by decide +kernel
theorem dS_init_22 : decode cS_init 22 = .ok (.putfield 21, 3) := by decide +kernel
theorem dS_init_25 : decode cS_init 25 = .ok (.aload_n 0, 1) := by decide +kernel
theorem dS_init_26 : decode cS_init 26 = .ok (.new 18, 3) := by decide +kernel
theorem dS_init_29 : decode cS_init 29 = .ok (.dup, 1) := by decide +kernel
theorem dS_init_30 : decode cS_init 30 = .ok (.invokespecial 20, 3) := by decide +kernel
theorem dS_init_33 : decode cS_init 33 = .ok (.putfield 25, 3) := by decide +kernel
theorem dS_init_36 : decode cS_init 36 = .ok (.return_, 1) := by decide +kernel
theorem dS_moveTo_0 : decode cS_moveTo 0 = .ok (.aload_n 0, 1) := by decide +kernel
theorem dS_moveTo_1 : decode cS_moveTo 1 = .ok (.iload_n 1, 1) := by decide +kernel
theorem dS_moveTo_2 : decode cS_moveTo 2 = .ok (.putfield 9, 3) := by decide +kernel
theorem dS_moveTo_5 : decode cS_moveTo 5 = .ok (.aload_n 0, 1) := by decide +kernel
theorem dS_moveTo_6 : decode cS_moveTo 6 = .ok (.getfield 21, 3) := by decide +kernel
theorem dS_moveTo_9 : decode cS_moveTo 9 = .ok (.aload_n 2, 1) := by decide +kernel
theorem dS_moveTo_10 : decode cS_moveTo 10 = .ok (.iload_n 1, 1) := by decide +kernel
theorem dS_moveTo_11 : decode cS_moveTo 11 = .ok (.invokevirtual 28, 3) := by decide +kernel
theorem dS_moveTo_14 : decode cS_moveTo 14 = .ok (.aload_n 0, 1) := by decide +kernel
theorem dS_moveTo_15 : decode cS_moveTo 15 = .ok (.iconst 0, 1) := by decide +kernel
theorem dS_moveTo_16 : decode cS_moveTo 16 = .ok (.putfield 15, 3) := by decide +kernel
theorem dS_moveTo_19 : decode cS_moveTo 19 = .ok (.return_, 1) := by decide +kernel
theorem dS_recount_0 : decode cS_recount 0 = .ok (.aload_n 0, 1) := by decide +kernel
theorem dS_recount_1 : decode cS_recount 1 = .ok (.getfield 21, 3) := by decide +kernel
theorem dS_recount_4 : decode cS_recount 4 = .ok (.astore_n 2, 1) := by decide +kernel
theorem dS_recount_5 : decode cS_recount 5 = .ok (.aload_n 0, 1) := by decide +kernel
theorem dS_recount_6 : decode cS_recount 6 = .ok (.getfield 25, 3) := by decide +kernel
theorem dS_recount_9 : decode cS_recount 9 = .ok (.aload_n 1, 1) := by decide +kernel
theorem dS_recount_10 : decode cS_recount 10 = .ok (.aload_n 0, 1) := by decide +kernel
theorem dS_recount_11 : decode cS_recount 11 = .ok (.getfield 9, 3) := by decide +kernel
theorem dS_recount_14 : decode cS_recount 14 = .ok (.invokevirtual 28, 3) := by decide +kernel
theorem dS_recount_17 : decode cS_recount 17 = .ok (.aload_n 0, 1) := by decide +kernel
theorem dS_recount_18 : decode cS_recount 18 = .ok (.aload_n 0, 1) := by decide +kernel
theorem dS_recount_19 : decode cS_recount 19 = .ok (.getfield 25, 3) := by decide +kernel
theorem dS_recount_22 : decode cS_recount 22 = .ok (.aload_n 2, 1) := by decide +kernel
theorem dS_recount_23 : decode cS_recount 23 = .ok (.invokevirtual 32, 3) := by decide +kernel
theorem dS_recount_26 : decode cS_recount 26 = .ok (.putfield 15, 3) := by decide +kernel
theorem dS_recount_29 : decode cS_recount 29 = .ok (.aload_n 0, 1) := by decide +kernel
theorem dS_recount_30 : decode cS_recount 30 = .ok (.aload_n 0, 1) := by decide +kernel
theorem dS_recount_31 : decode cS_recount 31 = .ok (.getfield 25, 3) := by decide +kernel
theorem dS_recount_34 : decode cS_recount 34 = .ok (.putfield 21, 3) := by decide +kernel
theorem dS_recount_37 : decode cS_recount 37 = .ok (.aload_n 0, 1) := by decide +kernel
theorem dS_recount_38 : decode cS_recount 38 = .ok (.aload_n 2, 1) := by decide +kernel
theorem dS_recount_39 : decode cS_recount 39 = .ok (.putfield 25, 3) := by decide +kernel
theorem dS_recount_42 : decode cS_recount 42 = .ok (.return_, 1) := by decide +kernel
