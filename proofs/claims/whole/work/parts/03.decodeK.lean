theorem dK_init_0 : decode cK_init 0 = .ok (.aload_n 0, 1) := by decide +kernel
theorem dK_init_1 : decode cK_init 1 = .ok (.invokespecial 1, 3) := by decide +kernel
theorem dK_init_4 : decode cK_init 4 = .ok (.aload_n 0, 1) := by decide +kernel
theorem dK_init_5 : decode cK_init 5 = .ok (.new 7, 3) := by decide +kernel
theorem dK_init_8 : decode cK_init 8 = .ok (.dup, 1) := by decide +kernel
theorem dK_init_9 : decode cK_init 9 = .ok (.invokespecial 9, 3) := by decide +kernel
theorem dK_init_12 : decode cK_init 12 = .ok (.putfield 10, 3) := by decide +kernel
theorem dK_init_15 : decode cK_init 15 = .ok (.aload_n 0, 1) := by decide +kernel
theorem dK_init_16 : decode cK_init 16 = .ok (.new 16, 3) := by decide +kernel
theorem dK_init_19 : decode cK_init 19 = .ok (.dup, 1) := by decide +kernel
theorem dK_init_20 : decode cK_init 20 = .ok (.invokespecial 18, 3) := by decide +kernel
theorem dK_init_23 : decode cK_init 23 = .ok (.putfield 19, 3) := by decide +kernel
theorem dK_init_26 : decode cK_init 26 = .ok (.aload_n 0, 1) := by decide +kernel
theorem dK_init_27 : decode cK_init 27 = .ok (.iconst 3, 1) := by decide +kernel
theorem dK_init_28 : decode cK_init 28 = .ok (.anewarray 23, 3) := by decide +kernel
theorem dK_init_31 : decode cK_init 31 = .ok (.putfield 25, 3) := by decide +kernel
theorem dK_init_34 : decode cK_init 34 = .ok (.aload_n 0, 1) := by decide +kernel
theorem dK_init_35 : decode cK_init 35 = .ok (.new 29, 3) := by decide +kernel
theorem dK_init_38 : decode cK_init 38 = .ok (.dup, 1) := by decide +kernel
theorem dK_init_39 : decode cK_init 39 = .ok (.invokespecial 31, 3) := by decide +kernel
theorem dK_init_42 : decode cK_init 42 = .ok (.putfield 32, 3) := by decide +kernel
theorem dK_init_45 : decode cK_init 45 = .ok (.aload_n 0, 1) := by decide +kernel
theorem dK_init_46 : decode cK_init 46 = .ok (.bipush 24, 2) := by decide +kernel
theorem dK_init_48 : decode cK_init 48 = .ok (.newarray .int, 2) := by decide +kernel
theorem dK_init_50 : decode cK_init 50 = .ok (.putfield 36, 3) := by decide +kernel
theorem dK_init_53 : decode cK_init 53 = .ok (.aload_n 0, 1) := by decide +kernel
theorem dK_init_54 : decode cK_init 54 = .ok (.iconst 0, 1) := by decide +kernel
theorem dK_init_55 : decode cK_init 55 = .ok (.putfield 40, 3) := by decide +kernel
theorem dK_init_58 : decode cK_init 58 = .ok (.aload_n 0, 1) := by decide +kernel
theorem dK_init_59 : decode cK_init 59 = .ok (.iconst 0, 1) := by decide +kernel
theorem dK_init_60 : decode cK_init 60 = .ok (.putfield 44, 3) := by decide +kernel
theorem dK_init_63 : decode cK_init 63 = .ok (.aload_n 0, 1) := by decide +kernel
theorem dK_init_64 : decode cK_init 64 = .ok (.iconst 0, 1) := by decide +kernel
theorem dK_init_65 : decode cK_init 65 = .ok (.putfield 48, 3) := by decide +kernel
theorem dK_init_68 : decode cK_init 68 = .ok (.iconst 0, 1) := by decide +kernel
theorem dK_init_69 : decode cK_init 69 = .ok (.istore_n 1, 1) := by decide +kernel
theorem dK_init_70 : decode cK_init 70 = .ok (.iload_n 1, 1) := by decide +kernel
theorem dK_init_71 : decode cK_init 71 = .ok (.iconst 3, 1) := by decide +kernel
theorem dK_init_72 : decode cK_init 72 = .ok (.if_icmp .ge 22, 3) := by decide +kernel
theorem dK_init_75 : decode cK_init 75 = .ok (.aload_n 0, 1) := by decide +kernel
theorem dK_init_76 : decode cK_init 76 = .ok (.getfield 25, 3) := by decide +kernel
theorem dK_init_79 : decode cK_init 79 = .ok (.iload_n 1, 1) := by decide +kernel
theorem dK_init_80 : decode cK_init 80 = .ok (.new 23, 3) := by decide +kernel
theorem dK_init_83 : decode cK_init 83 = .ok (.dup, 1) := by decide +kernel
theorem dK_init_84 : decode cK_init 84 = .ok (.invokespecial 51, 3) := by decide +kernel
theorem dK_init_87 : decode cK_init 87 = .ok (.aastore, 1) := by decide +kernel
theorem dK_init_88 : decode cK_init 88 = .ok (.iinc 1 1, 3) := by decide +kernel
theorem dK_init_91 : decode cK_init 91 = .ok (.goto (-21), 3) := by decide +kernel
theorem dK_init_94 : decode cK_init 94 = .ok (.return_, 1) := by decide +kernel
theorem dK_node_0 : decode cK_node 0 = .ok (.aload_n 0, 1) := by decide +kernel
theorem dK_node_1 : decode cK_node 1 = .ok (.getfield 44, 3) := by decide +kernel
theorem dK_node_4 : decode cK_node 4 = .ok (.ifCond .eq 6, 3) := by decide +kernel
theorem dK_node_7 : decode cK_node 7 = .ok (.ldc 52, 2) := by decide +kernel
theorem dK_node_9 : decode cK_node 9 = .ok (.ireturn, 1) := by decide +kernel
theorem dK_node_10 : decode cK_node 10 = .ok (.aload_n 0, 1) := by decide +kernel
theorem dK_node_11 : decode cK_node 11 = .ok (.getfield 10, 3) := by decide +kernel
theorem dK_node_14 : decode cK_node 14 = .ok (.getfield 53, 3) := by decide +kernel
theorem dK_node_17 : decode cK_node 17 = .ok (.bipush 24, 2) := by decide +kernel
theorem dK_node_19 : decode cK_node 19 = .ok (.if_icmp .lt 6, 3) := by decide +kernel
theorem dK_node_22 : decode cK_node 22 = .ok (.ldc 56, 2) := by decide +kernel
theorem dK_node_24 : decode cK_node 24 = .ok (.ireturn, 1) := by decide +kernel
theorem dK_node_25 : decode cK_node 25 = .ok (.aload_n 0, 1) := by decide +kernel
theorem dK_node_26 : decode cK_node 26 = .ok (.getfield 10, 3) := by decide +kernel
theorem dK_node_29 : decode cK_node 29 = .ok (.invokevirtual 57, 3) := by decide +kernel
theorem dK_node_32 : decode cK_node 32 = .ok (.ireturn, 1) := by decide +kernel
theorem dK_source_0 : decode cK_source 0 = .ok (.iload_n 1, 1) := by decide +kernel
theorem dK_source_1 : decode cK_source 1 = .ok (.invokestatic 61, 3) := by decide +kernel
theorem dK_source_4 : decode cK_source 4 = .ok (.ifCond .eq 19, 3) := by decide +kernel
theorem dK_source_7 : decode cK_source 7 = .ok (.iload_n 2, 1) := by decide +kernel
theorem dK_source_8 : decode cK_source 8 = .ok (.iconst (-1), 1) := by decide +kernel
theorem dK_source_9 : decode cK_source 9 = .ok (.if_icmp .eq 17, 3) := by decide +kernel
theorem dK_source_12 : decode cK_source 12 = .ok (.aload_n 0, 1) := by decide +kernel
theorem dK_source_13 : decode cK_source 13 = .ok (.getfield 10, 3) := by decide +kernel
theorem dK_source_16 : decode cK_source 16 = .ok (.iload_n 2, 1) := by decide +kernel
theorem dK_source_17 : decode cK_source 17 = .ok (.invokevirtual 65, 3) := by decide +kernel
theorem dK_source_20 : decode cK_source 20 = .ok (.ifCond .ne 6, 3) := by decide +kernel
theorem dK_source_23 : decode cK_source 23 = .ok (.ldc 68, 2) := by decide +kernel
theorem dK_source_25 : decode cK_source 25 = .ok (.ireturn, 1) := by decide +kernel
theorem dK_source_26 : decode cK_source 26 = .ok (.aload_n 0, 1) := by decide +kernel
theorem dK_source_27 : decode cK_source 27 = .ok (.getfield 44, 3) := by decide +kernel
theorem dK_source_30 : decode cK_source 30 = .ok (.ifCond .eq 6, 3) := by decide +kernel
theorem dK_source_33 : decode cK_source 33 = .ok (.ldc 52, 2) := by decide +kernel
theorem dK_source_35 : decode cK_source 35 = .ok (.ireturn, 1) := by decide +kernel
theorem dK_source_36 : decode cK_source 36 = .ok (.aload_n 0, 1) := by decide +kernel
theorem dK_source_37 : decode cK_source 37 = .ok (.getfield 25, 3) := by decide +kernel
theorem dK_source_40 : decode cK_source 40 = .ok (.iload_n 1, 1) := by decide +kernel
theorem dK_source_41 : decode cK_source 41 = .ok (.aaload, 1) := by decide +kernel
theorem dK_source_42 : decode cK_source 42 = .ok (.getfield 69, 3) := by decide +kernel
theorem dK_source_45 : decode cK_source 45 = .ok (.istore_n 3, 1) := by decide +kernel
theorem dK_source_46 : decode cK_source 46 = .ok (.aload_n 0, 1) := by decide +kernel
theorem dK_source_47 : decode cK_source 47 = .ok (.getfield 25, 3) := by decide +kernel
theorem dK_source_50 : decode cK_source 50 = .ok (.iload_n 1, 1) := by decide +kernel
theorem dK_source_51 : decode cK_source 51 = .ok (.aaload, 1) := by decide +kernel
theorem dK_source_52 : decode cK_source 52 = .ok (.iload_n 2, 1) := by decide +kernel
theorem dK_source_53 : decode cK_source 53 = .ok (.aload_n 0, 1) := by decide +kernel
theorem dK_source_54 : decode cK_source 54 = .ok (.getfield 10, 3) := by decide +kernel
theorem dK_source_57 : decode cK_source 57 = .ok (.invokevirtual 72, 3) := by decide +kernel
theorem dK_source_60 : decode cK_source 60 = .ok (.iload_n 3, 1) := by decide +kernel
theorem dK_source_61 : decode cK_source 61 = .ok (.ireturn, 1) := by decide +kernel
theorem dK_put_0 : decode cK_put 0 = .ok (.aload_n 0, 1) := by decide +kernel
theorem dK_put_1 : decode cK_put 1 = .ok (.getfield 10, 3) := by decide +kernel
theorem dK_put_4 : decode cK_put 4 = .ok (.iload_n 1, 1) := by decide +kernel
theorem dK_put_5 : decode cK_put 5 = .ok (.iload_n 2, 1) := by decide +kernel
theorem dK_put_6 : decode cK_put 6 = .ok (.invokevirtual 76, 3) := by decide +kernel
theorem dK_put_9 : decode cK_put 9 = .ok (.ifCond .eq 17, 3) := by decide +kernel
theorem dK_put_12 : decode cK_put 12 = .ok (.iload_n 3, 1) := by decide +kernel
theorem dK_put_13 : decode cK_put 13 = .ok (.sipush (-1000), 3) := by decide +kernel
theorem dK_put_16 : decode cK_put 16 = .ok (.if_icmp .lt 10, 3) := by decide +kernel
theorem dK_put_19 : decode cK_put 19 = .ok (.iload_n 3, 1) := by decide +kernel
theorem dK_put_20 : decode cK_put 20 = .ok (.sipush 1000, 3) := by decide +kernel
theorem dK_put_23 : decode cK_put 23 = .ok (.if_icmp .le 6, 3) := by decide +kernel
theorem dK_put_26 : decode cK_put 26 = .ok (.ldc 68, 2) := by decide +kernel
theorem dK_put_28 : decode cK_put 28 = .ok (.ireturn, 1) := by decide +kernel
theorem dK_put_29 : decode cK_put 29 = .ok (.aload_n 0, 1) := by decide +kernel
theorem dK_put_30 : decode cK_put 30 = .ok (.invokevirtual 80, 3) := by decide +kernel
theorem dK_put_33 : decode cK_put 33 = .ok (.ifCond .eq 6, 3) := by decide +kernel
theorem dK_put_36 : decode cK_put 36 = .ok (.ldc 56, 2) := by decide +kernel
theorem dK_put_38 : decode cK_put 38 = .ok (.ireturn, 1) := by decide +kernel
theorem dK_put_39 : decode cK_put 39 = .ok (.aload_n 0, 1) := by decide +kernel
theorem dK_put_40 : decode cK_put 40 = .ok (.iload_n 1, 1) := by decide +kernel
theorem dK_put_41 : decode cK_put 41 = .ok (.iload_n 2, 1) := by decide +kernel
theorem dK_put_42 : decode cK_put 42 = .ok (.iload_n 3, 1) := by decide +kernel
theorem dK_put_43 : decode cK_put 43 = .ok (.invokevirtual 84, 3) := by decide +kernel
theorem dK_put_46 : decode cK_put 46 = .ok (.ifCond .eq 11, 3) := by decide +kernel
theorem dK_put_49 : decode cK_put 49 = .ok (.aload_n 0, 1) := by decide +kernel
theorem dK_put_50 : decode cK_put 50 = .ok (.iload_n 1, 1) := by decide +kernel
theorem dK_put_51 : decode cK_put 51 = .ok (.invokevirtual 88, 3) := by decide +kernel
theorem dK_put_54 : decode cK_put 54 = .ok (.ldc 92, 2) := by decide +kernel
theorem dK_put_56 : decode cK_put 56 = .ok (.ireturn, 1) := by decide +kernel
theorem dK_put_57 : decode cK_put 57 = .ok (.aload_n 0, 1) := by decide +kernel
theorem dK_put_58 : decode cK_put 58 = .ok (.iload_n 1, 1) := by decide +kernel
theorem dK_put_59 : decode cK_put 59 = .ok (.iload_n 2, 1) := by decide +kernel
theorem dK_put_60 : decode cK_put 60 = .ok (.iload_n 3, 1) := by decide +kernel
theorem dK_put_61 : decode cK_put 61 = .ok (.invokevirtual 93, 3) := by decide +kernel
theorem dK_put_64 : decode cK_put 64 = .ok (.ireturn, 1) := by decide +kernel
theorem dK_take_0 : decode cK_take 0 = .ok (.aload_n 0, 1) := by decide +kernel
theorem dK_take_1 : decode cK_take 1 = .ok (.getfield 10, 3) := by decide +kernel
theorem dK_take_4 : decode cK_take 4 = .ok (.iload_n 1, 1) := by decide +kernel
theorem dK_take_5 : decode cK_take 5 = .ok (.iload_n 2, 1) := by decide +kernel
theorem dK_take_6 : decode cK_take 6 = .ok (.invokevirtual 76, 3) := by decide +kernel
theorem dK_take_9 : decode cK_take 9 = .ok (.ifCond .ne 6, 3) := by decide +kernel
theorem dK_take_12 : decode cK_take 12 = .ok (.ldc 68, 2) := by decide +kernel
theorem dK_take_14 : decode cK_take 14 = .ok (.ireturn, 1) := by decide +kernel
theorem dK_take_15 : decode cK_take 15 = .ok (.aload_n 0, 1) := by decide +kernel
theorem dK_take_16 : decode cK_take 16 = .ok (.invokevirtual 80, 3) := by decide +kernel
theorem dK_take_19 : decode cK_take 19 = .ok (.ifCond .eq 6, 3) := by decide +kernel
theorem dK_take_22 : decode cK_take 22 = .ok (.ldc 56, 2) := by decide +kernel
theorem dK_take_24 : decode cK_take 24 = .ok (.ireturn, 1) := by decide +kernel
theorem dK_take_25 : decode cK_take 25 = .ok (.aload_n 0, 1) := by decide +kernel
theorem dK_take_26 : decode cK_take 26 = .ok (.getfield 10, 3) := by decide +kernel
theorem dK_take_29 : decode cK_take 29 = .ok (.iload_n 1, 1) := by decide +kernel
theorem dK_take_30 : decode cK_take 30 = .ok (.iload_n 2, 1) := by decide +kernel
theorem dK_take_31 : decode cK_take 31 = .ok (.invokevirtual 97, 3) := by decide +kernel
theorem dK_take_34 : decode cK_take 34 = .ok (.ldc 101, 2) := by decide +kernel
theorem dK_take_36 : decode cK_take 36 = .ok (.if_icmp .ne 6, 3) := by decide +kernel
theorem dK_take_39 : decode cK_take 39 = .ok (.ldc 101, 2) := by decide +kernel
theorem dK_take_41 : decode cK_take 41 = .ok (.ireturn, 1) := by decide +kernel
theorem dK_take_42 : decode cK_take 42 = .ok (.aload_n 0, 1) := by decide +kernel
theorem dK_take_43 : decode cK_take 43 = .ok (.iload_n 1, 1) := by decide +kernel
theorem dK_take_44 : decode cK_take 44 = .ok (.iload_n 2, 1) := by decide +kernel
theorem dK_take_45 : decode cK_take 45 = .ok (.ldc 101, 2) := by decide +kernel
theorem dK_take_47 : decode cK_take 47 = .ok (.invokevirtual 93, 3) := by decide +kernel
theorem dK_take_50 : decode cK_take 50 = .ok (.ireturn, 1) := by decide +kernel
theorem dK_arc_0 : decode cK_arc 0 = .ok (.aload_n 0, 1) := by decide +kernel
theorem dK_arc_1 : decode cK_arc 1 = .ok (.getfield 10, 3) := by decide +kernel
theorem dK_arc_4 : decode cK_arc 4 = .ok (.iload_n 1, 1) := by decide +kernel
theorem dK_arc_5 : decode cK_arc 5 = .ok (.iload_n 2, 1) := by decide +kernel
theorem dK_arc_6 : decode cK_arc 6 = .ok (.invokevirtual 76, 3) := by decide +kernel
theorem dK_arc_9 : decode cK_arc 9 = .ok (.ifCond .eq 15, 3) := by decide +kernel
theorem dK_arc_12 : decode cK_arc 12 = .ok (.aload_n 0, 1) := by decide +kernel
theorem dK_arc_13 : decode cK_arc 13 = .ok (.getfield 10, 3) := by decide +kernel
theorem dK_arc_16 : decode cK_arc 16 = .ok (.iload_n 1, 1) := by decide +kernel
theorem dK_arc_17 : decode cK_arc 17 = .ok (.iload_n 2, 1) := by decide +kernel
theorem dK_arc_18 : decode cK_arc 18 = .ok (.invokevirtual 97, 3) := by decide +kernel
theorem dK_arc_21 : decode cK_arc 21 = .ok (.goto 5, 3) := by decide +kernel
theorem dK_arc_24 : decode cK_arc 24 = .ok (.ldc 68, 2) := by decide +kernel
theorem dK_arc_26 : decode cK_arc 26 = .ok (.ireturn, 1) := by decide +kernel
theorem dK_begin_0 : decode cK_begin 0 = .ok (.aload_n 0, 1) := by decide +kernel
theorem dK_begin_1 : decode cK_begin 1 = .ok (.getfield 44, 3) := by decide +kernel
theorem dK_begin_4 : decode cK_begin 4 = .ok (.ifCond .eq 6, 3) := by decide +kernel
theorem dK_begin_7 : decode cK_begin 7 = .ok (.ldc 52, 2) := by decide +kernel
theorem dK_begin_9 : decode cK_begin 9 = .ok (.ireturn, 1) := by decide +kernel
theorem dK_begin_10 : decode cK_begin 10 = .ok (.aload_n 0, 1) := by decide +kernel
theorem dK_begin_11 : decode cK_begin 11 = .ok (.iconst 1, 1) := by decide +kernel
theorem dK_begin_12 : decode cK_begin 12 = .ok (.putfield 44, 3) := by decide +kernel
theorem dK_begin_15 : decode cK_begin 15 = .ok (.iconst 1, 1) := by decide +kernel
theorem dK_begin_16 : decode cK_begin 16 = .ok (.ireturn, 1) := by decide +kernel
theorem dK_end_0 : decode cK_end 0 = .ok (.aload_n 0, 1) := by decide +kernel
theorem dK_end_1 : decode cK_end 1 = .ok (.getfield 44, 3) := by decide +kernel
theorem dK_end_4 : decode cK_end 4 = .ok (.ifCond .ne 6, 3) := by decide +kernel
theorem dK_end_7 : decode cK_end 7 = .ok (.ldc 52, 2) := by decide +kernel
theorem dK_end_9 : decode cK_end 9 = .ok (.ireturn, 1) := by decide +kernel
theorem dK_end_10 : decode cK_end 10 = .ok (.aload_n 0, 1) := by decide +kernel
theorem dK_end_11 : decode cK_end 11 = .ok (.getfield 19, 3) := by decide +kernel
theorem dK_end_14 : decode cK_end 14 = .ok (.invokevirtual 102, 3) := by decide +kernel
theorem dK_end_17 : decode cK_end 17 = .ok (.istore_n 1, 1) := by decide +kernel
theorem dK_end_18 : decode cK_end 18 = .ok (.aload_n 0, 1) := by decide +kernel
theorem dK_end_19 : decode cK_end 19 = .ok (.iconst 0, 1) := by decide +kernel
theorem dK_end_20 : decode cK_end 20 = .ok (.putfield 44, 3) := by decide +kernel
theorem dK_end_23 : decode cK_end 23 = .ok (.iload_n 1, 1) := by decide +kernel
theorem dK_end_24 : decode cK_end 24 = .ok (.ifCond .le 10, 3) := by decide +kernel
theorem dK_end_27 : decode cK_end 27 = .ok (.aload_n 0, 1) := by decide +kernel
theorem dK_end_28 : decode cK_end 28 = .ok (.getfield 19, 3) := by decide +kernel
theorem dK_end_31 : decode cK_end 31 = .ok (.invokevirtual 105, 3) := by decide +kernel
theorem dK_end_34 : decode cK_end 34 = .ok (.aload_n 0, 1) := by decide +kernel
theorem dK_end_35 : decode cK_end 35 = .ok (.invokevirtual 108, 3) := by decide +kernel
theorem dK_end_38 : decode cK_end 38 = .ok (.iload_n 1, 1) := by decide +kernel
theorem dK_end_39 : decode cK_end 39 = .ok (.ireturn, 1) := by decide +kernel
theorem dK_undo_0 : decode cK_undo 0 = .ok (.aload_n 0, 1) := by decide +kernel
theorem dK_undo_1 : decode cK_undo 1 = .ok (.getfield 44, 3) := by decide +kernel
theorem dK_undo_4 : decode cK_undo 4 = .ok (.ifCond .eq 6, 3) := by decide +kernel
theorem dK_undo_7 : decode cK_undo 7 = .ok (.ldc 52, 2) := by decide +kernel
theorem dK_undo_9 : decode cK_undo 9 = .ok (.ireturn, 1) := by decide +kernel
theorem dK_undo_10 : decode cK_undo 10 = .ok (.aload_n 0, 1) := by decide +kernel
theorem dK_undo_11 : decode cK_undo 11 = .ok (.getfield 19, 3) := by decide +kernel
theorem dK_undo_14 : decode cK_undo 14 = .ok (.getfield 111, 3) := by decide +kernel
theorem dK_undo_17 : decode cK_undo 17 = .ok (.ifCond .ne 6, 3) := by decide +kernel
theorem dK_undo_20 : decode cK_undo 20 = .ok (.ldc 101, 2) := by decide +kernel
theorem dK_undo_22 : decode cK_undo 22 = .ok (.ireturn, 1) := by decide +kernel
theorem dK_undo_23 : decode cK_undo 23 = .ok (.aload_n 0, 1) := by decide +kernel
theorem dK_undo_24 : decode cK_undo 24 = .ok (.getfield 19, 3) := by decide +kernel
theorem dK_undo_27 : decode cK_undo 27 = .ok (.aload_n 0, 1) := by decide +kernel
theorem dK_undo_28 : decode cK_undo 28 = .ok (.getfield 10, 3) := by decide +kernel
theorem dK_undo_31 : decode cK_undo 31 = .ok (.invokevirtual 114, 3) := by decide +kernel
theorem dK_undo_34 : decode cK_undo 34 = .ok (.aload_n 0, 1) := by decide +kernel
theorem dK_undo_35 : decode cK_undo 35 = .ok (.invokevirtual 108, 3) := by decide +kernel
theorem dK_undo_38 : decode cK_undo 38 = .ok (.aload_n 0, 1) := by decide +kernel
theorem dK_undo_39 : decode cK_undo 39 = .ok (.getfield 19, 3) := by decide +kernel
theorem dK_undo_42 : decode cK_undo 42 = .ok (.getfield 111, 3) := by decide +kernel
theorem dK_undo_45 : decode cK_undo 45 = .ok (.ireturn, 1) := by decide +kernel
theorem dK_distance_0 : decode cK_distance 0 = .ok (.iload_n 1, 1) := by decide +kernel
theorem dK_distance_1 : decode cK_distance 1 = .ok (.invokestatic 61, 3) := by decide +kernel
theorem dK_distance_4 : decode cK_distance 4 = .ok (.ifCond .eq 31, 3) := by decide +kernel
theorem dK_distance_7 : decode cK_distance 7 = .ok (.aload_n 0, 1) := by decide +kernel
theorem dK_distance_8 : decode cK_distance 8 = .ok (.getfield 10, 3) := by decide +kernel
theorem dK_distance_11 : decode cK_distance 11 = .ok (.iload_n 2, 1) := by decide +kernel
theorem dK_distance_12 : decode cK_distance 12 = .ok (.invokevirtual 65, 3) := by decide +kernel
theorem dK_distance_15 : decode cK_distance 15 = .ok (.ifCond .eq 20, 3) := by decide +kernel
theorem dK_distance_18 : decode cK_distance 18 = .ok (.aload_n 0, 1) := by decide +kernel
theorem dK_distance_19 : decode cK_distance 19 = .ok (.getfield 25, 3) := by decide +kernel
theorem dK_distance_22 : decode cK_distance 22 = .ok (.iload_n 1, 1) := by decide +kernel
theorem dK_distance_23 : decode cK_distance 23 = .ok (.aaload, 1) := by decide +kernel
theorem dK_distance_24 : decode cK_distance 24 = .ok (.getfield 118, 3) := by decide +kernel
theorem dK_distance_27 : decode cK_distance 27 = .ok (.getfield 121, 3) := by decide +kernel
theorem dK_distance_30 : decode cK_distance 30 = .ok (.iload_n 2, 1) := by decide +kernel
theorem dK_distance_31 : decode cK_distance 31 = .ok (.iaload, 1) := by decide +kernel
theorem dK_distance_32 : decode cK_distance 32 = .ok (.goto 5, 3) := by decide +kernel
theorem dK_distance_35 : decode cK_distance 35 = .ok (.ldc 68, 2) := by decide +kernel
theorem dK_distance_37 : decode cK_distance 37 = .ok (.ireturn, 1) := by decide +kernel
theorem dK_hops_0 : decode cK_hops 0 = .ok (.iload_n 1, 1) := by decide +kernel
theorem dK_hops_1 : decode cK_hops 1 = .ok (.invokestatic 61, 3) := by decide +kernel
theorem dK_hops_4 : decode cK_hops 4 = .ok (.ifCond .eq 31, 3) := by decide +kernel
theorem dK_hops_7 : decode cK_hops 7 = .ok (.aload_n 0, 1) := by decide +kernel
theorem dK_hops_8 : decode cK_hops 8 = .ok (.getfield 10, 3) := by decide +kernel
theorem dK_hops_11 : decode cK_hops 11 = .ok (.iload_n 2, 1) := by decide +kernel
theorem dK_hops_12 : decode cK_hops 12 = .ok (.invokevirtual 65, 3) := by decide +kernel
theorem dK_hops_15 : decode cK_hops 15 = .ok (.ifCond .eq 20, 3) := by decide +kernel
theorem dK_hops_18 : decode cK_hops 18 = .ok (.aload_n 0, 1) := by decide +kernel
theorem dK_hops_19 : decode cK_hops 19 = .ok (.getfield 25, 3) := by decide +kernel
theorem dK_hops_22 : decode cK_hops 22 = .ok (.iload_n 1, 1) := by decide +kernel
theorem dK_hops_23 : decode cK_hops 23 = .ok (.aaload, 1) := by decide +kernel
theorem dK_hops_24 : decode cK_hops 24 = .ok (.getfield 118, 3) := by decide +kernel
theorem dK_hops_27 : decode cK_hops 27 = .ok (.getfield 124, 3) := by decide +kernel
theorem dK_hops_30 : decode cK_hops 30 = .ok (.iload_n 2, 1) := by decide +kernel
theorem dK_hops_31 : decode cK_hops 31 = .ok (.iaload, 1) := by decide +kernel
theorem dK_hops_32 : decode cK_hops 32 = .ok (.goto 5, 3) := by decide +kernel
theorem dK_hops_35 : decode cK_hops 35 = .ok (.ldc 68, 2) := by decide +kernel
theorem dK_hops_37 : decode cK_hops 37 = .ok (.ireturn, 1) := by decide +kernel
theorem dK_parent_0 : decode cK_parent 0 = .ok (.iload_n 1, 1) := by decide +kernel
theorem dK_parent_1 : decode cK_parent 1 = .ok (.invokestatic 61, 3) := by decide +kernel
theorem dK_parent_4 : decode cK_parent 4 = .ok (.ifCond .eq 31, 3) := by decide +kernel
theorem dK_parent_7 : decode cK_parent 7 = .ok (.aload_n 0, 1) := by decide +kernel
theorem dK_parent_8 : decode cK_parent 8 = .ok (.getfield 10, 3) := by decide +kernel
theorem dK_parent_11 : decode cK_parent 11 = .ok (.iload_n 2, 1) := by decide +kernel
theorem dK_parent_12 : decode cK_parent 12 = .ok (.invokevirtual 65, 3) := by decide +kernel
theorem dK_parent_15 : decode cK_parent 15 = .ok (.ifCond .eq 20, 3) := by decide +kernel
theorem dK_parent_18 : decode cK_parent 18 = .ok (.aload_n 0, 1) := by decide +kernel
theorem dK_parent_19 : decode cK_parent 19 = .ok (.getfield 25, 3) := by decide +kernel
theorem dK_parent_22 : decode cK_parent 22 = .ok (.iload_n 1, 1) := by decide +kernel
theorem dK_parent_23 : decode cK_parent 23 = .ok (.aaload, 1) := by decide +kernel
theorem dK_parent_24 : decode cK_parent 24 = .ok (.getfield 118, 3) := by decide +kernel
theorem dK_parent_27 : decode cK_parent 27 = .ok (.getfield 127, 3) := by decide +kernel
theorem dK_parent_30 : decode cK_parent 30 = .ok (.iload_n 2, 1) := by decide +kernel
theorem dK_parent_31 : decode cK_parent 31 = .ok (.iaload, 1) := by decide +kernel
theorem dK_parent_32 : decode cK_parent 32 = .ok (.goto 5, 3) := by decide +kernel
theorem dK_parent_35 : decode cK_parent 35 = .ok (.ldc 68, 2) := by decide +kernel
theorem dK_parent_37 : decode cK_parent 37 = .ok (.ireturn, 1) := by decide +kernel
theorem dK_way_0 : decode cK_way 0 = .ok (.iload_n 1, 1) := by decide +kernel
theorem dK_way_1 : decode cK_way 1 = .ok (.invokestatic 61, 3) := by decide +kernel
theorem dK_way_4 : decode cK_way 4 = .ok (.ifCond .eq 14, 3) := by decide +kernel
theorem dK_way_7 : decode cK_way 7 = .ok (.aload_n 0, 1) := by decide +kernel
theorem dK_way_8 : decode cK_way 8 = .ok (.getfield 10, 3) := by decide +kernel
theorem dK_way_11 : decode cK_way 11 = .ok (.iload_n 2, 1) := by decide +kernel
theorem dK_way_12 : decode cK_way 12 = .ok (.invokevirtual 65, 3) := by decide +kernel
theorem dK_way_15 : decode cK_way 15 = .ok (.ifCond .ne 6, 3) := by decide +kernel
theorem dK_way_18 : decode cK_way 18 = .ok (.ldc 68, 2) := by decide +kernel
theorem dK_way_20 : decode cK_way 20 = .ok (.ireturn, 1) := by decide +kernel
theorem dK_way_21 : decode cK_way 21 = .ok (.aload_n 0, 1) := by decide +kernel
theorem dK_way_22 : decode cK_way 22 = .ok (.getfield 25, 3) := by decide +kernel
theorem dK_way_25 : decode cK_way 25 = .ok (.iload_n 1, 1) := by decide +kernel
theorem dK_way_26 : decode cK_way 26 = .ok (.aaload, 1) := by decide +kernel
theorem dK_way_27 : decode cK_way 27 = .ok (.getfield 118, 3) := by decide +kernel
theorem dK_way_30 : decode cK_way 30 = .ok (.astore 4, 2) := by decide +kernel
theorem dK_way_32 : decode cK_way 32 = .ok (.aload 4, 2) := by decide +kernel
theorem dK_way_34 : decode cK_way 34 = .ok (.iload_n 2, 1) := by decide +kernel
theorem dK_way_35 : decode cK_way 35 = .ok (.invokevirtual 130, 3) := by decide +kernel
theorem dK_way_38 : decode cK_way 38 = .ok (.ifCond .ne 6, 3) := by decide +kernel
theorem dK_way_41 : decode cK_way 41 = .ok (.ldc 101, 2) := by decide +kernel
theorem dK_way_43 : decode cK_way 43 = .ok (.ireturn, 1) := by decide +kernel
theorem dK_way_44 : decode cK_way 44 = .ok (.aload 4, 2) := by decide +kernel
theorem dK_way_46 : decode cK_way 46 = .ok (.iload_n 2, 1) := by decide +kernel
theorem dK_way_47 : decode cK_way 47 = .ok (.invokevirtual 133, 3) := by decide +kernel
theorem dK_way_50 : decode cK_way 50 = .ok (.istore 5, 2) := by decide +kernel
theorem dK_way_52 : decode cK_way 52 = .ok (.iload_n 3, 1) := by decide +kernel
theorem dK_way_53 : decode cK_way 53 = .ok (.iconst (-1), 1) := by decide +kernel
theorem dK_way_54 : decode cK_way 54 = .ok (.if_icmp .ne 6, 3) := by decide +kernel
theorem dK_way_57 : decode cK_way 57 = .ok (.iload 5, 2) := by decide +kernel
theorem dK_way_59 : decode cK_way 59 = .ok (.ireturn, 1) := by decide +kernel
theorem dK_way_60 : decode cK_way 60 = .ok (.iload_n 3, 1) := by decide +kernel
theorem dK_way_61 : decode cK_way 61 = .ok (.ifCond .lt 19, 3) := by decide +kernel
theorem dK_way_64 : decode cK_way 64 = .ok (.iload_n 3, 1) := by decide +kernel
theorem dK_way_65 : decode cK_way 65 = .ok (.iload 5, 2) := by decide +kernel
theorem dK_way_67 : decode cK_way 67 = .ok (.if_icmp .ge 13, 3) := by decide +kernel
theorem dK_way_70 : decode cK_way 70 = .ok (.aload 4, 2) := by decide +kernel
theorem dK_way_72 : decode cK_way 72 = .ok (.iload_n 2, 1) := by decide +kernel
theorem dK_way_73 : decode cK_way 73 = .ok (.iload_n 3, 1) := by decide +kernel
theorem dK_way_74 : decode cK_way 74 = .ok (.invokevirtual 137, 3) := by decide +kernel
theorem dK_way_77 : decode cK_way 77 = .ok (.goto 5, 3) := by decide +kernel
theorem dK_way_80 : decode cK_way 80 = .ok (.ldc 68, 2) := by decide +kernel
theorem dK_way_82 : decode cK_way 82 = .ok (.ireturn, 1) := by decide +kernel
theorem dK_affected_0 : decode cK_affected 0 = .ok (.iload_n 1, 1) := by decide +kernel
theorem dK_affected_1 : decode cK_affected 1 = .ok (.invokestatic 61, 3) := by decide +kernel
theorem dK_affected_4 : decode cK_affected 4 = .ok (.ifCond .eq 15, 3) := by decide +kernel
theorem dK_affected_7 : decode cK_affected 7 = .ok (.aload_n 0, 1) := by decide +kernel
theorem dK_affected_8 : decode cK_affected 8 = .ok (.getfield 25, 3) := by decide +kernel
theorem dK_affected_11 : decode cK_affected 11 = .ok (.iload_n 1, 1) := by decide +kernel
theorem dK_affected_12 : decode cK_affected 12 = .ok (.aaload, 1) := by decide +kernel
theorem dK_affected_13 : decode cK_affected 13 = .ok (.getfield 140, 3) := by decide +kernel
theorem dK_affected_16 : decode cK_affected 16 = .ok (.goto 5, 3) := by decide +kernel
theorem dK_affected_19 : decode cK_affected 19 = .ok (.ldc 68, 2) := by decide +kernel
theorem dK_affected_21 : decode cK_affected 21 = .ok (.ireturn, 1) := by decide +kernel
theorem dK_tight_0 : decode cK_tight 0 = .ok (.iload_n 1, 1) := by decide +kernel
theorem dK_tight_1 : decode cK_tight 1 = .ok (.invokestatic 61, 3) := by decide +kernel
theorem dK_tight_4 : decode cK_tight 4 = .ok (.ifCond .eq 18, 3) := by decide +kernel
theorem dK_tight_7 : decode cK_tight 7 = .ok (.aload_n 0, 1) := by decide +kernel
theorem dK_tight_8 : decode cK_tight 8 = .ok (.getfield 25, 3) := by decide +kernel
theorem dK_tight_11 : decode cK_tight 11 = .ok (.iload_n 1, 1) := by decide +kernel
theorem dK_tight_12 : decode cK_tight 12 = .ok (.aaload, 1) := by decide +kernel
theorem dK_tight_13 : decode cK_tight 13 = .ok (.getfield 118, 3) := by decide +kernel
theorem dK_tight_16 : decode cK_tight 16 = .ok (.getfield 143, 3) := by decide +kernel
theorem dK_tight_19 : decode cK_tight 19 = .ok (.goto 5, 3) := by decide +kernel
theorem dK_tight_22 : decode cK_tight 22 = .ok (.ldc 68, 2) := by decide +kernel
theorem dK_tight_24 : decode cK_tight 24 = .ok (.ireturn, 1) := by decide +kernel
theorem dK_ring_0 : decode cK_ring 0 = .ok (.iload_n 1, 1) := by decide +kernel
theorem dK_ring_1 : decode cK_ring 1 = .ok (.iconst (-1), 1) := by decide +kernel
theorem dK_ring_2 : decode cK_ring 2 = .ok (.if_icmp .ne 8, 3) := by decide +kernel
theorem dK_ring_5 : decode cK_ring 5 = .ok (.aload_n 0, 1) := by decide +kernel
theorem dK_ring_6 : decode cK_ring 6 = .ok (.getfield 40, 3) := by decide +kernel
theorem dK_ring_9 : decode cK_ring 9 = .ok (.ireturn, 1) := by decide +kernel
theorem dK_ring_10 : decode cK_ring 10 = .ok (.iload_n 1, 1) := by decide +kernel
theorem dK_ring_11 : decode cK_ring 11 = .ok (.ifCond .lt 20, 3) := by decide +kernel
theorem dK_ring_14 : decode cK_ring 14 = .ok (.iload_n 1, 1) := by decide +kernel
theorem dK_ring_15 : decode cK_ring 15 = .ok (.aload_n 0, 1) := by decide +kernel
theorem dK_ring_16 : decode cK_ring 16 = .ok (.getfield 40, 3) := by decide +kernel
theorem dK_ring_19 : decode cK_ring 19 = .ok (.if_icmp .ge 12, 3) := by decide +kernel
theorem dK_ring_22 : decode cK_ring 22 = .ok (.aload_n 0, 1) := by decide +kernel
theorem dK_ring_23 : decode cK_ring 23 = .ok (.getfield 36, 3) := by decide +kernel
theorem dK_ring_26 : decode cK_ring 26 = .ok (.iload_n 1, 1) := by decide +kernel
theorem dK_ring_27 : decode cK_ring 27 = .ok (.iaload, 1) := by decide +kernel
theorem dK_ring_28 : decode cK_ring 28 = .ok (.goto 5, 3) := by decide +kernel
theorem dK_ring_31 : decode cK_ring 31 = .ok (.ldc 68, 2) := by decide +kernel
theorem dK_ring_33 : decode cK_ring 33 = .ok (.ireturn, 1) := by decide +kernel
theorem dK_count_0 : decode cK_count 0 = .ok (.iload_n 1, 1) := by decide +kernel
theorem dK_count_1 : decode cK_count 1 = .ok (.tableswitch 89 0 5 #[39, 47, 55, 63, 71, 84], 39) := by decide +kernel
theorem dK_count_40 : decode cK_count 40 = .ok (.aload_n 0, 1) := by decide +kernel
theorem dK_count_41 : decode cK_count 41 = .ok (.getfield 10, 3) := by decide +kernel
theorem dK_count_44 : decode cK_count 44 = .ok (.getfield 53, 3) := by decide +kernel
theorem dK_count_47 : decode cK_count 47 = .ok (.ireturn, 1) := by decide +kernel
theorem dK_count_48 : decode cK_count 48 = .ok (.aload_n 0, 1) := by decide +kernel
theorem dK_count_49 : decode cK_count 49 = .ok (.getfield 10, 3) := by decide +kernel
theorem dK_count_52 : decode cK_count 52 = .ok (.getfield 146, 3) := by decide +kernel
theorem dK_count_55 : decode cK_count 55 = .ok (.ireturn, 1) := by decide +kernel
theorem dK_count_56 : decode cK_count 56 = .ok (.aload_n 0, 1) := by decide +kernel
theorem dK_count_57 : decode cK_count 57 = .ok (.getfield 19, 3) := by decide +kernel
theorem dK_count_60 : decode cK_count 60 = .ok (.getfield 111, 3) := by decide +kernel
theorem dK_count_63 : decode cK_count 63 = .ok (.ireturn, 1) := by decide +kernel
theorem dK_count_64 : decode cK_count 64 = .ok (.aload_n 0, 1) := by decide +kernel
theorem dK_count_65 : decode cK_count 65 = .ok (.getfield 19, 3) := by decide +kernel
theorem dK_count_68 : decode cK_count 68 = .ok (.invokevirtual 102, 3) := by decide +kernel
theorem dK_count_71 : decode cK_count 71 = .ok (.ireturn, 1) := by decide +kernel
theorem dK_count_72 : decode cK_count 72 = .ok (.aload_n 0, 1) := by decide +kernel
theorem dK_count_73 : decode cK_count 73 = .ok (.getfield 44, 3) := by decide +kernel
theorem dK_count_76 : decode cK_count 76 = .ok (.ifCond .eq 7, 3) := by decide +kernel
theorem dK_count_79 : decode cK_count 79 = .ok (.iconst 1, 1) := by decide +kernel
theorem dK_count_80 : decode cK_count 80 = .ok (.goto 4, 3) := by decide +kernel
theorem dK_count_83 : decode cK_count 83 = .ok (.iconst 0, 1) := by decide +kernel
theorem dK_count_84 : decode cK_count 84 = .ok (.ireturn, 1) := by decide +kernel
theorem dK_count_85 : decode cK_count 85 = .ok (.aload_n 0, 1) := by decide +kernel
theorem dK_count_86 : decode cK_count 86 = .ok (.getfield 48, 3) := by decide +kernel
theorem dK_count_89 : decode cK_count 89 = .ok (.ireturn, 1) := by decide +kernel
theorem dK_count_90 : decode cK_count 90 = .ok (.ldc 68, 2) := by decide +kernel
theorem dK_count_92 : decode cK_count 92 = .ok (.ireturn, 1) := by decide +kernel
theorem dK_isSource_0 : decode cK_isSource 0 = .ok (.iload_n 0, 1) := by decide +kernel
theorem dK_isSource_1 : decode cK_isSource 1 = .ok (.ifCond .lt 12, 3) := by decide +kernel
theorem dK_isSource_4 : decode cK_isSource 4 = .ok (.iload_n 0, 1) := by decide +kernel
theorem dK_isSource_5 : decode cK_isSource 5 = .ok (.iconst 3, 1) := by decide +kernel
theorem dK_isSource_6 : decode cK_isSource 6 = .ok (.if_icmp .ge 7, 3) := by decide +kernel
theorem dK_isSource_9 : decode cK_isSource 9 = .ok (.iconst 1, 1) := by decide +kernel
theorem dK_isSource_10 : decode cK_isSource 10 = .ok (.goto 4, 3) := by decide +kernel
theorem dK_isSource_13 : decode cK_isSource 13 = .ok (.iconst 0, 1) := by decide +kernel
theorem dK_isSource_14 : decode cK_isSource 14 = .ok (.ireturn, 1) := by decide +kernel
theorem dK_isBatchFull_0 : decode cK_isBatchFull 0 = .ok (.aload_n 0, 1) := by decide +kernel
theorem dK_isBatchFull_1 : decode cK_isBatchFull 1 = .ok (.getfield 44, 3) := by decide +kernel
theorem dK_isBatchFull_4 : decode cK_isBatchFull 4 = .ok (.ifCond .eq 19, 3) := by decide +kernel
theorem dK_isBatchFull_7 : decode cK_isBatchFull 7 = .ok (.aload_n 0, 1) := by decide +kernel
theorem dK_isBatchFull_8 : decode cK_isBatchFull 8 = .ok (.getfield 19, 3) := by decide +kernel
theorem dK_isBatchFull_11 : decode cK_isBatchFull 11 = .ok (.invokevirtual 102, 3) := by decide +kernel
theorem dK_isBatchFull_14 : decode cK_isBatchFull 14 = .ok (.bipush 30, 2) := by decide +kernel
theorem dK_isBatchFull_16 : decode cK_isBatchFull 16 = .ok (.if_icmp .lt 7, 3) := by decide +kernel
theorem dK_isBatchFull_19 : decode cK_isBatchFull 19 = .ok (.iconst 1, 1) := by decide +kernel
theorem dK_isBatchFull_20 : decode cK_isBatchFull 20 = .ok (.goto 4, 3) := by decide +kernel
theorem dK_isBatchFull_23 : decode cK_isBatchFull 23 = .ok (.iconst 0, 1) := by decide +kernel
theorem dK_isBatchFull_24 : decode cK_isBatchFull 24 = .ok (.ireturn, 1) := by decide +kernel
theorem dK_wouldFall_0 : decode cK_wouldFall 0 = .ok (.aload_n 0, 1) := by decide +kernel
theorem dK_wouldFall_1 : decode cK_wouldFall 1 = .ok (.getfield 32, 3) := by decide +kernel
theorem dK_wouldFall_4 : decode cK_wouldFall 4 = .ok (.aload_n 0, 1) := by decide +kernel
theorem dK_wouldFall_5 : decode cK_wouldFall 5 = .ok (.getfield 10, 3) := by decide +kernel
theorem dK_wouldFall_8 : decode cK_wouldFall 8 = .ok (.iload_n 2, 1) := by decide +kernel
theorem dK_wouldFall_9 : decode cK_wouldFall 9 = .ok (.invokevirtual 149, 3) := by decide +kernel
theorem dK_wouldFall_12 : decode cK_wouldFall 12 = .ok (.aload_n 0, 1) := by decide +kernel
theorem dK_wouldFall_13 : decode cK_wouldFall 13 = .ok (.getfield 32, 3) := by decide +kernel
theorem dK_wouldFall_16 : decode cK_wouldFall 16 = .ok (.iload_n 1, 1) := by decide +kernel
theorem dK_wouldFall_17 : decode cK_wouldFall 17 = .ok (.invokevirtual 130, 3) := by decide +kernel
theorem dK_wouldFall_20 : decode cK_wouldFall 20 = .ok (.ifCond .eq 21, 3) := by decide +kernel
theorem dK_wouldFall_23 : decode cK_wouldFall 23 = .ok (.aload_n 0, 1) := by decide +kernel
theorem dK_wouldFall_24 : decode cK_wouldFall 24 = .ok (.getfield 32, 3) := by decide +kernel
theorem dK_wouldFall_27 : decode cK_wouldFall 27 = .ok (.getfield 121, 3) := by decide +kernel
theorem dK_wouldFall_30 : decode cK_wouldFall 30 = .ok (.iload_n 1, 1) := by decide +kernel
theorem dK_wouldFall_31 : decode cK_wouldFall 31 = .ok (.iaload, 1) := by decide +kernel
theorem dK_wouldFall_32 : decode cK_wouldFall 32 = .ok (.iload_n 3, 1) := by decide +kernel
theorem dK_wouldFall_33 : decode cK_wouldFall 33 = .ok (.iadd, 1) := by decide +kernel
theorem dK_wouldFall_34 : decode cK_wouldFall 34 = .ok (.ifCond .ge 7, 3) := by decide +kernel
theorem dK_wouldFall_37 : decode cK_wouldFall 37 = .ok (.iconst 1, 1) := by decide +kernel
theorem dK_wouldFall_38 : decode cK_wouldFall 38 = .ok (.goto 4, 3) := by decide +kernel
theorem dK_wouldFall_41 : decode cK_wouldFall 41 = .ok (.iconst 0, 1) := by decide +kernel
theorem dK_wouldFall_42 : decode cK_wouldFall 42 = .ok (.ireturn, 1) := by decide +kernel
theorem dK_keepRing_0 : decode cK_keepRing 0 = .ok (.aload_n 0, 1) := by decide +kernel
theorem dK_keepRing_1 : decode cK_keepRing 1 = .ok (.aload_n 0, 1) := by decide +kernel
theorem dK_keepRing_2 : decode cK_keepRing 2 = .ok (.getfield 32, 3) := by decide +kernel
theorem dK_keepRing_5 : decode cK_keepRing 5 = .ok (.iload_n 1, 1) := by decide +kernel
theorem dK_keepRing_6 : decode cK_keepRing 6 = .ok (.invokevirtual 133, 3) := by decide +kernel
theorem dK_keepRing_9 : decode cK_keepRing 9 = .ok (.putfield 40, 3) := by decide +kernel
theorem dK_keepRing_12 : decode cK_keepRing 12 = .ok (.iconst 0, 1) := by decide +kernel
theorem dK_keepRing_13 : decode cK_keepRing 13 = .ok (.istore_n 2, 1) := by decide +kernel
theorem dK_keepRing_14 : decode cK_keepRing 14 = .ok (.iload_n 2, 1) := by decide +kernel
theorem dK_keepRing_15 : decode cK_keepRing 15 = .ok (.aload_n 0, 1) := by decide +kernel
theorem dK_keepRing_16 : decode cK_keepRing 16 = .ok (.getfield 40, 3) := by decide +kernel
theorem dK_keepRing_19 : decode cK_keepRing 19 = .ok (.if_icmp .ge 24, 3) := by decide +kernel
theorem dK_keepRing_22 : decode cK_keepRing 22 = .ok (.aload_n 0, 1) := by decide +kernel
theorem dK_keepRing_23 : decode cK_keepRing 23 = .ok (.getfield 36, 3) := by decide +kernel
theorem dK_keepRing_26 : decode cK_keepRing 26 = .ok (.iload_n 2, 1) := by decide +kernel
theorem dK_keepRing_27 : decode cK_keepRing 27 = .ok (.aload_n 0, 1) := by decide +kernel
theorem dK_keepRing_28 : decode cK_keepRing 28 = .ok (.getfield 32, 3) := by decide +kernel
theorem dK_keepRing_31 : decode cK_keepRing 31 = .ok (.iload_n 1, 1) := by decide +kernel
theorem dK_keepRing_32 : decode cK_keepRing 32 = .ok (.iload_n 2, 1) := by decide +kernel
theorem dK_keepRing_33 : decode cK_keepRing 33 = .ok (.invokevirtual 137, 3) := by decide +kernel
theorem dK_keepRing_36 : decode cK_keepRing 36 = .ok (.iastore, 1) := by decide +kernel
theorem dK_keepRing_37 : decode cK_keepRing 37 = .ok (.iinc 2 1, 3) := by decide +kernel
theorem dK_keepRing_40 : decode cK_keepRing 40 = .ok (.goto (-26), 3) := by decide +kernel
theorem dK_keepRing_43 : decode cK_keepRing 43 = .ok (.return_, 1) := by decide +kernel
theorem dK_change_0 : decode cK_change 0 = .ok (.aload_n 0, 1) := by decide +kernel
theorem dK_change_1 : decode cK_change 1 = .ok (.getfield 10, 3) := by decide +kernel
theorem dK_change_4 : decode cK_change 4 = .ok (.iload_n 1, 1) := by decide +kernel
theorem dK_change_5 : decode cK_change 5 = .ok (.iload_n 2, 1) := by decide +kernel
theorem dK_change_6 : decode cK_change 6 = .ok (.invokevirtual 97, 3) := by decide +kernel
theorem dK_change_9 : decode cK_change 9 = .ok (.istore 4, 2) := by decide +kernel
theorem dK_change_11 : decode cK_change 11 = .ok (.aload_n 0, 1) := by decide +kernel
theorem dK_change_12 : decode cK_change 12 = .ok (.getfield 19, 3) := by decide +kernel
theorem dK_change_15 : decode cK_change 15 = .ok (.iload_n 1, 1) := by decide +kernel
theorem dK_change_16 : decode cK_change 16 = .ok (.iload_n 2, 1) := by decide +kernel
theorem dK_change_17 : decode cK_change 17 = .ok (.iload 4, 2) := by decide +kernel
theorem dK_change_19 : decode cK_change 19 = .ok (.invokevirtual 153, 3) := by decide +kernel
theorem dK_change_22 : decode cK_change 22 = .ok (.aload_n 0, 1) := by decide +kernel
theorem dK_change_23 : decode cK_change 23 = .ok (.getfield 10, 3) := by decide +kernel
theorem dK_change_26 : decode cK_change 26 = .ok (.iload_n 1, 1) := by decide +kernel
theorem dK_change_27 : decode cK_change 27 = .ok (.iload_n 2, 1) := by decide +kernel
theorem dK_change_28 : decode cK_change 28 = .ok (.iload_n 3, 1) := by decide +kernel
theorem dK_change_29 : decode cK_change 29 = .ok (.invokevirtual 157, 3) := by decide +kernel
theorem dK_change_32 : decode cK_change 32 = .ok (.aload_n 0, 1) := by decide +kernel
theorem dK_change_33 : decode cK_change 33 = .ok (.dup, 1) := by decide +kernel
theorem dK_change_34 : decode cK_change 34 = .ok (.getfield 48, 3) := by decide +kernel
theorem dK_change_37 : decode cK_change 37 = .ok (.iconst 1, 1) := by decide +kernel
theorem dK_change_38 : decode cK_change 38 = .ok (.iadd, 1) := by decide +kernel
theorem dK_change_39 : decode cK_change 39 = .ok (.putfield 48, 3) := by decide +kernel
theorem dK_change_42 : decode cK_change 42 = .ok (.aload_n 0, 1) := by decide +kernel
theorem dK_change_43 : decode cK_change 43 = .ok (.getfield 44, 3) := by decide +kernel
theorem dK_change_46 : decode cK_change 46 = .ok (.ifCond .ne 14, 3) := by decide +kernel
theorem dK_change_49 : decode cK_change 49 = .ok (.aload_n 0, 1) := by decide +kernel
theorem dK_change_50 : decode cK_change 50 = .ok (.getfield 19, 3) := by decide +kernel
theorem dK_change_53 : decode cK_change 53 = .ok (.invokevirtual 105, 3) := by decide +kernel
theorem dK_change_56 : decode cK_change 56 = .ok (.aload_n 0, 1) := by decide +kernel
theorem dK_change_57 : decode cK_change 57 = .ok (.invokevirtual 108, 3) := by decide +kernel
theorem dK_change_60 : decode cK_change 60 = .ok (.iload 4, 2) := by decide +kernel
theorem dK_change_62 : decode cK_change 62 = .ok (.ireturn, 1) := by decide +kernel
theorem dK_recountSources_0 : decode cK_recountSources 0 = .ok (.iconst 0, 1) := by decide +kernel
theorem dK_recountSources_1 : decode cK_recountSources 1 = .ok (.istore_n 1, 1) := by decide +kernel
theorem dK_recountSources_2 : decode cK_recountSources 2 = .ok (.iload_n 1, 1) := by decide +kernel
theorem dK_recountSources_3 : decode cK_recountSources 3 = .ok (.iconst 3, 1) := by decide +kernel
theorem dK_recountSources_4 : decode cK_recountSources 4 = .ok (.if_icmp .ge 22, 3) := by decide +kernel
theorem dK_recountSources_7 : decode cK_recountSources 7 = .ok (.aload_n 0, 1) := by decide +kernel
theorem dK_recountSources_8 : decode cK_recountSources 8 = .ok (.getfield 25, 3) := by decide +kernel
theorem dK_recountSources_11 : decode cK_recountSources 11 = .ok (.iload_n 1, 1) := by decide +kernel
theorem dK_recountSources_12 : decode cK_recountSources 12 = .ok (.aaload, 1) := by decide +kernel
theorem dK_recountSources_13 : decode cK_recountSources 13 = .ok (.aload_n 0, 1) := by decide +kernel
theorem dK_recountSources_14 : decode cK_recountSources 14 = .ok (.getfield 10, 3) := by decide +kernel
theorem dK_recountSources_17 : decode cK_recountSources 17 = .ok (.invokevirtual 160, 3) := by decide +kernel
theorem dK_recountSources_20 : decode cK_recountSources 20 = .ok (.iinc 1 1, 3) := by decide +kernel
theorem dK_recountSources_23 : decode cK_recountSources 23 = .ok (.goto (-21), 3) := by decide +kernel
theorem dK_recountSources_26 : decode cK_recountSources 26 = .ok (.return_, 1) := by decide +kernel
