theorem dX8_differed_0 : decode cX8_differed 0 = .ok (.iload_n 1, 1) := by decide +kernel
theorem dX8_differed_1 : decode cX8_differed 1 = .ok (.lookupswitch 43 #[(0, 27), (1, 35)], 27) := by decide +kernel
theorem dX8_differed_28 : decode cX8_differed 28 = .ok (.aload_n 0, 1) := by decide +kernel
theorem dX8_differed_29 : decode cX8_differed 29 = .ok (.getfield 28, 3) := by decide +kernel
theorem dX8_differed_32 : decode cX8_differed 32 = .ok (.getfield 196, 3) := by decide +kernel
theorem dX8_differed_35 : decode cX8_differed 35 = .ok (.ireturn, 1) := by decide +kernel
theorem dX8_differed_36 : decode cX8_differed 36 = .ok (.aload_n 0, 1) := by decide +kernel
theorem dX8_differed_37 : decode cX8_differed 37 = .ok (.getfield 28, 3) := by decide +kernel
theorem dX8_differed_40 : decode cX8_differed 40 = .ok (.getfield 199, 3) := by decide +kernel
theorem dX8_differed_43 : decode cX8_differed 43 = .ok (.ireturn, 1) := by decide +kernel
theorem dX8_differed_44 : decode cX8_differed 44 = .ok (.iconst (-1), 1) := by decide +kernel
theorem dX8_differed_45 : decode cX8_differed 45 = .ok (.ireturn, 1) := by decide +kernel
theorem dX8_log_0 : decode cX8_log 0 = .ok (.iload_n 1, 1) := by decide +kernel
theorem dX8_log_1 : decode cX8_log 1 = .ok (.ifCond .lt 11, 3) := by decide +kernel
theorem dX8_log_4 : decode cX8_log 4 = .ok (.iload_n 2, 1) := by decide +kernel
theorem dX8_log_5 : decode cX8_log 5 = .ok (.iconst 3, 1) := by decide +kernel
theorem dX8_log_6 : decode cX8_log 6 = .ok (.invokestatic 61, 3) := by decide +kernel
theorem dX8_log_9 : decode cX8_log 9 = .ok (.ifCond .ne 5, 3) := by decide +kernel
theorem dX8_log_12 : decode cX8_log 12 = .ok (.iconst (-1), 1) := by decide +kernel
theorem dX8_log_13 : decode cX8_log 13 = .ok (.ireturn, 1) := by decide +kernel
theorem dX8_log_14 : decode cX8_log 14 = .ok (.iload_n 1, 1) := by decide +kernel
theorem dX8_log_15 : decode cX8_log 15 = .ok (.aload_n 0, 1) := by decide +kernel
theorem dX8_log_16 : decode cX8_log 16 = .ok (.getfield 28, 3) := by decide +kernel
theorem dX8_log_19 : decode cX8_log 19 = .ok (.getfield 92, 3) := by decide +kernel
theorem dX8_log_22 : decode cX8_log 22 = .ok (.getfield 96, 3) := by decide +kernel
theorem dX8_log_25 : decode cX8_log 25 = .ok (.if_icmp .lt 6, 3) := by decide +kernel
theorem dX8_log_28 : decode cX8_log 28 = .ok (.bipush (-9), 2) := by decide +kernel
theorem dX8_log_30 : decode cX8_log 30 = .ok (.ireturn, 1) := by decide +kernel
theorem dX8_log_31 : decode cX8_log 31 = .ok (.iload_n 2, 1) := by decide +kernel
theorem dX8_log_32 : decode cX8_log 32 = .ok (.lookupswitch 62 #[(0, 28), (1, 41)], 28) := by decide +kernel
theorem dX8_log_60 : decode cX8_log 60 = .ok (.aload_n 0, 1) := by decide +kernel
theorem dX8_log_61 : decode cX8_log 61 = .ok (.getfield 28, 3) := by decide +kernel
theorem dX8_log_64 : decode cX8_log 64 = .ok (.getfield 92, 3) := by decide +kernel
theorem dX8_log_67 : decode cX8_log 67 = .ok (.getfield 202, 3) := by decide +kernel
theorem dX8_log_70 : decode cX8_log 70 = .ok (.iload_n 1, 1) := by decide +kernel
theorem dX8_log_71 : decode cX8_log 71 = .ok (.iaload, 1) := by decide +kernel
theorem dX8_log_72 : decode cX8_log 72 = .ok (.ireturn, 1) := by decide +kernel
theorem dX8_log_73 : decode cX8_log 73 = .ok (.aload_n 0, 1) := by decide +kernel
theorem dX8_log_74 : decode cX8_log 74 = .ok (.getfield 28, 3) := by decide +kernel
theorem dX8_log_77 : decode cX8_log 77 = .ok (.getfield 92, 3) := by decide +kernel
theorem dX8_log_80 : decode cX8_log 80 = .ok (.getfield 203, 3) := by decide +kernel
theorem dX8_log_83 : decode cX8_log 83 = .ok (.iload_n 1, 1) := by decide +kernel
theorem dX8_log_84 : decode cX8_log 84 = .ok (.baload, 1) := by decide +kernel
theorem dX8_log_85 : decode cX8_log 85 = .ok (.ifCond .eq 7, 3) := by decide +kernel
theorem dX8_log_88 : decode cX8_log 88 = .ok (.iconst 1, 1) := by decide +kernel
theorem dX8_log_89 : decode cX8_log 89 = .ok (.goto 4, 3) := by decide +kernel
theorem dX8_log_92 : decode cX8_log 92 = .ok (.iconst 0, 1) := by decide +kernel
theorem dX8_log_93 : decode cX8_log 93 = .ok (.ireturn, 1) := by decide +kernel
theorem dX8_log_94 : decode cX8_log 94 = .ok (.aload_n 0, 1) := by decide +kernel
theorem dX8_log_95 : decode cX8_log 95 = .ok (.getfield 28, 3) := by decide +kernel
theorem dX8_log_98 : decode cX8_log 98 = .ok (.getfield 92, 3) := by decide +kernel
theorem dX8_log_101 : decode cX8_log 101 = .ok (.getfield 206, 3) := by decide +kernel
theorem dX8_log_104 : decode cX8_log 104 = .ok (.iload_n 1, 1) := by decide +kernel
theorem dX8_log_105 : decode cX8_log 105 = .ok (.iaload, 1) := by decide +kernel
theorem dX8_log_106 : decode cX8_log 106 = .ok (.ireturn, 1) := by decide +kernel
theorem dX8_suspects_0 : decode cX8_suspects 0 = .ok (.iload_n 1, 1) := by decide +kernel
theorem dX8_suspects_1 : decode cX8_suspects 1 = .ok (.iconst 3, 1) := by decide +kernel
theorem dX8_suspects_2 : decode cX8_suspects 2 = .ok (.invokestatic 61, 3) := by decide +kernel
theorem dX8_suspects_5 : decode cX8_suspects 5 = .ok (.ifCond .ne 5, 3) := by decide +kernel
theorem dX8_suspects_8 : decode cX8_suspects 8 = .ok (.iconst (-1), 1) := by decide +kernel
theorem dX8_suspects_9 : decode cX8_suspects 9 = .ok (.ireturn, 1) := by decide +kernel
theorem dX8_suspects_10 : decode cX8_suspects 10 = .ok (.iload_n 1, 1) := by decide +kernel
theorem dX8_suspects_11 : decode cX8_suspects 11 = .ok (.iconst 2, 1) := by decide +kernel
theorem dX8_suspects_12 : decode cX8_suspects 12 = .ok (.if_icmp .ne 20, 3) := by decide +kernel
theorem dX8_suspects_15 : decode cX8_suspects 15 = .ok (.aload_n 0, 1) := by decide +kernel
theorem dX8_suspects_16 : decode cX8_suspects 16 = .ok (.bipush (-9), 2) := by decide +kernel
theorem dX8_suspects_18 : decode cX8_suspects 18 = .ok (.bipush (-9), 2) := by decide +kernel
theorem dX8_suspects_20 : decode cX8_suspects 20 = .ok (.invokevirtual 209, 3) := by decide +kernel
theorem dX8_suspects_23 : decode cX8_suspects 23 = .ok (.ifCond .eq 7, 3) := by decide +kernel
theorem dX8_suspects_26 : decode cX8_suspects 26 = .ok (.iconst 1, 1) := by decide +kernel
theorem dX8_suspects_27 : decode cX8_suspects 27 = .ok (.goto 4, 3) := by decide +kernel
theorem dX8_suspects_30 : decode cX8_suspects 30 = .ok (.iconst 0, 1) := by decide +kernel
theorem dX8_suspects_31 : decode cX8_suspects 31 = .ok (.ireturn, 1) := by decide +kernel
theorem dX8_suspects_32 : decode cX8_suspects 32 = .ok (.iconst 0, 1) := by decide +kernel
theorem dX8_suspects_33 : decode cX8_suspects 33 = .ok (.istore_n 2, 1) := by decide +kernel
theorem dX8_suspects_34 : decode cX8_suspects 34 = .ok (.iconst 0, 1) := by decide +kernel
theorem dX8_suspects_35 : decode cX8_suspects 35 = .ok (.istore_n 3, 1) := by decide +kernel
theorem dX8_suspects_36 : decode cX8_suspects 36 = .ok (.iload_n 3, 1) := by decide +kernel
theorem dX8_suspects_37 : decode cX8_suspects 37 = .ok (.aload_n 0, 1) := by decide +kernel
theorem dX8_suspects_38 : decode cX8_suspects 38 = .ok (.getfield 57, 3) := by decide +kernel
theorem dX8_suspects_41 : decode cX8_suspects 41 = .ok (.getfield 126, 3) := by decide +kernel
theorem dX8_suspects_44 : decode cX8_suspects 44 = .ok (.if_icmp .ge 68, 3) := by decide +kernel
theorem dX8_suspects_47 : decode cX8_suspects 47 = .ok (.iconst 0, 1) := by decide +kernel
theorem dX8_suspects_48 : decode cX8_suspects 48 = .ok (.istore 4, 2) := by decide +kernel
theorem dX8_suspects_50 : decode cX8_suspects 50 = .ok (.iload 4, 2) := by decide +kernel
theorem dX8_suspects_52 : decode cX8_suspects 52 = .ok (.bipush 8, 2) := by decide +kernel
theorem dX8_suspects_54 : decode cX8_suspects 54 = .ok (.if_icmp .ge 52, 3) := by decide +kernel
theorem dX8_suspects_57 : decode cX8_suspects 57 = .ok (.iload 4, 2) := by decide +kernel
theorem dX8_suspects_59 : decode cX8_suspects 59 = .ok (.aload_n 0, 1) := by decide +kernel
theorem dX8_suspects_60 : decode cX8_suspects 60 = .ok (.getfield 57, 3) := by decide +kernel
theorem dX8_suspects_63 : decode cX8_suspects 63 = .ok (.getfield 146, 3) := by decide +kernel
theorem dX8_suspects_66 : decode cX8_suspects 66 = .ok (.iload_n 3, 1) := by decide +kernel
theorem dX8_suspects_67 : decode cX8_suspects 67 = .ok (.iaload, 1) := by decide +kernel
theorem dX8_suspects_68 : decode cX8_suspects 68 = .ok (.if_icmp .eq 32, 3) := by decide +kernel
theorem dX8_suspects_71 : decode cX8_suspects 71 = .ok (.aload_n 0, 1) := by decide +kernel
theorem dX8_suspects_72 : decode cX8_suspects 72 = .ok (.iload_n 3, 1) := by decide +kernel
theorem dX8_suspects_73 : decode cX8_suspects 73 = .ok (.iload 4, 2) := by decide +kernel
theorem dX8_suspects_75 : decode cX8_suspects 75 = .ok (.invokevirtual 209, 3) := by decide +kernel
theorem dX8_suspects_78 : decode cX8_suspects 78 = .ok (.ifCond .ne 6, 3) := by decide +kernel
theorem dX8_suspects_81 : decode cX8_suspects 81 = .ok (.goto 19, 3) := by decide +kernel
theorem dX8_suspects_84 : decode cX8_suspects 84 = .ok (.iload_n 1, 1) := by decide +kernel
theorem dX8_suspects_85 : decode cX8_suspects 85 = .ok (.iconst 1, 1) := by decide +kernel
theorem dX8_suspects_86 : decode cX8_suspects 86 = .ok (.if_icmp .ne 11, 3) := by decide +kernel
theorem dX8_suspects_89 : decode cX8_suspects 89 = .ok (.bipush 8, 2) := by decide +kernel
theorem dX8_suspects_91 : decode cX8_suspects 91 = .ok (.iload_n 3, 1) := by decide +kernel
theorem dX8_suspects_92 : decode cX8_suspects 92 = .ok (.imul, 1) := by decide +kernel
theorem dX8_suspects_93 : decode cX8_suspects 93 = .ok (.iload 4, 2) := by decide +kernel
theorem dX8_suspects_95 : decode cX8_suspects 95 = .ok (.iadd, 1) := by decide +kernel
theorem dX8_suspects_96 : decode cX8_suspects 96 = .ok (.ireturn, 1) := by decide +kernel
theorem dX8_suspects_97 : decode cX8_suspects 97 = .ok (.iinc 2 1, 3) := by decide +kernel
theorem dX8_suspects_100 : decode cX8_suspects 100 = .ok (.iinc 4 1, 3) := by decide +kernel
theorem dX8_suspects_103 : decode cX8_suspects 103 = .ok (.goto (-53), 3) := by decide +kernel
theorem dX8_suspects_106 : decode cX8_suspects 106 = .ok (.iinc 3 1, 3) := by decide +kernel
theorem dX8_suspects_109 : decode cX8_suspects 109 = .ok (.goto (-73), 3) := by decide +kernel
theorem dX8_suspects_112 : decode cX8_suspects 112 = .ok (.iload_n 1, 1) := by decide +kernel
theorem dX8_suspects_113 : decode cX8_suspects 113 = .ok (.iconst 1, 1) := by decide +kernel
theorem dX8_suspects_114 : decode cX8_suspects 114 = .ok (.if_icmp .ne 8, 3) := by decide +kernel
theorem dX8_suspects_117 : decode cX8_suspects 117 = .ok (.bipush (-9), 2) := by decide +kernel
theorem dX8_suspects_119 : decode cX8_suspects 119 = .ok (.goto 4, 3) := by decide +kernel
theorem dX8_suspects_122 : decode cX8_suspects 122 = .ok (.iload_n 2, 1) := by decide +kernel
theorem dX8_suspects_123 : decode cX8_suspects 123 = .ok (.ireturn, 1) := by decide +kernel
theorem dX8_clashes_0 : decode cX8_clashes 0 = .ok (.iload_n 1, 1) := by decide +kernel
theorem dX8_clashes_1 : decode cX8_clashes 1 = .ok (.iconst 2, 1) := by decide +kernel
theorem dX8_clashes_2 : decode cX8_clashes 2 = .ok (.invokestatic 61, 3) := by decide +kernel
theorem dX8_clashes_5 : decode cX8_clashes 5 = .ok (.ifCond .ne 5, 3) := by decide +kernel
theorem dX8_clashes_8 : decode cX8_clashes 8 = .ok (.iconst (-1), 1) := by decide +kernel
theorem dX8_clashes_9 : decode cX8_clashes 9 = .ok (.ireturn, 1) := by decide +kernel
theorem dX8_clashes_10 : decode cX8_clashes 10 = .ok (.iconst 0, 1) := by decide +kernel
theorem dX8_clashes_11 : decode cX8_clashes 11 = .ok (.istore_n 2, 1) := by decide +kernel
theorem dX8_clashes_12 : decode cX8_clashes 12 = .ok (.bipush (-9), 2) := by decide +kernel
theorem dX8_clashes_14 : decode cX8_clashes 14 = .ok (.istore_n 3, 1) := by decide +kernel
theorem dX8_clashes_15 : decode cX8_clashes 15 = .ok (.bipush 15, 2) := by decide +kernel
theorem dX8_clashes_17 : decode cX8_clashes 17 = .ok (.istore 4, 2) := by decide +kernel
theorem dX8_clashes_19 : decode cX8_clashes 19 = .ok (.iload 4, 2) := by decide +kernel
theorem dX8_clashes_21 : decode cX8_clashes 21 = .ok (.ifCond .lt 28, 3) := by decide +kernel
theorem dX8_clashes_24 : decode cX8_clashes 24 = .ok (.aload_n 0, 1) := by decide +kernel
theorem dX8_clashes_25 : decode cX8_clashes 25 = .ok (.getfield 57, 3) := by decide +kernel
theorem dX8_clashes_28 : decode cX8_clashes 28 = .ok (.iload 4, 2) := by decide +kernel
theorem dX8_clashes_30 : decode cX8_clashes 30 = .ok (.invokevirtual 212, 3) := by decide +kernel
theorem dX8_clashes_33 : decode cX8_clashes 33 = .ok (.iconst 1, 1) := by decide +kernel
theorem dX8_clashes_34 : decode cX8_clashes 34 = .ok (.if_icmp .le 9, 3) := by decide +kernel
theorem dX8_clashes_37 : decode cX8_clashes 37 = .ok (.iinc 2 1, 3) := by decide +kernel
theorem dX8_clashes_40 : decode cX8_clashes 40 = .ok (.iload 4, 2) := by decide +kernel
theorem dX8_clashes_42 : decode cX8_clashes 42 = .ok (.istore_n 3, 1) := by decide +kernel
theorem dX8_clashes_43 : decode cX8_clashes 43 = .ok (.iinc 4 (-1), 3) := by decide +kernel
theorem dX8_clashes_46 : decode cX8_clashes 46 = .ok (.goto (-27), 3) := by decide +kernel
theorem dX8_clashes_49 : decode cX8_clashes 49 = .ok (.iload_n 1, 1) := by decide +kernel
theorem dX8_clashes_50 : decode cX8_clashes 50 = .ok (.ifCond .ne 7, 3) := by decide +kernel
theorem dX8_clashes_53 : decode cX8_clashes 53 = .ok (.iload_n 2, 1) := by decide +kernel
theorem dX8_clashes_54 : decode cX8_clashes 54 = .ok (.goto 4, 3) := by decide +kernel
theorem dX8_clashes_57 : decode cX8_clashes 57 = .ok (.iload_n 3, 1) := by decide +kernel
theorem dX8_clashes_58 : decode cX8_clashes 58 = .ok (.ireturn, 1) := by decide +kernel
theorem dX8_touched_0 : decode cX8_touched 0 = .ok (.iload_n 1, 1) := by decide +kernel
theorem dX8_touched_1 : decode cX8_touched 1 = .ok (.bipush 16, 2) := by decide +kernel
theorem dX8_touched_3 : decode cX8_touched 3 = .ok (.invokestatic 61, 3) := by decide +kernel
theorem dX8_touched_6 : decode cX8_touched 6 = .ok (.ifCond .eq 13, 3) := by decide +kernel
theorem dX8_touched_9 : decode cX8_touched 9 = .ok (.iload_n 2, 1) := by decide +kernel
theorem dX8_touched_10 : decode cX8_touched 10 = .ok (.sipush 256, 3) := by decide +kernel
theorem dX8_touched_13 : decode cX8_touched 13 = .ok (.invokestatic 61, 3) := by decide +kernel
theorem dX8_touched_16 : decode cX8_touched 16 = .ok (.ifCond .ne 5, 3) := by decide +kernel
theorem dX8_touched_19 : decode cX8_touched 19 = .ok (.iconst (-1), 1) := by decide +kernel
theorem dX8_touched_20 : decode cX8_touched 20 = .ok (.ireturn, 1) := by decide +kernel
theorem dX8_touched_21 : decode cX8_touched 21 = .ok (.aload_n 0, 1) := by decide +kernel
theorem dX8_touched_22 : decode cX8_touched 22 = .ok (.iload_n 1, 1) := by decide +kernel
theorem dX8_touched_23 : decode cX8_touched 23 = .ok (.iload_n 2, 1) := by decide +kernel
theorem dX8_touched_24 : decode cX8_touched 24 = .ok (.invokevirtual 106, 3) := by decide +kernel
theorem dX8_touched_27 : decode cX8_touched 27 = .ok (.ireturn, 1) := by decide +kernel
theorem dX8_way_0 : decode cX8_way 0 = .ok (.aload_n 0, 1) := by decide +kernel
theorem dX8_way_1 : decode cX8_way 1 = .ok (.getfield 57, 3) := by decide +kernel
theorem dX8_way_4 : decode cX8_way 4 = .ok (.iload_n 1, 1) := by decide +kernel
theorem dX8_way_5 : decode cX8_way 5 = .ok (.iload_n 2, 1) := by decide +kernel
theorem dX8_way_6 : decode cX8_way 6 = .ok (.invokevirtual 114, 3) := by decide +kernel
theorem dX8_way_9 : decode cX8_way 9 = .ok (.ifCond .ne 5, 3) := by decide +kernel
theorem dX8_way_12 : decode cX8_way 12 = .ok (.iconst (-1), 1) := by decide +kernel
theorem dX8_way_13 : decode cX8_way 13 = .ok (.ireturn, 1) := by decide +kernel
theorem dX8_way_14 : decode cX8_way 14 = .ok (.iconst 0, 1) := by decide +kernel
theorem dX8_way_15 : decode cX8_way 15 = .ok (.istore_n 3, 1) := by decide +kernel
theorem dX8_way_16 : decode cX8_way 16 = .ok (.iload_n 3, 1) := by decide +kernel
theorem dX8_way_17 : decode cX8_way 17 = .ok (.bipush 16, 2) := by decide +kernel
theorem dX8_way_19 : decode cX8_way 19 = .ok (.if_icmp .ge 34, 3) := by decide +kernel
theorem dX8_way_22 : decode cX8_way 22 = .ok (.aload_n 0, 1) := by decide +kernel
theorem dX8_way_23 : decode cX8_way 23 = .ok (.iload_n 3, 1) := by decide +kernel
theorem dX8_way_24 : decode cX8_way 24 = .ok (.iload_n 1, 1) := by decide +kernel
theorem dX8_way_25 : decode cX8_way 25 = .ok (.iload_n 2, 1) := by decide +kernel
theorem dX8_way_26 : decode cX8_way 26 = .ok (.invokevirtual 215, 3) := by decide +kernel
theorem dX8_way_29 : decode cX8_way 29 = .ok (.istore 4, 2) := by decide +kernel
theorem dX8_way_31 : decode cX8_way 31 = .ok (.iload 4, 2) := by decide +kernel
theorem dX8_way_33 : decode cX8_way 33 = .ok (.bipush (-9), 2) := by decide +kernel
theorem dX8_way_35 : decode cX8_way 35 = .ok (.if_icmp .eq 12, 3) := by decide +kernel
theorem dX8_way_38 : decode cX8_way 38 = .ok (.sipush 256, 3) := by decide +kernel
theorem dX8_way_41 : decode cX8_way 41 = .ok (.iload_n 3, 1) := by decide +kernel
theorem dX8_way_42 : decode cX8_way 42 = .ok (.imul, 1) := by decide +kernel
theorem dX8_way_43 : decode cX8_way 43 = .ok (.iload 4, 2) := by decide +kernel
theorem dX8_way_45 : decode cX8_way 45 = .ok (.iadd, 1) := by decide +kernel
theorem dX8_way_46 : decode cX8_way 46 = .ok (.ireturn, 1) := by decide +kernel
theorem dX8_way_47 : decode cX8_way 47 = .ok (.iinc 3 1, 3) := by decide +kernel
theorem dX8_way_50 : decode cX8_way 50 = .ok (.goto (-34), 3) := by decide +kernel
theorem dX8_way_53 : decode cX8_way 53 = .ok (.bipush (-9), 2) := by decide +kernel
theorem dX8_way_55 : decode cX8_way 55 = .ok (.ireturn, 1) := by decide +kernel
theorem dX8_walk_0 : decode cX8_walk 0 = .ok (.iload_n 1, 1) := by decide +kernel
theorem dX8_walk_1 : decode cX8_walk 1 = .ok (.iconst (-1), 1) := by decide +kernel
theorem dX8_walk_2 : decode cX8_walk 2 = .ok (.if_icmp .lt 11, 3) := by decide +kernel
theorem dX8_walk_5 : decode cX8_walk 5 = .ok (.iload_n 2, 1) := by decide +kernel
theorem dX8_walk_6 : decode cX8_walk 6 = .ok (.iconst 3, 1) := by decide +kernel
theorem dX8_walk_7 : decode cX8_walk 7 = .ok (.invokestatic 61, 3) := by decide +kernel
theorem dX8_walk_10 : decode cX8_walk 10 = .ok (.ifCond .ne 5, 3) := by decide +kernel
theorem dX8_walk_13 : decode cX8_walk 13 = .ok (.iconst (-1), 1) := by decide +kernel
theorem dX8_walk_14 : decode cX8_walk 14 = .ok (.ireturn, 1) := by decide +kernel
theorem dX8_walk_15 : decode cX8_walk 15 = .ok (.iconst 0, 1) := by decide +kernel
theorem dX8_walk_16 : decode cX8_walk 16 = .ok (.istore_n 3, 1) := by decide +kernel
theorem dX8_walk_17 : decode cX8_walk 17 = .ok (.iconst 0, 1) := by decide +kernel
theorem dX8_walk_18 : decode cX8_walk 18 = .ok (.istore 4, 2) := by decide +kernel
theorem dX8_walk_20 : decode cX8_walk 20 = .ok (.iload 4, 2) := by decide +kernel
theorem dX8_walk_22 : decode cX8_walk 22 = .ok (.aload_n 0, 1) := by decide +kernel
theorem dX8_walk_23 : decode cX8_walk 23 = .ok (.getfield 57, 3) := by decide +kernel
theorem dX8_walk_26 : decode cX8_walk 26 = .ok (.getfield 155, 3) := by decide +kernel
theorem dX8_walk_29 : decode cX8_walk 29 = .ok (.if_icmp .ge 68, 3) := by decide +kernel
theorem dX8_walk_32 : decode cX8_walk 32 = .ok (.aload_n 0, 1) := by decide +kernel
theorem dX8_walk_33 : decode cX8_walk 33 = .ok (.iload 4, 2) := by decide +kernel
theorem dX8_walk_35 : decode cX8_walk 35 = .ok (.invokevirtual 219, 3) := by decide +kernel
theorem dX8_walk_38 : decode cX8_walk 38 = .ok (.istore 5, 2) := by decide +kernel
theorem dX8_walk_40 : decode cX8_walk 40 = .ok (.iconst 0, 1) := by decide +kernel
theorem dX8_walk_41 : decode cX8_walk 41 = .ok (.istore 6, 2) := by decide +kernel
theorem dX8_walk_43 : decode cX8_walk 43 = .ok (.iload 6, 2) := by decide +kernel
theorem dX8_walk_45 : decode cX8_walk 45 = .ok (.bipush 8, 2) := by decide +kernel
theorem dX8_walk_47 : decode cX8_walk 47 = .ok (.if_icmp .ge 44, 3) := by decide +kernel
theorem dX8_walk_50 : decode cX8_walk 50 = .ok (.iconst 1, 1) := by decide +kernel
theorem dX8_walk_51 : decode cX8_walk 51 = .ok (.iload 6, 2) := by decide +kernel
theorem dX8_walk_53 : decode cX8_walk 53 = .ok (.ishl, 1) := by decide +kernel
theorem dX8_walk_54 : decode cX8_walk 54 = .ok (.istore 7, 2) := by decide +kernel
theorem dX8_walk_56 : decode cX8_walk 56 = .ok (.iload 5, 2) := by decide +kernel
theorem dX8_walk_58 : decode cX8_walk 58 = .ok (.iload 7, 2) := by decide +kernel
theorem dX8_walk_60 : decode cX8_walk 60 = .ok (.iand, 1) := by decide +kernel
theorem dX8_walk_61 : decode cX8_walk 61 = .ok (.ifCond .ne 6, 3) := by decide +kernel
theorem dX8_walk_64 : decode cX8_walk 64 = .ok (.goto 21, 3) := by decide +kernel
theorem dX8_walk_67 : decode cX8_walk 67 = .ok (.iload_n 3, 1) := by decide +kernel
theorem dX8_walk_68 : decode cX8_walk 68 = .ok (.iload_n 1, 1) := by decide +kernel
theorem dX8_walk_69 : decode cX8_walk 69 = .ok (.if_icmp .ne 13, 3) := by decide +kernel
theorem dX8_walk_72 : decode cX8_walk 72 = .ok (.aload_n 0, 1) := by decide +kernel
theorem dX8_walk_73 : decode cX8_walk 73 = .ok (.iload 4, 2) := by decide +kernel
theorem dX8_walk_75 : decode cX8_walk 75 = .ok (.iload 7, 2) := by decide +kernel
theorem dX8_walk_77 : decode cX8_walk 77 = .ok (.iload_n 2, 1) := by decide +kernel
theorem dX8_walk_78 : decode cX8_walk 78 = .ok (.invokevirtual 222, 3) := by decide +kernel
theorem dX8_walk_81 : decode cX8_walk 81 = .ok (.ireturn, 1) := by decide +kernel
theorem dX8_walk_82 : decode cX8_walk 82 = .ok (.iinc 3 1, 3) := by decide +kernel
theorem dX8_walk_85 : decode cX8_walk 85 = .ok (.iinc 6 1, 3) := by decide +kernel
theorem dX8_walk_88 : decode cX8_walk 88 = .ok (.goto (-45), 3) := by decide +kernel
theorem dX8_walk_91 : decode cX8_walk 91 = .ok (.iinc 4 1, 3) := by decide +kernel
theorem dX8_walk_94 : decode cX8_walk 94 = .ok (.goto (-74), 3) := by decide +kernel
theorem dX8_walk_97 : decode cX8_walk 97 = .ok (.iload_n 1, 1) := by decide +kernel
theorem dX8_walk_98 : decode cX8_walk 98 = .ok (.iconst (-1), 1) := by decide +kernel
theorem dX8_walk_99 : decode cX8_walk 99 = .ok (.if_icmp .ne 7, 3) := by decide +kernel
theorem dX8_walk_102 : decode cX8_walk 102 = .ok (.iload_n 3, 1) := by decide +kernel
theorem dX8_walk_103 : decode cX8_walk 103 = .ok (.goto 5, 3) := by decide +kernel
theorem dX8_walk_106 : decode cX8_walk 106 = .ok (.bipush (-9), 2) := by decide +kernel
theorem dX8_walk_108 : decode cX8_walk 108 = .ok (.ireturn, 1) := by decide +kernel
theorem dX8_keep_0 : decode cX8_keep 0 = .ok (.iload_n 1, 1) := by decide +kernel
theorem dX8_keep_1 : decode cX8_keep 1 = .ok (.iconst 2, 1) := by decide +kernel
theorem dX8_keep_2 : decode cX8_keep 2 = .ok (.invokestatic 61, 3) := by decide +kernel
theorem dX8_keep_5 : decode cX8_keep 5 = .ok (.ifCond .ne 5, 3) := by decide +kernel
theorem dX8_keep_8 : decode cX8_keep 8 = .ok (.iconst (-1), 1) := by decide +kernel
theorem dX8_keep_9 : decode cX8_keep 9 = .ok (.ireturn, 1) := by decide +kernel
theorem dX8_keep_10 : decode cX8_keep 10 = .ok (.aload_n 0, 1) := by decide +kernel
theorem dX8_keep_11 : decode cX8_keep 11 = .ok (.getfield 39, 3) := by decide +kernel
theorem dX8_keep_14 : decode cX8_keep 14 = .ok (.iload_n 1, 1) := by decide +kernel
theorem dX8_keep_15 : decode cX8_keep 15 = .ok (.aaload, 1) := by decide +kernel
theorem dX8_keep_16 : decode cX8_keep 16 = .ok (.aload_n 0, 1) := by decide +kernel
theorem dX8_keep_17 : decode cX8_keep 17 = .ok (.getfield 28, 3) := by decide +kernel
theorem dX8_keep_20 : decode cX8_keep 20 = .ok (.invokevirtual 225, 3) := by decide +kernel
theorem dX8_keep_23 : decode cX8_keep 23 = .ok (.aload_n 0, 1) := by decide +kernel
theorem dX8_keep_24 : decode cX8_keep 24 = .ok (.getfield 43, 3) := by decide +kernel
theorem dX8_keep_27 : decode cX8_keep 27 = .ok (.iload_n 1, 1) := by decide +kernel
theorem dX8_keep_28 : decode cX8_keep 28 = .ok (.iconst 1, 1) := by decide +kernel
theorem dX8_keep_29 : decode cX8_keep 29 = .ok (.bastore, 1) := by decide +kernel
theorem dX8_keep_30 : decode cX8_keep 30 = .ok (.aload_n 0, 1) := by decide +kernel
theorem dX8_keep_31 : decode cX8_keep 31 = .ok (.getfield 28, 3) := by decide +kernel
theorem dX8_keep_34 : decode cX8_keep 34 = .ok (.getfield 92, 3) := by decide +kernel
theorem dX8_keep_37 : decode cX8_keep 37 = .ok (.getfield 96, 3) := by decide +kernel
theorem dX8_keep_40 : decode cX8_keep 40 = .ok (.ireturn, 1) := by decide +kernel
theorem dX8_back_0 : decode cX8_back 0 = .ok (.iload_n 1, 1) := by decide +kernel
theorem dX8_back_1 : decode cX8_back 1 = .ok (.iconst 2, 1) := by decide +kernel
theorem dX8_back_2 : decode cX8_back 2 = .ok (.invokestatic 61, 3) := by decide +kernel
theorem dX8_back_5 : decode cX8_back 5 = .ok (.ifCond .ne 5, 3) := by decide +kernel
theorem dX8_back_8 : decode cX8_back 8 = .ok (.iconst (-1), 1) := by decide +kernel
theorem dX8_back_9 : decode cX8_back 9 = .ok (.ireturn, 1) := by decide +kernel
theorem dX8_back_10 : decode cX8_back 10 = .ok (.aload_n 0, 1) := by decide +kernel
theorem dX8_back_11 : decode cX8_back 11 = .ok (.getfield 43, 3) := by decide +kernel
theorem dX8_back_14 : decode cX8_back 14 = .ok (.iload_n 1, 1) := by decide +kernel
theorem dX8_back_15 : decode cX8_back 15 = .ok (.baload, 1) := by decide +kernel
theorem dX8_back_16 : decode cX8_back 16 = .ok (.ifCond .ne 6, 3) := by decide +kernel
theorem dX8_back_19 : decode cX8_back 19 = .ok (.bipush (-2), 2) := by decide +kernel
theorem dX8_back_21 : decode cX8_back 21 = .ok (.ireturn, 1) := by decide +kernel
theorem dX8_back_22 : decode cX8_back 22 = .ok (.aload_n 0, 1) := by decide +kernel
theorem dX8_back_23 : decode cX8_back 23 = .ok (.getfield 28, 3) := by decide +kernel
theorem dX8_back_26 : decode cX8_back 26 = .ok (.aload_n 0, 1) := by decide +kernel
theorem dX8_back_27 : decode cX8_back 27 = .ok (.getfield 39, 3) := by decide +kernel
theorem dX8_back_30 : decode cX8_back 30 = .ok (.iload_n 1, 1) := by decide +kernel
theorem dX8_back_31 : decode cX8_back 31 = .ok (.aaload, 1) := by decide +kernel
theorem dX8_back_32 : decode cX8_back 32 = .ok (.invokevirtual 225, 3) := by decide +kernel
theorem dX8_back_35 : decode cX8_back 35 = .ok (.aload_n 0, 1) := by decide +kernel
theorem dX8_back_36 : decode cX8_back 36 = .ok (.getfield 35, 3) := by decide +kernel
theorem dX8_back_39 : decode cX8_back 39 = .ok (.invokevirtual 85, 3) := by decide +kernel
theorem dX8_back_42 : decode cX8_back 42 = .ok (.aload_n 0, 1) := by decide +kernel
theorem dX8_back_43 : decode cX8_back 43 = .ok (.getfield 28, 3) := by decide +kernel
theorem dX8_back_46 : decode cX8_back 46 = .ok (.getfield 92, 3) := by decide +kernel
theorem dX8_back_49 : decode cX8_back 49 = .ok (.getfield 96, 3) := by decide +kernel
theorem dX8_back_52 : decode cX8_back 52 = .ok (.ireturn, 1) := by decide +kernel
theorem dX8_count_0 : decode cX8_count 0 = .ok (.iload_n 1, 1) := by decide +kernel
theorem dX8_count_1 : decode cX8_count 1 = .ok (.tableswitch 121 0 7 #[47, 55, 63, 71, 79, 90, 105, 113], 47) := by decide +kernel
theorem dX8_count_48 : decode cX8_count 48 = .ok (.aload_n 0, 1) := by decide +kernel
theorem dX8_count_49 : decode cX8_count 49 = .ok (.getfield 57, 3) := by decide +kernel
theorem dX8_count_52 : decode cX8_count 52 = .ok (.getfield 155, 3) := by decide +kernel
theorem dX8_count_55 : decode cX8_count 55 = .ok (.ireturn, 1) := by decide +kernel
theorem dX8_count_56 : decode cX8_count 56 = .ok (.aload_n 0, 1) := by decide +kernel
theorem dX8_count_57 : decode cX8_count 57 = .ok (.getfield 57, 3) := by decide +kernel
theorem dX8_count_60 : decode cX8_count 60 = .ok (.getfield 126, 3) := by decide +kernel
theorem dX8_count_63 : decode cX8_count 63 = .ok (.ireturn, 1) := by decide +kernel
theorem dX8_count_64 : decode cX8_count 64 = .ok (.aload_n 0, 1) := by decide +kernel
theorem dX8_count_65 : decode cX8_count 65 = .ok (.getfield 57, 3) := by decide +kernel
theorem dX8_count_68 : decode cX8_count 68 = .ok (.getfield 174, 3) := by decide +kernel
theorem dX8_count_71 : decode cX8_count 71 = .ok (.ireturn, 1) := by decide +kernel
theorem dX8_count_72 : decode cX8_count 72 = .ok (.aload_n 0, 1) := by decide +kernel
theorem dX8_count_73 : decode cX8_count 73 = .ok (.getfield 57, 3) := by decide +kernel
theorem dX8_count_76 : decode cX8_count 76 = .ok (.invokevirtual 228, 3) := by decide +kernel
theorem dX8_count_79 : decode cX8_count 79 = .ok (.ireturn, 1) := by decide +kernel
theorem dX8_count_80 : decode cX8_count 80 = .ok (.aload_n 0, 1) := by decide +kernel
theorem dX8_count_81 : decode cX8_count 81 = .ok (.getfield 28, 3) := by decide +kernel
theorem dX8_count_84 : decode cX8_count 84 = .ok (.getfield 92, 3) := by decide +kernel
theorem dX8_count_87 : decode cX8_count 87 = .ok (.getfield 96, 3) := by decide +kernel
theorem dX8_count_90 : decode cX8_count 90 = .ok (.ireturn, 1) := by decide +kernel
theorem dX8_count_91 : decode cX8_count 91 = .ok (.aload_n 0, 1) := by decide +kernel
theorem dX8_count_92 : decode cX8_count 92 = .ok (.getfield 28, 3) := by decide +kernel
theorem dX8_count_95 : decode cX8_count 95 = .ok (.getfield 117, 3) := by decide +kernel
theorem dX8_count_98 : decode cX8_count 98 = .ok (.aload_n 0, 1) := by decide +kernel
theorem dX8_count_99 : decode cX8_count 99 = .ok (.getfield 57, 3) := by decide +kernel
theorem dX8_count_102 : decode cX8_count 102 = .ok (.invokevirtual 231, 3) := by decide +kernel
theorem dX8_count_105 : decode cX8_count 105 = .ok (.ireturn, 1) := by decide +kernel
theorem dX8_count_106 : decode cX8_count 106 = .ok (.aload_n 0, 1) := by decide +kernel
theorem dX8_count_107 : decode cX8_count 107 = .ok (.getfield 10, 3) := by decide +kernel
theorem dX8_count_110 : decode cX8_count 110 = .ok (.getfield 65, 3) := by decide +kernel
theorem dX8_count_113 : decode cX8_count 113 = .ok (.ireturn, 1) := by decide +kernel
theorem dX8_count_114 : decode cX8_count 114 = .ok (.aload_n 0, 1) := by decide +kernel
theorem dX8_count_115 : decode cX8_count 115 = .ok (.getfield 35, 3) := by decide +kernel
theorem dX8_count_118 : decode cX8_count 118 = .ok (.getfield 133, 3) := by decide +kernel
theorem dX8_count_121 : decode cX8_count 121 = .ok (.ireturn, 1) := by decide +kernel
theorem dX8_count_122 : decode cX8_count 122 = .ok (.iconst (-1), 1) := by decide +kernel
theorem dX8_count_123 : decode cX8_count 123 = .ok (.ireturn, 1) := by decide +kernel
theorem dX8_byteThatGives_0 : decode cX8_byteThatGives 0 = .ok (.aload_n 0, 1) := by decide +kernel
theorem dX8_byteThatGives_1 : decode cX8_byteThatGives 1 = .ok (.getfield 57, 3) := by decide +kernel
theorem dX8_byteThatGives_4 : decode cX8_byteThatGives 4 = .ok (.iload_n 1, 1) := by decide +kernel
theorem dX8_byteThatGives_5 : decode cX8_byteThatGives 5 = .ok (.iload_n 2, 1) := by decide +kernel
theorem dX8_byteThatGives_6 : decode cX8_byteThatGives 6 = .ok (.invokevirtual 241, 3) := by decide +kernel
theorem dX8_byteThatGives_9 : decode cX8_byteThatGives 9 = .ok (.ifCond .eq 9, 3) := by decide +kernel
theorem dX8_byteThatGives_12 : decode cX8_byteThatGives 12 = .ok (.sipush 256, 3) := by decide +kernel
theorem dX8_byteThatGives_15 : decode cX8_byteThatGives 15 = .ok (.goto 4, 3) := by decide +kernel
theorem dX8_byteThatGives_18 : decode cX8_byteThatGives 18 = .ok (.iconst 1, 1) := by decide +kernel
theorem dX8_byteThatGives_19 : decode cX8_byteThatGives 19 = .ok (.istore 4, 2) := by decide +kernel
theorem dX8_byteThatGives_21 : decode cX8_byteThatGives 21 = .ok (.iconst 0, 1) := by decide +kernel
theorem dX8_byteThatGives_22 : decode cX8_byteThatGives 22 = .ok (.istore 5, 2) := by decide +kernel
theorem dX8_byteThatGives_24 : decode cX8_byteThatGives 24 = .ok (.iload 5, 2) := by decide +kernel
theorem dX8_byteThatGives_26 : decode cX8_byteThatGives 26 = .ok (.iload 4, 2) := by decide +kernel
theorem dX8_byteThatGives_28 : decode cX8_byteThatGives 28 = .ok (.if_icmp .ge 56, 3) := by decide +kernel
theorem dX8_byteThatGives_31 : decode cX8_byteThatGives 31 = .ok (.aload_n 0, 1) := by decide +kernel
theorem dX8_byteThatGives_32 : decode cX8_byteThatGives 32 = .ok (.getfield 50, 3) := by decide +kernel
theorem dX8_byteThatGives_35 : decode cX8_byteThatGives 35 = .ok (.aload_n 0, 1) := by decide +kernel
theorem dX8_byteThatGives_36 : decode cX8_byteThatGives 36 = .ok (.getfield 28, 3) := by decide +kernel
theorem dX8_byteThatGives_39 : decode cX8_byteThatGives 39 = .ok (.getfield 117, 3) := by decide +kernel
theorem dX8_byteThatGives_42 : decode cX8_byteThatGives 42 = .ok (.invokevirtual 235, 3) := by decide +kernel
theorem dX8_byteThatGives_45 : decode cX8_byteThatGives 45 = .ok (.aload_n 0, 1) := by decide +kernel
theorem dX8_byteThatGives_46 : decode cX8_byteThatGives 46 = .ok (.getfield 50, 3) := by decide +kernel
theorem dX8_byteThatGives_49 : decode cX8_byteThatGives 49 = .ok (.aload_n 0, 1) := by decide +kernel
theorem dX8_byteThatGives_50 : decode cX8_byteThatGives 50 = .ok (.getfield 57, 3) := by decide +kernel
theorem dX8_byteThatGives_53 : decode cX8_byteThatGives 53 = .ok (.iload_n 1, 1) := by decide +kernel
theorem dX8_byteThatGives_54 : decode cX8_byteThatGives 54 = .ok (.iload 5, 2) := by decide +kernel
theorem dX8_byteThatGives_56 : decode cX8_byteThatGives 56 = .ok (.invokevirtual 238, 3) := by decide +kernel
theorem dX8_byteThatGives_59 : decode cX8_byteThatGives 59 = .ok (.aload_n 0, 1) := by decide +kernel
theorem dX8_byteThatGives_60 : decode cX8_byteThatGives 60 = .ok (.getfield 50, 3) := by decide +kernel
theorem dX8_byteThatGives_63 : decode cX8_byteThatGives 63 = .ok (.aload_n 0, 1) := by decide +kernel
theorem dX8_byteThatGives_64 : decode cX8_byteThatGives 64 = .ok (.getfield 57, 3) := by decide +kernel
theorem dX8_byteThatGives_67 : decode cX8_byteThatGives 67 = .ok (.iload_n 2, 1) := by decide +kernel
theorem dX8_byteThatGives_68 : decode cX8_byteThatGives 68 = .ok (.invokevirtual 120, 3) := by decide +kernel
theorem dX8_byteThatGives_71 : decode cX8_byteThatGives 71 = .ok (.iload_n 3, 1) := by decide +kernel
theorem dX8_byteThatGives_72 : decode cX8_byteThatGives 72 = .ok (.if_icmp .ne 6, 3) := by decide +kernel
theorem dX8_byteThatGives_75 : decode cX8_byteThatGives 75 = .ok (.iload 5, 2) := by decide +kernel
theorem dX8_byteThatGives_77 : decode cX8_byteThatGives 77 = .ok (.ireturn, 1) := by decide +kernel
theorem dX8_byteThatGives_78 : decode cX8_byteThatGives 78 = .ok (.iinc 5 1, 3) := by decide +kernel
theorem dX8_byteThatGives_81 : decode cX8_byteThatGives 81 = .ok (.goto (-57), 3) := by decide +kernel
theorem dX8_byteThatGives_84 : decode cX8_byteThatGives 84 = .ok (.bipush (-9), 2) := by decide +kernel
theorem dX8_byteThatGives_86 : decode cX8_byteThatGives 86 = .ok (.ireturn, 1) := by decide +kernel
theorem dX8_wouldReadTheSame_0 : decode cX8_wouldReadTheSame 0 = .ok (.aload_n 0, 1) := by decide +kernel
theorem dX8_wouldReadTheSame_1 : decode cX8_wouldReadTheSame 1 = .ok (.getfield 50, 3) := by decide +kernel
theorem dX8_wouldReadTheSame_4 : decode cX8_wouldReadTheSame 4 = .ok (.aload_n 0, 1) := by decide +kernel
theorem dX8_wouldReadTheSame_5 : decode cX8_wouldReadTheSame 5 = .ok (.getfield 57, 3) := by decide +kernel
theorem dX8_wouldReadTheSame_8 : decode cX8_wouldReadTheSame 8 = .ok (.invokevirtual 244, 3) := by decide +kernel
theorem dX8_wouldReadTheSame_11 : decode cX8_wouldReadTheSame 11 = .ok (.iload_n 1, 1) := by decide +kernel
theorem dX8_wouldReadTheSame_12 : decode cX8_wouldReadTheSame 12 = .ok (.aload_n 0, 1) := by decide +kernel
theorem dX8_wouldReadTheSame_13 : decode cX8_wouldReadTheSame 13 = .ok (.getfield 57, 3) := by decide +kernel
theorem dX8_wouldReadTheSame_16 : decode cX8_wouldReadTheSame 16 = .ok (.getfield 126, 3) := by decide +kernel
theorem dX8_wouldReadTheSame_19 : decode cX8_wouldReadTheSame 19 = .ok (.invokestatic 61, 3) := by decide +kernel
theorem dX8_wouldReadTheSame_22 : decode cX8_wouldReadTheSame 22 = .ok (.ifCond .eq 13, 3) := by decide +kernel
theorem dX8_wouldReadTheSame_25 : decode cX8_wouldReadTheSame 25 = .ok (.aload_n 0, 1) := by decide +kernel
theorem dX8_wouldReadTheSame_26 : decode cX8_wouldReadTheSame 26 = .ok (.getfield 50, 3) := by decide +kernel
theorem dX8_wouldReadTheSame_29 : decode cX8_wouldReadTheSame 29 = .ok (.getfield 129, 3) := by decide +kernel
theorem dX8_wouldReadTheSame_32 : decode cX8_wouldReadTheSame 32 = .ok (.iload_n 1, 1) := by decide +kernel
theorem dX8_wouldReadTheSame_33 : decode cX8_wouldReadTheSame 33 = .ok (.iload_n 2, 1) := by decide +kernel
theorem dX8_wouldReadTheSame_34 : decode cX8_wouldReadTheSame 34 = .ok (.iastore, 1) := by decide +kernel
theorem dX8_wouldReadTheSame_35 : decode cX8_wouldReadTheSame 35 = .ok (.aload_n 0, 1) := by decide +kernel
theorem dX8_wouldReadTheSame_36 : decode cX8_wouldReadTheSame 36 = .ok (.getfield 50, 3) := by decide +kernel
theorem dX8_wouldReadTheSame_39 : decode cX8_wouldReadTheSame 39 = .ok (.aload_n 0, 1) := by decide +kernel
theorem dX8_wouldReadTheSame_40 : decode cX8_wouldReadTheSame 40 = .ok (.getfield 57, 3) := by decide +kernel
theorem dX8_wouldReadTheSame_43 : decode cX8_wouldReadTheSame 43 = .ok (.invokevirtual 247, 3) := by decide +kernel
theorem dX8_wouldReadTheSame_46 : decode cX8_wouldReadTheSame 46 = .ok (.aload_n 0, 1) := by decide +kernel
theorem dX8_wouldReadTheSame_47 : decode cX8_wouldReadTheSame 47 = .ok (.getfield 28, 3) := by decide +kernel
theorem dX8_wouldReadTheSame_50 : decode cX8_wouldReadTheSame 50 = .ok (.getfield 92, 3) := by decide +kernel
theorem dX8_wouldReadTheSame_53 : decode cX8_wouldReadTheSame 53 = .ok (.aload_n 0, 1) := by decide +kernel
theorem dX8_wouldReadTheSame_54 : decode cX8_wouldReadTheSame 54 = .ok (.getfield 50, 3) := by decide +kernel
theorem dX8_wouldReadTheSame_57 : decode cX8_wouldReadTheSame 57 = .ok (.aload_n 0, 1) := by decide +kernel
theorem dX8_wouldReadTheSame_58 : decode cX8_wouldReadTheSame 58 = .ok (.getfield 57, 3) := by decide +kernel
theorem dX8_wouldReadTheSame_61 : decode cX8_wouldReadTheSame 61 = .ok (.invokevirtual 248, 3) := by decide +kernel
theorem dX8_wouldReadTheSame_64 : decode cX8_wouldReadTheSame 64 = .ok (.ireturn, 1) := by decide +kernel
theorem dX8_walkedBits_0 : decode cX8_walkedBits 0 = .ok (.aload_n 0, 1) := by decide +kernel
theorem dX8_walkedBits_1 : decode cX8_walkedBits 1 = .ok (.getfield 57, 3) := by decide +kernel
theorem dX8_walkedBits_4 : decode cX8_walkedBits 4 = .ok (.aload_n 0, 1) := by decide +kernel
theorem dX8_walkedBits_5 : decode cX8_walkedBits 5 = .ok (.getfield 57, 3) := by decide +kernel
theorem dX8_walkedBits_8 : decode cX8_walkedBits 8 = .ok (.getfield 158, 3) := by decide +kernel
theorem dX8_walkedBits_11 : decode cX8_walkedBits 11 = .ok (.iload_n 1, 1) := by decide +kernel
theorem dX8_walkedBits_12 : decode cX8_walkedBits 12 = .ok (.iaload, 1) := by decide +kernel
theorem dX8_walkedBits_13 : decode cX8_walkedBits 13 = .ok (.invokevirtual 190, 3) := by decide +kernel
theorem dX8_walkedBits_16 : decode cX8_walkedBits 16 = .ok (.iload_n 1, 1) := by decide +kernel
theorem dX8_walkedBits_17 : decode cX8_walkedBits 17 = .ok (.if_icmp .ne 35, 3) := by decide +kernel
theorem dX8_walkedBits_20 : decode cX8_walkedBits 20 = .ok (.aload_n 0, 1) := by decide +kernel
theorem dX8_walkedBits_21 : decode cX8_walkedBits 21 = .ok (.getfield 57, 3) := by decide +kernel
theorem dX8_walkedBits_24 : decode cX8_walkedBits 24 = .ok (.getfield 164, 3) := by decide +kernel
theorem dX8_walkedBits_27 : decode cX8_walkedBits 27 = .ok (.iload_n 1, 1) := by decide +kernel
theorem dX8_walkedBits_28 : decode cX8_walkedBits 28 = .ok (.iaload, 1) := by decide +kernel
theorem dX8_walkedBits_29 : decode cX8_walkedBits 29 = .ok (.bipush (-9), 2) := by decide +kernel
theorem dX8_walkedBits_31 : decode cX8_walkedBits 31 = .ok (.if_icmp .ne 21, 3) := by decide +kernel
theorem dX8_walkedBits_34 : decode cX8_walkedBits 34 = .ok (.aload_n 0, 1) := by decide +kernel
theorem dX8_walkedBits_35 : decode cX8_walkedBits 35 = .ok (.getfield 28, 3) := by decide +kernel
theorem dX8_walkedBits_38 : decode cX8_walkedBits 38 = .ok (.getfield 152, 3) := by decide +kernel
theorem dX8_walkedBits_41 : decode cX8_walkedBits 41 = .ok (.aload_n 0, 1) := by decide +kernel
theorem dX8_walkedBits_42 : decode cX8_walkedBits 42 = .ok (.getfield 57, 3) := by decide +kernel
theorem dX8_walkedBits_45 : decode cX8_walkedBits 45 = .ok (.iload_n 1, 1) := by decide +kernel
theorem dX8_walkedBits_46 : decode cX8_walkedBits 46 = .ok (.invokevirtual 167, 3) := by decide +kernel
theorem dX8_walkedBits_49 : decode cX8_walkedBits 49 = .ok (.ifCond .eq 5, 3) := by decide +kernel
theorem dX8_walkedBits_52 : decode cX8_walkedBits 52 = .ok (.iconst 0, 1) := by decide +kernel
theorem dX8_walkedBits_53 : decode cX8_walkedBits 53 = .ok (.ireturn, 1) := by decide +kernel
theorem dX8_walkedBits_54 : decode cX8_walkedBits 54 = .ok (.iconst 0, 1) := by decide +kernel
theorem dX8_walkedBits_55 : decode cX8_walkedBits 55 = .ok (.istore_n 2, 1) := by decide +kernel
theorem dX8_walkedBits_56 : decode cX8_walkedBits 56 = .ok (.iconst 0, 1) := by decide +kernel
theorem dX8_walkedBits_57 : decode cX8_walkedBits 57 = .ok (.istore_n 3, 1) := by decide +kernel
theorem dX8_walkedBits_58 : decode cX8_walkedBits 58 = .ok (.iload_n 3, 1) := by decide +kernel
theorem dX8_walkedBits_59 : decode cX8_walkedBits 59 = .ok (.aload_n 0, 1) := by decide +kernel
theorem dX8_walkedBits_60 : decode cX8_walkedBits 60 = .ok (.getfield 57, 3) := by decide +kernel
theorem dX8_walkedBits_63 : decode cX8_walkedBits 63 = .ok (.getfield 126, 3) := by decide +kernel
theorem dX8_walkedBits_66 : decode cX8_walkedBits 66 = .ok (.if_icmp .ge 97, 3) := by decide +kernel
theorem dX8_walkedBits_69 : decode cX8_walkedBits 69 = .ok (.aload_n 0, 1) := by decide +kernel
theorem dX8_walkedBits_70 : decode cX8_walkedBits 70 = .ok (.getfield 57, 3) := by decide +kernel
theorem dX8_walkedBits_73 : decode cX8_walkedBits 73 = .ok (.getfield 137, 3) := by decide +kernel
theorem dX8_walkedBits_76 : decode cX8_walkedBits 76 = .ok (.iload_n 3, 1) := by decide +kernel
theorem dX8_walkedBits_77 : decode cX8_walkedBits 77 = .ok (.iaload, 1) := by decide +kernel
theorem dX8_walkedBits_78 : decode cX8_walkedBits 78 = .ok (.iload_n 1, 1) := by decide +kernel
theorem dX8_walkedBits_79 : decode cX8_walkedBits 79 = .ok (.if_icmp .eq 6, 3) := by decide +kernel
theorem dX8_walkedBits_82 : decode cX8_walkedBits 82 = .ok (.goto 75, 3) := by decide +kernel
theorem dX8_walkedBits_85 : decode cX8_walkedBits 85 = .ok (.aload_n 0, 1) := by decide +kernel
theorem dX8_walkedBits_86 : decode cX8_walkedBits 86 = .ok (.getfield 57, 3) := by decide +kernel
theorem dX8_walkedBits_89 : decode cX8_walkedBits 89 = .ok (.getfield 146, 3) := by decide +kernel
theorem dX8_walkedBits_92 : decode cX8_walkedBits 92 = .ok (.iload_n 3, 1) := by decide +kernel
theorem dX8_walkedBits_93 : decode cX8_walkedBits 93 = .ok (.iaload, 1) := by decide +kernel
theorem dX8_walkedBits_94 : decode cX8_walkedBits 94 = .ok (.istore 4, 2) := by decide +kernel
theorem dX8_walkedBits_96 : decode cX8_walkedBits 96 = .ok (.iload 4, 2) := by decide +kernel
theorem dX8_walkedBits_98 : decode cX8_walkedBits 98 = .ok (.iconst 2, 1) := by decide +kernel
theorem dX8_walkedBits_99 : decode cX8_walkedBits 99 = .ok (.if_icmp .eq 28, 3) := by decide +kernel
theorem dX8_walkedBits_102 : decode cX8_walkedBits 102 = .ok (.iload 4, 2) := by decide +kernel
theorem dX8_walkedBits_104 : decode cX8_walkedBits 104 = .ok (.bipush 6, 2) := by decide +kernel
theorem dX8_walkedBits_106 : decode cX8_walkedBits 106 = .ok (.if_icmp .eq 21, 3) := by decide +kernel
theorem dX8_walkedBits_109 : decode cX8_walkedBits 109 = .ok (.iload 4, 2) := by decide +kernel
theorem dX8_walkedBits_111 : decode cX8_walkedBits 111 = .ok (.bipush 7, 2) := by decide +kernel
theorem dX8_walkedBits_113 : decode cX8_walkedBits 113 = .ok (.if_icmp .eq 14, 3) := by decide +kernel
theorem dX8_walkedBits_116 : decode cX8_walkedBits 116 = .ok (.aload_n 0, 1) := by decide +kernel
theorem dX8_walkedBits_117 : decode cX8_walkedBits 117 = .ok (.getfield 57, 3) := by decide +kernel
theorem dX8_walkedBits_120 : decode cX8_walkedBits 120 = .ok (.iload_n 3, 1) := by decide +kernel
theorem dX8_walkedBits_121 : decode cX8_walkedBits 121 = .ok (.invokevirtual 252, 3) := by decide +kernel
theorem dX8_walkedBits_124 : decode cX8_walkedBits 124 = .ok (.ifCond .eq 5, 3) := by decide +kernel
theorem dX8_walkedBits_127 : decode cX8_walkedBits 127 = .ok (.iconst 0, 1) := by decide +kernel
theorem dX8_walkedBits_128 : decode cX8_walkedBits 128 = .ok (.ireturn, 1) := by decide +kernel
theorem dX8_walkedBits_129 : decode cX8_walkedBits 129 = .ok (.iload 4, 2) := by decide +kernel
theorem dX8_walkedBits_131 : decode cX8_walkedBits 131 = .ok (.ifCond .ne 26, 3) := by decide +kernel
theorem dX8_walkedBits_134 : decode cX8_walkedBits 134 = .ok (.aload_n 0, 1) := by decide +kernel
theorem dX8_walkedBits_135 : decode cX8_walkedBits 135 = .ok (.getfield 57, 3) := by decide +kernel
theorem dX8_walkedBits_138 : decode cX8_walkedBits 138 = .ok (.iload_n 3, 1) := by decide +kernel
theorem dX8_walkedBits_139 : decode cX8_walkedBits 139 = .ok (.invokevirtual 256, 3) := by decide +kernel
theorem dX8_walkedBits_142 : decode cX8_walkedBits 142 = .ok (.ifCond .ne 15, 3) := by decide +kernel
theorem dX8_walkedBits_145 : decode cX8_walkedBits 145 = .ok (.iload_n 2, 1) := by decide +kernel
theorem dX8_walkedBits_146 : decode cX8_walkedBits 146 = .ok (.aload_n 0, 1) := by decide +kernel
theorem dX8_walkedBits_147 : decode cX8_walkedBits 147 = .ok (.getfield 57, 3) := by decide +kernel
theorem dX8_walkedBits_150 : decode cX8_walkedBits 150 = .ok (.getfield 259, 3) := by decide +kernel
theorem dX8_walkedBits_153 : decode cX8_walkedBits 153 = .ok (.iload_n 3, 1) := by decide +kernel
theorem dX8_walkedBits_154 : decode cX8_walkedBits 154 = .ok (.iaload, 1) := by decide +kernel
theorem dX8_walkedBits_155 : decode cX8_walkedBits 155 = .ok (.ior, 1) := by decide +kernel
theorem dX8_walkedBits_156 : decode cX8_walkedBits 156 = .ok (.istore_n 2, 1) := by decide +kernel
theorem dX8_walkedBits_157 : decode cX8_walkedBits 157 = .ok (.iinc 3 1, 3) := by decide +kernel
theorem dX8_walkedBits_160 : decode cX8_walkedBits 160 = .ok (.goto (-102), 3) := by decide +kernel
theorem dX8_walkedBits_163 : decode cX8_walkedBits 163 = .ok (.iload_n 2, 1) := by decide +kernel
theorem dX8_walkedBits_164 : decode cX8_walkedBits 164 = .ok (.ireturn, 1) := by decide +kernel
theorem dX8_stepOfWalk_0 : decode cX8_stepOfWalk 0 = .ok (.iload_n 3, 1) := by decide +kernel
theorem dX8_stepOfWalk_1 : decode cX8_stepOfWalk 1 = .ok (.lookupswitch 61 #[(0, 27), (1, 37)], 27) := by decide +kernel
theorem dX8_stepOfWalk_28 : decode cX8_stepOfWalk 28 = .ok (.aload_n 0, 1) := by decide +kernel
theorem dX8_stepOfWalk_29 : decode cX8_stepOfWalk 29 = .ok (.getfield 57, 3) := by decide +kernel
theorem dX8_stepOfWalk_32 : decode cX8_stepOfWalk 32 = .ok (.getfield 158, 3) := by decide +kernel
theorem dX8_stepOfWalk_35 : decode cX8_stepOfWalk 35 = .ok (.iload_n 1, 1) := by decide +kernel
theorem dX8_stepOfWalk_36 : decode cX8_stepOfWalk 36 = .ok (.iaload, 1) := by decide +kernel
theorem dX8_stepOfWalk_37 : decode cX8_stepOfWalk 37 = .ok (.ireturn, 1) := by decide +kernel
theorem dX8_stepOfWalk_38 : decode cX8_stepOfWalk 38 = .ok (.aload_n 0, 1) := by decide +kernel
theorem dX8_stepOfWalk_39 : decode cX8_stepOfWalk 39 = .ok (.getfield 28, 3) := by decide +kernel
theorem dX8_stepOfWalk_42 : decode cX8_stepOfWalk 42 = .ok (.getfield 152, 3) := by decide +kernel
theorem dX8_stepOfWalk_45 : decode cX8_stepOfWalk 45 = .ok (.getfield 262, 3) := by decide +kernel
theorem dX8_stepOfWalk_48 : decode cX8_stepOfWalk 48 = .ok (.iload_n 1, 1) := by decide +kernel
theorem dX8_stepOfWalk_49 : decode cX8_stepOfWalk 49 = .ok (.iaload, 1) := by decide +kernel
theorem dX8_stepOfWalk_50 : decode cX8_stepOfWalk 50 = .ok (.aload_n 0, 1) := by decide +kernel
theorem dX8_stepOfWalk_51 : decode cX8_stepOfWalk 51 = .ok (.getfield 57, 3) := by decide +kernel
theorem dX8_stepOfWalk_54 : decode cX8_stepOfWalk 54 = .ok (.iload_n 1, 1) := by decide +kernel
theorem dX8_stepOfWalk_55 : decode cX8_stepOfWalk 55 = .ok (.invokevirtual 263, 3) := by decide +kernel
theorem dX8_stepOfWalk_58 : decode cX8_stepOfWalk 58 = .ok (.iand, 1) := by decide +kernel
theorem dX8_stepOfWalk_59 : decode cX8_stepOfWalk 59 = .ok (.iload_n 2, 1) := by decide +kernel
theorem dX8_stepOfWalk_60 : decode cX8_stepOfWalk 60 = .ok (.ixor, 1) := by decide +kernel
theorem dX8_stepOfWalk_61 : decode cX8_stepOfWalk 61 = .ok (.ireturn, 1) := by decide +kernel
theorem dX8_stepOfWalk_62 : decode cX8_stepOfWalk 62 = .ok (.aload_n 0, 1) := by decide +kernel
theorem dX8_stepOfWalk_63 : decode cX8_stepOfWalk 63 = .ok (.getfield 28, 3) := by decide +kernel
theorem dX8_stepOfWalk_66 : decode cX8_stepOfWalk 66 = .ok (.getfield 152, 3) := by decide +kernel
theorem dX8_stepOfWalk_69 : decode cX8_stepOfWalk 69 = .ok (.aload_n 0, 1) := by decide +kernel
theorem dX8_stepOfWalk_70 : decode cX8_stepOfWalk 70 = .ok (.getfield 57, 3) := by decide +kernel
theorem dX8_stepOfWalk_73 : decode cX8_stepOfWalk 73 = .ok (.iload_n 1, 1) := by decide +kernel
theorem dX8_stepOfWalk_74 : decode cX8_stepOfWalk 74 = .ok (.invokevirtual 266, 3) := by decide +kernel
theorem dX8_stepOfWalk_77 : decode cX8_stepOfWalk 77 = .ok (.iload_n 2, 1) := by decide +kernel
theorem dX8_stepOfWalk_78 : decode cX8_stepOfWalk 78 = .ok (.ixor, 1) := by decide +kernel
theorem dX8_stepOfWalk_79 : decode cX8_stepOfWalk 79 = .ok (.ireturn, 1) := by decide +kernel
