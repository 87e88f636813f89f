theorem dX9_wouldTell_0 : decode cX9_wouldTell 0 = .ok (.aload_n 0, 1) := by decide +kernel
theorem dX9_wouldTell_1 : decode cX9_wouldTell 1 = .ok (.sipush 135, 3) := by decide +kernel
theorem dX9_wouldTell_4 : decode cX9_wouldTell 4 = .ok (.invokevirtual 50, 3) := by decide +kernel
theorem dX9_wouldTell_7 : decode cX9_wouldTell 7 = .ok (.iload_n 1, 1) := by decide +kernel
theorem dX9_wouldTell_8 : decode cX9_wouldTell 8 = .ok (.bipush (-9), 2) := by decide +kernel
theorem dX9_wouldTell_10 : decode cX9_wouldTell 10 = .ok (.if_icmp .eq 14, 3) := by decide +kernel
theorem dX9_wouldTell_13 : decode cX9_wouldTell 13 = .ok (.aload_n 0, 1) := by decide +kernel
theorem dX9_wouldTell_14 : decode cX9_wouldTell 14 = .ok (.getfield 16, 3) := by decide +kernel
theorem dX9_wouldTell_17 : decode cX9_wouldTell 17 = .ok (.sipush 147, 3) := by decide +kernel
theorem dX9_wouldTell_20 : decode cX9_wouldTell 20 = .ok (.iload_n 1, 1) := by decide +kernel
theorem dX9_wouldTell_21 : decode cX9_wouldTell 21 = .ok (.iadd, 1) := by decide +kernel
theorem dX9_wouldTell_22 : decode cX9_wouldTell 22 = .ok (.iload_n 2, 1) := by decide +kernel
theorem dX9_wouldTell_23 : decode cX9_wouldTell 23 = .ok (.iastore, 1) := by decide +kernel
theorem dX9_wouldTell_24 : decode cX9_wouldTell 24 = .ok (.aload_n 0, 1) := by decide +kernel
theorem dX9_wouldTell_25 : decode cX9_wouldTell 25 = .ok (.sipush 135, 3) := by decide +kernel
theorem dX9_wouldTell_28 : decode cX9_wouldTell 28 = .ok (.invokevirtual 54, 3) := by decide +kernel
theorem dX9_wouldTell_31 : decode cX9_wouldTell 31 = .ok (.iconst 1, 1) := by decide +kernel
theorem dX9_wouldTell_32 : decode cX9_wouldTell 32 = .ok (.istore_n 3, 1) := by decide +kernel
theorem dX9_wouldTell_33 : decode cX9_wouldTell 33 = .ok (.iconst 0, 1) := by decide +kernel
theorem dX9_wouldTell_34 : decode cX9_wouldTell 34 = .ok (.istore 4, 2) := by decide +kernel
theorem dX9_wouldTell_36 : decode cX9_wouldTell 36 = .ok (.iload 4, 2) := by decide +kernel
theorem dX9_wouldTell_38 : decode cX9_wouldTell 38 = .ok (.aload_n 0, 1) := by decide +kernel
theorem dX9_wouldTell_39 : decode cX9_wouldTell 39 = .ok (.getfield 16, 3) := by decide +kernel
theorem dX9_wouldTell_42 : decode cX9_wouldTell 42 = .ok (.bipush 72, 2) := by decide +kernel
theorem dX9_wouldTell_44 : decode cX9_wouldTell 44 = .ok (.iaload, 1) := by decide +kernel
theorem dX9_wouldTell_45 : decode cX9_wouldTell 45 = .ok (.if_icmp .ge 93, 3) := by decide +kernel
theorem dX9_wouldTell_48 : decode cX9_wouldTell 48 = .ok (.iload_n 3, 1) := by decide +kernel
theorem dX9_wouldTell_49 : decode cX9_wouldTell 49 = .ok (.ifCond .eq 89, 3) := by decide +kernel
theorem dX9_wouldTell_52 : decode cX9_wouldTell 52 = .ok (.bipush 73, 2) := by decide +kernel
theorem dX9_wouldTell_54 : decode cX9_wouldTell 54 = .ok (.iconst 3, 1) := by decide +kernel
theorem dX9_wouldTell_55 : decode cX9_wouldTell 55 = .ok (.iload 4, 2) := by decide +kernel
theorem dX9_wouldTell_57 : decode cX9_wouldTell 57 = .ok (.imul, 1) := by decide +kernel
theorem dX9_wouldTell_58 : decode cX9_wouldTell 58 = .ok (.iadd, 1) := by decide +kernel
theorem dX9_wouldTell_59 : decode cX9_wouldTell 59 = .ok (.istore 5, 2) := by decide +kernel
theorem dX9_wouldTell_61 : decode cX9_wouldTell 61 = .ok (.aload_n 0, 1) := by decide +kernel
theorem dX9_wouldTell_62 : decode cX9_wouldTell 62 = .ok (.getfield 16, 3) := by decide +kernel
theorem dX9_wouldTell_65 : decode cX9_wouldTell 65 = .ok (.iload 5, 2) := by decide +kernel
theorem dX9_wouldTell_67 : decode cX9_wouldTell 67 = .ok (.iconst 1, 1) := by decide +kernel
theorem dX9_wouldTell_68 : decode cX9_wouldTell 68 = .ok (.iadd, 1) := by decide +kernel
theorem dX9_wouldTell_69 : decode cX9_wouldTell 69 = .ok (.iaload, 1) := by decide +kernel
theorem dX9_wouldTell_70 : decode cX9_wouldTell 70 = .ok (.iconst 1, 1) := by decide +kernel
theorem dX9_wouldTell_71 : decode cX9_wouldTell 71 = .ok (.if_icmp .ne 29, 3) := by decide +kernel
theorem dX9_wouldTell_74 : decode cX9_wouldTell 74 = .ok (.aload_n 0, 1) := by decide +kernel
theorem dX9_wouldTell_75 : decode cX9_wouldTell 75 = .ok (.sipush 135, 3) := by decide +kernel
theorem dX9_wouldTell_78 : decode cX9_wouldTell 78 = .ok (.aload_n 0, 1) := by decide +kernel
theorem dX9_wouldTell_79 : decode cX9_wouldTell 79 = .ok (.getfield 16, 3) := by decide +kernel
theorem dX9_wouldTell_82 : decode cX9_wouldTell 82 = .ok (.iload 5, 2) := by decide +kernel
theorem dX9_wouldTell_84 : decode cX9_wouldTell 84 = .ok (.iaload, 1) := by decide +kernel
theorem dX9_wouldTell_85 : decode cX9_wouldTell 85 = .ok (.aload_n 0, 1) := by decide +kernel
theorem dX9_wouldTell_86 : decode cX9_wouldTell 86 = .ok (.getfield 16, 3) := by decide +kernel
theorem dX9_wouldTell_89 : decode cX9_wouldTell 89 = .ok (.iload 5, 2) := by decide +kernel
theorem dX9_wouldTell_91 : decode cX9_wouldTell 91 = .ok (.iconst 2, 1) := by decide +kernel
theorem dX9_wouldTell_92 : decode cX9_wouldTell 92 = .ok (.iadd, 1) := by decide +kernel
theorem dX9_wouldTell_93 : decode cX9_wouldTell 93 = .ok (.iaload, 1) := by decide +kernel
theorem dX9_wouldTell_94 : decode cX9_wouldTell 94 = .ok (.invokevirtual 109, 3) := by decide +kernel
theorem dX9_wouldTell_97 : decode cX9_wouldTell 97 = .ok (.goto 35, 3) := by decide +kernel
theorem dX9_wouldTell_100 : decode cX9_wouldTell 100 = .ok (.aload_n 0, 1) := by decide +kernel
theorem dX9_wouldTell_101 : decode cX9_wouldTell 101 = .ok (.sipush 135, 3) := by decide +kernel
theorem dX9_wouldTell_104 : decode cX9_wouldTell 104 = .ok (.aload_n 0, 1) := by decide +kernel
theorem dX9_wouldTell_105 : decode cX9_wouldTell 105 = .ok (.getfield 16, 3) := by decide +kernel
theorem dX9_wouldTell_108 : decode cX9_wouldTell 108 = .ok (.iload 5, 2) := by decide +kernel
theorem dX9_wouldTell_110 : decode cX9_wouldTell 110 = .ok (.iaload, 1) := by decide +kernel
theorem dX9_wouldTell_111 : decode cX9_wouldTell 111 = .ok (.invokevirtual 100, 3) := by decide +kernel
theorem dX9_wouldTell_114 : decode cX9_wouldTell 114 = .ok (.aload_n 0, 1) := by decide +kernel
theorem dX9_wouldTell_115 : decode cX9_wouldTell 115 = .ok (.getfield 16, 3) := by decide +kernel
theorem dX9_wouldTell_118 : decode cX9_wouldTell 118 = .ok (.iload 5, 2) := by decide +kernel
theorem dX9_wouldTell_120 : decode cX9_wouldTell 120 = .ok (.iconst 2, 1) := by decide +kernel
theorem dX9_wouldTell_121 : decode cX9_wouldTell 121 = .ok (.iadd, 1) := by decide +kernel
theorem dX9_wouldTell_122 : decode cX9_wouldTell 122 = .ok (.iaload, 1) := by decide +kernel
theorem dX9_wouldTell_123 : decode cX9_wouldTell 123 = .ok (.if_icmp .ne 7, 3) := by decide +kernel
theorem dX9_wouldTell_126 : decode cX9_wouldTell 126 = .ok (.iconst 1, 1) := by decide +kernel
theorem dX9_wouldTell_127 : decode cX9_wouldTell 127 = .ok (.goto 4, 3) := by decide +kernel
theorem dX9_wouldTell_130 : decode cX9_wouldTell 130 = .ok (.iconst 0, 1) := by decide +kernel
theorem dX9_wouldTell_131 : decode cX9_wouldTell 131 = .ok (.istore_n 3, 1) := by decide +kernel
theorem dX9_wouldTell_132 : decode cX9_wouldTell 132 = .ok (.iinc 4 1, 3) := by decide +kernel
theorem dX9_wouldTell_135 : decode cX9_wouldTell 135 = .ok (.goto (-99), 3) := by decide +kernel
theorem dX9_wouldTell_138 : decode cX9_wouldTell 138 = .ok (.iload_n 3, 1) := by decide +kernel
theorem dX9_wouldTell_139 : decode cX9_wouldTell 139 = .ok (.ireturn, 1) := by decide +kernel
theorem dX9_suspects_0 : decode cX9_suspects 0 = .ok (.iload_n 1, 1) := by decide +kernel
theorem dX9_suspects_1 : decode cX9_suspects 1 = .ok (.iconst 0, 1) := by decide +kernel
theorem dX9_suspects_2 : decode cX9_suspects 2 = .ok (.iconst 2, 1) := by decide +kernel
theorem dX9_suspects_3 : decode cX9_suspects 3 = .ok (.invokestatic 39, 3) := by decide +kernel
theorem dX9_suspects_6 : decode cX9_suspects 6 = .ok (.ifCond .ne 5, 3) := by decide +kernel
theorem dX9_suspects_9 : decode cX9_suspects 9 = .ok (.iconst (-1), 1) := by decide +kernel
theorem dX9_suspects_10 : decode cX9_suspects 10 = .ok (.ireturn, 1) := by decide +kernel
theorem dX9_suspects_11 : decode cX9_suspects 11 = .ok (.iload_n 1, 1) := by decide +kernel
theorem dX9_suspects_12 : decode cX9_suspects 12 = .ok (.iconst 2, 1) := by decide +kernel
theorem dX9_suspects_13 : decode cX9_suspects 13 = .ok (.if_icmp .ne 19, 3) := by decide +kernel
theorem dX9_suspects_16 : decode cX9_suspects 16 = .ok (.aload_n 0, 1) := by decide +kernel
theorem dX9_suspects_17 : decode cX9_suspects 17 = .ok (.bipush (-9), 2) := by decide +kernel
theorem dX9_suspects_19 : decode cX9_suspects 19 = .ok (.iconst 0, 1) := by decide +kernel
theorem dX9_suspects_20 : decode cX9_suspects 20 = .ok (.invokevirtual 122, 3) := by decide +kernel
theorem dX9_suspects_23 : decode cX9_suspects 23 = .ok (.ifCond .eq 7, 3) := by decide +kernel
theorem dX9_suspects_26 : decode cX9_suspects 26 = .ok (.iconst 1, 1) := by decide +kernel
theorem dX9_suspects_27 : decode cX9_suspects 27 = .ok (.goto 4, 3) := by decide +kernel
theorem dX9_suspects_30 : decode cX9_suspects 30 = .ok (.iconst 0, 1) := by decide +kernel
theorem dX9_suspects_31 : decode cX9_suspects 31 = .ok (.ireturn, 1) := by decide +kernel
theorem dX9_suspects_32 : decode cX9_suspects 32 = .ok (.iconst 0, 1) := by decide +kernel
theorem dX9_suspects_33 : decode cX9_suspects 33 = .ok (.istore_n 2, 1) := by decide +kernel
theorem dX9_suspects_34 : decode cX9_suspects 34 = .ok (.bipush (-9), 2) := by decide +kernel
theorem dX9_suspects_36 : decode cX9_suspects 36 = .ok (.istore_n 3, 1) := by decide +kernel
theorem dX9_suspects_37 : decode cX9_suspects 37 = .ok (.iconst 0, 1) := by decide +kernel
theorem dX9_suspects_38 : decode cX9_suspects 38 = .ok (.istore 4, 2) := by decide +kernel
theorem dX9_suspects_40 : decode cX9_suspects 40 = .ok (.iload 4, 2) := by decide +kernel
theorem dX9_suspects_42 : decode cX9_suspects 42 = .ok (.bipush 8, 2) := by decide +kernel
theorem dX9_suspects_44 : decode cX9_suspects 44 = .ok (.aload_n 0, 1) := by decide +kernel
theorem dX9_suspects_45 : decode cX9_suspects 45 = .ok (.invokevirtual 35, 3) := by decide +kernel
theorem dX9_suspects_48 : decode cX9_suspects 48 = .ok (.imul, 1) := by decide +kernel
theorem dX9_suspects_49 : decode cX9_suspects 49 = .ok (.if_icmp .ge 61, 3) := by decide +kernel
theorem dX9_suspects_52 : decode cX9_suspects 52 = .ok (.iload 4, 2) := by decide +kernel
theorem dX9_suspects_54 : decode cX9_suspects 54 = .ok (.bipush 8, 2) := by decide +kernel
theorem dX9_suspects_56 : decode cX9_suspects 56 = .ok (.irem, 1) := by decide +kernel
theorem dX9_suspects_57 : decode cX9_suspects 57 = .ok (.aload_n 0, 1) := by decide +kernel
theorem dX9_suspects_58 : decode cX9_suspects 58 = .ok (.getfield 7, 3) := by decide +kernel
theorem dX9_suspects_61 : decode cX9_suspects 61 = .ok (.bipush 54, 2) := by decide +kernel
theorem dX9_suspects_63 : decode cX9_suspects 63 = .ok (.iload 4, 2) := by decide +kernel
theorem dX9_suspects_65 : decode cX9_suspects 65 = .ok (.bipush 8, 2) := by decide +kernel
theorem dX9_suspects_67 : decode cX9_suspects 67 = .ok (.idiv, 1) := by decide +kernel
theorem dX9_suspects_68 : decode cX9_suspects 68 = .ok (.iadd, 1) := by decide +kernel
theorem dX9_suspects_69 : decode cX9_suspects 69 = .ok (.iaload, 1) := by decide +kernel
theorem dX9_suspects_70 : decode cX9_suspects 70 = .ok (.if_icmp .eq 34, 3) := by decide +kernel
theorem dX9_suspects_73 : decode cX9_suspects 73 = .ok (.aload_n 0, 1) := by decide +kernel
theorem dX9_suspects_74 : decode cX9_suspects 74 = .ok (.iload 4, 2) := by decide +kernel
theorem dX9_suspects_76 : decode cX9_suspects 76 = .ok (.bipush 8, 2) := by decide +kernel
theorem dX9_suspects_78 : decode cX9_suspects 78 = .ok (.idiv, 1) := by decide +kernel
theorem dX9_suspects_79 : decode cX9_suspects 79 = .ok (.iload 4, 2) := by decide +kernel
theorem dX9_suspects_81 : decode cX9_suspects 81 = .ok (.bipush 8, 2) := by decide +kernel
theorem dX9_suspects_83 : decode cX9_suspects 83 = .ok (.irem, 1) := by decide +kernel
theorem dX9_suspects_84 : decode cX9_suspects 84 = .ok (.invokevirtual 122, 3) := by decide +kernel
theorem dX9_suspects_87 : decode cX9_suspects 87 = .ok (.ifCond .eq 17, 3) := by decide +kernel
theorem dX9_suspects_90 : decode cX9_suspects 90 = .ok (.iload_n 2, 1) := by decide +kernel
theorem dX9_suspects_91 : decode cX9_suspects 91 = .ok (.ifCond .ne 8, 3) := by decide +kernel
theorem dX9_suspects_94 : decode cX9_suspects 94 = .ok (.iload 4, 2) := by decide +kernel
theorem dX9_suspects_96 : decode cX9_suspects 96 = .ok (.goto 4, 3) := by decide +kernel
theorem dX9_suspects_99 : decode cX9_suspects 99 = .ok (.iload_n 3, 1) := by decide +kernel
theorem dX9_suspects_100 : decode cX9_suspects 100 = .ok (.istore_n 3, 1) := by decide +kernel
theorem dX9_suspects_101 : decode cX9_suspects 101 = .ok (.iinc 2 1, 3) := by decide +kernel
theorem dX9_suspects_104 : decode cX9_suspects 104 = .ok (.iinc 4 1, 3) := by decide +kernel
theorem dX9_suspects_107 : decode cX9_suspects 107 = .ok (.goto (-67), 3) := by decide +kernel
theorem dX9_suspects_110 : decode cX9_suspects 110 = .ok (.iload_n 1, 1) := by decide +kernel
theorem dX9_suspects_111 : decode cX9_suspects 111 = .ok (.ifCond .ne 7, 3) := by decide +kernel
theorem dX9_suspects_114 : decode cX9_suspects 114 = .ok (.iload_n 2, 1) := by decide +kernel
theorem dX9_suspects_115 : decode cX9_suspects 115 = .ok (.goto 4, 3) := by decide +kernel
theorem dX9_suspects_118 : decode cX9_suspects 118 = .ok (.iload_n 3, 1) := by decide +kernel
theorem dX9_suspects_119 : decode cX9_suspects 119 = .ok (.ireturn, 1) := by decide +kernel
theorem dX9_clashes_0 : decode cX9_clashes 0 = .ok (.iload_n 1, 1) := by decide +kernel
theorem dX9_clashes_1 : decode cX9_clashes 1 = .ok (.iconst 0, 1) := by decide +kernel
theorem dX9_clashes_2 : decode cX9_clashes 2 = .ok (.iconst 1, 1) := by decide +kernel
theorem dX9_clashes_3 : decode cX9_clashes 3 = .ok (.invokestatic 39, 3) := by decide +kernel
theorem dX9_clashes_6 : decode cX9_clashes 6 = .ok (.ifCond .ne 5, 3) := by decide +kernel
theorem dX9_clashes_9 : decode cX9_clashes 9 = .ok (.iconst (-1), 1) := by decide +kernel
theorem dX9_clashes_10 : decode cX9_clashes 10 = .ok (.ireturn, 1) := by decide +kernel
theorem dX9_clashes_11 : decode cX9_clashes 11 = .ok (.iconst 0, 1) := by decide +kernel
theorem dX9_clashes_12 : decode cX9_clashes 12 = .ok (.istore_n 2, 1) := by decide +kernel
theorem dX9_clashes_13 : decode cX9_clashes 13 = .ok (.bipush (-9), 2) := by decide +kernel
theorem dX9_clashes_15 : decode cX9_clashes 15 = .ok (.istore_n 3, 1) := by decide +kernel
theorem dX9_clashes_16 : decode cX9_clashes 16 = .ok (.iconst 0, 1) := by decide +kernel
theorem dX9_clashes_17 : decode cX9_clashes 17 = .ok (.istore 4, 2) := by decide +kernel
theorem dX9_clashes_19 : decode cX9_clashes 19 = .ok (.iload 4, 2) := by decide +kernel
theorem dX9_clashes_21 : decode cX9_clashes 21 = .ok (.bipush 16, 2) := by decide +kernel
theorem dX9_clashes_23 : decode cX9_clashes 23 = .ok (.if_icmp .ge 120, 3) := by decide +kernel
theorem dX9_clashes_26 : decode cX9_clashes 26 = .ok (.iconst 0, 1) := by decide +kernel
theorem dX9_clashes_27 : decode cX9_clashes 27 = .ok (.istore 5, 2) := by decide +kernel
theorem dX9_clashes_29 : decode cX9_clashes 29 = .ok (.iconst 0, 1) := by decide +kernel
theorem dX9_clashes_30 : decode cX9_clashes 30 = .ok (.istore 6, 2) := by decide +kernel
theorem dX9_clashes_32 : decode cX9_clashes 32 = .ok (.iload 6, 2) := by decide +kernel
theorem dX9_clashes_34 : decode cX9_clashes 34 = .ok (.aload_n 0, 1) := by decide +kernel
theorem dX9_clashes_35 : decode cX9_clashes 35 = .ok (.invokevirtual 43, 3) := by decide +kernel
theorem dX9_clashes_38 : decode cX9_clashes 38 = .ok (.if_icmp .ge 33, 3) := by decide +kernel
theorem dX9_clashes_41 : decode cX9_clashes 41 = .ok (.iload 5, 2) := by decide +kernel
theorem dX9_clashes_43 : decode cX9_clashes 43 = .ok (.aload_n 0, 1) := by decide +kernel
theorem dX9_clashes_44 : decode cX9_clashes 44 = .ok (.getfield 7, 3) := by decide +kernel
theorem dX9_clashes_47 : decode cX9_clashes 47 = .ok (.iconst 0, 1) := by decide +kernel
theorem dX9_clashes_48 : decode cX9_clashes 48 = .ok (.iload 6, 2) := by decide +kernel
theorem dX9_clashes_50 : decode cX9_clashes 50 = .ok (.iadd, 1) := by decide +kernel
theorem dX9_clashes_51 : decode cX9_clashes 51 = .ok (.iaload, 1) := by decide +kernel
theorem dX9_clashes_52 : decode cX9_clashes 52 = .ok (.iload 4, 2) := by decide +kernel
theorem dX9_clashes_54 : decode cX9_clashes 54 = .ok (.if_icmp .ne 7, 3) := by decide +kernel
theorem dX9_clashes_57 : decode cX9_clashes 57 = .ok (.iconst 1, 1) := by decide +kernel
theorem dX9_clashes_58 : decode cX9_clashes 58 = .ok (.goto 4, 3) := by decide +kernel
theorem dX9_clashes_61 : decode cX9_clashes 61 = .ok (.iconst 0, 1) := by decide +kernel
theorem dX9_clashes_62 : decode cX9_clashes 62 = .ok (.iadd, 1) := by decide +kernel
theorem dX9_clashes_63 : decode cX9_clashes 63 = .ok (.istore 5, 2) := by decide +kernel
theorem dX9_clashes_65 : decode cX9_clashes 65 = .ok (.iinc 6 1, 3) := by decide +kernel
theorem dX9_clashes_68 : decode cX9_clashes 68 = .ok (.goto (-36), 3) := by decide +kernel
theorem dX9_clashes_71 : decode cX9_clashes 71 = .ok (.iconst 0, 1) := by decide +kernel
theorem dX9_clashes_72 : decode cX9_clashes 72 = .ok (.istore 6, 2) := by decide +kernel
theorem dX9_clashes_74 : decode cX9_clashes 74 = .ok (.iload 6, 2) := by decide +kernel
theorem dX9_clashes_76 : decode cX9_clashes 76 = .ok (.aload_n 0, 1) := by decide +kernel
theorem dX9_clashes_77 : decode cX9_clashes 77 = .ok (.getfield 7, 3) := by decide +kernel
theorem dX9_clashes_80 : decode cX9_clashes 80 = .ok (.bipush 92, 2) := by decide +kernel
theorem dX9_clashes_82 : decode cX9_clashes 82 = .ok (.iaload, 1) := by decide +kernel
theorem dX9_clashes_83 : decode cX9_clashes 83 = .ok (.if_icmp .ge 34, 3) := by decide +kernel
theorem dX9_clashes_86 : decode cX9_clashes 86 = .ok (.iload 5, 2) := by decide +kernel
theorem dX9_clashes_88 : decode cX9_clashes 88 = .ok (.aload_n 0, 1) := by decide +kernel
theorem dX9_clashes_89 : decode cX9_clashes 89 = .ok (.getfield 7, 3) := by decide +kernel
theorem dX9_clashes_92 : decode cX9_clashes 92 = .ok (.bipush 78, 2) := by decide +kernel
theorem dX9_clashes_94 : decode cX9_clashes 94 = .ok (.iload 6, 2) := by decide +kernel
theorem dX9_clashes_96 : decode cX9_clashes 96 = .ok (.iadd, 1) := by decide +kernel
theorem dX9_clashes_97 : decode cX9_clashes 97 = .ok (.iaload, 1) := by decide +kernel
theorem dX9_clashes_98 : decode cX9_clashes 98 = .ok (.iload 4, 2) := by decide +kernel
theorem dX9_clashes_100 : decode cX9_clashes 100 = .ok (.if_icmp .ne 7, 3) := by decide +kernel
theorem dX9_clashes_103 : decode cX9_clashes 103 = .ok (.iconst 1, 1) := by decide +kernel
theorem dX9_clashes_104 : decode cX9_clashes 104 = .ok (.goto 4, 3) := by decide +kernel
theorem dX9_clashes_107 : decode cX9_clashes 107 = .ok (.iconst 0, 1) := by decide +kernel
theorem dX9_clashes_108 : decode cX9_clashes 108 = .ok (.iadd, 1) := by decide +kernel
theorem dX9_clashes_109 : decode cX9_clashes 109 = .ok (.istore 5, 2) := by decide +kernel
theorem dX9_clashes_111 : decode cX9_clashes 111 = .ok (.iinc 6 1, 3) := by decide +kernel
theorem dX9_clashes_114 : decode cX9_clashes 114 = .ok (.goto (-40), 3) := by decide +kernel
theorem dX9_clashes_117 : decode cX9_clashes 117 = .ok (.iload 5, 2) := by decide +kernel
theorem dX9_clashes_119 : decode cX9_clashes 119 = .ok (.iconst 1, 1) := by decide +kernel
theorem dX9_clashes_120 : decode cX9_clashes 120 = .ok (.if_icmp .le 17, 3) := by decide +kernel
theorem dX9_clashes_123 : decode cX9_clashes 123 = .ok (.iload_n 2, 1) := by decide +kernel
theorem dX9_clashes_124 : decode cX9_clashes 124 = .ok (.ifCond .ne 8, 3) := by decide +kernel
theorem dX9_clashes_127 : decode cX9_clashes 127 = .ok (.iload 4, 2) := by decide +kernel
theorem dX9_clashes_129 : decode cX9_clashes 129 = .ok (.goto 4, 3) := by decide +kernel
theorem dX9_clashes_132 : decode cX9_clashes 132 = .ok (.iload_n 3, 1) := by decide +kernel
theorem dX9_clashes_133 : decode cX9_clashes 133 = .ok (.istore_n 3, 1) := by decide +kernel
theorem dX9_clashes_134 : decode cX9_clashes 134 = .ok (.iinc 2 1, 3) := by decide +kernel
theorem dX9_clashes_137 : decode cX9_clashes 137 = .ok (.iinc 4 1, 3) := by decide +kernel
theorem dX9_clashes_140 : decode cX9_clashes 140 = .ok (.goto (-121), 3) := by decide +kernel
theorem dX9_clashes_143 : decode cX9_clashes 143 = .ok (.iload_n 1, 1) := by decide +kernel
theorem dX9_clashes_144 : decode cX9_clashes 144 = .ok (.ifCond .ne 7, 3) := by decide +kernel
theorem dX9_clashes_147 : decode cX9_clashes 147 = .ok (.iload_n 2, 1) := by decide +kernel
theorem dX9_clashes_148 : decode cX9_clashes 148 = .ok (.goto 4, 3) := by decide +kernel
theorem dX9_clashes_151 : decode cX9_clashes 151 = .ok (.iload_n 3, 1) := by decide +kernel
theorem dX9_clashes_152 : decode cX9_clashes 152 = .ok (.ireturn, 1) := by decide +kernel
theorem dX9_tryWrite_0 : decode cX9_tryWrite 0 = .ok (.aload_n 0, 1) := by decide +kernel
theorem dX9_tryWrite_1 : decode cX9_tryWrite 1 = .ok (.iconst 0, 1) := by decide +kernel
theorem dX9_tryWrite_2 : decode cX9_tryWrite 2 = .ok (.sipush 135, 3) := by decide +kernel
theorem dX9_tryWrite_5 : decode cX9_tryWrite 5 = .ok (.invokevirtual 106, 3) := by decide +kernel
theorem dX9_tryWrite_8 : decode cX9_tryWrite 8 = .ok (.aload_n 0, 1) := by decide +kernel
theorem dX9_tryWrite_9 : decode cX9_tryWrite 9 = .ok (.sipush 135, 3) := by decide +kernel
theorem dX9_tryWrite_12 : decode cX9_tryWrite 12 = .ok (.iload_n 1, 1) := by decide +kernel
theorem dX9_tryWrite_13 : decode cX9_tryWrite 13 = .ok (.iload_n 2, 1) := by decide +kernel
theorem dX9_tryWrite_14 : decode cX9_tryWrite 14 = .ok (.invokevirtual 109, 3) := by decide +kernel
theorem dX9_tryWrite_17 : decode cX9_tryWrite 17 = .ok (.return_, 1) := by decide +kernel
theorem dX9_touched_0 : decode cX9_touched 0 = .ok (.iload_n 1, 1) := by decide +kernel
theorem dX9_touched_1 : decode cX9_touched 1 = .ok (.iconst 0, 1) := by decide +kernel
theorem dX9_touched_2 : decode cX9_touched 2 = .ok (.bipush 15, 2) := by decide +kernel
theorem dX9_touched_4 : decode cX9_touched 4 = .ok (.invokestatic 39, 3) := by decide +kernel
theorem dX9_touched_7 : decode cX9_touched 7 = .ok (.ifCond .eq 14, 3) := by decide +kernel
theorem dX9_touched_10 : decode cX9_touched 10 = .ok (.iload_n 2, 1) := by decide +kernel
theorem dX9_touched_11 : decode cX9_touched 11 = .ok (.iconst 0, 1) := by decide +kernel
theorem dX9_touched_12 : decode cX9_touched 12 = .ok (.sipush 255, 3) := by decide +kernel
theorem dX9_touched_15 : decode cX9_touched 15 = .ok (.invokestatic 39, 3) := by decide +kernel
theorem dX9_touched_18 : decode cX9_touched 18 = .ok (.ifCond .ne 5, 3) := by decide +kernel
theorem dX9_touched_21 : decode cX9_touched 21 = .ok (.iconst (-1), 1) := by decide +kernel
theorem dX9_touched_22 : decode cX9_touched 22 = .ok (.ireturn, 1) := by decide +kernel
theorem dX9_touched_23 : decode cX9_touched 23 = .ok (.aload_n 0, 1) := by decide +kernel
theorem dX9_touched_24 : decode cX9_touched 24 = .ok (.iload_n 1, 1) := by decide +kernel
theorem dX9_touched_25 : decode cX9_touched 25 = .ok (.iload_n 2, 1) := by decide +kernel
theorem dX9_touched_26 : decode cX9_touched 26 = .ok (.invokevirtual 125, 3) := by decide +kernel
theorem dX9_touched_29 : decode cX9_touched 29 = .ok (.aload_n 0, 1) := by decide +kernel
theorem dX9_touched_30 : decode cX9_touched 30 = .ok (.iconst 0, 1) := by decide +kernel
theorem dX9_touched_31 : decode cX9_touched 31 = .ok (.sipush 135, 3) := by decide +kernel
theorem dX9_touched_34 : decode cX9_touched 34 = .ok (.invokevirtual 112, 3) := by decide +kernel
theorem dX9_touched_37 : decode cX9_touched 37 = .ok (.ireturn, 1) := by decide +kernel
theorem dX9_way_0 : decode cX9_way 0 = .ok (.aload_n 0, 1) := by decide +kernel
theorem dX9_way_1 : decode cX9_way 1 = .ok (.iload_n 1, 1) := by decide +kernel
theorem dX9_way_2 : decode cX9_way 2 = .ok (.invokevirtual 115, 3) := by decide +kernel
theorem dX9_way_5 : decode cX9_way 5 = .ok (.ifCond .eq 16, 3) := by decide +kernel
theorem dX9_way_8 : decode cX9_way 8 = .ok (.iload_n 2, 1) := by decide +kernel
theorem dX9_way_9 : decode cX9_way 9 = .ok (.iconst 0, 1) := by decide +kernel
theorem dX9_way_10 : decode cX9_way 10 = .ok (.aload_n 0, 1) := by decide +kernel
theorem dX9_way_11 : decode cX9_way 11 = .ok (.iload_n 1, 1) := by decide +kernel
theorem dX9_way_12 : decode cX9_way 12 = .ok (.invokevirtual 46, 3) := by decide +kernel
theorem dX9_way_15 : decode cX9_way 15 = .ok (.invokestatic 39, 3) := by decide +kernel
theorem dX9_way_18 : decode cX9_way 18 = .ok (.ifCond .ne 5, 3) := by decide +kernel
theorem dX9_way_21 : decode cX9_way 21 = .ok (.iconst (-1), 1) := by decide +kernel
theorem dX9_way_22 : decode cX9_way 22 = .ok (.ireturn, 1) := by decide +kernel
theorem dX9_way_23 : decode cX9_way 23 = .ok (.iconst 0, 1) := by decide +kernel
theorem dX9_way_24 : decode cX9_way 24 = .ok (.istore_n 3, 1) := by decide +kernel
theorem dX9_way_25 : decode cX9_way 25 = .ok (.iload_n 3, 1) := by decide +kernel
theorem dX9_way_26 : decode cX9_way 26 = .ok (.sipush 4096, 3) := by decide +kernel
theorem dX9_way_29 : decode cX9_way 29 = .ok (.if_icmp .ge 39, 3) := by decide +kernel
theorem dX9_way_32 : decode cX9_way 32 = .ok (.aload_n 0, 1) := by decide +kernel
theorem dX9_way_33 : decode cX9_way 33 = .ok (.iload_n 3, 1) := by decide +kernel
theorem dX9_way_34 : decode cX9_way 34 = .ok (.sipush 256, 3) := by decide +kernel
theorem dX9_way_37 : decode cX9_way 37 = .ok (.idiv, 1) := by decide +kernel
theorem dX9_way_38 : decode cX9_way 38 = .ok (.iload_n 3, 1) := by decide +kernel
theorem dX9_way_39 : decode cX9_way 39 = .ok (.sipush 256, 3) := by decide +kernel
theorem dX9_way_42 : decode cX9_way 42 = .ok (.irem, 1) := by decide +kernel
theorem dX9_way_43 : decode cX9_way 43 = .ok (.invokevirtual 125, 3) := by decide +kernel
theorem dX9_way_46 : decode cX9_way 46 = .ok (.aload_n 0, 1) := by decide +kernel
theorem dX9_way_47 : decode cX9_way 47 = .ok (.getfield 16, 3) := by decide +kernel
theorem dX9_way_50 : decode cX9_way 50 = .ok (.sipush 135, 3) := by decide +kernel
theorem dX9_way_53 : decode cX9_way 53 = .ok (.iload_n 1, 1) := by decide +kernel
theorem dX9_way_54 : decode cX9_way 54 = .ok (.iadd, 1) := by decide +kernel
theorem dX9_way_55 : decode cX9_way 55 = .ok (.iaload, 1) := by decide +kernel
theorem dX9_way_56 : decode cX9_way 56 = .ok (.iload_n 2, 1) := by decide +kernel
theorem dX9_way_57 : decode cX9_way 57 = .ok (.if_icmp .ne 5, 3) := by decide +kernel
theorem dX9_way_60 : decode cX9_way 60 = .ok (.iload_n 3, 1) := by decide +kernel
theorem dX9_way_61 : decode cX9_way 61 = .ok (.ireturn, 1) := by decide +kernel
theorem dX9_way_62 : decode cX9_way 62 = .ok (.iinc 3 1, 3) := by decide +kernel
theorem dX9_way_65 : decode cX9_way 65 = .ok (.goto (-40), 3) := by decide +kernel
theorem dX9_way_68 : decode cX9_way 68 = .ok (.bipush (-9), 2) := by decide +kernel
theorem dX9_way_70 : decode cX9_way 70 = .ok (.ireturn, 1) := by decide +kernel
theorem dX9_isLockOrGate_0 : decode cX9_isLockOrGate 0 = .ok (.iconst 0, 1) := by decide +kernel
theorem dX9_isLockOrGate_1 : decode cX9_isLockOrGate 1 = .ok (.istore_n 3, 1) := by decide +kernel
theorem dX9_isLockOrGate_2 : decode cX9_isLockOrGate 2 = .ok (.iconst 0, 1) := by decide +kernel
theorem dX9_isLockOrGate_3 : decode cX9_isLockOrGate 3 = .ok (.istore 4, 2) := by decide +kernel
theorem dX9_isLockOrGate_5 : decode cX9_isLockOrGate 5 = .ok (.iload 4, 2) := by decide +kernel
theorem dX9_isLockOrGate_7 : decode cX9_isLockOrGate 7 = .ok (.aload_n 0, 1) := by decide +kernel
theorem dX9_isLockOrGate_8 : decode cX9_isLockOrGate 8 = .ok (.invokevirtual 43, 3) := by decide +kernel
theorem dX9_isLockOrGate_11 : decode cX9_isLockOrGate 11 = .ok (.if_icmp .ge 32, 3) := by decide +kernel
theorem dX9_isLockOrGate_14 : decode cX9_isLockOrGate 14 = .ok (.iload_n 3, 1) := by decide +kernel
theorem dX9_isLockOrGate_15 : decode cX9_isLockOrGate 15 = .ok (.ifCond .ne 16, 3) := by decide +kernel
theorem dX9_isLockOrGate_18 : decode cX9_isLockOrGate 18 = .ok (.aload_n 0, 1) := by decide +kernel
theorem dX9_isLockOrGate_19 : decode cX9_isLockOrGate 19 = .ok (.getfield 7, 3) := by decide +kernel
theorem dX9_isLockOrGate_22 : decode cX9_isLockOrGate 22 = .ok (.iload_n 2, 1) := by decide +kernel
theorem dX9_isLockOrGate_23 : decode cX9_isLockOrGate 23 = .ok (.iload 4, 2) := by decide +kernel
theorem dX9_isLockOrGate_25 : decode cX9_isLockOrGate 25 = .ok (.iadd, 1) := by decide +kernel
theorem dX9_isLockOrGate_26 : decode cX9_isLockOrGate 26 = .ok (.iaload, 1) := by decide +kernel
theorem dX9_isLockOrGate_27 : decode cX9_isLockOrGate 27 = .ok (.iload_n 1, 1) := by decide +kernel
theorem dX9_isLockOrGate_28 : decode cX9_isLockOrGate 28 = .ok (.if_icmp .ne 7, 3) := by decide +kernel
theorem dX9_isLockOrGate_31 : decode cX9_isLockOrGate 31 = .ok (.iconst 1, 1) := by decide +kernel
theorem dX9_isLockOrGate_32 : decode cX9_isLockOrGate 32 = .ok (.goto 4, 3) := by decide +kernel
theorem dX9_isLockOrGate_35 : decode cX9_isLockOrGate 35 = .ok (.iconst 0, 1) := by decide +kernel
theorem dX9_isLockOrGate_36 : decode cX9_isLockOrGate 36 = .ok (.istore_n 3, 1) := by decide +kernel
theorem dX9_isLockOrGate_37 : decode cX9_isLockOrGate 37 = .ok (.iinc 4 1, 3) := by decide +kernel
theorem dX9_isLockOrGate_40 : decode cX9_isLockOrGate 40 = .ok (.goto (-35), 3) := by decide +kernel
theorem dX9_isLockOrGate_43 : decode cX9_isLockOrGate 43 = .ok (.iload_n 3, 1) := by decide +kernel
theorem dX9_isLockOrGate_44 : decode cX9_isLockOrGate 44 = .ok (.ireturn, 1) := by decide +kernel
theorem dX9_isWalked_0 : decode cX9_isWalked 0 = .ok (.aload_n 0, 1) := by decide +kernel
theorem dX9_isWalked_1 : decode cX9_isWalked 1 = .ok (.aload_n 0, 1) := by decide +kernel
theorem dX9_isWalked_2 : decode cX9_isWalked 2 = .ok (.getfield 7, 3) := by decide +kernel
theorem dX9_isWalked_5 : decode cX9_isWalked 5 = .ok (.iconst 0, 1) := by decide +kernel
theorem dX9_isWalked_6 : decode cX9_isWalked 6 = .ok (.iload_n 1, 1) := by decide +kernel
theorem dX9_isWalked_7 : decode cX9_isWalked 7 = .ok (.iadd, 1) := by decide +kernel
theorem dX9_isWalked_8 : decode cX9_isWalked 8 = .ok (.iaload, 1) := by decide +kernel
theorem dX9_isWalked_9 : decode cX9_isWalked 9 = .ok (.invokevirtual 64, 3) := by decide +kernel
theorem dX9_isWalked_12 : decode cX9_isWalked 12 = .ok (.iload_n 1, 1) := by decide +kernel
theorem dX9_isWalked_13 : decode cX9_isWalked 13 = .ok (.if_icmp .ne 31, 3) := by decide +kernel
theorem dX9_isWalked_16 : decode cX9_isWalked 16 = .ok (.aload_n 0, 1) := by decide +kernel
theorem dX9_isWalked_17 : decode cX9_isWalked 17 = .ok (.bipush 36, 2) := by decide +kernel
theorem dX9_isWalked_19 : decode cX9_isWalked 19 = .ok (.iload_n 1, 1) := by decide +kernel
theorem dX9_isWalked_20 : decode cX9_isWalked 20 = .ok (.invokevirtual 85, 3) := by decide +kernel
theorem dX9_isWalked_23 : decode cX9_isWalked 23 = .ok (.ifCond .ne 21, 3) := by decide +kernel
theorem dX9_isWalked_26 : decode cX9_isWalked 26 = .ok (.aload_n 0, 1) := by decide +kernel
theorem dX9_isWalked_27 : decode cX9_isWalked 27 = .ok (.getfield 7, 3) := by decide +kernel
theorem dX9_isWalked_30 : decode cX9_isWalked 30 = .ok (.bipush 12, 2) := by decide +kernel
theorem dX9_isWalked_32 : decode cX9_isWalked 32 = .ok (.iload_n 1, 1) := by decide +kernel
theorem dX9_isWalked_33 : decode cX9_isWalked 33 = .ok (.iadd, 1) := by decide +kernel
theorem dX9_isWalked_34 : decode cX9_isWalked 34 = .ok (.iaload, 1) := by decide +kernel
theorem dX9_isWalked_35 : decode cX9_isWalked 35 = .ok (.bipush (-9), 2) := by decide +kernel
theorem dX9_isWalked_37 : decode cX9_isWalked 37 = .ok (.if_icmp .ne 7, 3) := by decide +kernel
theorem dX9_isWalked_40 : decode cX9_isWalked 40 = .ok (.iconst 1, 1) := by decide +kernel
theorem dX9_isWalked_41 : decode cX9_isWalked 41 = .ok (.goto 4, 3) := by decide +kernel
theorem dX9_isWalked_44 : decode cX9_isWalked 44 = .ok (.iconst 0, 1) := by decide +kernel
theorem dX9_isWalked_45 : decode cX9_isWalked 45 = .ok (.istore_n 2, 1) := by decide +kernel
theorem dX9_isWalked_46 : decode cX9_isWalked 46 = .ok (.iconst 0, 1) := by decide +kernel
theorem dX9_isWalked_47 : decode cX9_isWalked 47 = .ok (.istore_n 3, 1) := by decide +kernel
theorem dX9_isWalked_48 : decode cX9_isWalked 48 = .ok (.iload_n 3, 1) := by decide +kernel
theorem dX9_isWalked_49 : decode cX9_isWalked 49 = .ok (.aload_n 0, 1) := by decide +kernel
theorem dX9_isWalked_50 : decode cX9_isWalked 50 = .ok (.invokevirtual 35, 3) := by decide +kernel
theorem dX9_isWalked_53 : decode cX9_isWalked 53 = .ok (.if_icmp .ge 73, 3) := by decide +kernel
theorem dX9_isWalked_56 : decode cX9_isWalked 56 = .ok (.aload_n 0, 1) := by decide +kernel
theorem dX9_isWalked_57 : decode cX9_isWalked 57 = .ok (.getfield 7, 3) := by decide +kernel
theorem dX9_isWalked_60 : decode cX9_isWalked 60 = .ok (.bipush 54, 2) := by decide +kernel
theorem dX9_isWalked_62 : decode cX9_isWalked 62 = .ok (.iload_n 3, 1) := by decide +kernel
theorem dX9_isWalked_63 : decode cX9_isWalked 63 = .ok (.iadd, 1) := by decide +kernel
theorem dX9_isWalked_64 : decode cX9_isWalked 64 = .ok (.iaload, 1) := by decide +kernel
theorem dX9_isWalked_65 : decode cX9_isWalked 65 = .ok (.istore 4, 2) := by decide +kernel
theorem dX9_isWalked_67 : decode cX9_isWalked 67 = .ok (.iload_n 2, 1) := by decide +kernel
theorem dX9_isWalked_68 : decode cX9_isWalked 68 = .ok (.ifCond .eq 50, 3) := by decide +kernel
theorem dX9_isWalked_71 : decode cX9_isWalked 71 = .ok (.aload_n 0, 1) := by decide +kernel
theorem dX9_isWalked_72 : decode cX9_isWalked 72 = .ok (.getfield 7, 3) := by decide +kernel
theorem dX9_isWalked_75 : decode cX9_isWalked 75 = .ok (.bipush 18, 2) := by decide +kernel
theorem dX9_isWalked_77 : decode cX9_isWalked 77 = .ok (.iload_n 3, 1) := by decide +kernel
theorem dX9_isWalked_78 : decode cX9_isWalked 78 = .ok (.iadd, 1) := by decide +kernel
theorem dX9_isWalked_79 : decode cX9_isWalked 79 = .ok (.iaload, 1) := by decide +kernel
theorem dX9_isWalked_80 : decode cX9_isWalked 80 = .ok (.iload_n 1, 1) := by decide +kernel
theorem dX9_isWalked_81 : decode cX9_isWalked 81 = .ok (.if_icmp .ne 33, 3) := by decide +kernel
theorem dX9_isWalked_84 : decode cX9_isWalked 84 = .ok (.iload 4, 2) := by decide +kernel
theorem dX9_isWalked_86 : decode cX9_isWalked 86 = .ok (.iconst 2, 1) := by decide +kernel
theorem dX9_isWalked_87 : decode cX9_isWalked 87 = .ok (.if_icmp .eq 31, 3) := by decide +kernel
theorem dX9_isWalked_90 : decode cX9_isWalked 90 = .ok (.iload 4, 2) := by decide +kernel
theorem dX9_isWalked_92 : decode cX9_isWalked 92 = .ok (.bipush 6, 2) := by decide +kernel
theorem dX9_isWalked_94 : decode cX9_isWalked 94 = .ok (.if_icmp .eq 24, 3) := by decide +kernel
theorem dX9_isWalked_97 : decode cX9_isWalked 97 = .ok (.iload 4, 2) := by decide +kernel
theorem dX9_isWalked_99 : decode cX9_isWalked 99 = .ok (.bipush 7, 2) := by decide +kernel
theorem dX9_isWalked_101 : decode cX9_isWalked 101 = .ok (.if_icmp .eq 17, 3) := by decide +kernel
theorem dX9_isWalked_104 : decode cX9_isWalked 104 = .ok (.aload_n 0, 1) := by decide +kernel
theorem dX9_isWalked_105 : decode cX9_isWalked 105 = .ok (.iload_n 3, 1) := by decide +kernel
theorem dX9_isWalked_106 : decode cX9_isWalked 106 = .ok (.bipush 12, 2) := by decide +kernel
theorem dX9_isWalked_108 : decode cX9_isWalked 108 = .ok (.invokevirtual 128, 3) := by decide +kernel
theorem dX9_isWalked_111 : decode cX9_isWalked 111 = .ok (.ifCond .ne 7, 3) := by decide +kernel
theorem dX9_isWalked_114 : decode cX9_isWalked 114 = .ok (.iconst 1, 1) := by decide +kernel
theorem dX9_isWalked_115 : decode cX9_isWalked 115 = .ok (.goto 4, 3) := by decide +kernel
theorem dX9_isWalked_118 : decode cX9_isWalked 118 = .ok (.iconst 0, 1) := by decide +kernel
theorem dX9_isWalked_119 : decode cX9_isWalked 119 = .ok (.istore_n 2, 1) := by decide +kernel
theorem dX9_isWalked_120 : decode cX9_isWalked 120 = .ok (.iinc 3 1, 3) := by decide +kernel
theorem dX9_isWalked_123 : decode cX9_isWalked 123 = .ok (.goto (-75), 3) := by decide +kernel
theorem dX9_isWalked_126 : decode cX9_isWalked 126 = .ok (.iload_n 2, 1) := by decide +kernel
theorem dX9_isWalked_127 : decode cX9_isWalked 127 = .ok (.ireturn, 1) := by decide +kernel
theorem dX9_bitsBy_0 : decode cX9_bitsBy 0 = .ok (.iconst 0, 1) := by decide +kernel
theorem dX9_bitsBy_1 : decode cX9_bitsBy 1 = .ok (.istore_n 3, 1) := by decide +kernel
theorem dX9_bitsBy_2 : decode cX9_bitsBy 2 = .ok (.iconst 0, 1) := by decide +kernel
theorem dX9_bitsBy_3 : decode cX9_bitsBy 3 = .ok (.istore 4, 2) := by decide +kernel
theorem dX9_bitsBy_5 : decode cX9_bitsBy 5 = .ok (.iload 4, 2) := by decide +kernel
theorem dX9_bitsBy_7 : decode cX9_bitsBy 7 = .ok (.aload_n 0, 1) := by decide +kernel
theorem dX9_bitsBy_8 : decode cX9_bitsBy 8 = .ok (.invokevirtual 35, 3) := by decide +kernel
theorem dX9_bitsBy_11 : decode cX9_bitsBy 11 = .ok (.if_icmp .ge 60, 3) := by decide +kernel
theorem dX9_bitsBy_14 : decode cX9_bitsBy 14 = .ok (.aload_n 0, 1) := by decide +kernel
theorem dX9_bitsBy_15 : decode cX9_bitsBy 15 = .ok (.getfield 7, 3) := by decide +kernel
theorem dX9_bitsBy_18 : decode cX9_bitsBy 18 = .ok (.bipush 18, 2) := by decide +kernel
theorem dX9_bitsBy_20 : decode cX9_bitsBy 20 = .ok (.iload 4, 2) := by decide +kernel
theorem dX9_bitsBy_22 : decode cX9_bitsBy 22 = .ok (.iadd, 1) := by decide +kernel
theorem dX9_bitsBy_23 : decode cX9_bitsBy 23 = .ok (.iaload, 1) := by decide +kernel
theorem dX9_bitsBy_24 : decode cX9_bitsBy 24 = .ok (.iload_n 1, 1) := by decide +kernel
theorem dX9_bitsBy_25 : decode cX9_bitsBy 25 = .ok (.if_icmp .ne 40, 3) := by decide +kernel
theorem dX9_bitsBy_28 : decode cX9_bitsBy 28 = .ok (.aload_n 0, 1) := by decide +kernel
theorem dX9_bitsBy_29 : decode cX9_bitsBy 29 = .ok (.getfield 7, 3) := by decide +kernel
theorem dX9_bitsBy_32 : decode cX9_bitsBy 32 = .ok (.bipush 54, 2) := by decide +kernel
theorem dX9_bitsBy_34 : decode cX9_bitsBy 34 = .ok (.iload 4, 2) := by decide +kernel
theorem dX9_bitsBy_36 : decode cX9_bitsBy 36 = .ok (.iadd, 1) := by decide +kernel
theorem dX9_bitsBy_37 : decode cX9_bitsBy 37 = .ok (.iaload, 1) := by decide +kernel
theorem dX9_bitsBy_38 : decode cX9_bitsBy 38 = .ok (.ifCond .ne 27, 3) := by decide +kernel
theorem dX9_bitsBy_41 : decode cX9_bitsBy 41 = .ok (.iload_n 2, 1) := by decide +kernel
theorem dX9_bitsBy_42 : decode cX9_bitsBy 42 = .ok (.ifCond .eq 14, 3) := by decide +kernel
theorem dX9_bitsBy_45 : decode cX9_bitsBy 45 = .ok (.aload_n 0, 1) := by decide +kernel
theorem dX9_bitsBy_46 : decode cX9_bitsBy 46 = .ok (.iload 4, 2) := by decide +kernel
theorem dX9_bitsBy_48 : decode cX9_bitsBy 48 = .ok (.bipush 6, 2) := by decide +kernel
theorem dX9_bitsBy_50 : decode cX9_bitsBy 50 = .ok (.invokevirtual 128, 3) := by decide +kernel
theorem dX9_bitsBy_53 : decode cX9_bitsBy 53 = .ok (.ifCond .ne 12, 3) := by decide +kernel
theorem dX9_bitsBy_56 : decode cX9_bitsBy 56 = .ok (.iload_n 3, 1) := by decide +kernel
theorem dX9_bitsBy_57 : decode cX9_bitsBy 57 = .ok (.aload_n 0, 1) := by decide +kernel
theorem dX9_bitsBy_58 : decode cX9_bitsBy 58 = .ok (.iload 4, 2) := by decide +kernel
theorem dX9_bitsBy_60 : decode cX9_bitsBy 60 = .ok (.invokevirtual 131, 3) := by decide +kernel
theorem dX9_bitsBy_63 : decode cX9_bitsBy 63 = .ok (.ior, 1) := by decide +kernel
theorem dX9_bitsBy_64 : decode cX9_bitsBy 64 = .ok (.istore_n 3, 1) := by decide +kernel
theorem dX9_bitsBy_65 : decode cX9_bitsBy 65 = .ok (.iinc 4 1, 3) := by decide +kernel
theorem dX9_bitsBy_68 : decode cX9_bitsBy 68 = .ok (.goto (-63), 3) := by decide +kernel
theorem dX9_bitsBy_71 : decode cX9_bitsBy 71 = .ok (.iload_n 3, 1) := by decide +kernel
theorem dX9_bitsBy_72 : decode cX9_bitsBy 72 = .ok (.ireturn, 1) := by decide +kernel
theorem dX9_walk_0 : decode cX9_walk 0 = .ok (.iload_n 1, 1) := by decide +kernel
theorem dX9_walk_1 : decode cX9_walk 1 = .ok (.iconst (-1), 1) := by decide +kernel
theorem dX9_walk_2 : decode cX9_walk 2 = .ok (.if_icmp .lt 12, 3) := by decide +kernel
theorem dX9_walk_5 : decode cX9_walk 5 = .ok (.iload_n 2, 1) := by decide +kernel
theorem dX9_walk_6 : decode cX9_walk 6 = .ok (.iconst 0, 1) := by decide +kernel
theorem dX9_walk_7 : decode cX9_walk 7 = .ok (.iconst 2, 1) := by decide +kernel
theorem dX9_walk_8 : decode cX9_walk 8 = .ok (.invokestatic 39, 3) := by decide +kernel
theorem dX9_walk_11 : decode cX9_walk 11 = .ok (.ifCond .ne 5, 3) := by decide +kernel
theorem dX9_walk_14 : decode cX9_walk 14 = .ok (.iconst (-1), 1) := by decide +kernel
theorem dX9_walk_15 : decode cX9_walk 15 = .ok (.ireturn, 1) := by decide +kernel
theorem dX9_walk_16 : decode cX9_walk 16 = .ok (.iconst 0, 1) := by decide +kernel
theorem dX9_walk_17 : decode cX9_walk 17 = .ok (.istore_n 3, 1) := by decide +kernel
theorem dX9_walk_18 : decode cX9_walk 18 = .ok (.iconst 0, 1) := by decide +kernel
theorem dX9_walk_19 : decode cX9_walk 19 = .ok (.istore 4, 2) := by decide +kernel
theorem dX9_walk_21 : decode cX9_walk 21 = .ok (.iload 4, 2) := by decide +kernel
theorem dX9_walk_23 : decode cX9_walk 23 = .ok (.aload_n 0, 1) := by decide +kernel
theorem dX9_walk_24 : decode cX9_walk 24 = .ok (.invokevirtual 43, 3) := by decide +kernel
theorem dX9_walk_27 : decode cX9_walk 27 = .ok (.if_icmp .ge 118, 3) := by decide +kernel
theorem dX9_walk_30 : decode cX9_walk 30 = .ok (.aload_n 0, 1) := by decide +kernel
theorem dX9_walk_31 : decode cX9_walk 31 = .ok (.iload 4, 2) := by decide +kernel
theorem dX9_walk_33 : decode cX9_walk 33 = .ok (.invokevirtual 134, 3) := by decide +kernel
theorem dX9_walk_36 : decode cX9_walk 36 = .ok (.ifCond .eq 13, 3) := by decide +kernel
theorem dX9_walk_39 : decode cX9_walk 39 = .ok (.aload_n 0, 1) := by decide +kernel
theorem dX9_walk_40 : decode cX9_walk 40 = .ok (.iload 4, 2) := by decide +kernel
theorem dX9_walk_42 : decode cX9_walk 42 = .ok (.iconst 1, 1) := by decide +kernel
theorem dX9_walk_43 : decode cX9_walk 43 = .ok (.invokevirtual 137, 3) := by decide +kernel
theorem dX9_walk_46 : decode cX9_walk 46 = .ok (.goto 4, 3) := by decide +kernel
theorem dX9_walk_49 : decode cX9_walk 49 = .ok (.iconst 0, 1) := by decide +kernel
theorem dX9_walk_50 : decode cX9_walk 50 = .ok (.istore 5, 2) := by decide +kernel
theorem dX9_walk_52 : decode cX9_walk 52 = .ok (.iconst 0, 1) := by decide +kernel
theorem dX9_walk_53 : decode cX9_walk 53 = .ok (.istore 6, 2) := by decide +kernel
theorem dX9_walk_55 : decode cX9_walk 55 = .ok (.iload 6, 2) := by decide +kernel
theorem dX9_walk_57 : decode cX9_walk 57 = .ok (.bipush 8, 2) := by decide +kernel
theorem dX9_walk_59 : decode cX9_walk 59 = .ok (.if_icmp .ge 80, 3) := by decide +kernel
theorem dX9_walk_62 : decode cX9_walk 62 = .ok (.iload 5, 2) := by decide +kernel
theorem dX9_walk_64 : decode cX9_walk 64 = .ok (.iload 6, 2) := by decide +kernel
theorem dX9_walk_66 : decode cX9_walk 66 = .ok (.ishr, 1) := by decide +kernel
theorem dX9_walk_67 : decode cX9_walk 67 = .ok (.iconst 1, 1) := by decide +kernel
theorem dX9_walk_68 : decode cX9_walk 68 = .ok (.iand, 1) := by decide +kernel
theorem dX9_walk_69 : decode cX9_walk 69 = .ok (.iconst 1, 1) := by decide +kernel
theorem dX9_walk_70 : decode cX9_walk 70 = .ok (.if_icmp .ne 63, 3) := by decide +kernel
theorem dX9_walk_73 : decode cX9_walk 73 = .ok (.iload_n 3, 1) := by decide +kernel
theorem dX9_walk_74 : decode cX9_walk 74 = .ok (.iload_n 1, 1) := by decide +kernel
theorem dX9_walk_75 : decode cX9_walk 75 = .ok (.if_icmp .ne 55, 3) := by decide +kernel
theorem dX9_walk_78 : decode cX9_walk 78 = .ok (.aload_n 0, 1) := by decide +kernel
theorem dX9_walk_79 : decode cX9_walk 79 = .ok (.bipush 36, 2) := by decide +kernel
theorem dX9_walk_81 : decode cX9_walk 81 = .ok (.iload 4, 2) := by decide +kernel
theorem dX9_walk_83 : decode cX9_walk 83 = .ok (.invokevirtual 70, 3) := by decide +kernel
theorem dX9_walk_86 : decode cX9_walk 86 = .ok (.istore 7, 2) := by decide +kernel
theorem dX9_walk_88 : decode cX9_walk 88 = .ok (.iload_n 2, 1) := by decide +kernel
theorem dX9_walk_89 : decode cX9_walk 89 = .ok (.ifCond .ne 15, 3) := by decide +kernel
theorem dX9_walk_92 : decode cX9_walk 92 = .ok (.aload_n 0, 1) := by decide +kernel
theorem dX9_walk_93 : decode cX9_walk 93 = .ok (.getfield 7, 3) := by decide +kernel
theorem dX9_walk_96 : decode cX9_walk 96 = .ok (.iconst 0, 1) := by decide +kernel
theorem dX9_walk_97 : decode cX9_walk 97 = .ok (.iload 4, 2) := by decide +kernel
theorem dX9_walk_99 : decode cX9_walk 99 = .ok (.iadd, 1) := by decide +kernel
theorem dX9_walk_100 : decode cX9_walk 100 = .ok (.iaload, 1) := by decide +kernel
theorem dX9_walk_101 : decode cX9_walk 101 = .ok (.goto 28, 3) := by decide +kernel
theorem dX9_walk_104 : decode cX9_walk 104 = .ok (.iload_n 2, 1) := by decide +kernel
theorem dX9_walk_105 : decode cX9_walk 105 = .ok (.iconst 1, 1) := by decide +kernel
theorem dX9_walk_106 : decode cX9_walk 106 = .ok (.if_icmp .ne 16, 3) := by decide +kernel
theorem dX9_walk_109 : decode cX9_walk 109 = .ok (.iload 7, 2) := by decide +kernel
theorem dX9_walk_111 : decode cX9_walk 111 = .ok (.aload_n 0, 1) := by decide +kernel
theorem dX9_walk_112 : decode cX9_walk 112 = .ok (.iload 4, 2) := by decide +kernel
theorem dX9_walk_114 : decode cX9_walk 114 = .ok (.iconst 0, 1) := by decide +kernel
theorem dX9_walk_115 : decode cX9_walk 115 = .ok (.invokevirtual 137, 3) := by decide +kernel
theorem dX9_walk_118 : decode cX9_walk 118 = .ok (.iand, 1) := by decide +kernel
theorem dX9_walk_119 : decode cX9_walk 119 = .ok (.goto 5, 3) := by decide +kernel
theorem dX9_walk_122 : decode cX9_walk 122 = .ok (.iload 7, 2) := by decide +kernel
theorem dX9_walk_124 : decode cX9_walk 124 = .ok (.iconst 1, 1) := by decide +kernel
theorem dX9_walk_125 : decode cX9_walk 125 = .ok (.iload 6, 2) := by decide +kernel
theorem dX9_walk_127 : decode cX9_walk 127 = .ok (.ishl, 1) := by decide +kernel
theorem dX9_walk_128 : decode cX9_walk 128 = .ok (.ixor, 1) := by decide +kernel
theorem dX9_walk_129 : decode cX9_walk 129 = .ok (.ireturn, 1) := by decide +kernel
theorem dX9_walk_130 : decode cX9_walk 130 = .ok (.iinc 3 1, 3) := by decide +kernel
theorem dX9_walk_133 : decode cX9_walk 133 = .ok (.iinc 6 1, 3) := by decide +kernel
theorem dX9_walk_136 : decode cX9_walk 136 = .ok (.goto (-81), 3) := by decide +kernel
theorem dX9_walk_139 : decode cX9_walk 139 = .ok (.iinc 4 1, 3) := by decide +kernel
theorem dX9_walk_142 : decode cX9_walk 142 = .ok (.goto (-121), 3) := by decide +kernel
theorem dX9_walk_145 : decode cX9_walk 145 = .ok (.iload_n 1, 1) := by decide +kernel
theorem dX9_walk_146 : decode cX9_walk 146 = .ok (.ifCond .ge 7, 3) := by decide +kernel
theorem dX9_walk_149 : decode cX9_walk 149 = .ok (.iload_n 3, 1) := by decide +kernel
theorem dX9_walk_150 : decode cX9_walk 150 = .ok (.goto 5, 3) := by decide +kernel
theorem dX9_walk_153 : decode cX9_walk 153 = .ok (.bipush (-9), 2) := by decide +kernel
theorem dX9_walk_155 : decode cX9_walk 155 = .ok (.ireturn, 1) := by decide +kernel
theorem dX9_keep_0 : decode cX9_keep 0 = .ok (.iload_n 1, 1) := by decide +kernel
theorem dX9_keep_1 : decode cX9_keep 1 = .ok (.iconst 0, 1) := by decide +kernel
theorem dX9_keep_2 : decode cX9_keep 2 = .ok (.iconst 1, 1) := by decide +kernel
theorem dX9_keep_3 : decode cX9_keep 3 = .ok (.invokestatic 39, 3) := by decide +kernel
theorem dX9_keep_6 : decode cX9_keep 6 = .ok (.ifCond .ne 5, 3) := by decide +kernel
theorem dX9_keep_9 : decode cX9_keep 9 = .ok (.iconst (-1), 1) := by decide +kernel
theorem dX9_keep_10 : decode cX9_keep 10 = .ok (.ireturn, 1) := by decide +kernel
theorem dX9_keep_11 : decode cX9_keep 11 = .ok (.iconst 0, 1) := by decide +kernel
theorem dX9_keep_12 : decode cX9_keep 12 = .ok (.istore_n 2, 1) := by decide +kernel
theorem dX9_keep_13 : decode cX9_keep 13 = .ok (.iload_n 2, 1) := by decide +kernel
theorem dX9_keep_14 : decode cX9_keep 14 = .ok (.sipush 135, 3) := by decide +kernel
theorem dX9_keep_17 : decode cX9_keep 17 = .ok (.if_icmp .ge 27, 3) := by decide +kernel
theorem dX9_keep_20 : decode cX9_keep 20 = .ok (.aload_n 0, 1) := by decide +kernel
theorem dX9_keep_21 : decode cX9_keep 21 = .ok (.getfield 22, 3) := by decide +kernel
theorem dX9_keep_24 : decode cX9_keep 24 = .ok (.sipush 135, 3) := by decide +kernel
theorem dX9_keep_27 : decode cX9_keep 27 = .ok (.iload_n 1, 1) := by decide +kernel
theorem dX9_keep_28 : decode cX9_keep 28 = .ok (.imul, 1) := by decide +kernel
theorem dX9_keep_29 : decode cX9_keep 29 = .ok (.iload_n 2, 1) := by decide +kernel
theorem dX9_keep_30 : decode cX9_keep 30 = .ok (.iadd, 1) := by decide +kernel
theorem dX9_keep_31 : decode cX9_keep 31 = .ok (.aload_n 0, 1) := by decide +kernel
theorem dX9_keep_32 : decode cX9_keep 32 = .ok (.getfield 16, 3) := by decide +kernel
theorem dX9_keep_35 : decode cX9_keep 35 = .ok (.iload_n 2, 1) := by decide +kernel
theorem dX9_keep_36 : decode cX9_keep 36 = .ok (.iaload, 1) := by decide +kernel
theorem dX9_keep_37 : decode cX9_keep 37 = .ok (.iastore, 1) := by decide +kernel
theorem dX9_keep_38 : decode cX9_keep 38 = .ok (.iinc 2 1, 3) := by decide +kernel
theorem dX9_keep_41 : decode cX9_keep 41 = .ok (.goto (-28), 3) := by decide +kernel
theorem dX9_keep_44 : decode cX9_keep 44 = .ok (.aload_n 0, 1) := by decide +kernel
theorem dX9_keep_45 : decode cX9_keep 45 = .ok (.getfield 25, 3) := by decide +kernel
theorem dX9_keep_48 : decode cX9_keep 48 = .ok (.iload_n 1, 1) := by decide +kernel
theorem dX9_keep_49 : decode cX9_keep 49 = .ok (.iconst 1, 1) := by decide +kernel
theorem dX9_keep_50 : decode cX9_keep 50 = .ok (.bastore, 1) := by decide +kernel
theorem dX9_keep_51 : decode cX9_keep 51 = .ok (.aload_n 0, 1) := by decide +kernel
theorem dX9_keep_52 : decode cX9_keep 52 = .ok (.getfield 16, 3) := by decide +kernel
theorem dX9_keep_55 : decode cX9_keep 55 = .ok (.bipush 72, 2) := by decide +kernel
theorem dX9_keep_57 : decode cX9_keep 57 = .ok (.iaload, 1) := by decide +kernel
theorem dX9_keep_58 : decode cX9_keep 58 = .ok (.ireturn, 1) := by decide +kernel
theorem dX9_back_0 : decode cX9_back 0 = .ok (.iload_n 1, 1) := by decide +kernel
theorem dX9_back_1 : decode cX9_back 1 = .ok (.iconst 0, 1) := by decide +kernel
theorem dX9_back_2 : decode cX9_back 2 = .ok (.iconst 1, 1) := by decide +kernel
theorem dX9_back_3 : decode cX9_back 3 = .ok (.invokestatic 39, 3) := by decide +kernel
theorem dX9_back_6 : decode cX9_back 6 = .ok (.ifCond .ne 5, 3) := by decide +kernel
theorem dX9_back_9 : decode cX9_back 9 = .ok (.iconst (-1), 1) := by decide +kernel
theorem dX9_back_10 : decode cX9_back 10 = .ok (.ireturn, 1) := by decide +kernel
theorem dX9_back_11 : decode cX9_back 11 = .ok (.aload_n 0, 1) := by decide +kernel
theorem dX9_back_12 : decode cX9_back 12 = .ok (.getfield 25, 3) := by decide +kernel
theorem dX9_back_15 : decode cX9_back 15 = .ok (.iload_n 1, 1) := by decide +kernel
theorem dX9_back_16 : decode cX9_back 16 = .ok (.baload, 1) := by decide +kernel
theorem dX9_back_17 : decode cX9_back 17 = .ok (.ifCond .ne 6, 3) := by decide +kernel
theorem dX9_back_20 : decode cX9_back 20 = .ok (.bipush (-2), 2) := by decide +kernel
theorem dX9_back_22 : decode cX9_back 22 = .ok (.ireturn, 1) := by decide +kernel
theorem dX9_back_23 : decode cX9_back 23 = .ok (.iconst 0, 1) := by decide +kernel
theorem dX9_back_24 : decode cX9_back 24 = .ok (.istore_n 2, 1) := by decide +kernel
theorem dX9_back_25 : decode cX9_back 25 = .ok (.iload_n 2, 1) := by decide +kernel
theorem dX9_back_26 : decode cX9_back 26 = .ok (.sipush 135, 3) := by decide +kernel
theorem dX9_back_29 : decode cX9_back 29 = .ok (.if_icmp .ge 27, 3) := by decide +kernel
theorem dX9_back_32 : decode cX9_back 32 = .ok (.aload_n 0, 1) := by decide +kernel
theorem dX9_back_33 : decode cX9_back 33 = .ok (.getfield 16, 3) := by decide +kernel
theorem dX9_back_36 : decode cX9_back 36 = .ok (.iload_n 2, 1) := by decide +kernel
theorem dX9_back_37 : decode cX9_back 37 = .ok (.aload_n 0, 1) := by decide +kernel
theorem dX9_back_38 : decode cX9_back 38 = .ok (.getfield 22, 3) := by decide +kernel
theorem dX9_back_41 : decode cX9_back 41 = .ok (.sipush 135, 3) := by decide +kernel
theorem dX9_back_44 : decode cX9_back 44 = .ok (.iload_n 1, 1) := by decide +kernel
theorem dX9_back_45 : decode cX9_back 45 = .ok (.imul, 1) := by decide +kernel
theorem dX9_back_46 : decode cX9_back 46 = .ok (.iload_n 2, 1) := by decide +kernel
theorem dX9_back_47 : decode cX9_back 47 = .ok (.iadd, 1) := by decide +kernel
theorem dX9_back_48 : decode cX9_back 48 = .ok (.iaload, 1) := by decide +kernel
theorem dX9_back_49 : decode cX9_back 49 = .ok (.iastore, 1) := by decide +kernel
theorem dX9_back_50 : decode cX9_back 50 = .ok (.iinc 2 1, 3) := by decide +kernel
theorem dX9_back_53 : decode cX9_back 53 = .ok (.goto (-28), 3) := by decide +kernel
theorem dX9_back_56 : decode cX9_back 56 = .ok (.aload_n 0, 1) := by decide +kernel
theorem dX9_back_57 : decode cX9_back 57 = .ok (.iconst 0, 1) := by decide +kernel
theorem dX9_back_58 : decode cX9_back 58 = .ok (.putfield 60, 3) := by decide +kernel
theorem dX9_back_61 : decode cX9_back 61 = .ok (.aload_n 0, 1) := by decide +kernel
theorem dX9_back_62 : decode cX9_back 62 = .ok (.getfield 16, 3) := by decide +kernel
theorem dX9_back_65 : decode cX9_back 65 = .ok (.bipush 72, 2) := by decide +kernel
theorem dX9_back_67 : decode cX9_back 67 = .ok (.iaload, 1) := by decide +kernel
theorem dX9_back_68 : decode cX9_back 68 = .ok (.ireturn, 1) := by decide +kernel
theorem dX9_fieldBits_0 : decode cX9_fieldBits 0 = .ok (.iconst 0, 1) := by decide +kernel
theorem dX9_fieldBits_1 : decode cX9_fieldBits 1 = .ok (.istore_n 1, 1) := by decide +kernel
theorem dX9_fieldBits_2 : decode cX9_fieldBits 2 = .ok (.iconst 0, 1) := by decide +kernel
theorem dX9_fieldBits_3 : decode cX9_fieldBits 3 = .ok (.istore_n 2, 1) := by decide +kernel
theorem dX9_fieldBits_4 : decode cX9_fieldBits 4 = .ok (.iload_n 2, 1) := by decide +kernel
theorem dX9_fieldBits_5 : decode cX9_fieldBits 5 = .ok (.aload_n 0, 1) := by decide +kernel
theorem dX9_fieldBits_6 : decode cX9_fieldBits 6 = .ok (.invokevirtual 35, 3) := by decide +kernel
theorem dX9_fieldBits_9 : decode cX9_fieldBits 9 = .ok (.if_icmp .ge 33, 3) := by decide +kernel
theorem dX9_fieldBits_12 : decode cX9_fieldBits 12 = .ok (.iload_n 1, 1) := by decide +kernel
theorem dX9_fieldBits_13 : decode cX9_fieldBits 13 = .ok (.aload_n 0, 1) := by decide +kernel
theorem dX9_fieldBits_14 : decode cX9_fieldBits 14 = .ok (.getfield 7, 3) := by decide +kernel
theorem dX9_fieldBits_17 : decode cX9_fieldBits 17 = .ok (.bipush 42, 2) := by decide +kernel
theorem dX9_fieldBits_19 : decode cX9_fieldBits 19 = .ok (.iload_n 2, 1) := by decide +kernel
theorem dX9_fieldBits_20 : decode cX9_fieldBits 20 = .ok (.iadd, 1) := by decide +kernel
theorem dX9_fieldBits_21 : decode cX9_fieldBits 21 = .ok (.iaload, 1) := by decide +kernel
theorem dX9_fieldBits_22 : decode cX9_fieldBits 22 = .ok (.aload_n 0, 1) := by decide +kernel
theorem dX9_fieldBits_23 : decode cX9_fieldBits 23 = .ok (.getfield 7, 3) := by decide +kernel
theorem dX9_fieldBits_26 : decode cX9_fieldBits 26 = .ok (.bipush 30, 2) := by decide +kernel
theorem dX9_fieldBits_28 : decode cX9_fieldBits 28 = .ok (.iload_n 2, 1) := by decide +kernel
theorem dX9_fieldBits_29 : decode cX9_fieldBits 29 = .ok (.iadd, 1) := by decide +kernel
theorem dX9_fieldBits_30 : decode cX9_fieldBits 30 = .ok (.iaload, 1) := by decide +kernel
theorem dX9_fieldBits_31 : decode cX9_fieldBits 31 = .ok (.isub, 1) := by decide +kernel
theorem dX9_fieldBits_32 : decode cX9_fieldBits 32 = .ok (.iconst 1, 1) := by decide +kernel
theorem dX9_fieldBits_33 : decode cX9_fieldBits 33 = .ok (.iadd, 1) := by decide +kernel
theorem dX9_fieldBits_34 : decode cX9_fieldBits 34 = .ok (.iadd, 1) := by decide +kernel
theorem dX9_fieldBits_35 : decode cX9_fieldBits 35 = .ok (.istore_n 1, 1) := by decide +kernel
theorem dX9_fieldBits_36 : decode cX9_fieldBits 36 = .ok (.iinc 2 1, 3) := by decide +kernel
theorem dX9_fieldBits_39 : decode cX9_fieldBits 39 = .ok (.goto (-35), 3) := by decide +kernel
theorem dX9_fieldBits_42 : decode cX9_fieldBits 42 = .ok (.iload_n 1, 1) := by decide +kernel
theorem dX9_fieldBits_43 : decode cX9_fieldBits 43 = .ok (.ireturn, 1) := by decide +kernel
theorem dX9_brokenMany_0 : decode cX9_brokenMany 0 = .ok (.iconst 0, 1) := by decide +kernel
theorem dX9_brokenMany_1 : decode cX9_brokenMany 1 = .ok (.istore_n 1, 1) := by decide +kernel
theorem dX9_brokenMany_2 : decode cX9_brokenMany 2 = .ok (.iconst 0, 1) := by decide +kernel
theorem dX9_brokenMany_3 : decode cX9_brokenMany 3 = .ok (.istore_n 2, 1) := by decide +kernel
theorem dX9_brokenMany_4 : decode cX9_brokenMany 4 = .ok (.iload_n 2, 1) := by decide +kernel
theorem dX9_brokenMany_5 : decode cX9_brokenMany 5 = .ok (.aload_n 0, 1) := by decide +kernel
theorem dX9_brokenMany_6 : decode cX9_brokenMany 6 = .ok (.invokevirtual 35, 3) := by decide +kernel
theorem dX9_brokenMany_9 : decode cX9_brokenMany 9 = .ok (.if_icmp .ge 38, 3) := by decide +kernel
theorem dX9_brokenMany_12 : decode cX9_brokenMany 12 = .ok (.iload_n 1, 1) := by decide +kernel
theorem dX9_brokenMany_13 : decode cX9_brokenMany 13 = .ok (.aload_n 0, 1) := by decide +kernel
theorem dX9_brokenMany_14 : decode cX9_brokenMany 14 = .ok (.getfield 16, 3) := by decide +kernel
theorem dX9_brokenMany_17 : decode cX9_brokenMany 17 = .ok (.bipush 12, 2) := by decide +kernel
theorem dX9_brokenMany_19 : decode cX9_brokenMany 19 = .ok (.iload_n 2, 1) := by decide +kernel
theorem dX9_brokenMany_20 : decode cX9_brokenMany 20 = .ok (.iadd, 1) := by decide +kernel
theorem dX9_brokenMany_21 : decode cX9_brokenMany 21 = .ok (.iaload, 1) := by decide +kernel
theorem dX9_brokenMany_22 : decode cX9_brokenMany 22 = .ok (.aload_n 0, 1) := by decide +kernel
theorem dX9_brokenMany_23 : decode cX9_brokenMany 23 = .ok (.getfield 7, 3) := by decide +kernel
theorem dX9_brokenMany_26 : decode cX9_brokenMany 26 = .ok (.bipush 54, 2) := by decide +kernel
theorem dX9_brokenMany_28 : decode cX9_brokenMany 28 = .ok (.iload_n 2, 1) := by decide +kernel
theorem dX9_brokenMany_29 : decode cX9_brokenMany 29 = .ok (.iadd, 1) := by decide +kernel
theorem dX9_brokenMany_30 : decode cX9_brokenMany 30 = .ok (.iaload, 1) := by decide +kernel
theorem dX9_brokenMany_31 : decode cX9_brokenMany 31 = .ok (.if_icmp .ne 7, 3) := by decide +kernel
theorem dX9_brokenMany_34 : decode cX9_brokenMany 34 = .ok (.iconst 0, 1) := by decide +kernel
theorem dX9_brokenMany_35 : decode cX9_brokenMany 35 = .ok (.goto 4, 3) := by decide +kernel
theorem dX9_brokenMany_38 : decode cX9_brokenMany 38 = .ok (.iconst 1, 1) := by decide +kernel
theorem dX9_brokenMany_39 : decode cX9_brokenMany 39 = .ok (.iadd, 1) := by decide +kernel
theorem dX9_brokenMany_40 : decode cX9_brokenMany 40 = .ok (.istore_n 1, 1) := by decide +kernel
theorem dX9_brokenMany_41 : decode cX9_brokenMany 41 = .ok (.iinc 2 1, 3) := by decide +kernel
theorem dX9_brokenMany_44 : decode cX9_brokenMany 44 = .ok (.goto (-40), 3) := by decide +kernel
theorem dX9_brokenMany_47 : decode cX9_brokenMany 47 = .ok (.iload_n 1, 1) := by decide +kernel
theorem dX9_brokenMany_48 : decode cX9_brokenMany 48 = .ok (.ireturn, 1) := by decide +kernel
theorem dX9_count_0 : decode cX9_count 0 = .ok (.iload_n 1, 1) := by decide +kernel
theorem dX9_count_1 : decode cX9_count 1 = .ok (.tableswitch 93 0 7 #[47, 52, 57, 65, 70, 78, 83, 88], 47) := by decide +kernel
theorem dX9_count_48 : decode cX9_count 48 = .ok (.aload_n 0, 1) := by decide +kernel
theorem dX9_count_49 : decode cX9_count 49 = .ok (.invokevirtual 43, 3) := by decide +kernel
theorem dX9_count_52 : decode cX9_count 52 = .ok (.ireturn, 1) := by decide +kernel
theorem dX9_count_53 : decode cX9_count 53 = .ok (.aload_n 0, 1) := by decide +kernel
theorem dX9_count_54 : decode cX9_count 54 = .ok (.invokevirtual 35, 3) := by decide +kernel
theorem dX9_count_57 : decode cX9_count 57 = .ok (.ireturn, 1) := by decide +kernel
theorem dX9_count_58 : decode cX9_count 58 = .ok (.aload_n 0, 1) := by decide +kernel
theorem dX9_count_59 : decode cX9_count 59 = .ok (.getfield 7, 3) := by decide +kernel
theorem dX9_count_62 : decode cX9_count 62 = .ok (.bipush 92, 2) := by decide +kernel
theorem dX9_count_64 : decode cX9_count 64 = .ok (.iaload, 1) := by decide +kernel
theorem dX9_count_65 : decode cX9_count 65 = .ok (.ireturn, 1) := by decide +kernel
theorem dX9_count_66 : decode cX9_count 66 = .ok (.aload_n 0, 1) := by decide +kernel
theorem dX9_count_67 : decode cX9_count 67 = .ok (.invokevirtual 141, 3) := by decide +kernel
theorem dX9_count_70 : decode cX9_count 70 = .ok (.ireturn, 1) := by decide +kernel
theorem dX9_count_71 : decode cX9_count 71 = .ok (.aload_n 0, 1) := by decide +kernel
theorem dX9_count_72 : decode cX9_count 72 = .ok (.getfield 16, 3) := by decide +kernel
theorem dX9_count_75 : decode cX9_count 75 = .ok (.bipush 72, 2) := by decide +kernel
theorem dX9_count_77 : decode cX9_count 77 = .ok (.iaload, 1) := by decide +kernel
theorem dX9_count_78 : decode cX9_count 78 = .ok (.ireturn, 1) := by decide +kernel
theorem dX9_count_79 : decode cX9_count 79 = .ok (.aload_n 0, 1) := by decide +kernel
theorem dX9_count_80 : decode cX9_count 80 = .ok (.invokevirtual 144, 3) := by decide +kernel
theorem dX9_count_83 : decode cX9_count 83 = .ok (.ireturn, 1) := by decide +kernel
theorem dX9_count_84 : decode cX9_count 84 = .ok (.aload_n 0, 1) := by decide +kernel
theorem dX9_count_85 : decode cX9_count 85 = .ok (.getfield 147, 3) := by decide +kernel
theorem dX9_count_88 : decode cX9_count 88 = .ok (.ireturn, 1) := by decide +kernel
theorem dX9_count_89 : decode cX9_count 89 = .ok (.aload_n 0, 1) := by decide +kernel
theorem dX9_count_90 : decode cX9_count 90 = .ok (.getfield 60, 3) := by decide +kernel
theorem dX9_count_93 : decode cX9_count 93 = .ok (.ireturn, 1) := by decide +kernel
theorem dX9_count_94 : decode cX9_count 94 = .ok (.iconst (-1), 1) := by decide +kernel
theorem dX9_count_95 : decode cX9_count 95 = .ok (.ireturn, 1) := by decide +kernel
theorem dX9_type_0 : decode cX9_type 0 = .ok (.iload_n 1, 1) := by decide +kernel
theorem dX9_type_1 : decode cX9_type 1 = .ok (.iconst 0, 1) := by decide +kernel
theorem dX9_type_2 : decode cX9_type 2 = .ok (.sipush 255, 3) := by decide +kernel
theorem dX9_type_5 : decode cX9_type 5 = .ok (.invokestatic 39, 3) := by decide +kernel
theorem dX9_type_8 : decode cX9_type 8 = .ok (.ifCond .ne 5, 3) := by decide +kernel
theorem dX9_type_11 : decode cX9_type 11 = .ok (.iconst (-1), 1) := by decide +kernel
theorem dX9_type_12 : decode cX9_type 12 = .ok (.ireturn, 1) := by decide +kernel
theorem dX9_type_13 : decode cX9_type 13 = .ok (.aload_n 0, 1) := by decide +kernel
theorem dX9_type_14 : decode cX9_type 14 = .ok (.getfield 147, 3) := by decide +kernel
theorem dX9_type_17 : decode cX9_type 17 = .ok (.sipush 160, 3) := by decide +kernel
theorem dX9_type_20 : decode cX9_type 20 = .ok (.if_icmp .ne 6, 3) := by decide +kernel
theorem dX9_type_23 : decode cX9_type 23 = .ok (.bipush (-3), 2) := by decide +kernel
theorem dX9_type_25 : decode cX9_type 25 = .ok (.ireturn, 1) := by decide +kernel
theorem dX9_type_26 : decode cX9_type 26 = .ok (.aload_n 0, 1) := by decide +kernel
theorem dX9_type_27 : decode cX9_type 27 = .ok (.getfield 29, 3) := by decide +kernel
theorem dX9_type_30 : decode cX9_type 30 = .ok (.aload_n 0, 1) := by decide +kernel
theorem dX9_type_31 : decode cX9_type 31 = .ok (.getfield 147, 3) := by decide +kernel
theorem dX9_type_34 : decode cX9_type 34 = .ok (.iload_n 1, 1) := by decide +kernel
theorem dX9_type_35 : decode cX9_type 35 = .ok (.iastore, 1) := by decide +kernel
theorem dX9_type_36 : decode cX9_type 36 = .ok (.aload_n 0, 1) := by decide +kernel
theorem dX9_type_37 : decode cX9_type 37 = .ok (.dup, 1) := by decide +kernel
theorem dX9_type_38 : decode cX9_type 38 = .ok (.getfield 147, 3) := by decide +kernel
theorem dX9_type_41 : decode cX9_type 41 = .ok (.iconst 1, 1) := by decide +kernel
theorem dX9_type_42 : decode cX9_type 42 = .ok (.iadd, 1) := by decide +kernel
theorem dX9_type_43 : decode cX9_type 43 = .ok (.putfield 147, 3) := by decide +kernel
theorem dX9_type_46 : decode cX9_type 46 = .ok (.aload_n 0, 1) := by decide +kernel
theorem dX9_type_47 : decode cX9_type 47 = .ok (.getfield 147, 3) := by decide +kernel
theorem dX9_type_50 : decode cX9_type 50 = .ok (.ireturn, 1) := by decide +kernel
theorem dX9_clear_0 : decode cX9_clear 0 = .ok (.aload_n 0, 1) := by decide +kernel
theorem dX9_clear_1 : decode cX9_clear 1 = .ok (.getfield 147, 3) := by decide +kernel
theorem dX9_clear_4 : decode cX9_clear 4 = .ok (.istore_n 1, 1) := by decide +kernel
theorem dX9_clear_5 : decode cX9_clear 5 = .ok (.aload_n 0, 1) := by decide +kernel
theorem dX9_clear_6 : decode cX9_clear 6 = .ok (.iconst 0, 1) := by decide +kernel
theorem dX9_clear_7 : decode cX9_clear 7 = .ok (.putfield 147, 3) := by decide +kernel
theorem dX9_clear_10 : decode cX9_clear 10 = .ok (.iload_n 1, 1) := by decide +kernel
theorem dX9_clear_11 : decode cX9_clear 11 = .ok (.ireturn, 1) := by decide +kernel
theorem dX9_isHere_0 : decode cX9_isHere 0 = .ok (.aload_n 0, 1) := by decide +kernel
theorem dX9_isHere_1 : decode cX9_isHere 1 = .ok (.getfield 150, 3) := by decide +kernel
theorem dX9_isHere_4 : decode cX9_isHere 4 = .ok (.aload_n 0, 1) := by decide +kernel
theorem dX9_isHere_5 : decode cX9_isHere 5 = .ok (.getfield 147, 3) := by decide +kernel
theorem dX9_isHere_8 : decode cX9_isHere 8 = .ok (.if_icmp .ge 24, 3) := by decide +kernel
theorem dX9_isHere_11 : decode cX9_isHere 11 = .ok (.aload_n 0, 1) := by decide +kernel
theorem dX9_isHere_12 : decode cX9_isHere 12 = .ok (.getfield 29, 3) := by decide +kernel
theorem dX9_isHere_15 : decode cX9_isHere 15 = .ok (.aload_n 0, 1) := by decide +kernel
theorem dX9_isHere_16 : decode cX9_isHere 16 = .ok (.getfield 150, 3) := by decide +kernel
theorem dX9_isHere_19 : decode cX9_isHere 19 = .ok (.iaload, 1) := by decide +kernel
theorem dX9_isHere_20 : decode cX9_isHere 20 = .ok (.iload_n 1, 1) := by decide +kernel
theorem dX9_isHere_21 : decode cX9_isHere 21 = .ok (.iload_n 2, 1) := by decide +kernel
theorem dX9_isHere_22 : decode cX9_isHere 22 = .ok (.invokestatic 39, 3) := by decide +kernel
theorem dX9_isHere_25 : decode cX9_isHere 25 = .ok (.ifCond .eq 7, 3) := by decide +kernel
theorem dX9_isHere_28 : decode cX9_isHere 28 = .ok (.iconst 1, 1) := by decide +kernel
theorem dX9_isHere_29 : decode cX9_isHere 29 = .ok (.goto 4, 3) := by decide +kernel
theorem dX9_isHere_32 : decode cX9_isHere 32 = .ok (.iconst 0, 1) := by decide +kernel
theorem dX9_isHere_33 : decode cX9_isHere 33 = .ok (.ireturn, 1) := by decide +kernel
theorem dX9_kindOf_0 : decode cX9_kindOf 0 = .ok (.iload_n 0, 1) := by decide +kernel
theorem dX9_kindOf_1 : decode cX9_kindOf 1 = .ok (.lookupswitch 93 #[(28526, 90), (29283, 87), (29295, 77), (29303, 75), (30563, 81), (30575, 79), (30579, 83), (30580, 85)], 75) := by decide +kernel
theorem dX9_kindOf_76 : decode cX9_kindOf 76 = .ok (.iconst 0, 1) := by decide +kernel
theorem dX9_kindOf_77 : decode cX9_kindOf 77 = .ok (.ireturn, 1) := by decide +kernel
theorem dX9_kindOf_78 : decode cX9_kindOf 78 = .ok (.iconst 1, 1) := by decide +kernel
theorem dX9_kindOf_79 : decode cX9_kindOf 79 = .ok (.ireturn, 1) := by decide +kernel
theorem dX9_kindOf_80 : decode cX9_kindOf 80 = .ok (.iconst 2, 1) := by decide +kernel
theorem dX9_kindOf_81 : decode cX9_kindOf 81 = .ok (.ireturn, 1) := by decide +kernel
theorem dX9_kindOf_82 : decode cX9_kindOf 82 = .ok (.iconst 3, 1) := by decide +kernel
theorem dX9_kindOf_83 : decode cX9_kindOf 83 = .ok (.ireturn, 1) := by decide +kernel
theorem dX9_kindOf_84 : decode cX9_kindOf 84 = .ok (.iconst 4, 1) := by decide +kernel
theorem dX9_kindOf_85 : decode cX9_kindOf 85 = .ok (.ireturn, 1) := by decide +kernel
theorem dX9_kindOf_86 : decode cX9_kindOf 86 = .ok (.iconst 5, 1) := by decide +kernel
theorem dX9_kindOf_87 : decode cX9_kindOf 87 = .ok (.ireturn, 1) := by decide +kernel
theorem dX9_kindOf_88 : decode cX9_kindOf 88 = .ok (.bipush 6, 2) := by decide +kernel
theorem dX9_kindOf_90 : decode cX9_kindOf 90 = .ok (.ireturn, 1) := by decide +kernel
theorem dX9_kindOf_91 : decode cX9_kindOf 91 = .ok (.bipush 7, 2) := by decide +kernel
theorem dX9_kindOf_93 : decode cX9_kindOf 93 = .ok (.ireturn, 1) := by decide +kernel
theorem dX9_kindOf_94 : decode cX9_kindOf 94 = .ok (.bipush (-9), 2) := by decide +kernel
theorem dX9_kindOf_96 : decode cX9_kindOf 96 = .ok (.ireturn, 1) := by decide +kernel
