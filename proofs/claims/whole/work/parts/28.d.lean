theorem dX9_readAlias_0 : decode cX9_readAlias 0 = .ok (.aload_n 0, 1) := by decide +kernel
theorem dX9_readAlias_1 : decode cX9_readAlias 1 = .ok (.iconst 0, 1) := by decide +kernel
theorem dX9_readAlias_2 : decode cX9_readAlias 2 = .ok (.bipush 15, 2) := by decide +kernel
theorem dX9_readAlias_4 : decode cX9_readAlias 4 = .ok (.invokevirtual 179, 3) := by decide +kernel
theorem dX9_readAlias_7 : decode cX9_readAlias 7 = .ok (.istore_n 1, 1) := by decide +kernel
theorem dX9_readAlias_8 : decode cX9_readAlias 8 = .ok (.aload_n 0, 1) := by decide +kernel
theorem dX9_readAlias_9 : decode cX9_readAlias 9 = .ok (.iconst 0, 1) := by decide +kernel
theorem dX9_readAlias_10 : decode cX9_readAlias 10 = .ok (.aload_n 0, 1) := by decide +kernel
theorem dX9_readAlias_11 : decode cX9_readAlias 11 = .ok (.getfield 13, 3) := by decide +kernel
theorem dX9_readAlias_14 : decode cX9_readAlias 14 = .ok (.bipush 90, 2) := by decide +kernel
theorem dX9_readAlias_16 : decode cX9_readAlias 16 = .ok (.iaload, 1) := by decide +kernel
theorem dX9_readAlias_17 : decode cX9_readAlias 17 = .ok (.iconst 1, 1) := by decide +kernel
theorem dX9_readAlias_18 : decode cX9_readAlias 18 = .ok (.isub, 1) := by decide +kernel
theorem dX9_readAlias_19 : decode cX9_readAlias 19 = .ok (.invokevirtual 179, 3) := by decide +kernel
theorem dX9_readAlias_22 : decode cX9_readAlias 22 = .ok (.istore_n 2, 1) := by decide +kernel
theorem dX9_readAlias_23 : decode cX9_readAlias 23 = .ok (.aload_n 0, 1) := by decide +kernel
theorem dX9_readAlias_24 : decode cX9_readAlias 24 = .ok (.getfield 162, 3) := by decide +kernel
theorem dX9_readAlias_27 : decode cX9_readAlias 27 = .ok (.iconst 4, 1) := by decide +kernel
theorem dX9_readAlias_28 : decode cX9_readAlias 28 = .ok (.if_icmp .ne 13, 3) := by decide +kernel
theorem dX9_readAlias_31 : decode cX9_readAlias 31 = .ok (.aload_n 0, 1) := by decide +kernel
theorem dX9_readAlias_32 : decode cX9_readAlias 32 = .ok (.getfield 159, 3) := by decide +kernel
theorem dX9_readAlias_35 : decode cX9_readAlias 35 = .ok (.invokestatic 166, 3) := by decide +kernel
theorem dX9_readAlias_38 : decode cX9_readAlias 38 = .ok (.goto 5, 3) := by decide +kernel
theorem dX9_readAlias_41 : decode cX9_readAlias 41 = .ok (.bipush (-9), 2) := by decide +kernel
theorem dX9_readAlias_43 : decode cX9_readAlias 43 = .ok (.istore_n 3, 1) := by decide +kernel
theorem dX9_readAlias_44 : decode cX9_readAlias 44 = .ok (.aload_n 0, 1) := by decide +kernel
theorem dX9_readAlias_45 : decode cX9_readAlias 45 = .ok (.iload_n 3, 1) := by decide +kernel
theorem dX9_readAlias_46 : decode cX9_readAlias 46 = .ok (.ifCond .eq 23, 3) := by decide +kernel
theorem dX9_readAlias_49 : decode cX9_readAlias 49 = .ok (.iload_n 3, 1) := by decide +kernel
theorem dX9_readAlias_50 : decode cX9_readAlias 50 = .ok (.iconst 1, 1) := by decide +kernel
theorem dX9_readAlias_51 : decode cX9_readAlias 51 = .ok (.if_icmp .eq 18, 3) := by decide +kernel
theorem dX9_readAlias_54 : decode cX9_readAlias 54 = .ok (.iload_n 3, 1) := by decide +kernel
theorem dX9_readAlias_55 : decode cX9_readAlias 55 = .ok (.iconst 3, 1) := by decide +kernel
theorem dX9_readAlias_56 : decode cX9_readAlias 56 = .ok (.if_icmp .eq 13, 3) := by decide +kernel
theorem dX9_readAlias_59 : decode cX9_readAlias 59 = .ok (.iload_n 3, 1) := by decide +kernel
theorem dX9_readAlias_60 : decode cX9_readAlias 60 = .ok (.iconst 4, 1) := by decide +kernel
theorem dX9_readAlias_61 : decode cX9_readAlias 61 = .ok (.if_icmp .eq 8, 3) := by decide +kernel
theorem dX9_readAlias_64 : decode cX9_readAlias 64 = .ok (.iload_n 3, 1) := by decide +kernel
theorem dX9_readAlias_65 : decode cX9_readAlias 65 = .ok (.iconst 5, 1) := by decide +kernel
theorem dX9_readAlias_66 : decode cX9_readAlias 66 = .ok (.if_icmp .ne 7, 3) := by decide +kernel
theorem dX9_readAlias_69 : decode cX9_readAlias 69 = .ok (.iconst 1, 1) := by decide +kernel
theorem dX9_readAlias_70 : decode cX9_readAlias 70 = .ok (.goto 4, 3) := by decide +kernel
theorem dX9_readAlias_73 : decode cX9_readAlias 73 = .ok (.iconst 0, 1) := by decide +kernel
theorem dX9_readAlias_74 : decode cX9_readAlias 74 = .ok (.invokevirtual 175, 3) := by decide +kernel
theorem dX9_readAlias_77 : decode cX9_readAlias 77 = .ok (.pop, 1) := by decide +kernel
theorem dX9_readAlias_78 : decode cX9_readAlias 78 = .ok (.aload_n 0, 1) := by decide +kernel
theorem dX9_readAlias_79 : decode cX9_readAlias 79 = .ok (.getfield 169, 3) := by decide +kernel
theorem dX9_readAlias_82 : decode cX9_readAlias 82 = .ok (.bipush (-9), 2) := by decide +kernel
theorem dX9_readAlias_84 : decode cX9_readAlias 84 = .ok (.if_icmp .ne 56, 3) := by decide +kernel
theorem dX9_readAlias_87 : decode cX9_readAlias 87 = .ok (.aload_n 0, 1) := by decide +kernel
theorem dX9_readAlias_88 : decode cX9_readAlias 88 = .ok (.getfield 13, 3) := by decide +kernel
theorem dX9_readAlias_91 : decode cX9_readAlias 91 = .ok (.bipush 92, 2) := by decide +kernel
theorem dX9_readAlias_93 : decode cX9_readAlias 93 = .ok (.iaload, 1) := by decide +kernel
theorem dX9_readAlias_94 : decode cX9_readAlias 94 = .ok (.istore 4, 2) := by decide +kernel
theorem dX9_readAlias_96 : decode cX9_readAlias 96 = .ok (.aload_n 0, 1) := by decide +kernel
theorem dX9_readAlias_97 : decode cX9_readAlias 97 = .ok (.getfield 13, 3) := by decide +kernel
theorem dX9_readAlias_100 : decode cX9_readAlias 100 = .ok (.bipush 78, 2) := by decide +kernel
theorem dX9_readAlias_102 : decode cX9_readAlias 102 = .ok (.iload 4, 2) := by decide +kernel
theorem dX9_readAlias_104 : decode cX9_readAlias 104 = .ok (.iadd, 1) := by decide +kernel
theorem dX9_readAlias_105 : decode cX9_readAlias 105 = .ok (.iload_n 1, 1) := by decide +kernel
theorem dX9_readAlias_106 : decode cX9_readAlias 106 = .ok (.iastore, 1) := by decide +kernel
theorem dX9_readAlias_107 : decode cX9_readAlias 107 = .ok (.aload_n 0, 1) := by decide +kernel
theorem dX9_readAlias_108 : decode cX9_readAlias 108 = .ok (.getfield 13, 3) := by decide +kernel
theorem dX9_readAlias_111 : decode cX9_readAlias 111 = .ok (.bipush 82, 2) := by decide +kernel
theorem dX9_readAlias_113 : decode cX9_readAlias 113 = .ok (.iload 4, 2) := by decide +kernel
theorem dX9_readAlias_115 : decode cX9_readAlias 115 = .ok (.iadd, 1) := by decide +kernel
theorem dX9_readAlias_116 : decode cX9_readAlias 116 = .ok (.iload_n 2, 1) := by decide +kernel
theorem dX9_readAlias_117 : decode cX9_readAlias 117 = .ok (.iastore, 1) := by decide +kernel
theorem dX9_readAlias_118 : decode cX9_readAlias 118 = .ok (.aload_n 0, 1) := by decide +kernel
theorem dX9_readAlias_119 : decode cX9_readAlias 119 = .ok (.getfield 13, 3) := by decide +kernel
theorem dX9_readAlias_122 : decode cX9_readAlias 122 = .ok (.bipush 86, 2) := by decide +kernel
theorem dX9_readAlias_124 : decode cX9_readAlias 124 = .ok (.iload 4, 2) := by decide +kernel
theorem dX9_readAlias_126 : decode cX9_readAlias 126 = .ok (.iadd, 1) := by decide +kernel
theorem dX9_readAlias_127 : decode cX9_readAlias 127 = .ok (.iload_n 3, 1) := by decide +kernel
theorem dX9_readAlias_128 : decode cX9_readAlias 128 = .ok (.iastore, 1) := by decide +kernel
theorem dX9_readAlias_129 : decode cX9_readAlias 129 = .ok (.aload_n 0, 1) := by decide +kernel
theorem dX9_readAlias_130 : decode cX9_readAlias 130 = .ok (.getfield 13, 3) := by decide +kernel
theorem dX9_readAlias_133 : decode cX9_readAlias 133 = .ok (.bipush 92, 2) := by decide +kernel
theorem dX9_readAlias_135 : decode cX9_readAlias 135 = .ok (.dup2, 1) := by decide +kernel
theorem dX9_readAlias_136 : decode cX9_readAlias 136 = .ok (.iaload, 1) := by decide +kernel
theorem dX9_readAlias_137 : decode cX9_readAlias 137 = .ok (.iconst 1, 1) := by decide +kernel
theorem dX9_readAlias_138 : decode cX9_readAlias 138 = .ok (.iadd, 1) := by decide +kernel
theorem dX9_readAlias_139 : decode cX9_readAlias 139 = .ok (.iastore, 1) := by decide +kernel
theorem dX9_readAlias_140 : decode cX9_readAlias 140 = .ok (.return_, 1) := by decide +kernel
theorem dX9_readLink_0 : decode cX9_readLink 0 = .ok (.aload_n 0, 1) := by decide +kernel
theorem dX9_readLink_1 : decode cX9_readLink 1 = .ok (.aload_n 0, 1) := by decide +kernel
theorem dX9_readLink_2 : decode cX9_readLink 2 = .ok (.getfield 162, 3) := by decide +kernel
theorem dX9_readLink_5 : decode cX9_readLink 5 = .ok (.iconst 1, 1) := by decide +kernel
theorem dX9_readLink_6 : decode cX9_readLink 6 = .ok (.if_icmp .ne 43, 3) := by decide +kernel
theorem dX9_readLink_9 : decode cX9_readLink 9 = .ok (.aload_n 0, 1) := by decide +kernel
theorem dX9_readLink_10 : decode cX9_readLink 10 = .ok (.getfield 159, 3) := by decide +kernel
theorem dX9_readLink_13 : decode cX9_readLink 13 = .ok (.iconst 0, 1) := by decide +kernel
theorem dX9_readLink_14 : decode cX9_readLink 14 = .ok (.aload_n 0, 1) := by decide +kernel
theorem dX9_readLink_15 : decode cX9_readLink 15 = .ok (.getfield 13, 3) := by decide +kernel
theorem dX9_readLink_18 : decode cX9_readLink 18 = .ok (.bipush 90, 2) := by decide +kernel
theorem dX9_readLink_20 : decode cX9_readLink 20 = .ok (.iaload, 1) := by decide +kernel
theorem dX9_readLink_21 : decode cX9_readLink 21 = .ok (.iconst 1, 1) := by decide +kernel
theorem dX9_readLink_22 : decode cX9_readLink 22 = .ok (.isub, 1) := by decide +kernel
theorem dX9_readLink_23 : decode cX9_readLink 23 = .ok (.invokestatic 39, 3) := by decide +kernel
theorem dX9_readLink_26 : decode cX9_readLink 26 = .ok (.ifCond .eq 23, 3) := by decide +kernel
theorem dX9_readLink_29 : decode cX9_readLink 29 = .ok (.aload_n 0, 1) := by decide +kernel
theorem dX9_readLink_30 : decode cX9_readLink 30 = .ok (.getfield 13, 3) := by decide +kernel
theorem dX9_readLink_33 : decode cX9_readLink 33 = .ok (.iload_n 1, 1) := by decide +kernel
theorem dX9_readLink_34 : decode cX9_readLink 34 = .ok (.aload_n 0, 1) := by decide +kernel
theorem dX9_readLink_35 : decode cX9_readLink 35 = .ok (.getfield 159, 3) := by decide +kernel
theorem dX9_readLink_38 : decode cX9_readLink 38 = .ok (.iadd, 1) := by decide +kernel
theorem dX9_readLink_39 : decode cX9_readLink 39 = .ok (.iaload, 1) := by decide +kernel
theorem dX9_readLink_40 : decode cX9_readLink 40 = .ok (.bipush (-9), 2) := by decide +kernel
theorem dX9_readLink_42 : decode cX9_readLink 42 = .ok (.if_icmp .ne 7, 3) := by decide +kernel
theorem dX9_readLink_45 : decode cX9_readLink 45 = .ok (.iconst 1, 1) := by decide +kernel
theorem dX9_readLink_46 : decode cX9_readLink 46 = .ok (.goto 4, 3) := by decide +kernel
theorem dX9_readLink_49 : decode cX9_readLink 49 = .ok (.iconst 0, 1) := by decide +kernel
theorem dX9_readLink_50 : decode cX9_readLink 50 = .ok (.invokevirtual 175, 3) := by decide +kernel
theorem dX9_readLink_53 : decode cX9_readLink 53 = .ok (.istore_n 2, 1) := by decide +kernel
theorem dX9_readLink_54 : decode cX9_readLink 54 = .ok (.aload_n 0, 1) := by decide +kernel
theorem dX9_readLink_55 : decode cX9_readLink 55 = .ok (.aload_n 0, 1) := by decide +kernel
theorem dX9_readLink_56 : decode cX9_readLink 56 = .ok (.getfield 162, 3) := by decide +kernel
theorem dX9_readLink_59 : decode cX9_readLink 59 = .ok (.iconst 1, 1) := by decide +kernel
theorem dX9_readLink_60 : decode cX9_readLink 60 = .ok (.if_icmp .ne 49, 3) := by decide +kernel
theorem dX9_readLink_63 : decode cX9_readLink 63 = .ok (.aload_n 0, 1) := by decide +kernel
theorem dX9_readLink_64 : decode cX9_readLink 64 = .ok (.getfield 159, 3) := by decide +kernel
theorem dX9_readLink_67 : decode cX9_readLink 67 = .ok (.iconst 0, 1) := by decide +kernel
theorem dX9_readLink_68 : decode cX9_readLink 68 = .ok (.aload_n 0, 1) := by decide +kernel
theorem dX9_readLink_69 : decode cX9_readLink 69 = .ok (.getfield 13, 3) := by decide +kernel
theorem dX9_readLink_72 : decode cX9_readLink 72 = .ok (.bipush 91, 2) := by decide +kernel
theorem dX9_readLink_74 : decode cX9_readLink 74 = .ok (.iaload, 1) := by decide +kernel
theorem dX9_readLink_75 : decode cX9_readLink 75 = .ok (.iconst 1, 1) := by decide +kernel
theorem dX9_readLink_76 : decode cX9_readLink 76 = .ok (.isub, 1) := by decide +kernel
theorem dX9_readLink_77 : decode cX9_readLink 77 = .ok (.invokestatic 39, 3) := by decide +kernel
theorem dX9_readLink_80 : decode cX9_readLink 80 = .ok (.ifCond .eq 29, 3) := by decide +kernel
theorem dX9_readLink_83 : decode cX9_readLink 83 = .ok (.iload_n 1, 1) := by decide +kernel
theorem dX9_readLink_84 : decode cX9_readLink 84 = .ok (.bipush 6, 2) := by decide +kernel
theorem dX9_readLink_86 : decode cX9_readLink 86 = .ok (.if_icmp .eq 19, 3) := by decide +kernel
theorem dX9_readLink_89 : decode cX9_readLink 89 = .ok (.aload_n 0, 1) := by decide +kernel
theorem dX9_readLink_90 : decode cX9_readLink 90 = .ok (.getfield 13, 3) := by decide +kernel
theorem dX9_readLink_93 : decode cX9_readLink 93 = .ok (.bipush 18, 2) := by decide +kernel
theorem dX9_readLink_95 : decode cX9_readLink 95 = .ok (.aload_n 0, 1) := by decide +kernel
theorem dX9_readLink_96 : decode cX9_readLink 96 = .ok (.getfield 159, 3) := by decide +kernel
theorem dX9_readLink_99 : decode cX9_readLink 99 = .ok (.iadd, 1) := by decide +kernel
theorem dX9_readLink_100 : decode cX9_readLink 100 = .ok (.iaload, 1) := by decide +kernel
theorem dX9_readLink_101 : decode cX9_readLink 101 = .ok (.iload_n 2, 1) := by decide +kernel
theorem dX9_readLink_102 : decode cX9_readLink 102 = .ok (.if_icmp .eq 7, 3) := by decide +kernel
theorem dX9_readLink_105 : decode cX9_readLink 105 = .ok (.iconst 1, 1) := by decide +kernel
theorem dX9_readLink_106 : decode cX9_readLink 106 = .ok (.goto 4, 3) := by decide +kernel
theorem dX9_readLink_109 : decode cX9_readLink 109 = .ok (.iconst 0, 1) := by decide +kernel
theorem dX9_readLink_110 : decode cX9_readLink 110 = .ok (.invokevirtual 175, 3) := by decide +kernel
theorem dX9_readLink_113 : decode cX9_readLink 113 = .ok (.istore_n 3, 1) := by decide +kernel
theorem dX9_readLink_114 : decode cX9_readLink 114 = .ok (.aload_n 0, 1) := by decide +kernel
theorem dX9_readLink_115 : decode cX9_readLink 115 = .ok (.getfield 169, 3) := by decide +kernel
theorem dX9_readLink_118 : decode cX9_readLink 118 = .ok (.bipush (-9), 2) := by decide +kernel
theorem dX9_readLink_120 : decode cX9_readLink 120 = .ok (.if_icmp .ne 12, 3) := by decide +kernel
theorem dX9_readLink_123 : decode cX9_readLink 123 = .ok (.aload_n 0, 1) := by decide +kernel
theorem dX9_readLink_124 : decode cX9_readLink 124 = .ok (.getfield 13, 3) := by decide +kernel
theorem dX9_readLink_127 : decode cX9_readLink 127 = .ok (.iload_n 1, 1) := by decide +kernel
theorem dX9_readLink_128 : decode cX9_readLink 128 = .ok (.iload_n 2, 1) := by decide +kernel
theorem dX9_readLink_129 : decode cX9_readLink 129 = .ok (.iadd, 1) := by decide +kernel
theorem dX9_readLink_130 : decode cX9_readLink 130 = .ok (.iload_n 3, 1) := by decide +kernel
theorem dX9_readLink_131 : decode cX9_readLink 131 = .ok (.iastore, 1) := by decide +kernel
theorem dX9_readLink_132 : decode cX9_readLink 132 = .ok (.return_, 1) := by decide +kernel
theorem dX9_readItem_0 : decode cX9_readItem 0 = .ok (.aload_n 0, 1) := by decide +kernel
theorem dX9_readItem_1 : decode cX9_readItem 1 = .ok (.getfield 162, 3) := by decide +kernel
theorem dX9_readItem_4 : decode cX9_readItem 4 = .ok (.iconst 4, 1) := by decide +kernel
theorem dX9_readItem_5 : decode cX9_readItem 5 = .ok (.if_icmp .ne 10, 3) := by decide +kernel
theorem dX9_readItem_8 : decode cX9_readItem 8 = .ok (.aload_n 0, 1) := by decide +kernel
theorem dX9_readItem_9 : decode cX9_readItem 9 = .ok (.getfield 159, 3) := by decide +kernel
theorem dX9_readItem_12 : decode cX9_readItem 12 = .ok (.goto 4, 3) := by decide +kernel
theorem dX9_readItem_15 : decode cX9_readItem 15 = .ok (.iconst 0, 1) := by decide +kernel
theorem dX9_readItem_16 : decode cX9_readItem 16 = .ok (.istore_n 1, 1) := by decide +kernel
theorem dX9_readItem_17 : decode cX9_readItem 17 = .ok (.aload_n 0, 1) := by decide +kernel
theorem dX9_readItem_18 : decode cX9_readItem 18 = .ok (.getfield 13, 3) := by decide +kernel
theorem dX9_readItem_21 : decode cX9_readItem 21 = .ok (.bipush 90, 2) := by decide +kernel
theorem dX9_readItem_23 : decode cX9_readItem 23 = .ok (.iaload, 1) := by decide +kernel
theorem dX9_readItem_24 : decode cX9_readItem 24 = .ok (.ifCond .le 7, 3) := by decide +kernel
theorem dX9_readItem_27 : decode cX9_readItem 27 = .ok (.iconst 1, 1) := by decide +kernel
theorem dX9_readItem_28 : decode cX9_readItem 28 = .ok (.goto 4, 3) := by decide +kernel
theorem dX9_readItem_31 : decode cX9_readItem 31 = .ok (.iconst 0, 1) := by decide +kernel
theorem dX9_readItem_32 : decode cX9_readItem 32 = .ok (.istore_n 2, 1) := by decide +kernel
theorem dX9_readItem_33 : decode cX9_readItem 33 = .ok (.aload_n 0, 1) := by decide +kernel
theorem dX9_readItem_34 : decode cX9_readItem 34 = .ok (.iload_n 1, 1) := by decide +kernel
theorem dX9_readItem_35 : decode cX9_readItem 35 = .ok (.bipush 114, 2) := by decide +kernel
theorem dX9_readItem_37 : decode cX9_readItem 37 = .ok (.if_icmp .ne 15, 3) := by decide +kernel
theorem dX9_readItem_40 : decode cX9_readItem 40 = .ok (.aload_n 0, 1) := by decide +kernel
theorem dX9_readItem_41 : decode cX9_readItem 41 = .ok (.getfield 13, 3) := by decide +kernel
theorem dX9_readItem_44 : decode cX9_readItem 44 = .ok (.bipush 90, 2) := by decide +kernel
theorem dX9_readItem_46 : decode cX9_readItem 46 = .ok (.iaload, 1) := by decide +kernel
theorem dX9_readItem_47 : decode cX9_readItem 47 = .ok (.bipush 6, 2) := by decide +kernel
theorem dX9_readItem_49 : decode cX9_readItem 49 = .ok (.if_icmp .lt 58, 3) := by decide +kernel
theorem dX9_readItem_52 : decode cX9_readItem 52 = .ok (.iload_n 1, 1) := by decide +kernel
theorem dX9_readItem_53 : decode cX9_readItem 53 = .ok (.bipush 102, 2) := by decide +kernel
theorem dX9_readItem_55 : decode cX9_readItem 55 = .ok (.if_icmp .ne 19, 3) := by decide +kernel
theorem dX9_readItem_58 : decode cX9_readItem 58 = .ok (.iload_n 2, 1) := by decide +kernel
theorem dX9_readItem_59 : decode cX9_readItem 59 = .ok (.ifCond .eq 15, 3) := by decide +kernel
theorem dX9_readItem_62 : decode cX9_readItem 62 = .ok (.aload_n 0, 1) := by decide +kernel
theorem dX9_readItem_63 : decode cX9_readItem 63 = .ok (.getfield 13, 3) := by decide +kernel
theorem dX9_readItem_66 : decode cX9_readItem 66 = .ok (.bipush 91, 2) := by decide +kernel
theorem dX9_readItem_68 : decode cX9_readItem 68 = .ok (.iaload, 1) := by decide +kernel
theorem dX9_readItem_69 : decode cX9_readItem 69 = .ok (.bipush 12, 2) := by decide +kernel
theorem dX9_readItem_71 : decode cX9_readItem 71 = .ok (.if_icmp .lt 36, 3) := by decide +kernel
theorem dX9_readItem_74 : decode cX9_readItem 74 = .ok (.iload_n 1, 1) := by decide +kernel
theorem dX9_readItem_75 : decode cX9_readItem 75 = .ok (.bipush 97, 2) := by decide +kernel
theorem dX9_readItem_77 : decode cX9_readItem 77 = .ok (.if_icmp .ne 14, 3) := by decide +kernel
theorem dX9_readItem_80 : decode cX9_readItem 80 = .ok (.aload_n 0, 1) := by decide +kernel
theorem dX9_readItem_81 : decode cX9_readItem 81 = .ok (.getfield 13, 3) := by decide +kernel
theorem dX9_readItem_84 : decode cX9_readItem 84 = .ok (.bipush 92, 2) := by decide +kernel
theorem dX9_readItem_86 : decode cX9_readItem 86 = .ok (.iaload, 1) := by decide +kernel
theorem dX9_readItem_87 : decode cX9_readItem 87 = .ok (.iconst 4, 1) := by decide +kernel
theorem dX9_readItem_88 : decode cX9_readItem 88 = .ok (.if_icmp .lt 19, 3) := by decide +kernel
theorem dX9_readItem_91 : decode cX9_readItem 91 = .ok (.iload_n 1, 1) := by decide +kernel
theorem dX9_readItem_92 : decode cX9_readItem 92 = .ok (.bipush 107, 2) := by decide +kernel
theorem dX9_readItem_94 : decode cX9_readItem 94 = .ok (.if_icmp .eq 9, 3) := by decide +kernel
theorem dX9_readItem_97 : decode cX9_readItem 97 = .ok (.iload_n 1, 1) := by decide +kernel
theorem dX9_readItem_98 : decode cX9_readItem 98 = .ok (.bipush 115, 2) := by decide +kernel
theorem dX9_readItem_100 : decode cX9_readItem 100 = .ok (.if_icmp .ne 11, 3) := by decide +kernel
theorem dX9_readItem_103 : decode cX9_readItem 103 = .ok (.iload_n 2, 1) := by decide +kernel
theorem dX9_readItem_104 : decode cX9_readItem 104 = .ok (.ifCond .eq 7, 3) := by decide +kernel
theorem dX9_readItem_107 : decode cX9_readItem 107 = .ok (.iconst 1, 1) := by decide +kernel
theorem dX9_readItem_108 : decode cX9_readItem 108 = .ok (.goto 4, 3) := by decide +kernel
theorem dX9_readItem_111 : decode cX9_readItem 111 = .ok (.iconst 0, 1) := by decide +kernel
theorem dX9_readItem_112 : decode cX9_readItem 112 = .ok (.invokevirtual 175, 3) := by decide +kernel
theorem dX9_readItem_115 : decode cX9_readItem 115 = .ok (.pop, 1) := by decide +kernel
theorem dX9_readItem_116 : decode cX9_readItem 116 = .ok (.aload_n 0, 1) := by decide +kernel
theorem dX9_readItem_117 : decode cX9_readItem 117 = .ok (.getfield 169, 3) := by decide +kernel
theorem dX9_readItem_120 : decode cX9_readItem 120 = .ok (.bipush (-9), 2) := by decide +kernel
theorem dX9_readItem_122 : decode cX9_readItem 122 = .ok (.if_icmp .eq 4, 3) := by decide +kernel
theorem dX9_readItem_125 : decode cX9_readItem 125 = .ok (.return_, 1) := by decide +kernel
theorem dX9_readItem_126 : decode cX9_readItem 126 = .ok (.iload_n 1, 1) := by decide +kernel
theorem dX9_readItem_127 : decode cX9_readItem 127 = .ok (.bipush 114, 2) := by decide +kernel
theorem dX9_readItem_129 : decode cX9_readItem 129 = .ok (.if_icmp .ne 10, 3) := by decide +kernel
theorem dX9_readItem_132 : decode cX9_readItem 132 = .ok (.aload_n 0, 1) := by decide +kernel
theorem dX9_readItem_133 : decode cX9_readItem 133 = .ok (.invokevirtual 185, 3) := by decide +kernel
theorem dX9_readItem_136 : decode cX9_readItem 136 = .ok (.goto 46, 3) := by decide +kernel
theorem dX9_readItem_139 : decode cX9_readItem 139 = .ok (.iload_n 1, 1) := by decide +kernel
theorem dX9_readItem_140 : decode cX9_readItem 140 = .ok (.bipush 102, 2) := by decide +kernel
theorem dX9_readItem_142 : decode cX9_readItem 142 = .ok (.if_icmp .ne 10, 3) := by decide +kernel
theorem dX9_readItem_145 : decode cX9_readItem 145 = .ok (.aload_n 0, 1) := by decide +kernel
theorem dX9_readItem_146 : decode cX9_readItem 146 = .ok (.invokevirtual 188, 3) := by decide +kernel
theorem dX9_readItem_149 : decode cX9_readItem 149 = .ok (.goto 33, 3) := by decide +kernel
theorem dX9_readItem_152 : decode cX9_readItem 152 = .ok (.iload_n 1, 1) := by decide +kernel
theorem dX9_readItem_153 : decode cX9_readItem 153 = .ok (.bipush 97, 2) := by decide +kernel
theorem dX9_readItem_155 : decode cX9_readItem 155 = .ok (.if_icmp .ne 10, 3) := by decide +kernel
theorem dX9_readItem_158 : decode cX9_readItem 158 = .ok (.aload_n 0, 1) := by decide +kernel
theorem dX9_readItem_159 : decode cX9_readItem 159 = .ok (.invokevirtual 191, 3) := by decide +kernel
theorem dX9_readItem_162 : decode cX9_readItem 162 = .ok (.goto 20, 3) := by decide +kernel
theorem dX9_readItem_165 : decode cX9_readItem 165 = .ok (.aload_n 0, 1) := by decide +kernel
theorem dX9_readItem_166 : decode cX9_readItem 166 = .ok (.iload_n 1, 1) := by decide +kernel
theorem dX9_readItem_167 : decode cX9_readItem 167 = .ok (.bipush 107, 2) := by decide +kernel
theorem dX9_readItem_169 : decode cX9_readItem 169 = .ok (.if_icmp .ne 8, 3) := by decide +kernel
theorem dX9_readItem_172 : decode cX9_readItem 172 = .ok (.bipush 6, 2) := by decide +kernel
theorem dX9_readItem_174 : decode cX9_readItem 174 = .ok (.goto 5, 3) := by decide +kernel
theorem dX9_readItem_177 : decode cX9_readItem 177 = .ok (.bipush 12, 2) := by decide +kernel
theorem dX9_readItem_179 : decode cX9_readItem 179 = .ok (.invokevirtual 194, 3) := by decide +kernel
theorem dX9_readItem_182 : decode cX9_readItem 182 = .ok (.aload_n 0, 1) := by decide +kernel
theorem dX9_readItem_183 : decode cX9_readItem 183 = .ok (.aload_n 0, 1) := by decide +kernel
theorem dX9_readItem_184 : decode cX9_readItem 184 = .ok (.getfield 162, 3) := by decide +kernel
theorem dX9_readItem_187 : decode cX9_readItem 187 = .ok (.iconst 3, 1) := by decide +kernel
theorem dX9_readItem_188 : decode cX9_readItem 188 = .ok (.if_icmp .ne 7, 3) := by decide +kernel
theorem dX9_readItem_191 : decode cX9_readItem 191 = .ok (.iconst 1, 1) := by decide +kernel
theorem dX9_readItem_192 : decode cX9_readItem 192 = .ok (.goto 4, 3) := by decide +kernel
theorem dX9_readItem_195 : decode cX9_readItem 195 = .ok (.iconst 0, 1) := by decide +kernel
theorem dX9_readItem_196 : decode cX9_readItem 196 = .ok (.invokevirtual 175, 3) := by decide +kernel
theorem dX9_readItem_199 : decode cX9_readItem 199 = .ok (.pop, 1) := by decide +kernel
theorem dX9_readItem_200 : decode cX9_readItem 200 = .ok (.return_, 1) := by decide +kernel
theorem dX9_tells_0 : decode cX9_tells 0 = .ok (.iconst 0, 1) := by decide +kernel
theorem dX9_tells_1 : decode cX9_tells 1 = .ok (.istore_n 1, 1) := by decide +kernel
theorem dX9_tells_2 : decode cX9_tells 2 = .ok (.iload_n 1, 1) := by decide +kernel
theorem dX9_tells_3 : decode cX9_tells 3 = .ok (.bipush 93, 2) := by decide +kernel
theorem dX9_tells_5 : decode cX9_tells 5 = .ok (.if_icmp .ge 16, 3) := by decide +kernel
theorem dX9_tells_8 : decode cX9_tells 8 = .ok (.aload_n 0, 1) := by decide +kernel
theorem dX9_tells_9 : decode cX9_tells 9 = .ok (.getfield 13, 3) := by decide +kernel
theorem dX9_tells_12 : decode cX9_tells 12 = .ok (.iload_n 1, 1) := by decide +kernel
theorem dX9_tells_13 : decode cX9_tells 13 = .ok (.iconst 0, 1) := by decide +kernel
theorem dX9_tells_14 : decode cX9_tells 14 = .ok (.iastore, 1) := by decide +kernel
theorem dX9_tells_15 : decode cX9_tells 15 = .ok (.iinc 1 1, 3) := by decide +kernel
theorem dX9_tells_18 : decode cX9_tells 18 = .ok (.goto (-16), 3) := by decide +kernel
theorem dX9_tells_21 : decode cX9_tells 21 = .ok (.aload_n 0, 1) := by decide +kernel
theorem dX9_tells_22 : decode cX9_tells 22 = .ok (.iconst 0, 1) := by decide +kernel
theorem dX9_tells_23 : decode cX9_tells 23 = .ok (.putfield 150, 3) := by decide +kernel
theorem dX9_tells_26 : decode cX9_tells 26 = .ok (.aload_n 0, 1) := by decide +kernel
theorem dX9_tells_27 : decode cX9_tells 27 = .ok (.bipush (-9), 2) := by decide +kernel
theorem dX9_tells_29 : decode cX9_tells 29 = .ok (.putfield 169, 3) := by decide +kernel
theorem dX9_tells_32 : decode cX9_tells 32 = .ok (.iconst 0, 1) := by decide +kernel
theorem dX9_tells_33 : decode cX9_tells 33 = .ok (.istore_n 1, 1) := by decide +kernel
theorem dX9_tells_34 : decode cX9_tells 34 = .ok (.aload_n 0, 1) := by decide +kernel
theorem dX9_tells_35 : decode cX9_tells 35 = .ok (.invokevirtual 172, 3) := by decide +kernel
theorem dX9_tells_38 : decode cX9_tells 38 = .ok (.aload_n 0, 1) := by decide +kernel
theorem dX9_tells_39 : decode cX9_tells 39 = .ok (.getfield 169, 3) := by decide +kernel
theorem dX9_tells_42 : decode cX9_tells 42 = .ok (.bipush (-9), 2) := by decide +kernel
theorem dX9_tells_44 : decode cX9_tells 44 = .ok (.if_icmp .ne 20, 3) := by decide +kernel
theorem dX9_tells_47 : decode cX9_tells 47 = .ok (.aload_n 0, 1) := by decide +kernel
theorem dX9_tells_48 : decode cX9_tells 48 = .ok (.getfield 162, 3) := by decide +kernel
theorem dX9_tells_51 : decode cX9_tells 51 = .ok (.ifCond .eq 13, 3) := by decide +kernel
theorem dX9_tells_54 : decode cX9_tells 54 = .ok (.aload_n 0, 1) := by decide +kernel
theorem dX9_tells_55 : decode cX9_tells 55 = .ok (.invokevirtual 197, 3) := by decide +kernel
theorem dX9_tells_58 : decode cX9_tells 58 = .ok (.iinc 1 1, 3) := by decide +kernel
theorem dX9_tells_61 : decode cX9_tells 61 = .ok (.goto (-23), 3) := by decide +kernel
theorem dX9_tells_64 : decode cX9_tells 64 = .ok (.aload_n 0, 1) := by decide +kernel
theorem dX9_tells_65 : decode cX9_tells 65 = .ok (.getfield 169, 3) := by decide +kernel
theorem dX9_tells_68 : decode cX9_tells 68 = .ok (.bipush (-9), 2) := by decide +kernel
theorem dX9_tells_70 : decode cX9_tells 70 = .ok (.if_icmp .eq 11, 3) := by decide +kernel
theorem dX9_tells_73 : decode cX9_tells 73 = .ok (.bipush (-10), 2) := by decide +kernel
theorem dX9_tells_75 : decode cX9_tells 75 = .ok (.aload_n 0, 1) := by decide +kernel
theorem dX9_tells_76 : decode cX9_tells 76 = .ok (.getfield 169, 3) := by decide +kernel
theorem dX9_tells_79 : decode cX9_tells 79 = .ok (.isub, 1) := by decide +kernel
theorem dX9_tells_80 : decode cX9_tells 80 = .ok (.ireturn, 1) := by decide +kernel
theorem dX9_tells_81 : decode cX9_tells 81 = .ok (.iconst 0, 1) := by decide +kernel
theorem dX9_tells_82 : decode cX9_tells 82 = .ok (.istore_n 2, 1) := by decide +kernel
theorem dX9_tells_83 : decode cX9_tells 83 = .ok (.iload_n 2, 1) := by decide +kernel
theorem dX9_tells_84 : decode cX9_tells 84 = .ok (.bipush 93, 2) := by decide +kernel
theorem dX9_tells_86 : decode cX9_tells 86 = .ok (.if_icmp .ge 21, 3) := by decide +kernel
theorem dX9_tells_89 : decode cX9_tells 89 = .ok (.aload_n 0, 1) := by decide +kernel
theorem dX9_tells_90 : decode cX9_tells 90 = .ok (.getfield 7, 3) := by decide +kernel
theorem dX9_tells_93 : decode cX9_tells 93 = .ok (.iload_n 2, 1) := by decide +kernel
theorem dX9_tells_94 : decode cX9_tells 94 = .ok (.aload_n 0, 1) := by decide +kernel
theorem dX9_tells_95 : decode cX9_tells 95 = .ok (.getfield 13, 3) := by decide +kernel
theorem dX9_tells_98 : decode cX9_tells 98 = .ok (.iload_n 2, 1) := by decide +kernel
theorem dX9_tells_99 : decode cX9_tells 99 = .ok (.iaload, 1) := by decide +kernel
theorem dX9_tells_100 : decode cX9_tells 100 = .ok (.iastore, 1) := by decide +kernel
theorem dX9_tells_101 : decode cX9_tells 101 = .ok (.iinc 2 1, 3) := by decide +kernel
theorem dX9_tells_104 : decode cX9_tells 104 = .ok (.goto (-21), 3) := by decide +kernel
theorem dX9_tells_107 : decode cX9_tells 107 = .ok (.aload_n 0, 1) := by decide +kernel
theorem dX9_tells_108 : decode cX9_tells 108 = .ok (.iconst 0, 1) := by decide +kernel
theorem dX9_tells_109 : decode cX9_tells 109 = .ok (.putfield 147, 3) := by decide +kernel
theorem dX9_tells_112 : decode cX9_tells 112 = .ok (.aload_n 0, 1) := by decide +kernel
theorem dX9_tells_113 : decode cX9_tells 113 = .ok (.invokevirtual 32, 3) := by decide +kernel
theorem dX9_tells_116 : decode cX9_tells 116 = .ok (.iload_n 1, 1) := by decide +kernel
theorem dX9_tells_117 : decode cX9_tells 117 = .ok (.ireturn, 1) := by decide +kernel
