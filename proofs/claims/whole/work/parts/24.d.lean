theorem dX9_letIn_0 : decode cX9_letIn 0 = .ok (.iconst 0, 1) := by decide +kernel
theorem dX9_letIn_1 : decode cX9_letIn 1 = .ok (.istore 5, 2) := by decide +kernel
theorem dX9_letIn_3 : decode cX9_letIn 3 = .ok (.iload 5, 2) := by decide +kernel
theorem dX9_letIn_5 : decode cX9_letIn 5 = .ok (.aload_n 0, 1) := by decide +kernel
theorem dX9_letIn_6 : decode cX9_letIn 6 = .ok (.invokevirtual 35, 3) := by decide +kernel
theorem dX9_letIn_9 : decode cX9_letIn 9 = .ok (.if_icmp .ge 139, 3) := by decide +kernel
theorem dX9_letIn_12 : decode cX9_letIn 12 = .ok (.aload_n 0, 1) := by decide +kernel
theorem dX9_letIn_13 : decode cX9_letIn 13 = .ok (.getfield 7, 3) := by decide +kernel
theorem dX9_letIn_16 : decode cX9_letIn 16 = .ok (.bipush 18, 2) := by decide +kernel
theorem dX9_letIn_18 : decode cX9_letIn 18 = .ok (.iload 5, 2) := by decide +kernel
theorem dX9_letIn_20 : decode cX9_letIn 20 = .ok (.iadd, 1) := by decide +kernel
theorem dX9_letIn_21 : decode cX9_letIn 21 = .ok (.iaload, 1) := by decide +kernel
theorem dX9_letIn_22 : decode cX9_letIn 22 = .ok (.iload_n 2, 1) := by decide +kernel
theorem dX9_letIn_23 : decode cX9_letIn 23 = .ok (.if_icmp .ne 119, 3) := by decide +kernel
theorem dX9_letIn_26 : decode cX9_letIn 26 = .ok (.aload_n 0, 1) := by decide +kernel
theorem dX9_letIn_27 : decode cX9_letIn 27 = .ok (.getfield 16, 3) := by decide +kernel
theorem dX9_letIn_30 : decode cX9_letIn 30 = .ok (.iload_n 1, 1) := by decide +kernel
theorem dX9_letIn_31 : decode cX9_letIn 31 = .ok (.bipush 12, 2) := by decide +kernel
theorem dX9_letIn_33 : decode cX9_letIn 33 = .ok (.iadd, 1) := by decide +kernel
theorem dX9_letIn_34 : decode cX9_letIn 34 = .ok (.iload 5, 2) := by decide +kernel
theorem dX9_letIn_36 : decode cX9_letIn 36 = .ok (.iadd, 1) := by decide +kernel
theorem dX9_letIn_37 : decode cX9_letIn 37 = .ok (.iaload, 1) := by decide +kernel
theorem dX9_letIn_38 : decode cX9_letIn 38 = .ok (.istore 6, 2) := by decide +kernel
theorem dX9_letIn_40 : decode cX9_letIn 40 = .ok (.iload_n 3, 1) := by decide +kernel
theorem dX9_letIn_41 : decode cX9_letIn 41 = .ok (.aload_n 0, 1) := by decide +kernel
theorem dX9_letIn_42 : decode cX9_letIn 42 = .ok (.getfield 7, 3) := by decide +kernel
theorem dX9_letIn_45 : decode cX9_letIn 45 = .ok (.bipush 30, 2) := by decide +kernel
theorem dX9_letIn_47 : decode cX9_letIn 47 = .ok (.iload 5, 2) := by decide +kernel
theorem dX9_letIn_49 : decode cX9_letIn 49 = .ok (.iadd, 1) := by decide +kernel
theorem dX9_letIn_50 : decode cX9_letIn 50 = .ok (.iaload, 1) := by decide +kernel
theorem dX9_letIn_51 : decode cX9_letIn 51 = .ok (.ishr, 1) := by decide +kernel
theorem dX9_letIn_52 : decode cX9_letIn 52 = .ok (.aload_n 0, 1) := by decide +kernel
theorem dX9_letIn_53 : decode cX9_letIn 53 = .ok (.iload 5, 2) := by decide +kernel
theorem dX9_letIn_55 : decode cX9_letIn 55 = .ok (.invokevirtual 46, 3) := by decide +kernel
theorem dX9_letIn_58 : decode cX9_letIn 58 = .ok (.iand, 1) := by decide +kernel
theorem dX9_letIn_59 : decode cX9_letIn 59 = .ok (.istore 7, 2) := by decide +kernel
theorem dX9_letIn_61 : decode cX9_letIn 61 = .ok (.iload 4, 2) := by decide +kernel
theorem dX9_letIn_63 : decode cX9_letIn 63 = .ok (.bipush (-9), 2) := by decide +kernel
theorem dX9_letIn_65 : decode cX9_letIn 65 = .ok (.if_icmp .eq 16, 3) := by decide +kernel
theorem dX9_letIn_68 : decode cX9_letIn 68 = .ok (.iload 6, 2) := by decide +kernel
theorem dX9_letIn_70 : decode cX9_letIn 70 = .ok (.iconst 1, 1) := by decide +kernel
theorem dX9_letIn_71 : decode cX9_letIn 71 = .ok (.if_icmp .eq 10, 3) := by decide +kernel
theorem dX9_letIn_74 : decode cX9_letIn 74 = .ok (.iload 6, 2) := by decide +kernel
theorem dX9_letIn_76 : decode cX9_letIn 76 = .ok (.bipush 6, 2) := by decide +kernel
theorem dX9_letIn_78 : decode cX9_letIn 78 = .ok (.if_icmp .ne 7, 3) := by decide +kernel
theorem dX9_letIn_81 : decode cX9_letIn 81 = .ok (.iconst 1, 1) := by decide +kernel
theorem dX9_letIn_82 : decode cX9_letIn 82 = .ok (.goto 4, 3) := by decide +kernel
theorem dX9_letIn_85 : decode cX9_letIn 85 = .ok (.iconst 0, 1) := by decide +kernel
theorem dX9_letIn_86 : decode cX9_letIn 86 = .ok (.istore 8, 2) := by decide +kernel
theorem dX9_letIn_88 : decode cX9_letIn 88 = .ok (.aload_n 0, 1) := by decide +kernel
theorem dX9_letIn_89 : decode cX9_letIn 89 = .ok (.getfield 16, 3) := by decide +kernel
theorem dX9_letIn_92 : decode cX9_letIn 92 = .ok (.iload_n 1, 1) := by decide +kernel
theorem dX9_letIn_93 : decode cX9_letIn 93 = .ok (.iload 5, 2) := by decide +kernel
theorem dX9_letIn_95 : decode cX9_letIn 95 = .ok (.iadd, 1) := by decide +kernel
theorem dX9_letIn_96 : decode cX9_letIn 96 = .ok (.iload 8, 2) := by decide +kernel
theorem dX9_letIn_98 : decode cX9_letIn 98 = .ok (.ifCond .eq 8, 3) := by decide +kernel
theorem dX9_letIn_101 : decode cX9_letIn 101 = .ok (.iload 6, 2) := by decide +kernel
theorem dX9_letIn_103 : decode cX9_letIn 103 = .ok (.goto 5, 3) := by decide +kernel
theorem dX9_letIn_106 : decode cX9_letIn 106 = .ok (.iload 4, 2) := by decide +kernel
theorem dX9_letIn_108 : decode cX9_letIn 108 = .ok (.aload_n 0, 1) := by decide +kernel
theorem dX9_letIn_109 : decode cX9_letIn 109 = .ok (.getfield 16, 3) := by decide +kernel
theorem dX9_letIn_112 : decode cX9_letIn 112 = .ok (.iload_n 1, 1) := by decide +kernel
theorem dX9_letIn_113 : decode cX9_letIn 113 = .ok (.iload 5, 2) := by decide +kernel
theorem dX9_letIn_115 : decode cX9_letIn 115 = .ok (.iadd, 1) := by decide +kernel
theorem dX9_letIn_116 : decode cX9_letIn 116 = .ok (.iaload, 1) := by decide +kernel
theorem dX9_letIn_117 : decode cX9_letIn 117 = .ok (.iload 7, 2) := by decide +kernel
theorem dX9_letIn_119 : decode cX9_letIn 119 = .ok (.aload_n 0, 1) := by decide +kernel
theorem dX9_letIn_120 : decode cX9_letIn 120 = .ok (.getfield 16, 3) := by decide +kernel
theorem dX9_letIn_123 : decode cX9_letIn 123 = .ok (.iload_n 1, 1) := by decide +kernel
theorem dX9_letIn_124 : decode cX9_letIn 124 = .ok (.bipush 30, 2) := by decide +kernel
theorem dX9_letIn_126 : decode cX9_letIn 126 = .ok (.iadd, 1) := by decide +kernel
theorem dX9_letIn_127 : decode cX9_letIn 127 = .ok (.iload_n 2, 1) := by decide +kernel
theorem dX9_letIn_128 : decode cX9_letIn 128 = .ok (.iadd, 1) := by decide +kernel
theorem dX9_letIn_129 : decode cX9_letIn 129 = .ok (.iaload, 1) := by decide +kernel
theorem dX9_letIn_130 : decode cX9_letIn 130 = .ok (.ifCond .ne 7, 3) := by decide +kernel
theorem dX9_letIn_133 : decode cX9_letIn 133 = .ok (.iconst 1, 1) := by decide +kernel
theorem dX9_letIn_134 : decode cX9_letIn 134 = .ok (.goto 4, 3) := by decide +kernel
theorem dX9_letIn_137 : decode cX9_letIn 137 = .ok (.iconst 0, 1) := by decide +kernel
theorem dX9_letIn_138 : decode cX9_letIn 138 = .ok (.invokestatic 81, 3) := by decide +kernel
theorem dX9_letIn_141 : decode cX9_letIn 141 = .ok (.iastore, 1) := by decide +kernel
theorem dX9_letIn_142 : decode cX9_letIn 142 = .ok (.iinc 5 1, 3) := by decide +kernel
theorem dX9_letIn_145 : decode cX9_letIn 145 = .ok (.goto (-142), 3) := by decide +kernel
theorem dX9_letIn_148 : decode cX9_letIn 148 = .ok (.iload 4, 2) := by decide +kernel
theorem dX9_letIn_150 : decode cX9_letIn 150 = .ok (.bipush (-9), 2) := by decide +kernel
theorem dX9_letIn_152 : decode cX9_letIn 152 = .ok (.if_icmp .ne 15, 3) := by decide +kernel
theorem dX9_letIn_155 : decode cX9_letIn 155 = .ok (.aload_n 0, 1) := by decide +kernel
theorem dX9_letIn_156 : decode cX9_letIn 156 = .ok (.getfield 16, 3) := by decide +kernel
theorem dX9_letIn_159 : decode cX9_letIn 159 = .ok (.iload_n 1, 1) := by decide +kernel
theorem dX9_letIn_160 : decode cX9_letIn 160 = .ok (.bipush 30, 2) := by decide +kernel
theorem dX9_letIn_162 : decode cX9_letIn 162 = .ok (.iadd, 1) := by decide +kernel
theorem dX9_letIn_163 : decode cX9_letIn 163 = .ok (.iload_n 2, 1) := by decide +kernel
theorem dX9_letIn_164 : decode cX9_letIn 164 = .ok (.iadd, 1) := by decide +kernel
theorem dX9_letIn_165 : decode cX9_letIn 165 = .ok (.iconst 1, 1) := by decide +kernel
theorem dX9_letIn_166 : decode cX9_letIn 166 = .ok (.iastore, 1) := by decide +kernel
theorem dX9_letIn_167 : decode cX9_letIn 167 = .ok (.return_, 1) := by decide +kernel
theorem dX9_openGates_0 : decode cX9_openGates 0 = .ok (.iconst 0, 1) := by decide +kernel
theorem dX9_openGates_1 : decode cX9_openGates 1 = .ok (.istore 4, 2) := by decide +kernel
theorem dX9_openGates_3 : decode cX9_openGates 3 = .ok (.iload 4, 2) := by decide +kernel
theorem dX9_openGates_5 : decode cX9_openGates 5 = .ok (.aload_n 0, 1) := by decide +kernel
theorem dX9_openGates_6 : decode cX9_openGates 6 = .ok (.invokevirtual 43, 3) := by decide +kernel
theorem dX9_openGates_9 : decode cX9_openGates 9 = .ok (.if_icmp .ge 116, 3) := by decide +kernel
theorem dX9_openGates_12 : decode cX9_openGates 12 = .ok (.aload_n 0, 1) := by decide +kernel
theorem dX9_openGates_13 : decode cX9_openGates 13 = .ok (.getfield 7, 3) := by decide +kernel
theorem dX9_openGates_16 : decode cX9_openGates 16 = .ok (.bipush 12, 2) := by decide +kernel
theorem dX9_openGates_18 : decode cX9_openGates 18 = .ok (.iload 4, 2) := by decide +kernel
theorem dX9_openGates_20 : decode cX9_openGates 20 = .ok (.iadd, 1) := by decide +kernel
theorem dX9_openGates_21 : decode cX9_openGates 21 = .ok (.iaload, 1) := by decide +kernel
theorem dX9_openGates_22 : decode cX9_openGates 22 = .ok (.istore 5, 2) := by decide +kernel
theorem dX9_openGates_24 : decode cX9_openGates 24 = .ok (.aload_n 0, 1) := by decide +kernel
theorem dX9_openGates_25 : decode cX9_openGates 25 = .ok (.getfield 16, 3) := by decide +kernel
theorem dX9_openGates_28 : decode cX9_openGates 28 = .ok (.iload_n 1, 1) := by decide +kernel
theorem dX9_openGates_29 : decode cX9_openGates 29 = .ok (.bipush 24, 2) := by decide +kernel
theorem dX9_openGates_31 : decode cX9_openGates 31 = .ok (.iadd, 1) := by decide +kernel
theorem dX9_openGates_32 : decode cX9_openGates 32 = .ok (.iload 4, 2) := by decide +kernel
theorem dX9_openGates_34 : decode cX9_openGates 34 = .ok (.iadd, 1) := by decide +kernel
theorem dX9_openGates_35 : decode cX9_openGates 35 = .ok (.iaload, 1) := by decide +kernel
theorem dX9_openGates_36 : decode cX9_openGates 36 = .ok (.istore 6, 2) := by decide +kernel
theorem dX9_openGates_38 : decode cX9_openGates 38 = .ok (.iload 5, 2) := by decide +kernel
theorem dX9_openGates_40 : decode cX9_openGates 40 = .ok (.bipush (-9), 2) := by decide +kernel
theorem dX9_openGates_42 : decode cX9_openGates 42 = .ok (.if_icmp .eq 77, 3) := by decide +kernel
theorem dX9_openGates_45 : decode cX9_openGates 45 = .ok (.aload_n 0, 1) := by decide +kernel
theorem dX9_openGates_46 : decode cX9_openGates 46 = .ok (.getfield 7, 3) := by decide +kernel
theorem dX9_openGates_49 : decode cX9_openGates 49 = .ok (.bipush 18, 2) := by decide +kernel
theorem dX9_openGates_51 : decode cX9_openGates 51 = .ok (.iload 5, 2) := by decide +kernel
theorem dX9_openGates_53 : decode cX9_openGates 53 = .ok (.iadd, 1) := by decide +kernel
theorem dX9_openGates_54 : decode cX9_openGates 54 = .ok (.iaload, 1) := by decide +kernel
theorem dX9_openGates_55 : decode cX9_openGates 55 = .ok (.iload_n 2, 1) := by decide +kernel
theorem dX9_openGates_56 : decode cX9_openGates 56 = .ok (.if_icmp .ne 63, 3) := by decide +kernel
theorem dX9_openGates_59 : decode cX9_openGates 59 = .ok (.iload 6, 2) := by decide +kernel
theorem dX9_openGates_61 : decode cX9_openGates 61 = .ok (.bipush (-9), 2) := by decide +kernel
theorem dX9_openGates_63 : decode cX9_openGates 63 = .ok (.if_icmp .eq 56, 3) := by decide +kernel
theorem dX9_openGates_66 : decode cX9_openGates 66 = .ok (.iload_n 3, 1) := by decide +kernel
theorem dX9_openGates_67 : decode cX9_openGates 67 = .ok (.aload_n 0, 1) := by decide +kernel
theorem dX9_openGates_68 : decode cX9_openGates 68 = .ok (.getfield 7, 3) := by decide +kernel
theorem dX9_openGates_71 : decode cX9_openGates 71 = .ok (.bipush 30, 2) := by decide +kernel
theorem dX9_openGates_73 : decode cX9_openGates 73 = .ok (.iload 5, 2) := by decide +kernel
theorem dX9_openGates_75 : decode cX9_openGates 75 = .ok (.iadd, 1) := by decide +kernel
theorem dX9_openGates_76 : decode cX9_openGates 76 = .ok (.iaload, 1) := by decide +kernel
theorem dX9_openGates_77 : decode cX9_openGates 77 = .ok (.ishr, 1) := by decide +kernel
theorem dX9_openGates_78 : decode cX9_openGates 78 = .ok (.iconst 1, 1) := by decide +kernel
theorem dX9_openGates_79 : decode cX9_openGates 79 = .ok (.iand, 1) := by decide +kernel
theorem dX9_openGates_80 : decode cX9_openGates 80 = .ok (.iconst 1, 1) := by decide +kernel
theorem dX9_openGates_81 : decode cX9_openGates 81 = .ok (.if_icmp .ne 38, 3) := by decide +kernel
theorem dX9_openGates_84 : decode cX9_openGates 84 = .ok (.aload_n 0, 1) := by decide +kernel
theorem dX9_openGates_85 : decode cX9_openGates 85 = .ok (.iload_n 1, 1) := by decide +kernel
theorem dX9_openGates_86 : decode cX9_openGates 86 = .ok (.iload 4, 2) := by decide +kernel
theorem dX9_openGates_88 : decode cX9_openGates 88 = .ok (.invokevirtual 85, 3) := by decide +kernel
theorem dX9_openGates_91 : decode cX9_openGates 91 = .ok (.ifCond .ne 14, 3) := by decide +kernel
theorem dX9_openGates_94 : decode cX9_openGates 94 = .ok (.aload_n 0, 1) := by decide +kernel
theorem dX9_openGates_95 : decode cX9_openGates 95 = .ok (.iload_n 1, 1) := by decide +kernel
theorem dX9_openGates_96 : decode cX9_openGates 96 = .ok (.iload 4, 2) := by decide +kernel
theorem dX9_openGates_98 : decode cX9_openGates 98 = .ok (.iload 6, 2) := by decide +kernel
theorem dX9_openGates_100 : decode cX9_openGates 100 = .ok (.bipush (-9), 2) := by decide +kernel
theorem dX9_openGates_102 : decode cX9_openGates 102 = .ok (.invokevirtual 89, 3) := by decide +kernel
theorem dX9_openGates_105 : decode cX9_openGates 105 = .ok (.aload_n 0, 1) := by decide +kernel
theorem dX9_openGates_106 : decode cX9_openGates 106 = .ok (.getfield 16, 3) := by decide +kernel
theorem dX9_openGates_109 : decode cX9_openGates 109 = .ok (.iload_n 1, 1) := by decide +kernel
theorem dX9_openGates_110 : decode cX9_openGates 110 = .ok (.bipush 24, 2) := by decide +kernel
theorem dX9_openGates_112 : decode cX9_openGates 112 = .ok (.iadd, 1) := by decide +kernel
theorem dX9_openGates_113 : decode cX9_openGates 113 = .ok (.iload 4, 2) := by decide +kernel
theorem dX9_openGates_115 : decode cX9_openGates 115 = .ok (.iadd, 1) := by decide +kernel
theorem dX9_openGates_116 : decode cX9_openGates 116 = .ok (.bipush (-9), 2) := by decide +kernel
theorem dX9_openGates_118 : decode cX9_openGates 118 = .ok (.iastore, 1) := by decide +kernel
theorem dX9_openGates_119 : decode cX9_openGates 119 = .ok (.iinc 4 1, 3) := by decide +kernel
theorem dX9_openGates_122 : decode cX9_openGates 122 = .ok (.goto (-119), 3) := by decide +kernel
theorem dX9_openGates_125 : decode cX9_openGates 125 = .ok (.return_, 1) := by decide +kernel
theorem dX9_writeTo_0 : decode cX9_writeTo 0 = .ok (.aload_n 0, 1) := by decide +kernel
theorem dX9_writeTo_1 : decode cX9_writeTo 1 = .ok (.iload_n 2, 1) := by decide +kernel
theorem dX9_writeTo_2 : decode cX9_writeTo 2 = .ok (.invokevirtual 64, 3) := by decide +kernel
theorem dX9_writeTo_5 : decode cX9_writeTo 5 = .ok (.istore 4, 2) := by decide +kernel
theorem dX9_writeTo_7 : decode cX9_writeTo 7 = .ok (.iload 4, 2) := by decide +kernel
theorem dX9_writeTo_9 : decode cX9_writeTo 9 = .ok (.bipush (-9), 2) := by decide +kernel
theorem dX9_writeTo_11 : decode cX9_writeTo 11 = .ok (.if_icmp .eq 17, 3) := by decide +kernel
theorem dX9_writeTo_14 : decode cX9_writeTo 14 = .ok (.aload_n 0, 1) := by decide +kernel
theorem dX9_writeTo_15 : decode cX9_writeTo 15 = .ok (.iload_n 1, 1) := by decide +kernel
theorem dX9_writeTo_16 : decode cX9_writeTo 16 = .ok (.aload_n 0, 1) := by decide +kernel
theorem dX9_writeTo_17 : decode cX9_writeTo 17 = .ok (.iload 4, 2) := by decide +kernel
theorem dX9_writeTo_19 : decode cX9_writeTo 19 = .ok (.invokevirtual 67, 3) := by decide +kernel
theorem dX9_writeTo_22 : decode cX9_writeTo 22 = .ok (.invokevirtual 85, 3) := by decide +kernel
theorem dX9_writeTo_25 : decode cX9_writeTo 25 = .ok (.ifCond .eq 4, 3) := by decide +kernel
theorem dX9_writeTo_28 : decode cX9_writeTo 28 = .ok (.return_, 1) := by decide +kernel
theorem dX9_writeTo_29 : decode cX9_writeTo 29 = .ok (.aload_n 0, 1) := by decide +kernel
theorem dX9_writeTo_30 : decode cX9_writeTo 30 = .ok (.iload 4, 2) := by decide +kernel
theorem dX9_writeTo_32 : decode cX9_writeTo 32 = .ok (.invokevirtual 67, 3) := by decide +kernel
theorem dX9_writeTo_35 : decode cX9_writeTo 35 = .ok (.istore 5, 2) := by decide +kernel
theorem dX9_writeTo_37 : decode cX9_writeTo 37 = .ok (.iload 4, 2) := by decide +kernel
theorem dX9_writeTo_39 : decode cX9_writeTo 39 = .ok (.bipush 100, 2) := by decide +kernel
theorem dX9_writeTo_41 : decode cX9_writeTo 41 = .ok (.if_icmp .ge 32, 3) := by decide +kernel
theorem dX9_writeTo_44 : decode cX9_writeTo 44 = .ok (.aload_n 0, 1) := by decide +kernel
theorem dX9_writeTo_45 : decode cX9_writeTo 45 = .ok (.getfield 7, 3) := by decide +kernel
theorem dX9_writeTo_48 : decode cX9_writeTo 48 = .ok (.bipush 12, 2) := by decide +kernel
theorem dX9_writeTo_50 : decode cX9_writeTo 50 = .ok (.iload 5, 2) := by decide +kernel
theorem dX9_writeTo_52 : decode cX9_writeTo 52 = .ok (.iadd, 1) := by decide +kernel
theorem dX9_writeTo_53 : decode cX9_writeTo 53 = .ok (.iaload, 1) := by decide +kernel
theorem dX9_writeTo_54 : decode cX9_writeTo 54 = .ok (.bipush (-9), 2) := by decide +kernel
theorem dX9_writeTo_56 : decode cX9_writeTo 56 = .ok (.if_icmp .eq 17, 3) := by decide +kernel
theorem dX9_writeTo_59 : decode cX9_writeTo 59 = .ok (.aload_n 0, 1) := by decide +kernel
theorem dX9_writeTo_60 : decode cX9_writeTo 60 = .ok (.getfield 16, 3) := by decide +kernel
theorem dX9_writeTo_63 : decode cX9_writeTo 63 = .ok (.iload_n 1, 1) := by decide +kernel
theorem dX9_writeTo_64 : decode cX9_writeTo 64 = .ok (.bipush 24, 2) := by decide +kernel
theorem dX9_writeTo_66 : decode cX9_writeTo 66 = .ok (.iadd, 1) := by decide +kernel
theorem dX9_writeTo_67 : decode cX9_writeTo 67 = .ok (.iload 5, 2) := by decide +kernel
theorem dX9_writeTo_69 : decode cX9_writeTo 69 = .ok (.iadd, 1) := by decide +kernel
theorem dX9_writeTo_70 : decode cX9_writeTo 70 = .ok (.iload_n 3, 1) := by decide +kernel
theorem dX9_writeTo_71 : decode cX9_writeTo 71 = .ok (.iastore, 1) := by decide +kernel
theorem dX9_writeTo_72 : decode cX9_writeTo 72 = .ok (.return_, 1) := by decide +kernel
theorem dX9_writeTo_73 : decode cX9_writeTo 73 = .ok (.aload_n 0, 1) := by decide +kernel
theorem dX9_writeTo_74 : decode cX9_writeTo 74 = .ok (.iload_n 1, 1) := by decide +kernel
theorem dX9_writeTo_75 : decode cX9_writeTo 75 = .ok (.iload 5, 2) := by decide +kernel
theorem dX9_writeTo_77 : decode cX9_writeTo 77 = .ok (.iload_n 3, 1) := by decide +kernel
theorem dX9_writeTo_78 : decode cX9_writeTo 78 = .ok (.iload 4, 2) := by decide +kernel
theorem dX9_writeTo_80 : decode cX9_writeTo 80 = .ok (.bipush 100, 2) := by decide +kernel
theorem dX9_writeTo_82 : decode cX9_writeTo 82 = .ok (.if_icmp .ge 8, 3) := by decide +kernel
theorem dX9_writeTo_85 : decode cX9_writeTo 85 = .ok (.bipush (-9), 2) := by decide +kernel
theorem dX9_writeTo_87 : decode cX9_writeTo 87 = .ok (.goto 16, 3) := by decide +kernel
theorem dX9_writeTo_90 : decode cX9_writeTo 90 = .ok (.aload_n 0, 1) := by decide +kernel
theorem dX9_writeTo_91 : decode cX9_writeTo 91 = .ok (.getfield 7, 3) := by decide +kernel
theorem dX9_writeTo_94 : decode cX9_writeTo 94 = .ok (.bipush 86, 2) := by decide +kernel
theorem dX9_writeTo_96 : decode cX9_writeTo 96 = .ok (.iload 4, 2) := by decide +kernel
theorem dX9_writeTo_98 : decode cX9_writeTo 98 = .ok (.iadd, 1) := by decide +kernel
theorem dX9_writeTo_99 : decode cX9_writeTo 99 = .ok (.bipush 100, 2) := by decide +kernel
theorem dX9_writeTo_101 : decode cX9_writeTo 101 = .ok (.isub, 1) := by decide +kernel
theorem dX9_writeTo_102 : decode cX9_writeTo 102 = .ok (.iaload, 1) := by decide +kernel
theorem dX9_writeTo_103 : decode cX9_writeTo 103 = .ok (.invokevirtual 89, 3) := by decide +kernel
theorem dX9_writeTo_106 : decode cX9_writeTo 106 = .ok (.aload_n 0, 1) := by decide +kernel
theorem dX9_writeTo_107 : decode cX9_writeTo 107 = .ok (.iload_n 1, 1) := by decide +kernel
theorem dX9_writeTo_108 : decode cX9_writeTo 108 = .ok (.iload 5, 2) := by decide +kernel
theorem dX9_writeTo_110 : decode cX9_writeTo 110 = .ok (.iload_n 3, 1) := by decide +kernel
theorem dX9_writeTo_111 : decode cX9_writeTo 111 = .ok (.invokevirtual 93, 3) := by decide +kernel
theorem dX9_writeTo_114 : decode cX9_writeTo 114 = .ok (.return_, 1) := by decide +kernel
theorem dX9_copyMachine_0 : decode cX9_copyMachine 0 = .ok (.iconst 0, 1) := by decide +kernel
theorem dX9_copyMachine_1 : decode cX9_copyMachine 1 = .ok (.istore_n 3, 1) := by decide +kernel
theorem dX9_copyMachine_2 : decode cX9_copyMachine 2 = .ok (.iload_n 3, 1) := by decide +kernel
theorem dX9_copyMachine_3 : decode cX9_copyMachine 3 = .ok (.bipush 36, 2) := by decide +kernel
theorem dX9_copyMachine_5 : decode cX9_copyMachine 5 = .ok (.if_icmp .ge 25, 3) := by decide +kernel
theorem dX9_copyMachine_8 : decode cX9_copyMachine 8 = .ok (.aload_n 0, 1) := by decide +kernel
theorem dX9_copyMachine_9 : decode cX9_copyMachine 9 = .ok (.getfield 16, 3) := by decide +kernel
theorem dX9_copyMachine_12 : decode cX9_copyMachine 12 = .ok (.iload_n 2, 1) := by decide +kernel
theorem dX9_copyMachine_13 : decode cX9_copyMachine 13 = .ok (.iload_n 3, 1) := by decide +kernel
theorem dX9_copyMachine_14 : decode cX9_copyMachine 14 = .ok (.iadd, 1) := by decide +kernel
theorem dX9_copyMachine_15 : decode cX9_copyMachine 15 = .ok (.aload_n 0, 1) := by decide +kernel
theorem dX9_copyMachine_16 : decode cX9_copyMachine 16 = .ok (.getfield 16, 3) := by decide +kernel
theorem dX9_copyMachine_19 : decode cX9_copyMachine 19 = .ok (.iload_n 1, 1) := by decide +kernel
theorem dX9_copyMachine_20 : decode cX9_copyMachine 20 = .ok (.iload_n 3, 1) := by decide +kernel
theorem dX9_copyMachine_21 : decode cX9_copyMachine 21 = .ok (.iadd, 1) := by decide +kernel
theorem dX9_copyMachine_22 : decode cX9_copyMachine 22 = .ok (.iaload, 1) := by decide +kernel
theorem dX9_copyMachine_23 : decode cX9_copyMachine 23 = .ok (.iastore, 1) := by decide +kernel
theorem dX9_copyMachine_24 : decode cX9_copyMachine 24 = .ok (.iinc 3 1, 3) := by decide +kernel
theorem dX9_copyMachine_27 : decode cX9_copyMachine 27 = .ok (.goto (-25), 3) := by decide +kernel
theorem dX9_copyMachine_30 : decode cX9_copyMachine 30 = .ok (.return_, 1) := by decide +kernel
theorem dX9_otherFields_0 : decode cX9_otherFields 0 = .ok (.iconst 0, 1) := by decide +kernel
theorem dX9_otherFields_1 : decode cX9_otherFields 1 = .ok (.istore_n 3, 1) := by decide +kernel
theorem dX9_otherFields_2 : decode cX9_otherFields 2 = .ok (.iconst 0, 1) := by decide +kernel
theorem dX9_otherFields_3 : decode cX9_otherFields 3 = .ok (.istore 4, 2) := by decide +kernel
theorem dX9_otherFields_5 : decode cX9_otherFields 5 = .ok (.iload 4, 2) := by decide +kernel
theorem dX9_otherFields_7 : decode cX9_otherFields 7 = .ok (.aload_n 0, 1) := by decide +kernel
theorem dX9_otherFields_8 : decode cX9_otherFields 8 = .ok (.invokevirtual 35, 3) := by decide +kernel
theorem dX9_otherFields_11 : decode cX9_otherFields 11 = .ok (.if_icmp .ge 41, 3) := by decide +kernel
theorem dX9_otherFields_14 : decode cX9_otherFields 14 = .ok (.iload_n 3, 1) := by decide +kernel
theorem dX9_otherFields_15 : decode cX9_otherFields 15 = .ok (.aload_n 0, 1) := by decide +kernel
theorem dX9_otherFields_16 : decode cX9_otherFields 16 = .ok (.getfield 16, 3) := by decide +kernel
theorem dX9_otherFields_19 : decode cX9_otherFields 19 = .ok (.iload_n 1, 1) := by decide +kernel
theorem dX9_otherFields_20 : decode cX9_otherFields 20 = .ok (.iload 4, 2) := by decide +kernel
theorem dX9_otherFields_22 : decode cX9_otherFields 22 = .ok (.iadd, 1) := by decide +kernel
theorem dX9_otherFields_23 : decode cX9_otherFields 23 = .ok (.iaload, 1) := by decide +kernel
theorem dX9_otherFields_24 : decode cX9_otherFields 24 = .ok (.aload_n 0, 1) := by decide +kernel
theorem dX9_otherFields_25 : decode cX9_otherFields 25 = .ok (.getfield 16, 3) := by decide +kernel
theorem dX9_otherFields_28 : decode cX9_otherFields 28 = .ok (.iload_n 2, 1) := by decide +kernel
theorem dX9_otherFields_29 : decode cX9_otherFields 29 = .ok (.iload 4, 2) := by decide +kernel
theorem dX9_otherFields_31 : decode cX9_otherFields 31 = .ok (.iadd, 1) := by decide +kernel
theorem dX9_otherFields_32 : decode cX9_otherFields 32 = .ok (.iaload, 1) := by decide +kernel
theorem dX9_otherFields_33 : decode cX9_otherFields 33 = .ok (.if_icmp .ne 7, 3) := by decide +kernel
theorem dX9_otherFields_36 : decode cX9_otherFields 36 = .ok (.iconst 0, 1) := by decide +kernel
theorem dX9_otherFields_37 : decode cX9_otherFields 37 = .ok (.goto 7, 3) := by decide +kernel
theorem dX9_otherFields_40 : decode cX9_otherFields 40 = .ok (.iconst 1, 1) := by decide +kernel
theorem dX9_otherFields_41 : decode cX9_otherFields 41 = .ok (.iload 4, 2) := by decide +kernel
theorem dX9_otherFields_43 : decode cX9_otherFields 43 = .ok (.ishl, 1) := by decide +kernel
theorem dX9_otherFields_44 : decode cX9_otherFields 44 = .ok (.ior, 1) := by decide +kernel
theorem dX9_otherFields_45 : decode cX9_otherFields 45 = .ok (.istore_n 3, 1) := by decide +kernel
theorem dX9_otherFields_46 : decode cX9_otherFields 46 = .ok (.iinc 4 1, 3) := by decide +kernel
theorem dX9_otherFields_49 : decode cX9_otherFields 49 = .ok (.goto (-44), 3) := by decide +kernel
theorem dX9_otherFields_52 : decode cX9_otherFields 52 = .ok (.iload_n 3, 1) := by decide +kernel
theorem dX9_otherFields_53 : decode cX9_otherFields 53 = .ok (.ireturn, 1) := by decide +kernel
theorem dX9_note_0 : decode cX9_note 0 = .ok (.aload_n 0, 1) := by decide +kernel
theorem dX9_note_1 : decode cX9_note 1 = .ok (.getfield 60, 3) := by decide +kernel
theorem dX9_note_4 : decode cX9_note 4 = .ok (.bipush 6, 2) := by decide +kernel
theorem dX9_note_6 : decode cX9_note 6 = .ok (.if_icmp .ne 44, 3) := by decide +kernel
theorem dX9_note_9 : decode cX9_note 9 = .ok (.iconst 0, 1) := by decide +kernel
theorem dX9_note_10 : decode cX9_note 10 = .ok (.istore_n 1, 1) := by decide +kernel
theorem dX9_note_11 : decode cX9_note 11 = .ok (.iload_n 1, 1) := by decide +kernel
theorem dX9_note_12 : decode cX9_note 12 = .ok (.sipush 675, 3) := by decide +kernel
theorem dX9_note_15 : decode cX9_note 15 = .ok (.if_icmp .ge 25, 3) := by decide +kernel
theorem dX9_note_18 : decode cX9_note 18 = .ok (.aload_n 0, 1) := by decide +kernel
theorem dX9_note_19 : decode cX9_note 19 = .ok (.getfield 19, 3) := by decide +kernel
theorem dX9_note_22 : decode cX9_note 22 = .ok (.iload_n 1, 1) := by decide +kernel
theorem dX9_note_23 : decode cX9_note 23 = .ok (.aload_n 0, 1) := by decide +kernel
theorem dX9_note_24 : decode cX9_note 24 = .ok (.getfield 19, 3) := by decide +kernel
theorem dX9_note_27 : decode cX9_note 27 = .ok (.iload_n 1, 1) := by decide +kernel
theorem dX9_note_28 : decode cX9_note 28 = .ok (.sipush 135, 3) := by decide +kernel
theorem dX9_note_31 : decode cX9_note 31 = .ok (.iadd, 1) := by decide +kernel
theorem dX9_note_32 : decode cX9_note 32 = .ok (.iaload, 1) := by decide +kernel
theorem dX9_note_33 : decode cX9_note 33 = .ok (.iastore, 1) := by decide +kernel
theorem dX9_note_34 : decode cX9_note 34 = .ok (.iinc 1 1, 3) := by decide +kernel
theorem dX9_note_37 : decode cX9_note 37 = .ok (.goto (-26), 3) := by decide +kernel
theorem dX9_note_40 : decode cX9_note 40 = .ok (.aload_n 0, 1) := by decide +kernel
theorem dX9_note_41 : decode cX9_note 41 = .ok (.dup, 1) := by decide +kernel
theorem dX9_note_42 : decode cX9_note 42 = .ok (.getfield 60, 3) := by decide +kernel
theorem dX9_note_45 : decode cX9_note 45 = .ok (.iconst 1, 1) := by decide +kernel
theorem dX9_note_46 : decode cX9_note 46 = .ok (.isub, 1) := by decide +kernel
theorem dX9_note_47 : decode cX9_note 47 = .ok (.putfield 60, 3) := by decide +kernel
theorem dX9_note_50 : decode cX9_note 50 = .ok (.iconst 0, 1) := by decide +kernel
theorem dX9_note_51 : decode cX9_note 51 = .ok (.istore_n 1, 1) := by decide +kernel
theorem dX9_note_52 : decode cX9_note 52 = .ok (.iload_n 1, 1) := by decide +kernel
theorem dX9_note_53 : decode cX9_note 53 = .ok (.sipush 135, 3) := by decide +kernel
theorem dX9_note_56 : decode cX9_note 56 = .ok (.if_icmp .ge 30, 3) := by decide +kernel
theorem dX9_note_59 : decode cX9_note 59 = .ok (.aload_n 0, 1) := by decide +kernel
theorem dX9_note_60 : decode cX9_note 60 = .ok (.getfield 19, 3) := by decide +kernel
theorem dX9_note_63 : decode cX9_note 63 = .ok (.sipush 135, 3) := by decide +kernel
theorem dX9_note_66 : decode cX9_note 66 = .ok (.aload_n 0, 1) := by decide +kernel
theorem dX9_note_67 : decode cX9_note 67 = .ok (.getfield 60, 3) := by decide +kernel
theorem dX9_note_70 : decode cX9_note 70 = .ok (.imul, 1) := by decide +kernel
theorem dX9_note_71 : decode cX9_note 71 = .ok (.iload_n 1, 1) := by decide +kernel
theorem dX9_note_72 : decode cX9_note 72 = .ok (.iadd, 1) := by decide +kernel
theorem dX9_note_73 : decode cX9_note 73 = .ok (.aload_n 0, 1) := by decide +kernel
theorem dX9_note_74 : decode cX9_note 74 = .ok (.getfield 16, 3) := by decide +kernel
theorem dX9_note_77 : decode cX9_note 77 = .ok (.iload_n 1, 1) := by decide +kernel
theorem dX9_note_78 : decode cX9_note 78 = .ok (.iaload, 1) := by decide +kernel
theorem dX9_note_79 : decode cX9_note 79 = .ok (.iastore, 1) := by decide +kernel
theorem dX9_note_80 : decode cX9_note 80 = .ok (.iinc 1 1, 3) := by decide +kernel
theorem dX9_note_83 : decode cX9_note 83 = .ok (.goto (-31), 3) := by decide +kernel
theorem dX9_note_86 : decode cX9_note 86 = .ok (.aload_n 0, 1) := by decide +kernel
theorem dX9_note_87 : decode cX9_note 87 = .ok (.dup, 1) := by decide +kernel
theorem dX9_note_88 : decode cX9_note 88 = .ok (.getfield 60, 3) := by decide +kernel
theorem dX9_note_91 : decode cX9_note 91 = .ok (.iconst 1, 1) := by decide +kernel
theorem dX9_note_92 : decode cX9_note 92 = .ok (.iadd, 1) := by decide +kernel
theorem dX9_note_93 : decode cX9_note 93 = .ok (.putfield 60, 3) := by decide +kernel
theorem dX9_note_96 : decode cX9_note 96 = .ok (.return_, 1) := by decide +kernel
theorem dX9_resets_0 : decode cX9_resets 0 = .ok (.aload_n 0, 1) := by decide +kernel
theorem dX9_resets_1 : decode cX9_resets 1 = .ok (.invokevirtual 97, 3) := by decide +kernel
theorem dX9_resets_4 : decode cX9_resets 4 = .ok (.aload_n 0, 1) := by decide +kernel
theorem dX9_resets_5 : decode cX9_resets 5 = .ok (.getfield 16, 3) := by decide +kernel
theorem dX9_resets_8 : decode cX9_resets 8 = .ok (.bipush 72, 2) := by decide +kernel
theorem dX9_resets_10 : decode cX9_resets 10 = .ok (.iaload, 1) := by decide +kernel
theorem dX9_resets_11 : decode cX9_resets 11 = .ok (.istore_n 1, 1) := by decide +kernel
theorem dX9_resets_12 : decode cX9_resets 12 = .ok (.aload_n 0, 1) := by decide +kernel
theorem dX9_resets_13 : decode cX9_resets 13 = .ok (.iconst 0, 1) := by decide +kernel
theorem dX9_resets_14 : decode cX9_resets 14 = .ok (.invokevirtual 54, 3) := by decide +kernel
theorem dX9_resets_17 : decode cX9_resets 17 = .ok (.aload_n 0, 1) := by decide +kernel
theorem dX9_resets_18 : decode cX9_resets 18 = .ok (.bipush 36, 2) := by decide +kernel
theorem dX9_resets_20 : decode cX9_resets 20 = .ok (.invokevirtual 54, 3) := by decide +kernel
theorem dX9_resets_23 : decode cX9_resets 23 = .ok (.aload_n 0, 1) := by decide +kernel
theorem dX9_resets_24 : decode cX9_resets 24 = .ok (.invokevirtual 57, 3) := by decide +kernel
theorem dX9_resets_27 : decode cX9_resets 27 = .ok (.iload_n 1, 1) := by decide +kernel
theorem dX9_resets_28 : decode cX9_resets 28 = .ok (.ireturn, 1) := by decide +kernel
theorem dX9_logs_0 : decode cX9_logs 0 = .ok (.bipush 73, 2) := by decide +kernel
theorem dX9_logs_2 : decode cX9_logs 2 = .ok (.iconst 3, 1) := by decide +kernel
theorem dX9_logs_3 : decode cX9_logs 3 = .ok (.aload_n 0, 1) := by decide +kernel
theorem dX9_logs_4 : decode cX9_logs 4 = .ok (.getfield 16, 3) := by decide +kernel
theorem dX9_logs_7 : decode cX9_logs 7 = .ok (.bipush 72, 2) := by decide +kernel
theorem dX9_logs_9 : decode cX9_logs 9 = .ok (.iaload, 1) := by decide +kernel
theorem dX9_logs_10 : decode cX9_logs 10 = .ok (.imul, 1) := by decide +kernel
theorem dX9_logs_11 : decode cX9_logs 11 = .ok (.iadd, 1) := by decide +kernel
theorem dX9_logs_12 : decode cX9_logs 12 = .ok (.istore 4, 2) := by decide +kernel
theorem dX9_logs_14 : decode cX9_logs 14 = .ok (.aload_n 0, 1) := by decide +kernel
theorem dX9_logs_15 : decode cX9_logs 15 = .ok (.getfield 16, 3) := by decide +kernel
theorem dX9_logs_18 : decode cX9_logs 18 = .ok (.iload 4, 2) := by decide +kernel
theorem dX9_logs_20 : decode cX9_logs 20 = .ok (.iload_n 1, 1) := by decide +kernel
theorem dX9_logs_21 : decode cX9_logs 21 = .ok (.iastore, 1) := by decide +kernel
theorem dX9_logs_22 : decode cX9_logs 22 = .ok (.aload_n 0, 1) := by decide +kernel
theorem dX9_logs_23 : decode cX9_logs 23 = .ok (.getfield 16, 3) := by decide +kernel
theorem dX9_logs_26 : decode cX9_logs 26 = .ok (.iload 4, 2) := by decide +kernel
theorem dX9_logs_28 : decode cX9_logs 28 = .ok (.iconst 1, 1) := by decide +kernel
theorem dX9_logs_29 : decode cX9_logs 29 = .ok (.iadd, 1) := by decide +kernel
theorem dX9_logs_30 : decode cX9_logs 30 = .ok (.iload_n 2, 1) := by decide +kernel
theorem dX9_logs_31 : decode cX9_logs 31 = .ok (.iastore, 1) := by decide +kernel
theorem dX9_logs_32 : decode cX9_logs 32 = .ok (.aload_n 0, 1) := by decide +kernel
theorem dX9_logs_33 : decode cX9_logs 33 = .ok (.getfield 16, 3) := by decide +kernel
theorem dX9_logs_36 : decode cX9_logs 36 = .ok (.iload 4, 2) := by decide +kernel
theorem dX9_logs_38 : decode cX9_logs 38 = .ok (.iconst 2, 1) := by decide +kernel
theorem dX9_logs_39 : decode cX9_logs 39 = .ok (.iadd, 1) := by decide +kernel
theorem dX9_logs_40 : decode cX9_logs 40 = .ok (.iload_n 3, 1) := by decide +kernel
theorem dX9_logs_41 : decode cX9_logs 41 = .ok (.iastore, 1) := by decide +kernel
theorem dX9_logs_42 : decode cX9_logs 42 = .ok (.aload_n 0, 1) := by decide +kernel
theorem dX9_logs_43 : decode cX9_logs 43 = .ok (.getfield 16, 3) := by decide +kernel
theorem dX9_logs_46 : decode cX9_logs 46 = .ok (.bipush 72, 2) := by decide +kernel
theorem dX9_logs_48 : decode cX9_logs 48 = .ok (.dup2, 1) := by decide +kernel
theorem dX9_logs_49 : decode cX9_logs 49 = .ok (.iaload, 1) := by decide +kernel
theorem dX9_logs_50 : decode cX9_logs 50 = .ok (.iconst 1, 1) := by decide +kernel
theorem dX9_logs_51 : decode cX9_logs 51 = .ok (.iadd, 1) := by decide +kernel
theorem dX9_logs_52 : decode cX9_logs 52 = .ok (.iastore, 1) := by decide +kernel
theorem dX9_logs_53 : decode cX9_logs 53 = .ok (.return_, 1) := by decide +kernel
