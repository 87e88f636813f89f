theorem dX9_reads_0 : decode cX9_reads 0 = .ok (.iload_n 1, 1) := by decide +kernel
theorem dX9_reads_1 : decode cX9_reads 1 = .ok (.iconst 0, 1) := by decide +kernel
theorem dX9_reads_2 : decode cX9_reads 2 = .ok (.bipush 15, 2) := by decide +kernel
theorem dX9_reads_4 : decode cX9_reads 4 = .ok (.invokestatic 39, 3) := by decide +kernel
theorem dX9_reads_7 : decode cX9_reads 7 = .ok (.ifCond .ne 5, 3) := by decide +kernel
theorem dX9_reads_10 : decode cX9_reads 10 = .ok (.iconst (-1), 1) := by decide +kernel
theorem dX9_reads_11 : decode cX9_reads 11 = .ok (.ireturn, 1) := by decide +kernel
theorem dX9_reads_12 : decode cX9_reads 12 = .ok (.aload_n 0, 1) := by decide +kernel
theorem dX9_reads_13 : decode cX9_reads 13 = .ok (.getfield 16, 3) := by decide +kernel
theorem dX9_reads_16 : decode cX9_reads 16 = .ok (.bipush 72, 2) := by decide +kernel
theorem dX9_reads_18 : decode cX9_reads 18 = .ok (.iaload, 1) := by decide +kernel
theorem dX9_reads_19 : decode cX9_reads 19 = .ok (.bipush 20, 2) := by decide +kernel
theorem dX9_reads_21 : decode cX9_reads 21 = .ok (.if_icmp .ne 6, 3) := by decide +kernel
theorem dX9_reads_24 : decode cX9_reads 24 = .ok (.bipush (-3), 2) := by decide +kernel
theorem dX9_reads_26 : decode cX9_reads 26 = .ok (.ireturn, 1) := by decide +kernel
theorem dX9_reads_27 : decode cX9_reads 27 = .ok (.aload_n 0, 1) := by decide +kernel
theorem dX9_reads_28 : decode cX9_reads 28 = .ok (.invokevirtual 97, 3) := by decide +kernel
theorem dX9_reads_31 : decode cX9_reads 31 = .ok (.aload_n 0, 1) := by decide +kernel
theorem dX9_reads_32 : decode cX9_reads 32 = .ok (.iload_n 1, 1) := by decide +kernel
theorem dX9_reads_33 : decode cX9_reads 33 = .ok (.invokevirtual 64, 3) := by decide +kernel
theorem dX9_reads_36 : decode cX9_reads 36 = .ok (.istore_n 2, 1) := by decide +kernel
theorem dX9_reads_37 : decode cX9_reads 37 = .ok (.aload_n 0, 1) := by decide +kernel
theorem dX9_reads_38 : decode cX9_reads 38 = .ok (.bipush 36, 2) := by decide +kernel
theorem dX9_reads_40 : decode cX9_reads 40 = .ok (.iload_n 1, 1) := by decide +kernel
theorem dX9_reads_41 : decode cX9_reads 41 = .ok (.invokevirtual 74, 3) := by decide +kernel
theorem dX9_reads_44 : decode cX9_reads 44 = .ok (.istore_n 3, 1) := by decide +kernel
theorem dX9_reads_45 : decode cX9_reads 45 = .ok (.aload_n 0, 1) := by decide +kernel
theorem dX9_reads_46 : decode cX9_reads 46 = .ok (.iconst 0, 1) := by decide +kernel
theorem dX9_reads_47 : decode cX9_reads 47 = .ok (.iload_n 1, 1) := by decide +kernel
theorem dX9_reads_48 : decode cX9_reads 48 = .ok (.invokevirtual 100, 3) := by decide +kernel
theorem dX9_reads_51 : decode cX9_reads 51 = .ok (.istore 4, 2) := by decide +kernel
theorem dX9_reads_53 : decode cX9_reads 53 = .ok (.iconst 0, 1) := by decide +kernel
theorem dX9_reads_54 : decode cX9_reads 54 = .ok (.istore 5, 2) := by decide +kernel
theorem dX9_reads_56 : decode cX9_reads 56 = .ok (.iload 5, 2) := by decide +kernel
theorem dX9_reads_58 : decode cX9_reads 58 = .ok (.aload_n 0, 1) := by decide +kernel
theorem dX9_reads_59 : decode cX9_reads 59 = .ok (.invokevirtual 35, 3) := by decide +kernel
theorem dX9_reads_62 : decode cX9_reads 62 = .ok (.if_icmp .ge 77, 3) := by decide +kernel
theorem dX9_reads_65 : decode cX9_reads 65 = .ok (.iload_n 2, 1) := by decide +kernel
theorem dX9_reads_66 : decode cX9_reads 66 = .ok (.bipush (-9), 2) := by decide +kernel
theorem dX9_reads_68 : decode cX9_reads 68 = .ok (.if_icmp .eq 71, 3) := by decide +kernel
theorem dX9_reads_71 : decode cX9_reads 71 = .ok (.aload_n 0, 1) := by decide +kernel
theorem dX9_reads_72 : decode cX9_reads 72 = .ok (.getfield 7, 3) := by decide +kernel
theorem dX9_reads_75 : decode cX9_reads 75 = .ok (.bipush 18, 2) := by decide +kernel
theorem dX9_reads_77 : decode cX9_reads 77 = .ok (.iload 5, 2) := by decide +kernel
theorem dX9_reads_79 : decode cX9_reads 79 = .ok (.iadd, 1) := by decide +kernel
theorem dX9_reads_80 : decode cX9_reads 80 = .ok (.iaload, 1) := by decide +kernel
theorem dX9_reads_81 : decode cX9_reads 81 = .ok (.aload_n 0, 1) := by decide +kernel
theorem dX9_reads_82 : decode cX9_reads 82 = .ok (.iload_n 2, 1) := by decide +kernel
theorem dX9_reads_83 : decode cX9_reads 83 = .ok (.invokevirtual 67, 3) := by decide +kernel
theorem dX9_reads_86 : decode cX9_reads 86 = .ok (.if_icmp .ne 47, 3) := by decide +kernel
theorem dX9_reads_89 : decode cX9_reads 89 = .ok (.aload_n 0, 1) := by decide +kernel
theorem dX9_reads_90 : decode cX9_reads 90 = .ok (.getfield 16, 3) := by decide +kernel
theorem dX9_reads_93 : decode cX9_reads 93 = .ok (.bipush 48, 2) := by decide +kernel
theorem dX9_reads_95 : decode cX9_reads 95 = .ok (.iload 5, 2) := by decide +kernel
theorem dX9_reads_97 : decode cX9_reads 97 = .ok (.iadd, 1) := by decide +kernel
theorem dX9_reads_98 : decode cX9_reads 98 = .ok (.iaload, 1) := by decide +kernel
theorem dX9_reads_99 : decode cX9_reads 99 = .ok (.iconst 2, 1) := by decide +kernel
theorem dX9_reads_100 : decode cX9_reads 100 = .ok (.if_icmp .eq 33, 3) := by decide +kernel
theorem dX9_reads_103 : decode cX9_reads 103 = .ok (.aload_n 0, 1) := by decide +kernel
theorem dX9_reads_104 : decode cX9_reads 104 = .ok (.getfield 16, 3) := by decide +kernel
theorem dX9_reads_107 : decode cX9_reads 107 = .ok (.bipush 36, 2) := by decide +kernel
theorem dX9_reads_109 : decode cX9_reads 109 = .ok (.iload 5, 2) := by decide +kernel
theorem dX9_reads_111 : decode cX9_reads 111 = .ok (.iadd, 1) := by decide +kernel
theorem dX9_reads_112 : decode cX9_reads 112 = .ok (.iload 4, 2) := by decide +kernel
theorem dX9_reads_114 : decode cX9_reads 114 = .ok (.aload_n 0, 1) := by decide +kernel
theorem dX9_reads_115 : decode cX9_reads 115 = .ok (.getfield 7, 3) := by decide +kernel
theorem dX9_reads_118 : decode cX9_reads 118 = .ok (.bipush 30, 2) := by decide +kernel
theorem dX9_reads_120 : decode cX9_reads 120 = .ok (.iload 5, 2) := by decide +kernel
theorem dX9_reads_122 : decode cX9_reads 122 = .ok (.iadd, 1) := by decide +kernel
theorem dX9_reads_123 : decode cX9_reads 123 = .ok (.iaload, 1) := by decide +kernel
theorem dX9_reads_124 : decode cX9_reads 124 = .ok (.ishr, 1) := by decide +kernel
theorem dX9_reads_125 : decode cX9_reads 125 = .ok (.aload_n 0, 1) := by decide +kernel
theorem dX9_reads_126 : decode cX9_reads 126 = .ok (.iload 5, 2) := by decide +kernel
theorem dX9_reads_128 : decode cX9_reads 128 = .ok (.invokevirtual 46, 3) := by decide +kernel
theorem dX9_reads_131 : decode cX9_reads 131 = .ok (.iand, 1) := by decide +kernel
theorem dX9_reads_132 : decode cX9_reads 132 = .ok (.iastore, 1) := by decide +kernel
theorem dX9_reads_133 : decode cX9_reads 133 = .ok (.iinc 5 1, 3) := by decide +kernel
theorem dX9_reads_136 : decode cX9_reads 136 = .ok (.goto (-80), 3) := by decide +kernel
theorem dX9_reads_139 : decode cX9_reads 139 = .ok (.iload_n 2, 1) := by decide +kernel
theorem dX9_reads_140 : decode cX9_reads 140 = .ok (.bipush (-9), 2) := by decide +kernel
theorem dX9_reads_142 : decode cX9_reads 142 = .ok (.if_icmp .eq 10, 3) := by decide +kernel
theorem dX9_reads_145 : decode cX9_reads 145 = .ok (.aload_n 0, 1) := by decide +kernel
theorem dX9_reads_146 : decode cX9_reads 146 = .ok (.bipush 36, 2) := by decide +kernel
theorem dX9_reads_148 : decode cX9_reads 148 = .ok (.iload_n 2, 1) := by decide +kernel
theorem dX9_reads_149 : decode cX9_reads 149 = .ok (.invokevirtual 77, 3) := by decide +kernel
theorem dX9_reads_152 : decode cX9_reads 152 = .ok (.aload_n 0, 1) := by decide +kernel
theorem dX9_reads_153 : decode cX9_reads 153 = .ok (.getfield 16, 3) := by decide +kernel
theorem dX9_reads_156 : decode cX9_reads 156 = .ok (.sipush 134, 3) := by decide +kernel
theorem dX9_reads_159 : decode cX9_reads 159 = .ok (.iload_n 3, 1) := by decide +kernel
theorem dX9_reads_160 : decode cX9_reads 160 = .ok (.iload 4, 2) := by decide +kernel
theorem dX9_reads_162 : decode cX9_reads 162 = .ok (.ixor, 1) := by decide +kernel
theorem dX9_reads_163 : decode cX9_reads 163 = .ok (.iastore, 1) := by decide +kernel
theorem dX9_reads_164 : decode cX9_reads 164 = .ok (.aload_n 0, 1) := by decide +kernel
theorem dX9_reads_165 : decode cX9_reads 165 = .ok (.getfield 16, 3) := by decide +kernel
theorem dX9_reads_168 : decode cX9_reads 168 = .ok (.sipush 133, 3) := by decide +kernel
theorem dX9_reads_171 : decode cX9_reads 171 = .ok (.dup2, 1) := by decide +kernel
theorem dX9_reads_172 : decode cX9_reads 172 = .ok (.iaload, 1) := by decide +kernel
theorem dX9_reads_173 : decode cX9_reads 173 = .ok (.aload_n 0, 1) := by decide +kernel
theorem dX9_reads_174 : decode cX9_reads 174 = .ok (.getfield 16, 3) := by decide +kernel
theorem dX9_reads_177 : decode cX9_reads 177 = .ok (.sipush 134, 3) := by decide +kernel
theorem dX9_reads_180 : decode cX9_reads 180 = .ok (.iaload, 1) := by decide +kernel
theorem dX9_reads_181 : decode cX9_reads 181 = .ok (.ifCond .eq 7, 3) := by decide +kernel
theorem dX9_reads_184 : decode cX9_reads 184 = .ok (.iconst 1, 1) := by decide +kernel
theorem dX9_reads_185 : decode cX9_reads 185 = .ok (.goto 4, 3) := by decide +kernel
theorem dX9_reads_188 : decode cX9_reads 188 = .ok (.iconst 0, 1) := by decide +kernel
theorem dX9_reads_189 : decode cX9_reads 189 = .ok (.iadd, 1) := by decide +kernel
theorem dX9_reads_190 : decode cX9_reads 190 = .ok (.iastore, 1) := by decide +kernel
theorem dX9_reads_191 : decode cX9_reads 191 = .ok (.aload_n 0, 1) := by decide +kernel
theorem dX9_reads_192 : decode cX9_reads 192 = .ok (.iload_n 1, 1) := by decide +kernel
theorem dX9_reads_193 : decode cX9_reads 193 = .ok (.iconst 0, 1) := by decide +kernel
theorem dX9_reads_194 : decode cX9_reads 194 = .ok (.iload 4, 2) := by decide +kernel
theorem dX9_reads_196 : decode cX9_reads 196 = .ok (.invokevirtual 103, 3) := by decide +kernel
theorem dX9_reads_199 : decode cX9_reads 199 = .ok (.iload 4, 2) := by decide +kernel
theorem dX9_reads_201 : decode cX9_reads 201 = .ok (.ireturn, 1) := by decide +kernel
theorem dX9_writes_0 : decode cX9_writes 0 = .ok (.iload_n 1, 1) := by decide +kernel
theorem dX9_writes_1 : decode cX9_writes 1 = .ok (.iconst 0, 1) := by decide +kernel
theorem dX9_writes_2 : decode cX9_writes 2 = .ok (.bipush 15, 2) := by decide +kernel
theorem dX9_writes_4 : decode cX9_writes 4 = .ok (.invokestatic 39, 3) := by decide +kernel
theorem dX9_writes_7 : decode cX9_writes 7 = .ok (.ifCond .eq 14, 3) := by decide +kernel
theorem dX9_writes_10 : decode cX9_writes 10 = .ok (.iload_n 2, 1) := by decide +kernel
theorem dX9_writes_11 : decode cX9_writes 11 = .ok (.iconst 0, 1) := by decide +kernel
theorem dX9_writes_12 : decode cX9_writes 12 = .ok (.sipush 255, 3) := by decide +kernel
theorem dX9_writes_15 : decode cX9_writes 15 = .ok (.invokestatic 39, 3) := by decide +kernel
theorem dX9_writes_18 : decode cX9_writes 18 = .ok (.ifCond .ne 5, 3) := by decide +kernel
theorem dX9_writes_21 : decode cX9_writes 21 = .ok (.iconst (-1), 1) := by decide +kernel
theorem dX9_writes_22 : decode cX9_writes 22 = .ok (.ireturn, 1) := by decide +kernel
theorem dX9_writes_23 : decode cX9_writes 23 = .ok (.aload_n 0, 1) := by decide +kernel
theorem dX9_writes_24 : decode cX9_writes 24 = .ok (.getfield 16, 3) := by decide +kernel
theorem dX9_writes_27 : decode cX9_writes 27 = .ok (.bipush 72, 2) := by decide +kernel
theorem dX9_writes_29 : decode cX9_writes 29 = .ok (.iaload, 1) := by decide +kernel
theorem dX9_writes_30 : decode cX9_writes 30 = .ok (.bipush 20, 2) := by decide +kernel
theorem dX9_writes_32 : decode cX9_writes 32 = .ok (.if_icmp .ne 6, 3) := by decide +kernel
theorem dX9_writes_35 : decode cX9_writes 35 = .ok (.bipush (-3), 2) := by decide +kernel
theorem dX9_writes_37 : decode cX9_writes 37 = .ok (.ireturn, 1) := by decide +kernel
theorem dX9_writes_38 : decode cX9_writes 38 = .ok (.aload_n 0, 1) := by decide +kernel
theorem dX9_writes_39 : decode cX9_writes 39 = .ok (.invokevirtual 97, 3) := by decide +kernel
theorem dX9_writes_42 : decode cX9_writes 42 = .ok (.aload_n 0, 1) := by decide +kernel
theorem dX9_writes_43 : decode cX9_writes 43 = .ok (.iconst 0, 1) := by decide +kernel
theorem dX9_writes_44 : decode cX9_writes 44 = .ok (.sipush 135, 3) := by decide +kernel
theorem dX9_writes_47 : decode cX9_writes 47 = .ok (.invokevirtual 106, 3) := by decide +kernel
theorem dX9_writes_50 : decode cX9_writes 50 = .ok (.aload_n 0, 1) := by decide +kernel
theorem dX9_writes_51 : decode cX9_writes 51 = .ok (.iconst 0, 1) := by decide +kernel
theorem dX9_writes_52 : decode cX9_writes 52 = .ok (.iload_n 1, 1) := by decide +kernel
theorem dX9_writes_53 : decode cX9_writes 53 = .ok (.iload_n 2, 1) := by decide +kernel
theorem dX9_writes_54 : decode cX9_writes 54 = .ok (.invokevirtual 109, 3) := by decide +kernel
theorem dX9_writes_57 : decode cX9_writes 57 = .ok (.aload_n 0, 1) := by decide +kernel
theorem dX9_writes_58 : decode cX9_writes 58 = .ok (.bipush 36, 2) := by decide +kernel
theorem dX9_writes_60 : decode cX9_writes 60 = .ok (.iload_n 1, 1) := by decide +kernel
theorem dX9_writes_61 : decode cX9_writes 61 = .ok (.iload_n 2, 1) := by decide +kernel
theorem dX9_writes_62 : decode cX9_writes 62 = .ok (.invokevirtual 109, 3) := by decide +kernel
theorem dX9_writes_65 : decode cX9_writes 65 = .ok (.aload_n 0, 1) := by decide +kernel
theorem dX9_writes_66 : decode cX9_writes 66 = .ok (.iload_n 1, 1) := by decide +kernel
theorem dX9_writes_67 : decode cX9_writes 67 = .ok (.iconst 1, 1) := by decide +kernel
theorem dX9_writes_68 : decode cX9_writes 68 = .ok (.iload_n 2, 1) := by decide +kernel
theorem dX9_writes_69 : decode cX9_writes 69 = .ok (.invokevirtual 103, 3) := by decide +kernel
theorem dX9_writes_72 : decode cX9_writes 72 = .ok (.aload_n 0, 1) := by decide +kernel
theorem dX9_writes_73 : decode cX9_writes 73 = .ok (.iconst 0, 1) := by decide +kernel
theorem dX9_writes_74 : decode cX9_writes 74 = .ok (.sipush 135, 3) := by decide +kernel
theorem dX9_writes_77 : decode cX9_writes 77 = .ok (.invokevirtual 112, 3) := by decide +kernel
theorem dX9_writes_80 : decode cX9_writes 80 = .ok (.ireturn, 1) := by decide +kernel
theorem dX9_sets_0 : decode cX9_sets 0 = .ok (.aload_n 0, 1) := by decide +kernel
theorem dX9_sets_1 : decode cX9_sets 1 = .ok (.iload_n 1, 1) := by decide +kernel
theorem dX9_sets_2 : decode cX9_sets 2 = .ok (.invokevirtual 115, 3) := by decide +kernel
theorem dX9_sets_5 : decode cX9_sets 5 = .ok (.ifCond .eq 16, 3) := by decide +kernel
theorem dX9_sets_8 : decode cX9_sets 8 = .ok (.iload_n 2, 1) := by decide +kernel
theorem dX9_sets_9 : decode cX9_sets 9 = .ok (.iconst 0, 1) := by decide +kernel
theorem dX9_sets_10 : decode cX9_sets 10 = .ok (.aload_n 0, 1) := by decide +kernel
theorem dX9_sets_11 : decode cX9_sets 11 = .ok (.iload_n 1, 1) := by decide +kernel
theorem dX9_sets_12 : decode cX9_sets 12 = .ok (.invokevirtual 46, 3) := by decide +kernel
theorem dX9_sets_15 : decode cX9_sets 15 = .ok (.invokestatic 39, 3) := by decide +kernel
theorem dX9_sets_18 : decode cX9_sets 18 = .ok (.ifCond .ne 5, 3) := by decide +kernel
theorem dX9_sets_21 : decode cX9_sets 21 = .ok (.iconst (-1), 1) := by decide +kernel
theorem dX9_sets_22 : decode cX9_sets 22 = .ok (.ireturn, 1) := by decide +kernel
theorem dX9_sets_23 : decode cX9_sets 23 = .ok (.aload_n 0, 1) := by decide +kernel
theorem dX9_sets_24 : decode cX9_sets 24 = .ok (.getfield 16, 3) := by decide +kernel
theorem dX9_sets_27 : decode cX9_sets 27 = .ok (.iconst 0, 1) := by decide +kernel
theorem dX9_sets_28 : decode cX9_sets 28 = .ok (.iload_n 1, 1) := by decide +kernel
theorem dX9_sets_29 : decode cX9_sets 29 = .ok (.iadd, 1) := by decide +kernel
theorem dX9_sets_30 : decode cX9_sets 30 = .ok (.iaload, 1) := by decide +kernel
theorem dX9_sets_31 : decode cX9_sets 31 = .ok (.istore_n 3, 1) := by decide +kernel
theorem dX9_sets_32 : decode cX9_sets 32 = .ok (.iload_n 3, 1) := by decide +kernel
theorem dX9_sets_33 : decode cX9_sets 33 = .ok (.iload_n 2, 1) := by decide +kernel
theorem dX9_sets_34 : decode cX9_sets 34 = .ok (.if_icmp .ne 6, 3) := by decide +kernel
theorem dX9_sets_37 : decode cX9_sets 37 = .ok (.bipush (-2), 2) := by decide +kernel
theorem dX9_sets_39 : decode cX9_sets 39 = .ok (.ireturn, 1) := by decide +kernel
theorem dX9_sets_40 : decode cX9_sets 40 = .ok (.aload_n 0, 1) := by decide +kernel
theorem dX9_sets_41 : decode cX9_sets 41 = .ok (.invokevirtual 97, 3) := by decide +kernel
theorem dX9_sets_44 : decode cX9_sets 44 = .ok (.aload_n 0, 1) := by decide +kernel
theorem dX9_sets_45 : decode cX9_sets 45 = .ok (.getfield 16, 3) := by decide +kernel
theorem dX9_sets_48 : decode cX9_sets 48 = .ok (.iconst 0, 1) := by decide +kernel
theorem dX9_sets_49 : decode cX9_sets 49 = .ok (.iload_n 1, 1) := by decide +kernel
theorem dX9_sets_50 : decode cX9_sets 50 = .ok (.iadd, 1) := by decide +kernel
theorem dX9_sets_51 : decode cX9_sets 51 = .ok (.iload_n 2, 1) := by decide +kernel
theorem dX9_sets_52 : decode cX9_sets 52 = .ok (.iastore, 1) := by decide +kernel
theorem dX9_sets_53 : decode cX9_sets 53 = .ok (.iload_n 3, 1) := by decide +kernel
theorem dX9_sets_54 : decode cX9_sets 54 = .ok (.ireturn, 1) := by decide +kernel
theorem dX9_breaks_0 : decode cX9_breaks 0 = .ok (.aload_n 0, 1) := by decide +kernel
theorem dX9_breaks_1 : decode cX9_breaks 1 = .ok (.iload_n 1, 1) := by decide +kernel
theorem dX9_breaks_2 : decode cX9_breaks 2 = .ok (.invokevirtual 115, 3) := by decide +kernel
theorem dX9_breaks_5 : decode cX9_breaks 5 = .ok (.ifCond .eq 13, 3) := by decide +kernel
theorem dX9_breaks_8 : decode cX9_breaks 8 = .ok (.iload_n 2, 1) := by decide +kernel
theorem dX9_breaks_9 : decode cX9_breaks 9 = .ok (.iconst 0, 1) := by decide +kernel
theorem dX9_breaks_10 : decode cX9_breaks 10 = .ok (.bipush 7, 2) := by decide +kernel
theorem dX9_breaks_12 : decode cX9_breaks 12 = .ok (.invokestatic 39, 3) := by decide +kernel
theorem dX9_breaks_15 : decode cX9_breaks 15 = .ok (.ifCond .ne 5, 3) := by decide +kernel
theorem dX9_breaks_18 : decode cX9_breaks 18 = .ok (.iconst (-1), 1) := by decide +kernel
theorem dX9_breaks_19 : decode cX9_breaks 19 = .ok (.ireturn, 1) := by decide +kernel
theorem dX9_breaks_20 : decode cX9_breaks 20 = .ok (.aload_n 0, 1) := by decide +kernel
theorem dX9_breaks_21 : decode cX9_breaks 21 = .ok (.getfield 16, 3) := by decide +kernel
theorem dX9_breaks_24 : decode cX9_breaks 24 = .ok (.bipush 12, 2) := by decide +kernel
theorem dX9_breaks_26 : decode cX9_breaks 26 = .ok (.iload_n 1, 1) := by decide +kernel
theorem dX9_breaks_27 : decode cX9_breaks 27 = .ok (.iadd, 1) := by decide +kernel
theorem dX9_breaks_28 : decode cX9_breaks 28 = .ok (.iaload, 1) := by decide +kernel
theorem dX9_breaks_29 : decode cX9_breaks 29 = .ok (.istore_n 3, 1) := by decide +kernel
theorem dX9_breaks_30 : decode cX9_breaks 30 = .ok (.iload_n 3, 1) := by decide +kernel
theorem dX9_breaks_31 : decode cX9_breaks 31 = .ok (.iload_n 2, 1) := by decide +kernel
theorem dX9_breaks_32 : decode cX9_breaks 32 = .ok (.if_icmp .ne 6, 3) := by decide +kernel
theorem dX9_breaks_35 : decode cX9_breaks 35 = .ok (.bipush (-2), 2) := by decide +kernel
theorem dX9_breaks_37 : decode cX9_breaks 37 = .ok (.ireturn, 1) := by decide +kernel
theorem dX9_breaks_38 : decode cX9_breaks 38 = .ok (.aload_n 0, 1) := by decide +kernel
theorem dX9_breaks_39 : decode cX9_breaks 39 = .ok (.invokevirtual 97, 3) := by decide +kernel
theorem dX9_breaks_42 : decode cX9_breaks 42 = .ok (.aload_n 0, 1) := by decide +kernel
theorem dX9_breaks_43 : decode cX9_breaks 43 = .ok (.getfield 16, 3) := by decide +kernel
theorem dX9_breaks_46 : decode cX9_breaks 46 = .ok (.bipush 12, 2) := by decide +kernel
theorem dX9_breaks_48 : decode cX9_breaks 48 = .ok (.iload_n 1, 1) := by decide +kernel
theorem dX9_breaks_49 : decode cX9_breaks 49 = .ok (.iadd, 1) := by decide +kernel
theorem dX9_breaks_50 : decode cX9_breaks 50 = .ok (.iload_n 2, 1) := by decide +kernel
theorem dX9_breaks_51 : decode cX9_breaks 51 = .ok (.iastore, 1) := by decide +kernel
theorem dX9_breaks_52 : decode cX9_breaks 52 = .ok (.iload_n 3, 1) := by decide +kernel
theorem dX9_breaks_53 : decode cX9_breaks 53 = .ok (.ireturn, 1) := by decide +kernel
theorem dX9_undo_0 : decode cX9_undo 0 = .ok (.aload_n 0, 1) := by decide +kernel
theorem dX9_undo_1 : decode cX9_undo 1 = .ok (.getfield 60, 3) := by decide +kernel
theorem dX9_undo_4 : decode cX9_undo 4 = .ok (.ifCond .ne 6, 3) := by decide +kernel
theorem dX9_undo_7 : decode cX9_undo 7 = .ok (.bipush (-2), 2) := by decide +kernel
theorem dX9_undo_9 : decode cX9_undo 9 = .ok (.ireturn, 1) := by decide +kernel
theorem dX9_undo_10 : decode cX9_undo 10 = .ok (.aload_n 0, 1) := by decide +kernel
theorem dX9_undo_11 : decode cX9_undo 11 = .ok (.dup, 1) := by decide +kernel
theorem dX9_undo_12 : decode cX9_undo 12 = .ok (.getfield 60, 3) := by decide +kernel
theorem dX9_undo_15 : decode cX9_undo 15 = .ok (.iconst 1, 1) := by decide +kernel
theorem dX9_undo_16 : decode cX9_undo 16 = .ok (.isub, 1) := by decide +kernel
theorem dX9_undo_17 : decode cX9_undo 17 = .ok (.putfield 60, 3) := by decide +kernel
theorem dX9_undo_20 : decode cX9_undo 20 = .ok (.iconst 0, 1) := by decide +kernel
theorem dX9_undo_21 : decode cX9_undo 21 = .ok (.istore_n 1, 1) := by decide +kernel
theorem dX9_undo_22 : decode cX9_undo 22 = .ok (.iload_n 1, 1) := by decide +kernel
theorem dX9_undo_23 : decode cX9_undo 23 = .ok (.sipush 135, 3) := by decide +kernel
theorem dX9_undo_26 : decode cX9_undo 26 = .ok (.if_icmp .ge 30, 3) := by decide +kernel
theorem dX9_undo_29 : decode cX9_undo 29 = .ok (.aload_n 0, 1) := by decide +kernel
theorem dX9_undo_30 : decode cX9_undo 30 = .ok (.getfield 16, 3) := by decide +kernel
theorem dX9_undo_33 : decode cX9_undo 33 = .ok (.iload_n 1, 1) := by decide +kernel
theorem dX9_undo_34 : decode cX9_undo 34 = .ok (.aload_n 0, 1) := by decide +kernel
theorem dX9_undo_35 : decode cX9_undo 35 = .ok (.getfield 19, 3) := by decide +kernel
theorem dX9_undo_38 : decode cX9_undo 38 = .ok (.sipush 135, 3) := by decide +kernel
theorem dX9_undo_41 : decode cX9_undo 41 = .ok (.aload_n 0, 1) := by decide +kernel
theorem dX9_undo_42 : decode cX9_undo 42 = .ok (.getfield 60, 3) := by decide +kernel
theorem dX9_undo_45 : decode cX9_undo 45 = .ok (.imul, 1) := by decide +kernel
theorem dX9_undo_46 : decode cX9_undo 46 = .ok (.iload_n 1, 1) := by decide +kernel
theorem dX9_undo_47 : decode cX9_undo 47 = .ok (.iadd, 1) := by decide +kernel
theorem dX9_undo_48 : decode cX9_undo 48 = .ok (.iaload, 1) := by decide +kernel
theorem dX9_undo_49 : decode cX9_undo 49 = .ok (.iastore, 1) := by decide +kernel
theorem dX9_undo_50 : decode cX9_undo 50 = .ok (.iinc 1 1, 3) := by decide +kernel
theorem dX9_undo_53 : decode cX9_undo 53 = .ok (.goto (-31), 3) := by decide +kernel
theorem dX9_undo_56 : decode cX9_undo 56 = .ok (.aload_n 0, 1) := by decide +kernel
theorem dX9_undo_57 : decode cX9_undo 57 = .ok (.getfield 60, 3) := by decide +kernel
theorem dX9_undo_60 : decode cX9_undo 60 = .ok (.ireturn, 1) := by decide +kernel
theorem dX9_field_0 : decode cX9_field 0 = .ok (.aload_n 0, 1) := by decide +kernel
theorem dX9_field_1 : decode cX9_field 1 = .ok (.iload_n 1, 1) := by decide +kernel
theorem dX9_field_2 : decode cX9_field 2 = .ok (.invokevirtual 115, 3) := by decide +kernel
theorem dX9_field_5 : decode cX9_field 5 = .ok (.ifCond .ne 5, 3) := by decide +kernel
theorem dX9_field_8 : decode cX9_field 8 = .ok (.iconst (-1), 1) := by decide +kernel
theorem dX9_field_9 : decode cX9_field 9 = .ok (.ireturn, 1) := by decide +kernel
theorem dX9_field_10 : decode cX9_field 10 = .ok (.iload_n 2, 1) := by decide +kernel
theorem dX9_field_11 : decode cX9_field 11 = .ok (.tableswitch 124 0 7 #[45, 55, 65, 75, 85, 95, 104, 114], 45) := by decide +kernel
theorem dX9_field_56 : decode cX9_field 56 = .ok (.aload_n 0, 1) := by decide +kernel
theorem dX9_field_57 : decode cX9_field 57 = .ok (.getfield 7, 3) := by decide +kernel
theorem dX9_field_60 : decode cX9_field 60 = .ok (.bipush 18, 2) := by decide +kernel
theorem dX9_field_62 : decode cX9_field 62 = .ok (.iload_n 1, 1) := by decide +kernel
theorem dX9_field_63 : decode cX9_field 63 = .ok (.iadd, 1) := by decide +kernel
theorem dX9_field_64 : decode cX9_field 64 = .ok (.iaload, 1) := by decide +kernel
theorem dX9_field_65 : decode cX9_field 65 = .ok (.ireturn, 1) := by decide +kernel
theorem dX9_field_66 : decode cX9_field 66 = .ok (.aload_n 0, 1) := by decide +kernel
theorem dX9_field_67 : decode cX9_field 67 = .ok (.getfield 7, 3) := by decide +kernel
theorem dX9_field_70 : decode cX9_field 70 = .ok (.bipush 30, 2) := by decide +kernel
theorem dX9_field_72 : decode cX9_field 72 = .ok (.iload_n 1, 1) := by decide +kernel
theorem dX9_field_73 : decode cX9_field 73 = .ok (.iadd, 1) := by decide +kernel
theorem dX9_field_74 : decode cX9_field 74 = .ok (.iaload, 1) := by decide +kernel
theorem dX9_field_75 : decode cX9_field 75 = .ok (.ireturn, 1) := by decide +kernel
theorem dX9_field_76 : decode cX9_field 76 = .ok (.aload_n 0, 1) := by decide +kernel
theorem dX9_field_77 : decode cX9_field 77 = .ok (.getfield 7, 3) := by decide +kernel
theorem dX9_field_80 : decode cX9_field 80 = .ok (.bipush 42, 2) := by decide +kernel
theorem dX9_field_82 : decode cX9_field 82 = .ok (.iload_n 1, 1) := by decide +kernel
theorem dX9_field_83 : decode cX9_field 83 = .ok (.iadd, 1) := by decide +kernel
theorem dX9_field_84 : decode cX9_field 84 = .ok (.iaload, 1) := by decide +kernel
theorem dX9_field_85 : decode cX9_field 85 = .ok (.ireturn, 1) := by decide +kernel
theorem dX9_field_86 : decode cX9_field 86 = .ok (.aload_n 0, 1) := by decide +kernel
theorem dX9_field_87 : decode cX9_field 87 = .ok (.getfield 7, 3) := by decide +kernel
theorem dX9_field_90 : decode cX9_field 90 = .ok (.bipush 54, 2) := by decide +kernel
theorem dX9_field_92 : decode cX9_field 92 = .ok (.iload_n 1, 1) := by decide +kernel
theorem dX9_field_93 : decode cX9_field 93 = .ok (.iadd, 1) := by decide +kernel
theorem dX9_field_94 : decode cX9_field 94 = .ok (.iaload, 1) := by decide +kernel
theorem dX9_field_95 : decode cX9_field 95 = .ok (.ireturn, 1) := by decide +kernel
theorem dX9_field_96 : decode cX9_field 96 = .ok (.aload_n 0, 1) := by decide +kernel
theorem dX9_field_97 : decode cX9_field 97 = .ok (.getfield 7, 3) := by decide +kernel
theorem dX9_field_100 : decode cX9_field 100 = .ok (.bipush 66, 2) := by decide +kernel
theorem dX9_field_102 : decode cX9_field 102 = .ok (.iload_n 1, 1) := by decide +kernel
theorem dX9_field_103 : decode cX9_field 103 = .ok (.iadd, 1) := by decide +kernel
theorem dX9_field_104 : decode cX9_field 104 = .ok (.iaload, 1) := by decide +kernel
theorem dX9_field_105 : decode cX9_field 105 = .ok (.ireturn, 1) := by decide +kernel
theorem dX9_field_106 : decode cX9_field 106 = .ok (.aload_n 0, 1) := by decide +kernel
theorem dX9_field_107 : decode cX9_field 107 = .ok (.getfield 16, 3) := by decide +kernel
theorem dX9_field_110 : decode cX9_field 110 = .ok (.iconst 0, 1) := by decide +kernel
theorem dX9_field_111 : decode cX9_field 111 = .ok (.iload_n 1, 1) := by decide +kernel
theorem dX9_field_112 : decode cX9_field 112 = .ok (.iadd, 1) := by decide +kernel
theorem dX9_field_113 : decode cX9_field 113 = .ok (.iaload, 1) := by decide +kernel
theorem dX9_field_114 : decode cX9_field 114 = .ok (.ireturn, 1) := by decide +kernel
theorem dX9_field_115 : decode cX9_field 115 = .ok (.aload_n 0, 1) := by decide +kernel
theorem dX9_field_116 : decode cX9_field 116 = .ok (.getfield 16, 3) := by decide +kernel
theorem dX9_field_119 : decode cX9_field 119 = .ok (.bipush 36, 2) := by decide +kernel
theorem dX9_field_121 : decode cX9_field 121 = .ok (.iload_n 1, 1) := by decide +kernel
theorem dX9_field_122 : decode cX9_field 122 = .ok (.iadd, 1) := by decide +kernel
theorem dX9_field_123 : decode cX9_field 123 = .ok (.iaload, 1) := by decide +kernel
theorem dX9_field_124 : decode cX9_field 124 = .ok (.ireturn, 1) := by decide +kernel
theorem dX9_field_125 : decode cX9_field 125 = .ok (.aload_n 0, 1) := by decide +kernel
theorem dX9_field_126 : decode cX9_field 126 = .ok (.getfield 16, 3) := by decide +kernel
theorem dX9_field_129 : decode cX9_field 129 = .ok (.bipush 12, 2) := by decide +kernel
theorem dX9_field_131 : decode cX9_field 131 = .ok (.iload_n 1, 1) := by decide +kernel
theorem dX9_field_132 : decode cX9_field 132 = .ok (.iadd, 1) := by decide +kernel
theorem dX9_field_133 : decode cX9_field 133 = .ok (.iaload, 1) := by decide +kernel
theorem dX9_field_134 : decode cX9_field 134 = .ok (.ireturn, 1) := by decide +kernel
theorem dX9_field_135 : decode cX9_field 135 = .ok (.iconst (-1), 1) := by decide +kernel
theorem dX9_field_136 : decode cX9_field 136 = .ok (.ireturn, 1) := by decide +kernel
theorem dX9_register_0 : decode cX9_register 0 = .ok (.aload_n 0, 1) := by decide +kernel
theorem dX9_register_1 : decode cX9_register 1 = .ok (.iload_n 1, 1) := by decide +kernel
theorem dX9_register_2 : decode cX9_register 2 = .ok (.invokevirtual 119, 3) := by decide +kernel
theorem dX9_register_5 : decode cX9_register 5 = .ok (.ifCond .ne 5, 3) := by decide +kernel
theorem dX9_register_8 : decode cX9_register 8 = .ok (.iconst (-1), 1) := by decide +kernel
theorem dX9_register_9 : decode cX9_register 9 = .ok (.ireturn, 1) := by decide +kernel
theorem dX9_register_10 : decode cX9_register 10 = .ok (.iload_n 2, 1) := by decide +kernel
theorem dX9_register_11 : decode cX9_register 11 = .ok (.tableswitch 87 0 4 #[33, 42, 52, 62, 77], 33) := by decide +kernel
theorem dX9_register_44 : decode cX9_register 44 = .ok (.aload_n 0, 1) := by decide +kernel
theorem dX9_register_45 : decode cX9_register 45 = .ok (.getfield 7, 3) := by decide +kernel
theorem dX9_register_48 : decode cX9_register 48 = .ok (.iconst 0, 1) := by decide +kernel
theorem dX9_register_49 : decode cX9_register 49 = .ok (.iload_n 1, 1) := by decide +kernel
theorem dX9_register_50 : decode cX9_register 50 = .ok (.iadd, 1) := by decide +kernel
theorem dX9_register_51 : decode cX9_register 51 = .ok (.iaload, 1) := by decide +kernel
theorem dX9_register_52 : decode cX9_register 52 = .ok (.ireturn, 1) := by decide +kernel
theorem dX9_register_53 : decode cX9_register 53 = .ok (.aload_n 0, 1) := by decide +kernel
theorem dX9_register_54 : decode cX9_register 54 = .ok (.getfield 7, 3) := by decide +kernel
theorem dX9_register_57 : decode cX9_register 57 = .ok (.bipush 6, 2) := by decide +kernel
theorem dX9_register_59 : decode cX9_register 59 = .ok (.iload_n 1, 1) := by decide +kernel
theorem dX9_register_60 : decode cX9_register 60 = .ok (.iadd, 1) := by decide +kernel
theorem dX9_register_61 : decode cX9_register 61 = .ok (.iaload, 1) := by decide +kernel
theorem dX9_register_62 : decode cX9_register 62 = .ok (.ireturn, 1) := by decide +kernel
theorem dX9_register_63 : decode cX9_register 63 = .ok (.aload_n 0, 1) := by decide +kernel
theorem dX9_register_64 : decode cX9_register 64 = .ok (.getfield 7, 3) := by decide +kernel
theorem dX9_register_67 : decode cX9_register 67 = .ok (.bipush 12, 2) := by decide +kernel
theorem dX9_register_69 : decode cX9_register 69 = .ok (.iload_n 1, 1) := by decide +kernel
theorem dX9_register_70 : decode cX9_register 70 = .ok (.iadd, 1) := by decide +kernel
theorem dX9_register_71 : decode cX9_register 71 = .ok (.iaload, 1) := by decide +kernel
theorem dX9_register_72 : decode cX9_register 72 = .ok (.ireturn, 1) := by decide +kernel
theorem dX9_register_73 : decode cX9_register 73 = .ok (.aload_n 0, 1) := by decide +kernel
theorem dX9_register_74 : decode cX9_register 74 = .ok (.iconst 0, 1) := by decide +kernel
theorem dX9_register_75 : decode cX9_register 75 = .ok (.iload_n 1, 1) := by decide +kernel
theorem dX9_register_76 : decode cX9_register 76 = .ok (.invokevirtual 85, 3) := by decide +kernel
theorem dX9_register_79 : decode cX9_register 79 = .ok (.ifCond .eq 7, 3) := by decide +kernel
theorem dX9_register_82 : decode cX9_register 82 = .ok (.iconst 1, 1) := by decide +kernel
theorem dX9_register_83 : decode cX9_register 83 = .ok (.goto 4, 3) := by decide +kernel
theorem dX9_register_86 : decode cX9_register 86 = .ok (.iconst 0, 1) := by decide +kernel
theorem dX9_register_87 : decode cX9_register 87 = .ok (.ireturn, 1) := by decide +kernel
theorem dX9_register_88 : decode cX9_register 88 = .ok (.aload_n 0, 1) := by decide +kernel
theorem dX9_register_89 : decode cX9_register 89 = .ok (.getfield 16, 3) := by decide +kernel
theorem dX9_register_92 : decode cX9_register 92 = .ok (.bipush 24, 2) := by decide +kernel
theorem dX9_register_94 : decode cX9_register 94 = .ok (.iload_n 1, 1) := by decide +kernel
theorem dX9_register_95 : decode cX9_register 95 = .ok (.iadd, 1) := by decide +kernel
theorem dX9_register_96 : decode cX9_register 96 = .ok (.iaload, 1) := by decide +kernel
theorem dX9_register_97 : decode cX9_register 97 = .ok (.ireturn, 1) := by decide +kernel
theorem dX9_register_98 : decode cX9_register 98 = .ok (.iconst (-1), 1) := by decide +kernel
theorem dX9_register_99 : decode cX9_register 99 = .ok (.ireturn, 1) := by decide +kernel
theorem dX9_alias_0 : decode cX9_alias 0 = .ok (.iload_n 1, 1) := by decide +kernel
theorem dX9_alias_1 : decode cX9_alias 1 = .ok (.iconst 0, 1) := by decide +kernel
theorem dX9_alias_2 : decode cX9_alias 2 = .ok (.aload_n 0, 1) := by decide +kernel
theorem dX9_alias_3 : decode cX9_alias 3 = .ok (.getfield 7, 3) := by decide +kernel
theorem dX9_alias_6 : decode cX9_alias 6 = .ok (.bipush 92, 2) := by decide +kernel
theorem dX9_alias_8 : decode cX9_alias 8 = .ok (.iaload, 1) := by decide +kernel
theorem dX9_alias_9 : decode cX9_alias 9 = .ok (.iconst 1, 1) := by decide +kernel
theorem dX9_alias_10 : decode cX9_alias 10 = .ok (.isub, 1) := by decide +kernel
theorem dX9_alias_11 : decode cX9_alias 11 = .ok (.invokestatic 39, 3) := by decide +kernel
theorem dX9_alias_14 : decode cX9_alias 14 = .ok (.ifCond .eq 28, 3) := by decide +kernel
theorem dX9_alias_17 : decode cX9_alias 17 = .ok (.iload_n 2, 1) := by decide +kernel
theorem dX9_alias_18 : decode cX9_alias 18 = .ok (.iconst 0, 1) := by decide +kernel
theorem dX9_alias_19 : decode cX9_alias 19 = .ok (.iconst 2, 1) := by decide +kernel
theorem dX9_alias_20 : decode cX9_alias 20 = .ok (.invokestatic 39, 3) := by decide +kernel
theorem dX9_alias_23 : decode cX9_alias 23 = .ok (.ifCond .eq 19, 3) := by decide +kernel
theorem dX9_alias_26 : decode cX9_alias 26 = .ok (.aload_n 0, 1) := by decide +kernel
theorem dX9_alias_27 : decode cX9_alias 27 = .ok (.getfield 7, 3) := by decide +kernel
theorem dX9_alias_30 : decode cX9_alias 30 = .ok (.bipush 78, 2) := by decide +kernel
theorem dX9_alias_32 : decode cX9_alias 32 = .ok (.iconst 4, 1) := by decide +kernel
theorem dX9_alias_33 : decode cX9_alias 33 = .ok (.iload_n 2, 1) := by decide +kernel
theorem dX9_alias_34 : decode cX9_alias 34 = .ok (.imul, 1) := by decide +kernel
theorem dX9_alias_35 : decode cX9_alias 35 = .ok (.iadd, 1) := by decide +kernel
theorem dX9_alias_36 : decode cX9_alias 36 = .ok (.iload_n 1, 1) := by decide +kernel
theorem dX9_alias_37 : decode cX9_alias 37 = .ok (.iadd, 1) := by decide +kernel
theorem dX9_alias_38 : decode cX9_alias 38 = .ok (.iaload, 1) := by decide +kernel
theorem dX9_alias_39 : decode cX9_alias 39 = .ok (.goto 4, 3) := by decide +kernel
theorem dX9_alias_42 : decode cX9_alias 42 = .ok (.iconst (-1), 1) := by decide +kernel
theorem dX9_alias_43 : decode cX9_alias 43 = .ok (.ireturn, 1) := by decide +kernel
theorem dX9_at_0 : decode cX9_at 0 = .ok (.iload_n 1, 1) := by decide +kernel
theorem dX9_at_1 : decode cX9_at 1 = .ok (.iconst 0, 1) := by decide +kernel
theorem dX9_at_2 : decode cX9_at 2 = .ok (.bipush 15, 2) := by decide +kernel
theorem dX9_at_4 : decode cX9_at 4 = .ok (.invokestatic 39, 3) := by decide +kernel
theorem dX9_at_7 : decode cX9_at 7 = .ok (.ifCond .eq 11, 3) := by decide +kernel
theorem dX9_at_10 : decode cX9_at 10 = .ok (.aload_n 0, 1) := by decide +kernel
theorem dX9_at_11 : decode cX9_at 11 = .ok (.iload_n 1, 1) := by decide +kernel
theorem dX9_at_12 : decode cX9_at 12 = .ok (.invokevirtual 64, 3) := by decide +kernel
theorem dX9_at_15 : decode cX9_at 15 = .ok (.goto 4, 3) := by decide +kernel
theorem dX9_at_18 : decode cX9_at 18 = .ok (.iconst (-1), 1) := by decide +kernel
theorem dX9_at_19 : decode cX9_at 19 = .ok (.ireturn, 1) := by decide +kernel
theorem dX9_peek_0 : decode cX9_peek 0 = .ok (.iload_n 1, 1) := by decide +kernel
theorem dX9_peek_1 : decode cX9_peek 1 = .ok (.iconst 0, 1) := by decide +kernel
theorem dX9_peek_2 : decode cX9_peek 2 = .ok (.bipush 15, 2) := by decide +kernel
theorem dX9_peek_4 : decode cX9_peek 4 = .ok (.invokestatic 39, 3) := by decide +kernel
theorem dX9_peek_7 : decode cX9_peek 7 = .ok (.ifCond .eq 30, 3) := by decide +kernel
theorem dX9_peek_10 : decode cX9_peek 10 = .ok (.iload_n 2, 1) := by decide +kernel
theorem dX9_peek_11 : decode cX9_peek 11 = .ok (.iconst 0, 1) := by decide +kernel
theorem dX9_peek_12 : decode cX9_peek 12 = .ok (.iconst 1, 1) := by decide +kernel
theorem dX9_peek_13 : decode cX9_peek 13 = .ok (.invokestatic 39, 3) := by decide +kernel
theorem dX9_peek_16 : decode cX9_peek 16 = .ok (.ifCond .eq 21, 3) := by decide +kernel
theorem dX9_peek_19 : decode cX9_peek 19 = .ok (.aload_n 0, 1) := by decide +kernel
theorem dX9_peek_20 : decode cX9_peek 20 = .ok (.iload_n 2, 1) := by decide +kernel
theorem dX9_peek_21 : decode cX9_peek 21 = .ok (.ifCond .ne 7, 3) := by decide +kernel
theorem dX9_peek_24 : decode cX9_peek 24 = .ok (.iconst 0, 1) := by decide +kernel
theorem dX9_peek_25 : decode cX9_peek 25 = .ok (.goto 5, 3) := by decide +kernel
theorem dX9_peek_28 : decode cX9_peek 28 = .ok (.bipush 36, 2) := by decide +kernel
theorem dX9_peek_30 : decode cX9_peek 30 = .ok (.iload_n 1, 1) := by decide +kernel
theorem dX9_peek_31 : decode cX9_peek 31 = .ok (.invokevirtual 74, 3) := by decide +kernel
theorem dX9_peek_34 : decode cX9_peek 34 = .ok (.goto 4, 3) := by decide +kernel
theorem dX9_peek_37 : decode cX9_peek 37 = .ok (.iconst (-1), 1) := by decide +kernel
theorem dX9_peek_38 : decode cX9_peek 38 = .ok (.ireturn, 1) := by decide +kernel
theorem dX9_differed_0 : decode cX9_differed 0 = .ok (.iload_n 1, 1) := by decide +kernel
theorem dX9_differed_1 : decode cX9_differed 1 = .ok (.iconst 0, 1) := by decide +kernel
theorem dX9_differed_2 : decode cX9_differed 2 = .ok (.iconst 1, 1) := by decide +kernel
theorem dX9_differed_3 : decode cX9_differed 3 = .ok (.invokestatic 39, 3) := by decide +kernel
theorem dX9_differed_6 : decode cX9_differed 6 = .ok (.ifCond .eq 16, 3) := by decide +kernel
theorem dX9_differed_9 : decode cX9_differed 9 = .ok (.aload_n 0, 1) := by decide +kernel
theorem dX9_differed_10 : decode cX9_differed 10 = .ok (.getfield 16, 3) := by decide +kernel
theorem dX9_differed_13 : decode cX9_differed 13 = .ok (.sipush 133, 3) := by decide +kernel
theorem dX9_differed_16 : decode cX9_differed 16 = .ok (.iload_n 1, 1) := by decide +kernel
theorem dX9_differed_17 : decode cX9_differed 17 = .ok (.iadd, 1) := by decide +kernel
theorem dX9_differed_18 : decode cX9_differed 18 = .ok (.iaload, 1) := by decide +kernel
theorem dX9_differed_19 : decode cX9_differed 19 = .ok (.goto 4, 3) := by decide +kernel
theorem dX9_differed_22 : decode cX9_differed 22 = .ok (.iconst (-1), 1) := by decide +kernel
theorem dX9_differed_23 : decode cX9_differed 23 = .ok (.ireturn, 1) := by decide +kernel
theorem dX9_log_0 : decode cX9_log 0 = .ok (.iload_n 1, 1) := by decide +kernel
theorem dX9_log_1 : decode cX9_log 1 = .ok (.ifCond .lt 12, 3) := by decide +kernel
theorem dX9_log_4 : decode cX9_log 4 = .ok (.iload_n 2, 1) := by decide +kernel
theorem dX9_log_5 : decode cX9_log 5 = .ok (.iconst 0, 1) := by decide +kernel
theorem dX9_log_6 : decode cX9_log 6 = .ok (.iconst 2, 1) := by decide +kernel
theorem dX9_log_7 : decode cX9_log 7 = .ok (.invokestatic 39, 3) := by decide +kernel
theorem dX9_log_10 : decode cX9_log 10 = .ok (.ifCond .ne 5, 3) := by decide +kernel
theorem dX9_log_13 : decode cX9_log 13 = .ok (.iconst (-1), 1) := by decide +kernel
theorem dX9_log_14 : decode cX9_log 14 = .ok (.ireturn, 1) := by decide +kernel
theorem dX9_log_15 : decode cX9_log 15 = .ok (.iload_n 1, 1) := by decide +kernel
theorem dX9_log_16 : decode cX9_log 16 = .ok (.aload_n 0, 1) := by decide +kernel
theorem dX9_log_17 : decode cX9_log 17 = .ok (.getfield 16, 3) := by decide +kernel
theorem dX9_log_20 : decode cX9_log 20 = .ok (.bipush 72, 2) := by decide +kernel
theorem dX9_log_22 : decode cX9_log 22 = .ok (.iaload, 1) := by decide +kernel
theorem dX9_log_23 : decode cX9_log 23 = .ok (.if_icmp .ge 19, 3) := by decide +kernel
theorem dX9_log_26 : decode cX9_log 26 = .ok (.aload_n 0, 1) := by decide +kernel
theorem dX9_log_27 : decode cX9_log 27 = .ok (.getfield 16, 3) := by decide +kernel
theorem dX9_log_30 : decode cX9_log 30 = .ok (.bipush 73, 2) := by decide +kernel
theorem dX9_log_32 : decode cX9_log 32 = .ok (.iconst 3, 1) := by decide +kernel
theorem dX9_log_33 : decode cX9_log 33 = .ok (.iload_n 1, 1) := by decide +kernel
theorem dX9_log_34 : decode cX9_log 34 = .ok (.imul, 1) := by decide +kernel
theorem dX9_log_35 : decode cX9_log 35 = .ok (.iadd, 1) := by decide +kernel
theorem dX9_log_36 : decode cX9_log 36 = .ok (.iload_n 2, 1) := by decide +kernel
theorem dX9_log_37 : decode cX9_log 37 = .ok (.iadd, 1) := by decide +kernel
theorem dX9_log_38 : decode cX9_log 38 = .ok (.iaload, 1) := by decide +kernel
theorem dX9_log_39 : decode cX9_log 39 = .ok (.goto 5, 3) := by decide +kernel
theorem dX9_log_42 : decode cX9_log 42 = .ok (.bipush (-9), 2) := by decide +kernel
theorem dX9_log_44 : decode cX9_log 44 = .ok (.ireturn, 1) := by decide +kernel
