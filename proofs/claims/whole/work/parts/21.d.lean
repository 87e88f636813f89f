theorem dX9_tells_0 : decode cX9_tells 0 = .ok (.iconst 0, 1) := by decide +kernel
theorem dX9_tells_1 : decode cX9_tells 1 = .ok (.istore_n 1, 1) := by decide +kernel
theorem dX9_tells_2 : decode cX9_tells 2 = .ok (.iload_n 1, 1) := by decide +kernel
theorem dX9_tells_3 : decode cX9_tells 3 = .ok (.bipush 93, 2) := by decide +kernel
theorem dX9_tells_5 : decode cX9_tells 5 = .ok (.if_icmp .ge 16, 3) := by decide +kernel
theorem dX9_tells_8 : decode cX9_tells 8 = .ok (.aload_n 0, 1) := by decide +kernel
theorem dX9_tells_9 : decode cX9_tells 9 = .ok (.getfield 13, 3) := by decide +kernel
theorem dX9_tells_12 : decode cX9_tells 12 = .ok (.iload_n 1, 1) := by decide +kernel
theorem dX9_tells_13 : decode cX9_tells 13 = .ok (.iconst 0, 1) := by decide +kernel
theorem dX9_tells_14 : decode cX9_tells 14 = .ok (.iastore, 1) := by decide +kernel
theorem dX9_tells_15 : decode cX9_tells 15 = .ok (.iinc 1 1, 3) := by decide +kernel
theorem dX9_tells_18 : decode cX9_tells 18 = .ok (.goto (-16), 3) := by decide +kernel
theorem dX9_tells_21 : decode cX9_tells 21 = .ok (.aload_n 0, 1) := by decide +kernel
theorem dX9_tells_22 : decode cX9_tells 22 = .ok (.iconst 0, 1) := by decide +kernel
theorem dX9_tells_23 : decode cX9_tells 23 = .ok (.putfield 150, 3) := by decide +kernel
theorem dX9_tells_26 : decode cX9_tells 26 = .ok (.aload_n 0, 1) := by decide +kernel
theorem dX9_tells_27 : decode cX9_tells 27 = .ok (.bipush (-9), 2) := by decide +kernel
theorem dX9_tells_29 : decode cX9_tells 29 = .ok (.putfield 169, 3) := by decide +kernel
theorem dX9_tells_32 : decode cX9_tells 32 = .ok (.iconst 0, 1) := by decide +kernel
theorem dX9_tells_33 : decode cX9_tells 33 = .ok (.istore_n 1, 1) := by decide +kernel
theorem dX9_tells_34 : decode cX9_tells 34 = .ok (.aload_n 0, 1) := by decide +kernel
theorem dX9_tells_35 : decode cX9_tells 35 = .ok (.invokevirtual 172, 3) := by decide +kernel
theorem dX9_tells_38 : decode cX9_tells 38 = .ok (.aload_n 0, 1) := by decide +kernel
theorem dX9_tells_39 : decode cX9_tells 39 = .ok (.getfield 169, 3) := by decide +kernel
theorem dX9_tells_42 : decode cX9_tells 42 = .ok (.bipush (-9), 2) := by decide +kernel
theorem dX9_tells_44 : decode cX9_tells 44 = .ok (.if_icmp .ne 20, 3) := by decide +kernel
theorem dX9_tells_47 : decode cX9_tells 47 = .ok (.aload_n 0, 1) := by decide +kernel
theorem dX9_tells_48 : decode cX9_tells 48 = .ok (.getfield 162, 3) := by decide +kernel
theorem dX9_tells_51 : decode cX9_tells 51 = .ok (.ifCond .eq 13, 3) := by decide +kernel
theorem dX9_tells_54 : decode cX9_tells 54 = .ok (.aload_n 0, 1) := by decide +kernel
theorem dX9_tells_55 : decode cX9_tells 55 = .ok (.invokevirtual 197, 3) := by decide +kernel
theorem dX9_tells_58 : decode cX9_tells 58 = .ok (.iinc 1 1, 3) := by decide +kernel
theorem dX9_tells_61 : decode cX9_tells 61 = .ok (.goto (-23), 3) := by decide +kernel
theorem dX9_tells_64 : decode cX9_tells 64 = .ok (.aload_n 0, 1) := by decide +kernel
theorem dX9_tells_65 : decode cX9_tells 65 = .ok (.getfield 169, 3) := by decide +kernel
theorem dX9_tells_68 : decode cX9_tells 68 = .ok (.bipush (-9), 2) := by decide +kernel
theorem dX9_tells_70 : decode cX9_tells 70 = .ok (.if_icmp .eq 11, 3) := by decide +kernel
theorem dX9_tells_73 : decode cX9_tells 73 = .ok (.bipush (-10), 2) := by decide +kernel
theorem dX9_tells_75 : decode cX9_tells 75 = .ok (.aload_n 0, 1) := by decide +kernel
theorem dX9_tells_76 : decode cX9_tells 76 = .ok (.getfield 169, 3) := by decide +kernel
theorem dX9_tells_79 : decode cX9_tells 79 = .ok (.isub, 1) := by decide +kernel
theorem dX9_tells_80 : decode cX9_tells 80 = .ok (.ireturn, 1) := by decide +kernel
theorem dX9_tells_81 : decode cX9_tells 81 = .ok (.iconst 0, 1) := by decide +kernel
theorem dX9_tells_82 : decode cX9_tells 82 = .ok (.istore_n 2, 1) := by decide +kernel
theorem dX9_tells_83 : decode cX9_tells 83 = .ok (.iload_n 2, 1) := by decide +kernel
theorem dX9_tells_84 : decode cX9_tells 84 = .ok (.bipush 93, 2) := by decide +kernel
theorem dX9_tells_86 : decode cX9_tells 86 = .ok (.if_icmp .ge 21, 3) := by decide +kernel
theorem dX9_tells_89 : decode cX9_tells 89 = .ok (.aload_n 0, 1) := by decide +kernel
theorem dX9_tells_90 : decode cX9_tells 90 = .ok (.getfield 7, 3) := by decide +kernel
theorem dX9_tells_93 : decode cX9_tells 93 = .ok (.iload_n 2, 1) := by decide +kernel
theorem dX9_tells_94 : decode cX9_tells 94 = .ok (.aload_n 0, 1) := by decide +kernel
theorem dX9_tells_95 : decode cX9_tells 95 = .ok (.getfield 13, 3) := by decide +kernel
theorem dX9_tells_98 : decode cX9_tells 98 = .ok (.iload_n 2, 1) := by decide +kernel
theorem dX9_tells_99 : decode cX9_tells 99 = .ok (.iaload, 1) := by decide +kernel
theorem dX9_tells_100 : decode cX9_tells 100 = .ok (.iastore, 1) := by decide +kernel
theorem dX9_tells_101 : decode cX9_tells 101 = .ok (.iinc 2 1, 3) := by decide +kernel
theorem dX9_tells_104 : decode cX9_tells 104 = .ok (.goto (-21), 3) := by decide +kernel
theorem dX9_tells_107 : decode cX9_tells 107 = .ok (.aload_n 0, 1) := by decide +kernel
theorem dX9_tells_108 : decode cX9_tells 108 = .ok (.iconst 0, 1) := by decide +kernel
theorem dX9_tells_109 : decode cX9_tells 109 = .ok (.putfield 147, 3) := by decide +kernel
theorem dX9_tells_112 : decode cX9_tells 112 = .ok (.aload_n 0, 1) := by decide +kernel
theorem dX9_tells_113 : decode cX9_tells 113 = .ok (.invokevirtual 32, 3) := by decide +kernel
theorem dX9_tells_116 : decode cX9_tells 116 = .ok (.iload_n 1, 1) := by decide +kernel
theorem dX9_tells_117 : decode cX9_tells 117 = .ok (.ireturn, 1) := by decide +kernel
