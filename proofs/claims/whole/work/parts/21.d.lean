theorem dX4_parse_0 : decode cX4_parse 0 = .ok (.aload_n 0, 1) := by decide +kernel
theorem dX4_parse_1 : decode cX4_parse 1 = .ok (.getfield 12, 3) := by decide +kernel
theorem dX4_parse_4 : decode cX4_parse 4 = .ok (.invokevirtual 27, 3) := by decide +kernel
theorem dX4_parse_7 : decode cX4_parse 7 = .ok (.aload_n 0, 1) := by decide +kernel
theorem dX4_parse_8 : decode cX4_parse 8 = .ok (.getfield 23, 3) := by decide +kernel
theorem dX4_parse_11 : decode cX4_parse 11 = .ok (.invokevirtual 30, 3) := by decide +kernel
theorem dX4_parse_14 : decode cX4_parse 14 = .ok (.iconst 0, 1) := by decide +kernel
theorem dX4_parse_15 : decode cX4_parse 15 = .ok (.istore_n 1, 1) := by decide +kernel
theorem dX4_parse_16 : decode cX4_parse 16 = .ok (.iload_n 1, 1) := by decide +kernel
theorem dX4_parse_17 : decode cX4_parse 17 = .ok (.sipush 160, 3) := by decide +kernel
theorem dX4_parse_20 : decode cX4_parse 20 = .ok (.if_icmp .gt 39, 3) := by decide +kernel
theorem dX4_parse_23 : decode cX4_parse 23 = .ok (.aload_n 0, 1) := by decide +kernel
theorem dX4_parse_24 : decode cX4_parse 24 = .ok (.getfield 23, 3) := by decide +kernel
theorem dX4_parse_27 : decode cX4_parse 27 = .ok (.invokevirtual 33, 3) := by decide +kernel
theorem dX4_parse_30 : decode cX4_parse 30 = .ok (.aload_n 0, 1) := by decide +kernel
theorem dX4_parse_31 : decode cX4_parse 31 = .ok (.getfield 23, 3) := by decide +kernel
theorem dX4_parse_34 : decode cX4_parse 34 = .ok (.getfield 36, 3) := by decide +kernel
theorem dX4_parse_37 : decode cX4_parse 37 = .ok (.iconst 4, 1) := by decide +kernel
theorem dX4_parse_38 : decode cX4_parse 38 = .ok (.if_icmp .ne 5, 3) := by decide +kernel
theorem dX4_parse_41 : decode cX4_parse 41 = .ok (.iload_n 1, 1) := by decide +kernel
theorem dX4_parse_42 : decode cX4_parse 42 = .ok (.ireturn, 1) := by decide +kernel
theorem dX4_parse_43 : decode cX4_parse 43 = .ok (.aload_n 0, 1) := by decide +kernel
theorem dX4_parse_44 : decode cX4_parse 44 = .ok (.invokevirtual 40, 3) := by decide +kernel
theorem dX4_parse_47 : decode cX4_parse 47 = .ok (.ifCond .ne 6, 3) := by decide +kernel
theorem dX4_parse_50 : decode cX4_parse 50 = .ok (.goto 9, 3) := by decide +kernel
theorem dX4_parse_53 : decode cX4_parse 53 = .ok (.iinc 1 1, 3) := by decide +kernel
theorem dX4_parse_56 : decode cX4_parse 56 = .ok (.goto (-40), 3) := by decide +kernel
theorem dX4_parse_59 : decode cX4_parse 59 = .ok (.bipush (-10), 2) := by decide +kernel
theorem dX4_parse_61 : decode cX4_parse 61 = .ok (.aload_n 0, 1) := by decide +kernel
theorem dX4_parse_62 : decode cX4_parse 62 = .ok (.getfield 23, 3) := by decide +kernel
theorem dX4_parse_65 : decode cX4_parse 65 = .ok (.getfield 44, 3) := by decide +kernel
theorem dX4_parse_68 : decode cX4_parse 68 = .ok (.isub, 1) := by decide +kernel
theorem dX4_parse_69 : decode cX4_parse 69 = .ok (.ireturn, 1) := by decide +kernel
