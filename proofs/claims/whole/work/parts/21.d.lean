theorem dX0_empty_0 : decode cX0_empty 0 = .ok (.aload_n 0, 1) := by decide +kernel
theorem dX0_empty_1 : decode cX0_empty 1 = .ok (.iconst 0, 1) := by decide +kernel
theorem dX0_empty_2 : decode cX0_empty 2 = .ok (.putfield 48, 3) := by decide +kernel
theorem dX0_empty_5 : decode cX0_empty 5 = .ok (.aload_n 0, 1) := by decide +kernel
theorem dX0_empty_6 : decode cX0_empty 6 = .ok (.iconst 0, 1) := by decide +kernel
theorem dX0_empty_7 : decode cX0_empty 7 = .ok (.putfield 52, 3) := by decide +kernel
theorem dX0_empty_10 : decode cX0_empty 10 = .ok (.aload_n 0, 1) := by decide +kernel
theorem dX0_empty_11 : decode cX0_empty 11 = .ok (.iconst 0, 1) := by decide +kernel
theorem dX0_empty_12 : decode cX0_empty 12 = .ok (.putfield 55, 3) := by decide +kernel
theorem dX0_empty_15 : decode cX0_empty 15 = .ok (.return_, 1) := by decide +kernel
theorem dX0_greatestValue_0 : decode cX0_greatestValue 0 = .ok (.aload_n 0, 1) := by decide +kernel
theorem dX0_greatestValue_1 : decode cX0_greatestValue 1 = .ok (.getfield 33, 3) := by decide +kernel
theorem dX0_greatestValue_4 : decode cX0_greatestValue 4 = .ok (.iload_n 1, 1) := by decide +kernel
theorem dX0_greatestValue_5 : decode cX0_greatestValue 5 = .ok (.iaload, 1) := by decide +kernel
theorem dX0_greatestValue_6 : decode cX0_greatestValue 6 = .ok (.aload_n 0, 1) := by decide +kernel
theorem dX0_greatestValue_7 : decode cX0_greatestValue 7 = .ok (.getfield 27, 3) := by decide +kernel
theorem dX0_greatestValue_10 : decode cX0_greatestValue 10 = .ok (.iload_n 1, 1) := by decide +kernel
theorem dX0_greatestValue_11 : decode cX0_greatestValue 11 = .ok (.iaload, 1) := by decide +kernel
theorem dX0_greatestValue_12 : decode cX0_greatestValue 12 = .ok (.ishr, 1) := by decide +kernel
theorem dX0_greatestValue_13 : decode cX0_greatestValue 13 = .ok (.ireturn, 1) := by decide +kernel
theorem dX0_canHold_0 : decode cX0_canHold 0 = .ok (.iload_n 1, 1) := by decide +kernel
theorem dX0_canHold_1 : decode cX0_canHold 1 = .ok (.aload_n 0, 1) := by decide +kernel
theorem dX0_canHold_2 : decode cX0_canHold 2 = .ok (.getfield 52, 3) := by decide +kernel
theorem dX0_canHold_5 : decode cX0_canHold 5 = .ok (.invokestatic 58, 3) := by decide +kernel
theorem dX0_canHold_8 : decode cX0_canHold 8 = .ok (.ifCond .eq 20, 3) := by decide +kernel
theorem dX0_canHold_11 : decode cX0_canHold 11 = .ok (.iload_n 2, 1) := by decide +kernel
theorem dX0_canHold_12 : decode cX0_canHold 12 = .ok (.ifCond .lt 16, 3) := by decide +kernel
theorem dX0_canHold_15 : decode cX0_canHold 15 = .ok (.iload_n 2, 1) := by decide +kernel
theorem dX0_canHold_16 : decode cX0_canHold 16 = .ok (.aload_n 0, 1) := by decide +kernel
theorem dX0_canHold_17 : decode cX0_canHold 17 = .ok (.iload_n 1, 1) := by decide +kernel
theorem dX0_canHold_18 : decode cX0_canHold 18 = .ok (.invokevirtual 62, 3) := by decide +kernel
theorem dX0_canHold_21 : decode cX0_canHold 21 = .ok (.if_icmp .gt 7, 3) := by decide +kernel
theorem dX0_canHold_24 : decode cX0_canHold 24 = .ok (.iconst 1, 1) := by decide +kernel
theorem dX0_canHold_25 : decode cX0_canHold 25 = .ok (.goto 4, 3) := by decide +kernel
theorem dX0_canHold_28 : decode cX0_canHold 28 = .ok (.iconst 0, 1) := by decide +kernel
theorem dX0_canHold_29 : decode cX0_canHold 29 = .ok (.ireturn, 1) := by decide +kernel
theorem dX0_usedBits_0 : decode cX0_usedBits 0 = .ok (.iconst 0, 1) := by decide +kernel
theorem dX0_usedBits_1 : decode cX0_usedBits 1 = .ok (.istore_n 2, 1) := by decide +kernel
theorem dX0_usedBits_2 : decode cX0_usedBits 2 = .ok (.iconst 0, 1) := by decide +kernel
theorem dX0_usedBits_3 : decode cX0_usedBits 3 = .ok (.istore_n 3, 1) := by decide +kernel
theorem dX0_usedBits_4 : decode cX0_usedBits 4 = .ok (.iload_n 3, 1) := by decide +kernel
theorem dX0_usedBits_5 : decode cX0_usedBits 5 = .ok (.aload_n 0, 1) := by decide +kernel
theorem dX0_usedBits_6 : decode cX0_usedBits 6 = .ok (.getfield 52, 3) := by decide +kernel
theorem dX0_usedBits_9 : decode cX0_usedBits 9 = .ok (.if_icmp .ge 28, 3) := by decide +kernel
theorem dX0_usedBits_12 : decode cX0_usedBits 12 = .ok (.aload_n 0, 1) := by decide +kernel
theorem dX0_usedBits_13 : decode cX0_usedBits 13 = .ok (.getfield 21, 3) := by decide +kernel
theorem dX0_usedBits_16 : decode cX0_usedBits 16 = .ok (.iload_n 3, 1) := by decide +kernel
theorem dX0_usedBits_17 : decode cX0_usedBits 17 = .ok (.iaload, 1) := by decide +kernel
theorem dX0_usedBits_18 : decode cX0_usedBits 18 = .ok (.iload_n 1, 1) := by decide +kernel
theorem dX0_usedBits_19 : decode cX0_usedBits 19 = .ok (.if_icmp .ne 12, 3) := by decide +kernel
theorem dX0_usedBits_22 : decode cX0_usedBits 22 = .ok (.iload_n 2, 1) := by decide +kernel
theorem dX0_usedBits_23 : decode cX0_usedBits 23 = .ok (.aload_n 0, 1) := by decide +kernel
theorem dX0_usedBits_24 : decode cX0_usedBits 24 = .ok (.getfield 33, 3) := by decide +kernel
theorem dX0_usedBits_27 : decode cX0_usedBits 27 = .ok (.iload_n 3, 1) := by decide +kernel
theorem dX0_usedBits_28 : decode cX0_usedBits 28 = .ok (.iaload, 1) := by decide +kernel
theorem dX0_usedBits_29 : decode cX0_usedBits 29 = .ok (.ior, 1) := by decide +kernel
theorem dX0_usedBits_30 : decode cX0_usedBits 30 = .ok (.istore_n 2, 1) := by decide +kernel
theorem dX0_usedBits_31 : decode cX0_usedBits 31 = .ok (.iinc 3 1, 3) := by decide +kernel
theorem dX0_usedBits_34 : decode cX0_usedBits 34 = .ok (.goto (-30), 3) := by decide +kernel
theorem dX0_usedBits_37 : decode cX0_usedBits 37 = .ok (.iload_n 2, 1) := by decide +kernel
theorem dX0_usedBits_38 : decode cX0_usedBits 38 = .ok (.ireturn, 1) := by decide +kernel
theorem dX0_plainBits_0 : decode cX0_plainBits 0 = .ok (.iconst 0, 1) := by decide +kernel
theorem dX0_plainBits_1 : decode cX0_plainBits 1 = .ok (.istore_n 2, 1) := by decide +kernel
theorem dX0_plainBits_2 : decode cX0_plainBits 2 = .ok (.iconst 0, 1) := by decide +kernel
theorem dX0_plainBits_3 : decode cX0_plainBits 3 = .ok (.istore_n 3, 1) := by decide +kernel
theorem dX0_plainBits_4 : decode cX0_plainBits 4 = .ok (.iload_n 3, 1) := by decide +kernel
theorem dX0_plainBits_5 : decode cX0_plainBits 5 = .ok (.aload_n 0, 1) := by decide +kernel
theorem dX0_plainBits_6 : decode cX0_plainBits 6 = .ok (.getfield 52, 3) := by decide +kernel
theorem dX0_plainBits_9 : decode cX0_plainBits 9 = .ok (.if_icmp .ge 37, 3) := by decide +kernel
theorem dX0_plainBits_12 : decode cX0_plainBits 12 = .ok (.aload_n 0, 1) := by decide +kernel
theorem dX0_plainBits_13 : decode cX0_plainBits 13 = .ok (.getfield 21, 3) := by decide +kernel
theorem dX0_plainBits_16 : decode cX0_plainBits 16 = .ok (.iload_n 3, 1) := by decide +kernel
theorem dX0_plainBits_17 : decode cX0_plainBits 17 = .ok (.iaload, 1) := by decide +kernel
theorem dX0_plainBits_18 : decode cX0_plainBits 18 = .ok (.iload_n 1, 1) := by decide +kernel
theorem dX0_plainBits_19 : decode cX0_plainBits 19 = .ok (.if_icmp .ne 21, 3) := by decide +kernel
theorem dX0_plainBits_22 : decode cX0_plainBits 22 = .ok (.aload_n 0, 1) := by decide +kernel
theorem dX0_plainBits_23 : decode cX0_plainBits 23 = .ok (.getfield 24, 3) := by decide +kernel
theorem dX0_plainBits_26 : decode cX0_plainBits 26 = .ok (.iload_n 3, 1) := by decide +kernel
theorem dX0_plainBits_27 : decode cX0_plainBits 27 = .ok (.iaload, 1) := by decide +kernel
theorem dX0_plainBits_28 : decode cX0_plainBits 28 = .ok (.ifCond .ne 12, 3) := by decide +kernel
theorem dX0_plainBits_31 : decode cX0_plainBits 31 = .ok (.iload_n 2, 1) := by decide +kernel
theorem dX0_plainBits_32 : decode cX0_plainBits 32 = .ok (.aload_n 0, 1) := by decide +kernel
theorem dX0_plainBits_33 : decode cX0_plainBits 33 = .ok (.getfield 33, 3) := by decide +kernel
theorem dX0_plainBits_36 : decode cX0_plainBits 36 = .ok (.iload_n 3, 1) := by decide +kernel
theorem dX0_plainBits_37 : decode cX0_plainBits 37 = .ok (.iaload, 1) := by decide +kernel
theorem dX0_plainBits_38 : decode cX0_plainBits 38 = .ok (.ior, 1) := by decide +kernel
theorem dX0_plainBits_39 : decode cX0_plainBits 39 = .ok (.istore_n 2, 1) := by decide +kernel
theorem dX0_plainBits_40 : decode cX0_plainBits 40 = .ok (.iinc 3 1, 3) := by decide +kernel
theorem dX0_plainBits_43 : decode cX0_plainBits 43 = .ok (.goto (-39), 3) := by decide +kernel
theorem dX0_plainBits_46 : decode cX0_plainBits 46 = .ok (.iload_n 2, 1) := by decide +kernel
theorem dX0_plainBits_47 : decode cX0_plainBits 47 = .ok (.ireturn, 1) := by decide +kernel
theorem dX0_bitsOfFields_0 : decode cX0_bitsOfFields 0 = .ok (.iconst 0, 1) := by decide +kernel
theorem dX0_bitsOfFields_1 : decode cX0_bitsOfFields 1 = .ok (.istore_n 1, 1) := by decide +kernel
theorem dX0_bitsOfFields_2 : decode cX0_bitsOfFields 2 = .ok (.iconst 0, 1) := by decide +kernel
theorem dX0_bitsOfFields_3 : decode cX0_bitsOfFields 3 = .ok (.istore_n 2, 1) := by decide +kernel
theorem dX0_bitsOfFields_4 : decode cX0_bitsOfFields 4 = .ok (.iload_n 2, 1) := by decide +kernel
theorem dX0_bitsOfFields_5 : decode cX0_bitsOfFields 5 = .ok (.aload_n 0, 1) := by decide +kernel
theorem dX0_bitsOfFields_6 : decode cX0_bitsOfFields 6 = .ok (.getfield 52, 3) := by decide +kernel
theorem dX0_bitsOfFields_9 : decode cX0_bitsOfFields 9 = .ok (.if_icmp .ge 21, 3) := by decide +kernel
theorem dX0_bitsOfFields_12 : decode cX0_bitsOfFields 12 = .ok (.iload_n 1, 1) := by decide +kernel
theorem dX0_bitsOfFields_13 : decode cX0_bitsOfFields 13 = .ok (.aload_n 0, 1) := by decide +kernel
theorem dX0_bitsOfFields_14 : decode cX0_bitsOfFields 14 = .ok (.getfield 33, 3) := by decide +kernel
theorem dX0_bitsOfFields_17 : decode cX0_bitsOfFields 17 = .ok (.iload_n 2, 1) := by decide +kernel
theorem dX0_bitsOfFields_18 : decode cX0_bitsOfFields 18 = .ok (.iaload, 1) := by decide +kernel
theorem dX0_bitsOfFields_19 : decode cX0_bitsOfFields 19 = .ok (.invokestatic 66, 3) := by decide +kernel
theorem dX0_bitsOfFields_22 : decode cX0_bitsOfFields 22 = .ok (.iadd, 1) := by decide +kernel
theorem dX0_bitsOfFields_23 : decode cX0_bitsOfFields 23 = .ok (.istore_n 1, 1) := by decide +kernel
theorem dX0_bitsOfFields_24 : decode cX0_bitsOfFields 24 = .ok (.iinc 2 1, 3) := by decide +kernel
theorem dX0_bitsOfFields_27 : decode cX0_bitsOfFields 27 = .ok (.goto (-23), 3) := by decide +kernel
theorem dX0_bitsOfFields_30 : decode cX0_bitsOfFields 30 = .ok (.iload_n 1, 1) := by decide +kernel
theorem dX0_bitsOfFields_31 : decode cX0_bitsOfFields 31 = .ok (.ireturn, 1) := by decide +kernel
theorem dX0_holdersOf_0 : decode cX0_holdersOf 0 = .ok (.iconst 0, 1) := by decide +kernel
theorem dX0_holdersOf_1 : decode cX0_holdersOf 1 = .ok (.istore_n 2, 1) := by decide +kernel
theorem dX0_holdersOf_2 : decode cX0_holdersOf 2 = .ok (.iconst 0, 1) := by decide +kernel
theorem dX0_holdersOf_3 : decode cX0_holdersOf 3 = .ok (.istore_n 3, 1) := by decide +kernel
theorem dX0_holdersOf_4 : decode cX0_holdersOf 4 = .ok (.iload_n 3, 1) := by decide +kernel
theorem dX0_holdersOf_5 : decode cX0_holdersOf 5 = .ok (.aload_n 0, 1) := by decide +kernel
theorem dX0_holdersOf_6 : decode cX0_holdersOf 6 = .ok (.getfield 48, 3) := by decide +kernel
theorem dX0_holdersOf_9 : decode cX0_holdersOf 9 = .ok (.if_icmp .ge 22, 3) := by decide +kernel
theorem dX0_holdersOf_12 : decode cX0_holdersOf 12 = .ok (.aload_n 0, 1) := by decide +kernel
theorem dX0_holdersOf_13 : decode cX0_holdersOf 13 = .ok (.getfield 9, 3) := by decide +kernel
theorem dX0_holdersOf_16 : decode cX0_holdersOf 16 = .ok (.iload_n 3, 1) := by decide +kernel
theorem dX0_holdersOf_17 : decode cX0_holdersOf 17 = .ok (.iaload, 1) := by decide +kernel
theorem dX0_holdersOf_18 : decode cX0_holdersOf 18 = .ok (.iload_n 1, 1) := by decide +kernel
theorem dX0_holdersOf_19 : decode cX0_holdersOf 19 = .ok (.if_icmp .ne 6, 3) := by decide +kernel
theorem dX0_holdersOf_22 : decode cX0_holdersOf 22 = .ok (.iinc 2 1, 3) := by decide +kernel
theorem dX0_holdersOf_25 : decode cX0_holdersOf 25 = .ok (.iinc 3 1, 3) := by decide +kernel
theorem dX0_holdersOf_28 : decode cX0_holdersOf 28 = .ok (.goto (-24), 3) := by decide +kernel
theorem dX0_holdersOf_31 : decode cX0_holdersOf 31 = .ok (.iconst 0, 1) := by decide +kernel
theorem dX0_holdersOf_32 : decode cX0_holdersOf 32 = .ok (.istore_n 3, 1) := by decide +kernel
theorem dX0_holdersOf_33 : decode cX0_holdersOf 33 = .ok (.iload_n 3, 1) := by decide +kernel
theorem dX0_holdersOf_34 : decode cX0_holdersOf 34 = .ok (.aload_n 0, 1) := by decide +kernel
theorem dX0_holdersOf_35 : decode cX0_holdersOf 35 = .ok (.getfield 55, 3) := by decide +kernel
theorem dX0_holdersOf_38 : decode cX0_holdersOf 38 = .ok (.if_icmp .ge 22, 3) := by decide +kernel
theorem dX0_holdersOf_41 : decode cX0_holdersOf 41 = .ok (.aload_n 0, 1) := by decide +kernel
theorem dX0_holdersOf_42 : decode cX0_holdersOf 42 = .ok (.getfield 39, 3) := by decide +kernel
theorem dX0_holdersOf_45 : decode cX0_holdersOf 45 = .ok (.iload_n 3, 1) := by decide +kernel
theorem dX0_holdersOf_46 : decode cX0_holdersOf 46 = .ok (.iaload, 1) := by decide +kernel
theorem dX0_holdersOf_47 : decode cX0_holdersOf 47 = .ok (.iload_n 1, 1) := by decide +kernel
theorem dX0_holdersOf_48 : decode cX0_holdersOf 48 = .ok (.if_icmp .ne 6, 3) := by decide +kernel
theorem dX0_holdersOf_51 : decode cX0_holdersOf 51 = .ok (.iinc 2 1, 3) := by decide +kernel
theorem dX0_holdersOf_54 : decode cX0_holdersOf 54 = .ok (.iinc 3 1, 3) := by decide +kernel
theorem dX0_holdersOf_57 : decode cX0_holdersOf 57 = .ok (.goto (-24), 3) := by decide +kernel
theorem dX0_holdersOf_60 : decode cX0_holdersOf 60 = .ok (.iload_n 2, 1) := by decide +kernel
theorem dX0_holdersOf_61 : decode cX0_holdersOf 61 = .ok (.ireturn, 1) := by decide +kernel
theorem dX0_isLock_0 : decode cX0_isLock 0 = .ok (.iconst 0, 1) := by decide +kernel
theorem dX0_isLock_1 : decode cX0_isLock 1 = .ok (.istore_n 2, 1) := by decide +kernel
theorem dX0_isLock_2 : decode cX0_isLock 2 = .ok (.iload_n 2, 1) := by decide +kernel
theorem dX0_isLock_3 : decode cX0_isLock 3 = .ok (.aload_n 0, 1) := by decide +kernel
theorem dX0_isLock_4 : decode cX0_isLock 4 = .ok (.getfield 48, 3) := by decide +kernel
theorem dX0_isLock_7 : decode cX0_isLock 7 = .ok (.if_icmp .ge 21, 3) := by decide +kernel
theorem dX0_isLock_10 : decode cX0_isLock 10 = .ok (.aload_n 0, 1) := by decide +kernel
theorem dX0_isLock_11 : decode cX0_isLock 11 = .ok (.getfield 15, 3) := by decide +kernel
theorem dX0_isLock_14 : decode cX0_isLock 14 = .ok (.iload_n 2, 1) := by decide +kernel
theorem dX0_isLock_15 : decode cX0_isLock 15 = .ok (.iaload, 1) := by decide +kernel
theorem dX0_isLock_16 : decode cX0_isLock 16 = .ok (.iload_n 1, 1) := by decide +kernel
theorem dX0_isLock_17 : decode cX0_isLock 17 = .ok (.if_icmp .ne 5, 3) := by decide +kernel
theorem dX0_isLock_20 : decode cX0_isLock 20 = .ok (.iconst 1, 1) := by decide +kernel
theorem dX0_isLock_21 : decode cX0_isLock 21 = .ok (.ireturn, 1) := by decide +kernel
theorem dX0_isLock_22 : decode cX0_isLock 22 = .ok (.iinc 2 1, 3) := by decide +kernel
theorem dX0_isLock_25 : decode cX0_isLock 25 = .ok (.goto (-23), 3) := by decide +kernel
theorem dX0_isLock_28 : decode cX0_isLock 28 = .ok (.iconst 0, 1) := by decide +kernel
theorem dX0_isLock_29 : decode cX0_isLock 29 = .ok (.ireturn, 1) := by decide +kernel
theorem dX0_isGate_0 : decode cX0_isGate 0 = .ok (.iconst 0, 1) := by decide +kernel
theorem dX0_isGate_1 : decode cX0_isGate 1 = .ok (.istore_n 2, 1) := by decide +kernel
theorem dX0_isGate_2 : decode cX0_isGate 2 = .ok (.iload_n 2, 1) := by decide +kernel
theorem dX0_isGate_3 : decode cX0_isGate 3 = .ok (.aload_n 0, 1) := by decide +kernel
theorem dX0_isGate_4 : decode cX0_isGate 4 = .ok (.getfield 48, 3) := by decide +kernel
theorem dX0_isGate_7 : decode cX0_isGate 7 = .ok (.if_icmp .ge 21, 3) := by decide +kernel
theorem dX0_isGate_10 : decode cX0_isGate 10 = .ok (.aload_n 0, 1) := by decide +kernel
theorem dX0_isGate_11 : decode cX0_isGate 11 = .ok (.getfield 18, 3) := by decide +kernel
theorem dX0_isGate_14 : decode cX0_isGate 14 = .ok (.iload_n 2, 1) := by decide +kernel
theorem dX0_isGate_15 : decode cX0_isGate 15 = .ok (.iaload, 1) := by decide +kernel
theorem dX0_isGate_16 : decode cX0_isGate 16 = .ok (.iload_n 1, 1) := by decide +kernel
theorem dX0_isGate_17 : decode cX0_isGate 17 = .ok (.if_icmp .ne 5, 3) := by decide +kernel
theorem dX0_isGate_20 : decode cX0_isGate 20 = .ok (.iconst 1, 1) := by decide +kernel
theorem dX0_isGate_21 : decode cX0_isGate 21 = .ok (.ireturn, 1) := by decide +kernel
theorem dX0_isGate_22 : decode cX0_isGate 22 = .ok (.iinc 2 1, 3) := by decide +kernel
theorem dX0_isGate_25 : decode cX0_isGate 25 = .ok (.goto (-23), 3) := by decide +kernel
theorem dX0_isGate_28 : decode cX0_isGate 28 = .ok (.iconst 0, 1) := by decide +kernel
theorem dX0_isGate_29 : decode cX0_isGate 29 = .ok (.ireturn, 1) := by decide +kernel
theorem dX0_canReach_0 : decode cX0_canReach 0 = .ok (.aload_n 0, 1) := by decide +kernel
theorem dX0_canReach_1 : decode cX0_canReach 1 = .ok (.iload_n 1, 1) := by decide +kernel
theorem dX0_canReach_2 : decode cX0_canReach 2 = .ok (.invokevirtual 77, 3) := by decide +kernel
theorem dX0_canReach_5 : decode cX0_canReach 5 = .ok (.istore_n 3, 1) := by decide +kernel
theorem dX0_canReach_6 : decode cX0_canReach 6 = .ok (.iload_n 3, 1) := by decide +kernel
theorem dX0_canReach_7 : decode cX0_canReach 7 = .ok (.bipush (-9), 2) := by decide +kernel
theorem dX0_canReach_9 : decode cX0_canReach 9 = .ok (.if_icmp .eq 31, 3) := by decide +kernel
theorem dX0_canReach_12 : decode cX0_canReach 12 = .ok (.iload_n 3, 1) := by decide +kernel
theorem dX0_canReach_13 : decode cX0_canReach 13 = .ok (.aload_n 0, 1) := by decide +kernel
theorem dX0_canReach_14 : decode cX0_canReach 14 = .ok (.getfield 21, 3) := by decide +kernel
theorem dX0_canReach_17 : decode cX0_canReach 17 = .ok (.iload_n 2, 1) := by decide +kernel
theorem dX0_canReach_18 : decode cX0_canReach 18 = .ok (.iaload, 1) := by decide +kernel
theorem dX0_canReach_19 : decode cX0_canReach 19 = .ok (.if_icmp .eq 17, 3) := by decide +kernel
theorem dX0_canReach_22 : decode cX0_canReach 22 = .ok (.aload_n 0, 1) := by decide +kernel
theorem dX0_canReach_23 : decode cX0_canReach 23 = .ok (.aload_n 0, 1) := by decide +kernel
theorem dX0_canReach_24 : decode cX0_canReach 24 = .ok (.getfield 21, 3) := by decide +kernel
theorem dX0_canReach_27 : decode cX0_canReach 27 = .ok (.iload_n 2, 1) := by decide +kernel
theorem dX0_canReach_28 : decode cX0_canReach 28 = .ok (.iaload, 1) := by decide +kernel
theorem dX0_canReach_29 : decode cX0_canReach 29 = .ok (.iload_n 3, 1) := by decide +kernel
theorem dX0_canReach_30 : decode cX0_canReach 30 = .ok (.invokevirtual 80, 3) := by decide +kernel
theorem dX0_canReach_33 : decode cX0_canReach 33 = .ok (.ifCond .eq 7, 3) := by decide +kernel
theorem dX0_canReach_36 : decode cX0_canReach 36 = .ok (.iconst 1, 1) := by decide +kernel
theorem dX0_canReach_37 : decode cX0_canReach 37 = .ok (.goto 4, 3) := by decide +kernel
theorem dX0_canReach_40 : decode cX0_canReach 40 = .ok (.iconst 0, 1) := by decide +kernel
theorem dX0_canReach_41 : decode cX0_canReach 41 = .ok (.ireturn, 1) := by decide +kernel
theorem dX1_mend_0 : decode cX1_mend 0 = .ok (.aload_n 1, 1) := by decide +kernel
theorem dX1_mend_1 : decode cX1_mend 1 = .ok (.getfield 31, 3) := by decide +kernel
theorem dX1_mend_4 : decode cX1_mend 4 = .ok (.iconst 0, 1) := by decide +kernel
theorem dX1_mend_5 : decode cX1_mend 5 = .ok (.aload_n 0, 1) := by decide +kernel
theorem dX1_mend_6 : decode cX1_mend 6 = .ok (.getfield 22, 3) := by decide +kernel
theorem dX1_mend_9 : decode cX1_mend 9 = .ok (.iconst 0, 1) := by decide +kernel
theorem dX1_mend_10 : decode cX1_mend 10 = .ok (.bipush 12, 2) := by decide +kernel
theorem dX1_mend_12 : decode cX1_mend 12 = .ok (.invokestatic 25, 3) := by decide +kernel
theorem dX1_mend_15 : decode cX1_mend 15 = .ok (.return_, 1) := by decide +kernel
theorem dX1_brokenFields_0 : decode cX1_brokenFields 0 = .ok (.iconst 0, 1) := by decide +kernel
theorem dX1_brokenFields_1 : decode cX1_brokenFields 1 = .ok (.istore_n 2, 1) := by decide +kernel
theorem dX1_brokenFields_2 : decode cX1_brokenFields 2 = .ok (.iconst 0, 1) := by decide +kernel
theorem dX1_brokenFields_3 : decode cX1_brokenFields 3 = .ok (.istore_n 3, 1) := by decide +kernel
theorem dX1_brokenFields_4 : decode cX1_brokenFields 4 = .ok (.iload_n 3, 1) := by decide +kernel
theorem dX1_brokenFields_5 : decode cX1_brokenFields 5 = .ok (.aload_n 1, 1) := by decide +kernel
theorem dX1_brokenFields_6 : decode cX1_brokenFields 6 = .ok (.getfield 36, 3) := by decide +kernel
theorem dX1_brokenFields_9 : decode cX1_brokenFields 9 = .ok (.if_icmp .ge 27, 3) := by decide +kernel
theorem dX1_brokenFields_12 : decode cX1_brokenFields 12 = .ok (.aload_n 0, 1) := by decide +kernel
theorem dX1_brokenFields_13 : decode cX1_brokenFields 13 = .ok (.getfield 22, 3) := by decide +kernel
theorem dX1_brokenFields_16 : decode cX1_brokenFields 16 = .ok (.iload_n 3, 1) := by decide +kernel
theorem dX1_brokenFields_17 : decode cX1_brokenFields 17 = .ok (.iaload, 1) := by decide +kernel
theorem dX1_brokenFields_18 : decode cX1_brokenFields 18 = .ok (.aload_n 1, 1) := by decide +kernel
theorem dX1_brokenFields_19 : decode cX1_brokenFields 19 = .ok (.getfield 31, 3) := by decide +kernel
theorem dX1_brokenFields_22 : decode cX1_brokenFields 22 = .ok (.iload_n 3, 1) := by decide +kernel
theorem dX1_brokenFields_23 : decode cX1_brokenFields 23 = .ok (.iaload, 1) := by decide +kernel
theorem dX1_brokenFields_24 : decode cX1_brokenFields 24 = .ok (.if_icmp .eq 6, 3) := by decide +kernel
theorem dX1_brokenFields_27 : decode cX1_brokenFields 27 = .ok (.iinc 2 1, 3) := by decide +kernel
theorem dX1_brokenFields_30 : decode cX1_brokenFields 30 = .ok (.iinc 3 1, 3) := by decide +kernel
theorem dX1_brokenFields_33 : decode cX1_brokenFields 33 = .ok (.goto (-29), 3) := by decide +kernel
theorem dX1_brokenFields_36 : decode cX1_brokenFields 36 = .ok (.iload_n 2, 1) := by decide +kernel
theorem dX1_brokenFields_37 : decode cX1_brokenFields 37 = .ok (.ireturn, 1) := by decide +kernel
theorem dX1_write_0 : decode cX1_write 0 = .ok (.aload_n 1, 1) := by decide +kernel
theorem dX1_write_1 : decode cX1_write 1 = .ok (.iload_n 2, 1) := by decide +kernel
theorem dX1_write_2 : decode cX1_write 2 = .ok (.invokevirtual 70, 3) := by decide +kernel
theorem dX1_write_5 : decode cX1_write 5 = .ok (.istore 4, 2) := by decide +kernel
theorem dX1_write_7 : decode cX1_write 7 = .ok (.iload 4, 2) := by decide +kernel
theorem dX1_write_9 : decode cX1_write 9 = .ok (.bipush (-9), 2) := by decide +kernel
theorem dX1_write_11 : decode cX1_write 11 = .ok (.if_icmp .eq 13, 3) := by decide +kernel
theorem dX1_write_14 : decode cX1_write 14 = .ok (.aload_n 0, 1) := by decide +kernel
theorem dX1_write_15 : decode cX1_write 15 = .ok (.aload_n 1, 1) := by decide +kernel
theorem dX1_write_16 : decode cX1_write 16 = .ok (.iload 4, 2) := by decide +kernel
theorem dX1_write_18 : decode cX1_write 18 = .ok (.invokevirtual 83, 3) := by decide +kernel
theorem dX1_write_21 : decode cX1_write 21 = .ok (.ifCond .eq 4, 3) := by decide +kernel
theorem dX1_write_24 : decode cX1_write 24 = .ok (.return_, 1) := by decide +kernel
theorem dX1_write_25 : decode cX1_write 25 = .ok (.aload_n 1, 1) := by decide +kernel
theorem dX1_write_26 : decode cX1_write 26 = .ok (.iload_n 2, 1) := by decide +kernel
theorem dX1_write_27 : decode cX1_write 27 = .ok (.invokevirtual 87, 3) := by decide +kernel
theorem dX1_write_30 : decode cX1_write 30 = .ok (.istore 5, 2) := by decide +kernel
theorem dX1_write_32 : decode cX1_write 32 = .ok (.iload 5, 2) := by decide +kernel
theorem dX1_write_34 : decode cX1_write 34 = .ok (.bipush (-9), 2) := by decide +kernel
theorem dX1_write_36 : decode cX1_write 36 = .ok (.if_icmp .eq 21, 3) := by decide +kernel
theorem dX1_write_39 : decode cX1_write 39 = .ok (.aload_n 0, 1) := by decide +kernel
theorem dX1_write_40 : decode cX1_write 40 = .ok (.aload_n 1, 1) := by decide +kernel
theorem dX1_write_41 : decode cX1_write 41 = .ok (.iload 4, 2) := by decide +kernel
theorem dX1_write_43 : decode cX1_write 43 = .ok (.iload_n 3, 1) := by decide +kernel
theorem dX1_write_44 : decode cX1_write 44 = .ok (.aload_n 1, 1) := by decide +kernel
theorem dX1_write_45 : decode cX1_write 45 = .ok (.getfield 90, 3) := by decide +kernel
theorem dX1_write_48 : decode cX1_write 48 = .ok (.iload 5, 2) := by decide +kernel
theorem dX1_write_50 : decode cX1_write 50 = .ok (.iaload, 1) := by decide +kernel
theorem dX1_write_51 : decode cX1_write 51 = .ok (.invokevirtual 93, 3) := by decide +kernel
theorem dX1_write_54 : decode cX1_write 54 = .ok (.goto 35, 3) := by decide +kernel
theorem dX1_write_57 : decode cX1_write 57 = .ok (.aload_n 1, 1) := by decide +kernel
theorem dX1_write_58 : decode cX1_write 58 = .ok (.getfield 97, 3) := by decide +kernel
theorem dX1_write_61 : decode cX1_write 61 = .ok (.iload 4, 2) := by decide +kernel
theorem dX1_write_63 : decode cX1_write 63 = .ok (.iaload, 1) := by decide +kernel
theorem dX1_write_64 : decode cX1_write 64 = .ok (.bipush (-9), 2) := by decide +kernel
theorem dX1_write_66 : decode cX1_write 66 = .ok (.if_icmp .ne 14, 3) := by decide +kernel
theorem dX1_write_69 : decode cX1_write 69 = .ok (.aload_n 0, 1) := by decide +kernel
theorem dX1_write_70 : decode cX1_write 70 = .ok (.aload_n 1, 1) := by decide +kernel
theorem dX1_write_71 : decode cX1_write 71 = .ok (.iload 4, 2) := by decide +kernel
theorem dX1_write_73 : decode cX1_write 73 = .ok (.iload_n 3, 1) := by decide +kernel
theorem dX1_write_74 : decode cX1_write 74 = .ok (.invokevirtual 100, 3) := by decide +kernel
theorem dX1_write_77 : decode cX1_write 77 = .ok (.goto 12, 3) := by decide +kernel
theorem dX1_write_80 : decode cX1_write 80 = .ok (.aload_n 0, 1) := by decide +kernel
theorem dX1_write_81 : decode cX1_write 81 = .ok (.getfield 15, 3) := by decide +kernel
theorem dX1_write_84 : decode cX1_write 84 = .ok (.iload 4, 2) := by decide +kernel
theorem dX1_write_86 : decode cX1_write 86 = .ok (.iload_n 3, 1) := by decide +kernel
theorem dX1_write_87 : decode cX1_write 87 = .ok (.iastore, 1) := by decide +kernel
theorem dX1_write_88 : decode cX1_write 88 = .ok (.return_, 1) := by decide +kernel
theorem dX1_write_89 : decode cX1_write 89 = .ok (.aload_n 0, 1) := by decide +kernel
theorem dX1_write_90 : decode cX1_write 90 = .ok (.aload_n 1, 1) := by decide +kernel
theorem dX1_write_91 : decode cX1_write 91 = .ok (.iload 4, 2) := by decide +kernel
theorem dX1_write_93 : decode cX1_write 93 = .ok (.iload_n 3, 1) := by decide +kernel
theorem dX1_write_94 : decode cX1_write 94 = .ok (.invokevirtual 103, 3) := by decide +kernel
theorem dX1_write_97 : decode cX1_write 97 = .ok (.return_, 1) := by decide +kernel
theorem dX1_openGates_0 : decode cX1_openGates 0 = .ok (.iconst 0, 1) := by decide +kernel
theorem dX1_openGates_1 : decode cX1_openGates 1 = .ok (.istore 4, 2) := by decide +kernel
theorem dX1_openGates_3 : decode cX1_openGates 3 = .ok (.iload 4, 2) := by decide +kernel
theorem dX1_openGates_5 : decode cX1_openGates 5 = .ok (.aload_n 1, 1) := by decide +kernel
theorem dX1_openGates_6 : decode cX1_openGates 6 = .ok (.getfield 110, 3) := by decide +kernel
theorem dX1_openGates_9 : decode cX1_openGates 9 = .ok (.if_icmp .ge 86, 3) := by decide +kernel
theorem dX1_openGates_12 : decode cX1_openGates 12 = .ok (.aload_n 0, 1) := by decide +kernel
theorem dX1_openGates_13 : decode cX1_openGates 13 = .ok (.getfield 15, 3) := by decide +kernel
theorem dX1_openGates_16 : decode cX1_openGates 16 = .ok (.iload 4, 2) := by decide +kernel
theorem dX1_openGates_18 : decode cX1_openGates 18 = .ok (.iaload, 1) := by decide +kernel
theorem dX1_openGates_19 : decode cX1_openGates 19 = .ok (.bipush (-9), 2) := by decide +kernel
theorem dX1_openGates_21 : decode cX1_openGates 21 = .ok (.if_icmp .eq 68, 3) := by decide +kernel
theorem dX1_openGates_24 : decode cX1_openGates 24 = .ok (.aload_n 1, 1) := by decide +kernel
theorem dX1_openGates_25 : decode cX1_openGates 25 = .ok (.iload 4, 2) := by decide +kernel
theorem dX1_openGates_27 : decode cX1_openGates 27 = .ok (.iload_n 2, 1) := by decide +kernel
theorem dX1_openGates_28 : decode cX1_openGates 28 = .ok (.invokevirtual 113, 3) := by decide +kernel
theorem dX1_openGates_31 : decode cX1_openGates 31 = .ok (.ifCond .eq 58, 3) := by decide +kernel
theorem dX1_openGates_34 : decode cX1_openGates 34 = .ok (.iload_n 3, 1) := by decide +kernel
theorem dX1_openGates_35 : decode cX1_openGates 35 = .ok (.aload_n 1, 1) := by decide +kernel
theorem dX1_openGates_36 : decode cX1_openGates 36 = .ok (.getfield 53, 3) := by decide +kernel
theorem dX1_openGates_39 : decode cX1_openGates 39 = .ok (.aload_n 1, 1) := by decide +kernel
theorem dX1_openGates_40 : decode cX1_openGates 40 = .ok (.getfield 97, 3) := by decide +kernel
theorem dX1_openGates_43 : decode cX1_openGates 43 = .ok (.iload 4, 2) := by decide +kernel
theorem dX1_openGates_45 : decode cX1_openGates 45 = .ok (.iaload, 1) := by decide +kernel
theorem dX1_openGates_46 : decode cX1_openGates 46 = .ok (.iaload, 1) := by decide +kernel
theorem dX1_openGates_47 : decode cX1_openGates 47 = .ok (.ishr, 1) := by decide +kernel
theorem dX1_openGates_48 : decode cX1_openGates 48 = .ok (.iconst 1, 1) := by decide +kernel
theorem dX1_openGates_49 : decode cX1_openGates 49 = .ok (.iand, 1) := by decide +kernel
theorem dX1_openGates_50 : decode cX1_openGates 50 = .ok (.ifCond .ne 6, 3) := by decide +kernel
theorem dX1_openGates_53 : decode cX1_openGates 53 = .ok (.goto 36, 3) := by decide +kernel
theorem dX1_openGates_56 : decode cX1_openGates 56 = .ok (.aload_n 0, 1) := by decide +kernel
theorem dX1_openGates_57 : decode cX1_openGates 57 = .ok (.aload_n 1, 1) := by decide +kernel
theorem dX1_openGates_58 : decode cX1_openGates 58 = .ok (.iload 4, 2) := by decide +kernel
theorem dX1_openGates_60 : decode cX1_openGates 60 = .ok (.invokevirtual 83, 3) := by decide +kernel
theorem dX1_openGates_63 : decode cX1_openGates 63 = .ok (.ifCond .ne 17, 3) := by decide +kernel
theorem dX1_openGates_66 : decode cX1_openGates 66 = .ok (.aload_n 0, 1) := by decide +kernel
theorem dX1_openGates_67 : decode cX1_openGates 67 = .ok (.aload_n 1, 1) := by decide +kernel
theorem dX1_openGates_68 : decode cX1_openGates 68 = .ok (.iload 4, 2) := by decide +kernel
theorem dX1_openGates_70 : decode cX1_openGates 70 = .ok (.aload_n 0, 1) := by decide +kernel
theorem dX1_openGates_71 : decode cX1_openGates 71 = .ok (.getfield 15, 3) := by decide +kernel
theorem dX1_openGates_74 : decode cX1_openGates 74 = .ok (.iload 4, 2) := by decide +kernel
theorem dX1_openGates_76 : decode cX1_openGates 76 = .ok (.iaload, 1) := by decide +kernel
theorem dX1_openGates_77 : decode cX1_openGates 77 = .ok (.invokevirtual 100, 3) := by decide +kernel
theorem dX1_openGates_80 : decode cX1_openGates 80 = .ok (.aload_n 0, 1) := by decide +kernel
theorem dX1_openGates_81 : decode cX1_openGates 81 = .ok (.getfield 15, 3) := by decide +kernel
theorem dX1_openGates_84 : decode cX1_openGates 84 = .ok (.iload 4, 2) := by decide +kernel
theorem dX1_openGates_86 : decode cX1_openGates 86 = .ok (.bipush (-9), 2) := by decide +kernel
theorem dX1_openGates_88 : decode cX1_openGates 88 = .ok (.iastore, 1) := by decide +kernel
theorem dX1_openGates_89 : decode cX1_openGates 89 = .ok (.iinc 4 1, 3) := by decide +kernel
theorem dX1_openGates_92 : decode cX1_openGates 92 = .ok (.goto (-89), 3) := by decide +kernel
theorem dX1_openGates_95 : decode cX1_openGates 95 = .ok (.return_, 1) := by decide +kernel
theorem dX3_copyFrom_0 : decode cX3_copyFrom 0 = .ok (.aload_n 0, 1) := by decide +kernel
theorem dX3_copyFrom_1 : decode cX3_copyFrom 1 = .ok (.aload_n 1, 1) := by decide +kernel
theorem dX3_copyFrom_2 : decode cX3_copyFrom 2 = .ok (.getfield 22, 3) := by decide +kernel
theorem dX3_copyFrom_5 : decode cX3_copyFrom 5 = .ok (.putfield 22, 3) := by decide +kernel
theorem dX3_copyFrom_8 : decode cX3_copyFrom 8 = .ok (.iconst 0, 1) := by decide +kernel
theorem dX3_copyFrom_9 : decode cX3_copyFrom 9 = .ok (.istore_n 2, 1) := by decide +kernel
theorem dX3_copyFrom_10 : decode cX3_copyFrom 10 = .ok (.iload_n 2, 1) := by decide +kernel
theorem dX3_copyFrom_11 : decode cX3_copyFrom 11 = .ok (.bipush 20, 2) := by decide +kernel
theorem dX3_copyFrom_13 : decode cX3_copyFrom 13 = .ok (.if_icmp .ge 45, 3) := by decide +kernel
theorem dX3_copyFrom_16 : decode cX3_copyFrom 16 = .ok (.aload_n 0, 1) := by decide +kernel
theorem dX3_copyFrom_17 : decode cX3_copyFrom 17 = .ok (.getfield 9, 3) := by decide +kernel
theorem dX3_copyFrom_20 : decode cX3_copyFrom 20 = .ok (.iload_n 2, 1) := by decide +kernel
theorem dX3_copyFrom_21 : decode cX3_copyFrom 21 = .ok (.aload_n 1, 1) := by decide +kernel
theorem dX3_copyFrom_22 : decode cX3_copyFrom 22 = .ok (.getfield 9, 3) := by decide +kernel
theorem dX3_copyFrom_25 : decode cX3_copyFrom 25 = .ok (.iload_n 2, 1) := by decide +kernel
theorem dX3_copyFrom_26 : decode cX3_copyFrom 26 = .ok (.iaload, 1) := by decide +kernel
theorem dX3_copyFrom_27 : decode cX3_copyFrom 27 = .ok (.iastore, 1) := by decide +kernel
theorem dX3_copyFrom_28 : decode cX3_copyFrom 28 = .ok (.aload_n 0, 1) := by decide +kernel
theorem dX3_copyFrom_29 : decode cX3_copyFrom 29 = .ok (.getfield 15, 3) := by decide +kernel
theorem dX3_copyFrom_32 : decode cX3_copyFrom 32 = .ok (.iload_n 2, 1) := by decide +kernel
theorem dX3_copyFrom_33 : decode cX3_copyFrom 33 = .ok (.aload_n 1, 1) := by decide +kernel
theorem dX3_copyFrom_34 : decode cX3_copyFrom 34 = .ok (.getfield 15, 3) := by decide +kernel
theorem dX3_copyFrom_37 : decode cX3_copyFrom 37 = .ok (.iload_n 2, 1) := by decide +kernel
theorem dX3_copyFrom_38 : decode cX3_copyFrom 38 = .ok (.baload, 1) := by decide +kernel
theorem dX3_copyFrom_39 : decode cX3_copyFrom 39 = .ok (.bastore, 1) := by decide +kernel
theorem dX3_copyFrom_40 : decode cX3_copyFrom 40 = .ok (.aload_n 0, 1) := by decide +kernel
theorem dX3_copyFrom_41 : decode cX3_copyFrom 41 = .ok (.getfield 19, 3) := by decide +kernel
theorem dX3_copyFrom_44 : decode cX3_copyFrom 44 = .ok (.iload_n 2, 1) := by decide +kernel
theorem dX3_copyFrom_45 : decode cX3_copyFrom 45 = .ok (.aload_n 1, 1) := by decide +kernel
theorem dX3_copyFrom_46 : decode cX3_copyFrom 46 = .ok (.getfield 19, 3) := by decide +kernel
theorem dX3_copyFrom_49 : decode cX3_copyFrom 49 = .ok (.iload_n 2, 1) := by decide +kernel
theorem dX3_copyFrom_50 : decode cX3_copyFrom 50 = .ok (.iaload, 1) := by decide +kernel
theorem dX3_copyFrom_51 : decode cX3_copyFrom 51 = .ok (.iastore, 1) := by decide +kernel
theorem dX3_copyFrom_52 : decode cX3_copyFrom 52 = .ok (.iinc 2 1, 3) := by decide +kernel
theorem dX3_copyFrom_55 : decode cX3_copyFrom 55 = .ok (.goto (-45), 3) := by decide +kernel
theorem dX3_copyFrom_58 : decode cX3_copyFrom 58 = .ok (.return_, 1) := by decide +kernel
theorem dX3_agreesWith_0 : decode cX3_agreesWith 0 = .ok (.iconst 0, 1) := by decide +kernel
theorem dX3_agreesWith_1 : decode cX3_agreesWith 1 = .ok (.istore_n 3, 1) := by decide +kernel
theorem dX3_agreesWith_2 : decode cX3_agreesWith 2 = .ok (.iload_n 3, 1) := by decide +kernel
theorem dX3_agreesWith_3 : decode cX3_agreesWith 3 = .ok (.aload_n 0, 1) := by decide +kernel
theorem dX3_agreesWith_4 : decode cX3_agreesWith 4 = .ok (.getfield 22, 3) := by decide +kernel
theorem dX3_agreesWith_7 : decode cX3_agreesWith 7 = .ok (.if_icmp .ge 60, 3) := by decide +kernel
theorem dX3_agreesWith_10 : decode cX3_agreesWith 10 = .ok (.aload_n 0, 1) := by decide +kernel
theorem dX3_agreesWith_11 : decode cX3_agreesWith 11 = .ok (.getfield 15, 3) := by decide +kernel
theorem dX3_agreesWith_14 : decode cX3_agreesWith 14 = .ok (.iload_n 3, 1) := by decide +kernel
theorem dX3_agreesWith_15 : decode cX3_agreesWith 15 = .ok (.baload, 1) := by decide +kernel
theorem dX3_agreesWith_16 : decode cX3_agreesWith 16 = .ok (.ifCond .eq 23, 3) := by decide +kernel
theorem dX3_agreesWith_19 : decode cX3_agreesWith 19 = .ok (.aload_n 1, 1) := by decide +kernel
theorem dX3_agreesWith_20 : decode cX3_agreesWith 20 = .ok (.aload_n 2, 1) := by decide +kernel
theorem dX3_agreesWith_21 : decode cX3_agreesWith 21 = .ok (.aload_n 0, 1) := by decide +kernel
theorem dX3_agreesWith_22 : decode cX3_agreesWith 22 = .ok (.getfield 9, 3) := by decide +kernel
theorem dX3_agreesWith_25 : decode cX3_agreesWith 25 = .ok (.iload_n 3, 1) := by decide +kernel
theorem dX3_agreesWith_26 : decode cX3_agreesWith 26 = .ok (.iaload, 1) := by decide +kernel
theorem dX3_agreesWith_27 : decode cX3_agreesWith 27 = .ok (.aload_n 0, 1) := by decide +kernel
theorem dX3_agreesWith_28 : decode cX3_agreesWith 28 = .ok (.getfield 19, 3) := by decide +kernel
theorem dX3_agreesWith_31 : decode cX3_agreesWith 31 = .ok (.iload_n 3, 1) := by decide +kernel
theorem dX3_agreesWith_32 : decode cX3_agreesWith 32 = .ok (.iaload, 1) := by decide +kernel
theorem dX3_agreesWith_33 : decode cX3_agreesWith 33 = .ok (.invokevirtual 26, 3) := by decide +kernel
theorem dX3_agreesWith_36 : decode cX3_agreesWith 36 = .ok (.goto 25, 3) := by decide +kernel
theorem dX3_agreesWith_39 : decode cX3_agreesWith 39 = .ok (.aload_n 1, 1) := by decide +kernel
theorem dX3_agreesWith_40 : decode cX3_agreesWith 40 = .ok (.aload_n 2, 1) := by decide +kernel
theorem dX3_agreesWith_41 : decode cX3_agreesWith 41 = .ok (.aload_n 0, 1) := by decide +kernel
theorem dX3_agreesWith_42 : decode cX3_agreesWith 42 = .ok (.getfield 9, 3) := by decide +kernel
theorem dX3_agreesWith_45 : decode cX3_agreesWith 45 = .ok (.iload_n 3, 1) := by decide +kernel
theorem dX3_agreesWith_46 : decode cX3_agreesWith 46 = .ok (.iaload, 1) := by decide +kernel
theorem dX3_agreesWith_47 : decode cX3_agreesWith 47 = .ok (.invokevirtual 32, 3) := by decide +kernel
theorem dX3_agreesWith_50 : decode cX3_agreesWith 50 = .ok (.aload_n 0, 1) := by decide +kernel
theorem dX3_agreesWith_51 : decode cX3_agreesWith 51 = .ok (.getfield 19, 3) := by decide +kernel
theorem dX3_agreesWith_54 : decode cX3_agreesWith 54 = .ok (.iload_n 3, 1) := by decide +kernel
theorem dX3_agreesWith_55 : decode cX3_agreesWith 55 = .ok (.iaload, 1) := by decide +kernel
theorem dX3_agreesWith_56 : decode cX3_agreesWith 56 = .ok (.if_icmp .eq 5, 3) := by decide +kernel
theorem dX3_agreesWith_59 : decode cX3_agreesWith 59 = .ok (.iconst 0, 1) := by decide +kernel
theorem dX3_agreesWith_60 : decode cX3_agreesWith 60 = .ok (.ireturn, 1) := by decide +kernel
theorem dX3_agreesWith_61 : decode cX3_agreesWith 61 = .ok (.iinc 3 1, 3) := by decide +kernel
theorem dX3_agreesWith_64 : decode cX3_agreesWith 64 = .ok (.goto (-62), 3) := by decide +kernel
theorem dX3_agreesWith_67 : decode cX3_agreesWith 67 = .ok (.iconst 1, 1) := by decide +kernel
theorem dX3_agreesWith_68 : decode cX3_agreesWith 68 = .ok (.ireturn, 1) := by decide +kernel
theorem dX5_copyFrom_0 : decode cX5_copyFrom 0 = .ok (.aload_n 0, 1) := by decide +kernel
theorem dX5_copyFrom_1 : decode cX5_copyFrom 1 = .ok (.getfield 12, 3) := by decide +kernel
theorem dX5_copyFrom_4 : decode cX5_copyFrom 4 = .ok (.aload_n 1, 1) := by decide +kernel
theorem dX5_copyFrom_5 : decode cX5_copyFrom 5 = .ok (.getfield 12, 3) := by decide +kernel
theorem dX5_copyFrom_8 : decode cX5_copyFrom 8 = .ok (.invokevirtual 32, 3) := by decide +kernel
theorem dX5_copyFrom_11 : decode cX5_copyFrom 11 = .ok (.aload_n 0, 1) := by decide +kernel
theorem dX5_copyFrom_12 : decode cX5_copyFrom 12 = .ok (.getfield 18, 3) := by decide +kernel
theorem dX5_copyFrom_15 : decode cX5_copyFrom 15 = .ok (.aload_n 1, 1) := by decide +kernel
theorem dX5_copyFrom_16 : decode cX5_copyFrom 16 = .ok (.getfield 18, 3) := by decide +kernel
theorem dX5_copyFrom_19 : decode cX5_copyFrom 19 = .ok (.invokevirtual 32, 3) := by decide +kernel
theorem dX5_copyFrom_22 : decode cX5_copyFrom 22 = .ok (.aload_n 0, 1) := by decide +kernel
theorem dX5_copyFrom_23 : decode cX5_copyFrom 23 = .ok (.getfield 24, 3) := by decide +kernel
theorem dX5_copyFrom_26 : decode cX5_copyFrom 26 = .ok (.aload_n 1, 1) := by decide +kernel
theorem dX5_copyFrom_27 : decode cX5_copyFrom 27 = .ok (.getfield 24, 3) := by decide +kernel
theorem dX5_copyFrom_30 : decode cX5_copyFrom 30 = .ok (.invokevirtual 36, 3) := by decide +kernel
theorem dX5_copyFrom_33 : decode cX5_copyFrom 33 = .ok (.aload_n 0, 1) := by decide +kernel
theorem dX5_copyFrom_34 : decode cX5_copyFrom 34 = .ok (.aload_n 1, 1) := by decide +kernel
theorem dX5_copyFrom_35 : decode cX5_copyFrom 35 = .ok (.getfield 39, 3) := by decide +kernel
theorem dX5_copyFrom_38 : decode cX5_copyFrom 38 = .ok (.putfield 39, 3) := by decide +kernel
theorem dX5_copyFrom_41 : decode cX5_copyFrom 41 = .ok (.aload_n 0, 1) := by decide +kernel
theorem dX5_copyFrom_42 : decode cX5_copyFrom 42 = .ok (.aload_n 1, 1) := by decide +kernel
theorem dX5_copyFrom_43 : decode cX5_copyFrom 43 = .ok (.getfield 28, 3) := by decide +kernel
theorem dX5_copyFrom_46 : decode cX5_copyFrom 46 = .ok (.putfield 28, 3) := by decide +kernel
theorem dX5_copyFrom_49 : decode cX5_copyFrom 49 = .ok (.return_, 1) := by decide +kernel
theorem dX5_startWith_0 : decode cX5_startWith 0 = .ok (.aload_n 0, 1) := by decide +kernel
theorem dX5_startWith_1 : decode cX5_startWith 1 = .ok (.getfield 12, 3) := by decide +kernel
theorem dX5_startWith_4 : decode cX5_startWith 4 = .ok (.aload_n 1, 1) := by decide +kernel
theorem dX5_startWith_5 : decode cX5_startWith 5 = .ok (.invokevirtual 42, 3) := by decide +kernel
theorem dX5_startWith_8 : decode cX5_startWith 8 = .ok (.aload_n 0, 1) := by decide +kernel
theorem dX5_startWith_9 : decode cX5_startWith 9 = .ok (.getfield 18, 3) := by decide +kernel
theorem dX5_startWith_12 : decode cX5_startWith 12 = .ok (.aload_n 1, 1) := by decide +kernel
theorem dX5_startWith_13 : decode cX5_startWith 13 = .ok (.invokevirtual 42, 3) := by decide +kernel
theorem dX5_startWith_16 : decode cX5_startWith 16 = .ok (.aload_n 0, 1) := by decide +kernel
theorem dX5_startWith_17 : decode cX5_startWith 17 = .ok (.aload_n 1, 1) := by decide +kernel
theorem dX5_startWith_18 : decode cX5_startWith 18 = .ok (.invokevirtual 46, 3) := by decide +kernel
theorem dX5_startWith_21 : decode cX5_startWith 21 = .ok (.return_, 1) := by decide +kernel
theorem dX5_performWrite_0 : decode cX5_performWrite 0 = .ok (.aload_n 0, 1) := by decide +kernel
theorem dX5_performWrite_1 : decode cX5_performWrite 1 = .ok (.getfield 12, 3) := by decide +kernel
theorem dX5_performWrite_4 : decode cX5_performWrite 4 = .ok (.aload_n 1, 1) := by decide +kernel
theorem dX5_performWrite_5 : decode cX5_performWrite 5 = .ok (.iload_n 2, 1) := by decide +kernel
theorem dX5_performWrite_6 : decode cX5_performWrite 6 = .ok (.iload_n 3, 1) := by decide +kernel
theorem dX5_performWrite_7 : decode cX5_performWrite 7 = .ok (.invokevirtual 68, 3) := by decide +kernel
theorem dX5_performWrite_10 : decode cX5_performWrite 10 = .ok (.aload_n 0, 1) := by decide +kernel
theorem dX5_performWrite_11 : decode cX5_performWrite 11 = .ok (.getfield 18, 3) := by decide +kernel
theorem dX5_performWrite_14 : decode cX5_performWrite 14 = .ok (.aload_n 1, 1) := by decide +kernel
theorem dX5_performWrite_15 : decode cX5_performWrite 15 = .ok (.iload_n 2, 1) := by decide +kernel
theorem dX5_performWrite_16 : decode cX5_performWrite 16 = .ok (.iload_n 3, 1) := by decide +kernel
theorem dX5_performWrite_17 : decode cX5_performWrite 17 = .ok (.invokevirtual 68, 3) := by decide +kernel
theorem dX5_performWrite_20 : decode cX5_performWrite 20 = .ok (.aload_n 0, 1) := by decide +kernel
theorem dX5_performWrite_21 : decode cX5_performWrite 21 = .ok (.getfield 24, 3) := by decide +kernel
theorem dX5_performWrite_24 : decode cX5_performWrite 24 = .ok (.iload_n 2, 1) := by decide +kernel
theorem dX5_performWrite_25 : decode cX5_performWrite 25 = .ok (.iconst 1, 1) := by decide +kernel
theorem dX5_performWrite_26 : decode cX5_performWrite 26 = .ok (.iload_n 3, 1) := by decide +kernel
theorem dX5_performWrite_27 : decode cX5_performWrite 27 = .ok (.invokevirtual 64, 3) := by decide +kernel
theorem dX5_performWrite_30 : decode cX5_performWrite 30 = .ok (.return_, 1) := by decide +kernel
theorem dX6_isLetter_0 : decode cX6_isLetter 0 = .ok (.aload_n 0, 1) := by decide +kernel
theorem dX6_isLetter_1 : decode cX6_isLetter 1 = .ok (.getfield 9, 3) := by decide +kernel
theorem dX6_isLetter_4 : decode cX6_isLetter 4 = .ok (.iload_n 1, 1) := by decide +kernel
theorem dX6_isLetter_5 : decode cX6_isLetter 5 = .ok (.iaload, 1) := by decide +kernel
theorem dX6_isLetter_6 : decode cX6_isLetter 6 = .ok (.bipush 97, 2) := by decide +kernel
theorem dX6_isLetter_8 : decode cX6_isLetter 8 = .ok (.if_icmp .lt 18, 3) := by decide +kernel
theorem dX6_isLetter_11 : decode cX6_isLetter 11 = .ok (.aload_n 0, 1) := by decide +kernel
theorem dX6_isLetter_12 : decode cX6_isLetter 12 = .ok (.getfield 9, 3) := by decide +kernel
theorem dX6_isLetter_15 : decode cX6_isLetter 15 = .ok (.iload_n 1, 1) := by decide +kernel
theorem dX6_isLetter_16 : decode cX6_isLetter 16 = .ok (.iaload, 1) := by decide +kernel
theorem dX6_isLetter_17 : decode cX6_isLetter 17 = .ok (.bipush 122, 2) := by decide +kernel
theorem dX6_isLetter_19 : decode cX6_isLetter 19 = .ok (.if_icmp .gt 7, 3) := by decide +kernel
theorem dX6_isLetter_22 : decode cX6_isLetter 22 = .ok (.iconst 1, 1) := by decide +kernel
theorem dX6_isLetter_23 : decode cX6_isLetter 23 = .ok (.goto 4, 3) := by decide +kernel
theorem dX6_isLetter_26 : decode cX6_isLetter 26 = .ok (.iconst 0, 1) := by decide +kernel
theorem dX6_isLetter_27 : decode cX6_isLetter 27 = .ok (.ireturn, 1) := by decide +kernel
theorem dX6_isDigit_0 : decode cX6_isDigit 0 = .ok (.aload_n 0, 1) := by decide +kernel
theorem dX6_isDigit_1 : decode cX6_isDigit 1 = .ok (.getfield 9, 3) := by decide +kernel
theorem dX6_isDigit_4 : decode cX6_isDigit 4 = .ok (.iload_n 1, 1) := by decide +kernel
theorem dX6_isDigit_5 : decode cX6_isDigit 5 = .ok (.iaload, 1) := by decide +kernel
theorem dX6_isDigit_6 : decode cX6_isDigit 6 = .ok (.bipush 48, 2) := by decide +kernel
theorem dX6_isDigit_8 : decode cX6_isDigit 8 = .ok (.if_icmp .lt 18, 3) := by decide +kernel
theorem dX6_isDigit_11 : decode cX6_isDigit 11 = .ok (.aload_n 0, 1) := by decide +kernel
theorem dX6_isDigit_12 : decode cX6_isDigit 12 = .ok (.getfield 9, 3) := by decide +kernel
theorem dX6_isDigit_15 : decode cX6_isDigit 15 = .ok (.iload_n 1, 1) := by decide +kernel
theorem dX6_isDigit_16 : decode cX6_isDigit 16 = .ok (.iaload, 1) := by decide +kernel
theorem dX6_isDigit_17 : decode cX6_isDigit 17 = .ok (.bipush 57, 2) := by decide +kernel
theorem dX6_isDigit_19 : decode cX6_isDigit 19 = .ok (.if_icmp .gt 7, 3) := by decide +kernel
theorem dX6_isDigit_22 : decode cX6_isDigit 22 = .ok (.iconst 1, 1) := by decide +kernel
theorem dX6_isDigit_23 : decode cX6_isDigit 23 = .ok (.goto 4, 3) := by decide +kernel
theorem dX6_isDigit_26 : decode cX6_isDigit 26 = .ok (.iconst 0, 1) := by decide +kernel
theorem dX6_isDigit_27 : decode cX6_isDigit 27 = .ok (.ireturn, 1) := by decide +kernel
theorem dJ6_bitCount_0f7a4_0 : decode cJ6_bitCount_0f7a4 0 = .ok (.iload_n 0, 1) := by decide +kernel
theorem dJ6_bitCount_0f7a4_1 : decode cJ6_bitCount_0f7a4 1 = .ok (.iload_n 0, 1) := by decide +kernel
theorem dJ6_bitCount_0f7a4_2 : decode cJ6_bitCount_0f7a4 2 = .ok (.iconst 1, 1) := by decide +kernel
theorem dJ6_bitCount_0f7a4_3 : decode cJ6_bitCount_0f7a4 3 = .ok (.iushr, 1) := by decide +kernel
theorem dJ6_bitCount_0f7a4_4 : decode cJ6_bitCount_0f7a4 4 = .ok (.ldc_w 265, 3) := by decide +kernel
theorem dJ6_bitCount_0f7a4_7 : decode cJ6_bitCount_0f7a4 7 = .ok (.iand, 1) := by decide +kernel
theorem dJ6_bitCount_0f7a4_8 : decode cJ6_bitCount_0f7a4 8 = .ok (.isub, 1) := by decide +kernel
theorem dJ6_bitCount_0f7a4_9 : decode cJ6_bitCount_0f7a4 9 = .ok (.istore_n 0, 1) := by decide +kernel
theorem dJ6_bitCount_0f7a4_10 : decode cJ6_bitCount_0f7a4 10 = .ok (.iload_n 0, 1) := by decide +kernel
theorem dJ6_bitCount_0f7a4_11 : decode cJ6_bitCount_0f7a4 11 = .ok (.ldc_w 266, 3) := by decide +kernel
theorem dJ6_bitCount_0f7a4_14 : decode cJ6_bitCount_0f7a4 14 = .ok (.iand, 1) := by decide +kernel
theorem dJ6_bitCount_0f7a4_15 : decode cJ6_bitCount_0f7a4 15 = .ok (.iload_n 0, 1) := by decide +kernel
theorem dJ6_bitCount_0f7a4_16 : decode cJ6_bitCount_0f7a4 16 = .ok (.iconst 2, 1) := by decide +kernel
theorem dJ6_bitCount_0f7a4_17 : decode cJ6_bitCount_0f7a4 17 = .ok (.iushr, 1) := by decide +kernel
theorem dJ6_bitCount_0f7a4_18 : decode cJ6_bitCount_0f7a4 18 = .ok (.ldc_w 266, 3) := by decide +kernel
theorem dJ6_bitCount_0f7a4_21 : decode cJ6_bitCount_0f7a4 21 = .ok (.iand, 1) := by decide +kernel
theorem dJ6_bitCount_0f7a4_22 : decode cJ6_bitCount_0f7a4 22 = .ok (.iadd, 1) := by decide +kernel
theorem dJ6_bitCount_0f7a4_23 : decode cJ6_bitCount_0f7a4 23 = .ok (.istore_n 0, 1) := by decide +kernel
theorem dJ6_bitCount_0f7a4_24 : decode cJ6_bitCount_0f7a4 24 = .ok (.iload_n 0, 1) := by decide +kernel
theorem dJ6_bitCount_0f7a4_25 : decode cJ6_bitCount_0f7a4 25 = .ok (.iload_n 0, 1) := by decide +kernel
theorem dJ6_bitCount_0f7a4_26 : decode cJ6_bitCount_0f7a4 26 = .ok (.iconst 4, 1) := by decide +kernel
theorem dJ6_bitCount_0f7a4_27 : decode cJ6_bitCount_0f7a4 27 = .ok (.iushr, 1) := by decide +kernel
theorem dJ6_bitCount_0f7a4_28 : decode cJ6_bitCount_0f7a4 28 = .ok (.iadd, 1) := by decide +kernel
theorem dJ6_bitCount_0f7a4_29 : decode cJ6_bitCount_0f7a4 29 = .ok (.ldc_w 267, 3) := by decide +kernel
theorem dJ6_bitCount_0f7a4_32 : decode cJ6_bitCount_0f7a4 32 = .ok (.iand, 1) := by decide +kernel
theorem dJ6_bitCount_0f7a4_33 : decode cJ6_bitCount_0f7a4 33 = .ok (.istore_n 0, 1) := by decide +kernel
theorem dJ6_bitCount_0f7a4_34 : decode cJ6_bitCount_0f7a4 34 = .ok (.iload_n 0, 1) := by decide +kernel
theorem dJ6_bitCount_0f7a4_35 : decode cJ6_bitCount_0f7a4 35 = .ok (.iload_n 0, 1) := by decide +kernel
theorem dJ6_bitCount_0f7a4_36 : decode cJ6_bitCount_0f7a4 36 = .ok (.bipush 8, 2) := by decide +kernel
theorem dJ6_bitCount_0f7a4_38 : decode cJ6_bitCount_0f7a4 38 = .ok (.iushr, 1) := by decide +kernel
theorem dJ6_bitCount_0f7a4_39 : decode cJ6_bitCount_0f7a4 39 = .ok (.iadd, 1) := by decide +kernel
theorem dJ6_bitCount_0f7a4_40 : decode cJ6_bitCount_0f7a4 40 = .ok (.istore_n 0, 1) := by decide +kernel
theorem dJ6_bitCount_0f7a4_41 : decode cJ6_bitCount_0f7a4 41 = .ok (.iload_n 0, 1) := by decide +kernel
theorem dJ6_bitCount_0f7a4_42 : decode cJ6_bitCount_0f7a4 42 = .ok (.iload_n 0, 1) := by decide +kernel
theorem dJ6_bitCount_0f7a4_43 : decode cJ6_bitCount_0f7a4 43 = .ok (.bipush 16, 2) := by decide +kernel
theorem dJ6_bitCount_0f7a4_45 : decode cJ6_bitCount_0f7a4 45 = .ok (.iushr, 1) := by decide +kernel
theorem dJ6_bitCount_0f7a4_46 : decode cJ6_bitCount_0f7a4 46 = .ok (.iadd, 1) := by decide +kernel
theorem dJ6_bitCount_0f7a4_47 : decode cJ6_bitCount_0f7a4 47 = .ok (.istore_n 0, 1) := by decide +kernel
theorem dJ6_bitCount_0f7a4_48 : decode cJ6_bitCount_0f7a4 48 = .ok (.iload_n 0, 1) := by decide +kernel
theorem dJ6_bitCount_0f7a4_49 : decode cJ6_bitCount_0f7a4 49 = .ok (.bipush 63, 2) := by decide +kernel
theorem dJ6_bitCount_0f7a4_51 : decode cJ6_bitCount_0f7a4 51 = .ok (.iand, 1) := by decide +kernel
theorem dJ6_bitCount_0f7a4_52 : decode cJ6_bitCount_0f7a4 52 = .ok (.ireturn, 1) := by decide +kernel
