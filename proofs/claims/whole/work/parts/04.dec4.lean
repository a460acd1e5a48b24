theorem dX5_good_12 : decode cX5_good 12 = .ok (.iconst 1, 1) := by decide +kernel
theorem dX5_good_13 : decode cX5_good 13 = .ok (.putfield 44, 3) := by decide +kernel
theorem dX5_good_16 : decode cX5_good 16 = .ok (.aload_n 0, 1) := by decide +kernel
theorem dX5_good_17 : decode cX5_good 17 = .ok (.getfield 44, 3) := by decide +kernel
theorem dX5_good_20 : decode cX5_good 20 = .ok (.ifCond .le 7, 3) := by decide +kernel
theorem dX5_good_23 : decode cX5_good 23 = .ok (.iconst 0, 1) := by decide +kernel
theorem dX5_good_24 : decode cX5_good 24 = .ok (.goto 8, 3) := by decide +kernel
theorem dX5_good_27 : decode cX5_good 27 = .ok (.aload_n 0, 1) := by decide +kernel
theorem dX5_good_28 : decode cX5_good 28 = .ok (.iload_n 1, 1) := by decide +kernel
theorem dX5_good_29 : decode cX5_good 29 = .ok (.invokevirtual 55, 3) := by decide +kernel
theorem dX5_good_32 : decode cX5_good 32 = .ok (.ireturn, 1) := by decide +kernel
theorem dX5_held_0 : decode cX5_held 0 = .ok (.iconst 4, 1) := by decide +kernel
theorem dX5_held_1 : decode cX5_held 1 = .ok (.aload_n 0, 1) := by decide +kernel
theorem dX5_held_2 : decode cX5_held 2 = .ok (.getfield 59, 3) := by decide +kernel
theorem dX5_held_5 : decode cX5_held 5 = .ok (.imul, 1) := by decide +kernel
theorem dX5_held_6 : decode cX5_held 6 = .ok (.istore_n 1, 1) := by decide +kernel
theorem dX5_held_7 : decode cX5_held 7 = .ok (.iconst 0, 1) := by decide +kernel
theorem dX5_held_8 : decode cX5_held 8 = .ok (.istore_n 2, 1) := by decide +kernel
theorem dX5_held_9 : decode cX5_held 9 = .ok (.iload_n 2, 1) := by decide +kernel
theorem dX5_held_10 : decode cX5_held 10 = .ok (.aload_n 0, 1) := by decide +kernel
theorem dX5_held_11 : decode cX5_held 11 = .ok (.getfield 62, 3) := by decide +kernel
theorem dX5_held_14 : decode cX5_held 14 = .ok (.if_icmp .ge 23, 3) := by decide +kernel
theorem dX5_held_17 : decode cX5_held 17 = .ok (.iload_n 1, 1) := by decide +kernel
theorem dX5_held_18 : decode cX5_held 18 = .ok (.bipush 8, 2) := by decide +kernel
theorem dX5_held_20 : decode cX5_held 20 = .ok (.iconst 4, 1) := by decide +kernel
theorem dX5_held_21 : decode cX5_held 21 = .ok (.aload_n 0, 1) := by decide +kernel
theorem dX5_held_22 : decode cX5_held 22 = .ok (.getfield 29, 3) := by decide +kernel
theorem dX5_held_25 : decode cX5_held 25 = .ok (.iload_n 2, 1) := by decide +kernel
theorem dX5_held_26 : decode cX5_held 26 = .ok (.iaload, 1) := by decide +kernel
theorem dX5_held_27 : decode cX5_held 27 = .ok (.imul, 1) := by decide +kernel
theorem dX5_held_28 : decode cX5_held 28 = .ok (.iadd, 1) := by decide +kernel
theorem dX5_held_29 : decode cX5_held 29 = .ok (.iadd, 1) := by decide +kernel
theorem dX5_held_30 : decode cX5_held 30 = .ok (.istore_n 1, 1) := by decide +kernel
theorem dX5_held_31 : decode cX5_held 31 = .ok (.iinc 2 1, 3) := by decide +kernel
theorem dX5_held_34 : decode cX5_held 34 = .ok (.goto (-25), 3) := by decide +kernel
theorem dX5_held_37 : decode cX5_held 37 = .ok (.iconst 0, 1) := by decide +kernel
theorem dX5_held_38 : decode cX5_held 38 = .ok (.istore_n 2, 1) := by decide +kernel
theorem dX5_held_39 : decode cX5_held 39 = .ok (.iload_n 2, 1) := by decide +kernel
theorem dX5_held_40 : decode cX5_held 40 = .ok (.iconst 5, 1) := by decide +kernel
theorem dX5_held_41 : decode cX5_held 41 = .ok (.if_icmp .ge 31, 3) := by decide +kernel
theorem dX5_held_44 : decode cX5_held 44 = .ok (.iload_n 1, 1) := by decide +kernel
theorem dX5_held_45 : decode cX5_held 45 = .ok (.aload_n 0, 1) := by decide +kernel
theorem dX5_held_46 : decode cX5_held 46 = .ok (.getfield 16, 3) := by decide +kernel
theorem dX5_held_49 : decode cX5_held 49 = .ok (.iload_n 2, 1) := by decide +kernel
theorem dX5_held_50 : decode cX5_held 50 = .ok (.baload, 1) := by decide +kernel
theorem dX5_held_51 : decode cX5_held 51 = .ok (.ifCond .eq 12, 3) := by decide +kernel
theorem dX5_held_54 : decode cX5_held 54 = .ok (.aload_n 0, 1) := by decide +kernel
theorem dX5_held_55 : decode cX5_held 55 = .ok (.getfield 13, 3) := by decide +kernel
theorem dX5_held_58 : decode cX5_held 58 = .ok (.iload_n 2, 1) := by decide +kernel
theorem dX5_held_59 : decode cX5_held 59 = .ok (.iaload, 1) := by decide +kernel
theorem dX5_held_60 : decode cX5_held 60 = .ok (.goto 4, 3) := by decide +kernel
theorem dX5_held_63 : decode cX5_held 63 = .ok (.iconst 0, 1) := by decide +kernel
theorem dX5_held_64 : decode cX5_held 64 = .ok (.iadd, 1) := by decide +kernel
theorem dX5_held_65 : decode cX5_held 65 = .ok (.istore_n 1, 1) := by decide +kernel
theorem dX5_held_66 : decode cX5_held 66 = .ok (.iinc 2 1, 3) := by decide +kernel
theorem dX5_held_69 : decode cX5_held 69 = .ok (.goto (-30), 3) := by decide +kernel
theorem dX5_held_72 : decode cX5_held 72 = .ok (.iload_n 1, 1) := by decide +kernel
theorem dX5_held_73 : decode cX5_held 73 = .ok (.ireturn, 1) := by decide +kernel
theorem dX5_isActive_0 : decode cX5_isActive 0 = .ok (.iconst 0, 1) := by decide +kernel
theorem dX5_isActive_1 : decode cX5_isActive 1 = .ok (.istore_n 2, 1) := by decide +kernel
theorem dX5_isActive_2 : decode cX5_isActive 2 = .ok (.iconst 0, 1) := by decide +kernel
theorem dX5_isActive_3 : decode cX5_isActive 3 = .ok (.istore_n 3, 1) := by decide +kernel
theorem dX5_isActive_4 : decode cX5_isActive 4 = .ok (.iload_n 3, 1) := by decide +kernel
theorem dX5_isActive_5 : decode cX5_isActive 5 = .ok (.aload_n 0, 1) := by decide +kernel
theorem dX5_isActive_6 : decode cX5_isActive 6 = .ok (.getfield 62, 3) := by decide +kernel
theorem dX5_isActive_9 : decode cX5_isActive 9 = .ok (.if_icmp .ge 29, 3) := by decide +kernel
theorem dX5_isActive_12 : decode cX5_isActive 12 = .ok (.iload_n 2, 1) := by decide +kernel
theorem dX5_isActive_13 : decode cX5_isActive 13 = .ok (.ifCond .ne 13, 3) := by decide +kernel
theorem dX5_isActive_16 : decode cX5_isActive 16 = .ok (.aload_n 0, 1) := by decide +kernel
theorem dX5_isActive_17 : decode cX5_isActive 17 = .ok (.getfield 23, 3) := by decide +kernel
theorem dX5_isActive_20 : decode cX5_isActive 20 = .ok (.iload_n 3, 1) := by decide +kernel
theorem dX5_isActive_21 : decode cX5_isActive 21 = .ok (.iaload, 1) := by decide +kernel
theorem dX5_isActive_22 : decode cX5_isActive 22 = .ok (.iload_n 1, 1) := by decide +kernel
theorem dX5_isActive_23 : decode cX5_isActive 23 = .ok (.if_icmp .ne 7, 3) := by decide +kernel
theorem dX5_isActive_26 : decode cX5_isActive 26 = .ok (.iconst 1, 1) := by decide +kernel
theorem dX5_isActive_27 : decode cX5_isActive 27 = .ok (.goto 4, 3) := by decide +kernel
theorem dX5_isActive_30 : decode cX5_isActive 30 = .ok (.iconst 0, 1) := by decide +kernel
theorem dX5_isActive_31 : decode cX5_isActive 31 = .ok (.istore_n 2, 1) := by decide +kernel
theorem dX5_isActive_32 : decode cX5_isActive 32 = .ok (.iinc 3 1, 3) := by decide +kernel
theorem dX5_isActive_35 : decode cX5_isActive 35 = .ok (.goto (-31), 3) := by decide +kernel
theorem dX5_isActive_38 : decode cX5_isActive 38 = .ok (.iload_n 2, 1) := by decide +kernel
theorem dX5_isActive_39 : decode cX5_isActive 39 = .ok (.ireturn, 1) := by decide +kernel
theorem dX5_room_0 : decode cX5_room 0 = .ok (.aload_n 0, 1) := by decide +kernel
theorem dX5_room_1 : decode cX5_room 1 = .ok (.invokevirtual 65, 3) := by decide +kernel
theorem dX5_room_4 : decode cX5_room 4 = .ok (.iload_n 1, 1) := by decide +kernel
theorem dX5_room_5 : decode cX5_room 5 = .ok (.iadd, 1) := by decide +kernel
theorem dX5_room_6 : decode cX5_room 6 = .ok (.aload_n 0, 1) := by decide +kernel
theorem dX5_room_7 : decode cX5_room 7 = .ok (.getfield 69, 3) := by decide +kernel
theorem dX5_room_10 : decode cX5_room 10 = .ok (.if_icmp .le 111, 3) := by decide +kernel
theorem dX5_room_13 : decode cX5_room 13 = .ok (.iconst (-1), 1) := by decide +kernel
theorem dX5_room_14 : decode cX5_room 14 = .ok (.istore_n 3, 1) := by decide +kernel
theorem dX5_room_15 : decode cX5_room 15 = .ok (.iconst 0, 1) := by decide +kernel
theorem dX5_room_16 : decode cX5_room 16 = .ok (.istore 4, 2) := by decide +kernel
theorem dX5_room_18 : decode cX5_room 18 = .ok (.iload 4, 2) := by decide +kernel
theorem dX5_room_20 : decode cX5_room 20 = .ok (.iconst 5, 1) := by decide +kernel
theorem dX5_room_21 : decode cX5_room 21 = .ok (.if_icmp .ge 69, 3) := by decide +kernel
theorem dX5_room_24 : decode cX5_room 24 = .ok (.aload_n 0, 1) := by decide +kernel
theorem dX5_room_25 : decode cX5_room 25 = .ok (.getfield 16, 3) := by decide +kernel
theorem dX5_room_28 : decode cX5_room 28 = .ok (.iload 4, 2) := by decide +kernel
theorem dX5_room_30 : decode cX5_room 30 = .ok (.baload, 1) := by decide +kernel
theorem dX5_room_31 : decode cX5_room 31 = .ok (.ifCond .eq 22, 3) := by decide +kernel
theorem dX5_room_34 : decode cX5_room 34 = .ok (.iload 4, 2) := by decide +kernel
theorem dX5_room_36 : decode cX5_room 36 = .ok (.iload_n 2, 1) := by decide +kernel
theorem dX5_room_37 : decode cX5_room 37 = .ok (.if_icmp .eq 16, 3) := by decide +kernel
theorem dX5_room_40 : decode cX5_room 40 = .ok (.aload_n 0, 1) := by decide +kernel
theorem dX5_room_41 : decode cX5_room 41 = .ok (.iload 4, 2) := by decide +kernel
theorem dX5_room_43 : decode cX5_room 43 = .ok (.invokevirtual 72, 3) := by decide +kernel
theorem dX5_room_46 : decode cX5_room 46 = .ok (.ifCond .ne 7, 3) := by decide +kernel
theorem dX5_room_49 : decode cX5_room 49 = .ok (.iconst 1, 1) := by decide +kernel
theorem dX5_room_50 : decode cX5_room 50 = .ok (.goto 4, 3) := by decide +kernel
theorem dX5_room_53 : decode cX5_room 53 = .ok (.iconst 0, 1) := by decide +kernel
theorem dX5_room_54 : decode cX5_room 54 = .ok (.istore 5, 2) := by decide +kernel
theorem dX5_room_56 : decode cX5_room 56 = .ok (.iload 5, 2) := by decide +kernel
theorem dX5_room_58 : decode cX5_room 58 = .ok (.ifCond .eq 26, 3) := by decide +kernel
theorem dX5_room_61 : decode cX5_room 61 = .ok (.iload_n 3, 1) := by decide +kernel
theorem dX5_room_62 : decode cX5_room 62 = .ok (.ifCond .lt 19, 3) := by decide +kernel
theorem dX5_room_65 : decode cX5_room 65 = .ok (.aload_n 0, 1) := by decide +kernel
theorem dX5_room_66 : decode cX5_room 66 = .ok (.getfield 20, 3) := by decide +kernel
theorem dX5_room_69 : decode cX5_room 69 = .ok (.iload 4, 2) := by decide +kernel
theorem dX5_room_71 : decode cX5_room 71 = .ok (.iaload, 1) := by decide +kernel
theorem dX5_room_72 : decode cX5_room 72 = .ok (.aload_n 0, 1) := by decide +kernel
theorem dX5_room_73 : decode cX5_room 73 = .ok (.getfield 20, 3) := by decide +kernel
theorem dX5_room_76 : decode cX5_room 76 = .ok (.iload_n 3, 1) := by decide +kernel
theorem dX5_room_77 : decode cX5_room 77 = .ok (.iaload, 1) := by decide +kernel
theorem dX5_room_78 : decode cX5_room 78 = .ok (.if_icmp .ge 6, 3) := by decide +kernel
theorem dX5_room_81 : decode cX5_room 81 = .ok (.iload 4, 2) := by decide +kernel
theorem dX5_room_83 : decode cX5_room 83 = .ok (.istore_n 3, 1) := by decide +kernel
theorem dX5_room_84 : decode cX5_room 84 = .ok (.iinc 4 1, 3) := by decide +kernel
theorem dX5_room_87 : decode cX5_room 87 = .ok (.goto (-69), 3) := by decide +kernel
theorem dX5_room_90 : decode cX5_room 90 = .ok (.iload_n 3, 1) := by decide +kernel
theorem dX5_room_91 : decode cX5_room 91 = .ok (.ifCond .ge 10, 3) := by decide +kernel
theorem dX5_room_94 : decode cX5_room 94 = .ok (.aload_n 0, 1) := by decide +kernel
theorem dX5_room_95 : decode cX5_room 95 = .ok (.iconst 4, 1) := by decide +kernel
theorem dX5_room_96 : decode cX5_room 96 = .ok (.putfield 52, 3) := by decide +kernel
theorem dX5_room_99 : decode cX5_room 99 = .ok (.iconst 0, 1) := by decide +kernel
theorem dX5_room_100 : decode cX5_room 100 = .ok (.ireturn, 1) := by decide +kernel
theorem dX5_room_101 : decode cX5_room 101 = .ok (.aload_n 0, 1) := by decide +kernel
theorem dX5_room_102 : decode cX5_room 102 = .ok (.getfield 16, 3) := by decide +kernel
theorem dX5_room_105 : decode cX5_room 105 = .ok (.iload_n 3, 1) := by decide +kernel
theorem dX5_room_106 : decode cX5_room 106 = .ok (.iconst 0, 1) := by decide +kernel
theorem dX5_room_107 : decode cX5_room 107 = .ok (.bastore, 1) := by decide +kernel
theorem dX5_room_108 : decode cX5_room 108 = .ok (.aload_n 0, 1) := by decide +kernel
theorem dX5_room_109 : decode cX5_room 109 = .ok (.dup, 1) := by decide +kernel
theorem dX5_room_110 : decode cX5_room 110 = .ok (.getfield 75, 3) := by decide +kernel
theorem dX5_room_113 : decode cX5_room 113 = .ok (.iconst 1, 1) := by decide +kernel
theorem dX5_room_114 : decode cX5_room 114 = .ok (.iadd, 1) := by decide +kernel
theorem dX5_room_115 : decode cX5_room 115 = .ok (.putfield 75, 3) := by decide +kernel
theorem dX5_room_118 : decode cX5_room 118 = .ok (.goto (-118), 3) := by decide +kernel
theorem dX5_room_121 : decode cX5_room 121 = .ok (.iconst 1, 1) := by decide +kernel
theorem dX5_room_122 : decode cX5_room 122 = .ok (.ireturn, 1) := by decide +kernel
theorem dX5_grown_0 : decode cX5_grown 0 = .ok (.aload_n 0, 1) := by decide +kernel
theorem dX5_grown_1 : decode cX5_grown 1 = .ok (.invokevirtual 65, 3) := by decide +kernel
theorem dX5_grown_4 : decode cX5_grown 4 = .ok (.istore_n 1, 1) := by decide +kernel
theorem dX5_grown_5 : decode cX5_grown 5 = .ok (.aload_n 0, 1) := by decide +kernel
theorem dX5_grown_6 : decode cX5_grown 6 = .ok (.iload_n 1, 1) := by decide +kernel
theorem dX5_grown_7 : decode cX5_grown 7 = .ok (.aload_n 0, 1) := by decide +kernel
theorem dX5_grown_8 : decode cX5_grown 8 = .ok (.getfield 78, 3) := by decide +kernel
theorem dX5_grown_11 : decode cX5_grown 11 = .ok (.if_icmp .le 7, 3) := by decide +kernel
theorem dX5_grown_14 : decode cX5_grown 14 = .ok (.iload_n 1, 1) := by decide +kernel
theorem dX5_grown_15 : decode cX5_grown 15 = .ok (.goto 7, 3) := by decide +kernel
theorem dX5_grown_18 : decode cX5_grown 18 = .ok (.aload_n 0, 1) := by decide +kernel
theorem dX5_grown_19 : decode cX5_grown 19 = .ok (.getfield 78, 3) := by decide +kernel
theorem dX5_grown_22 : decode cX5_grown 22 = .ok (.putfield 78, 3) := by decide +kernel
theorem dX5_grown_25 : decode cX5_grown 25 = .ok (.return_, 1) := by decide +kernel
theorem dX5_push_0 : decode cX5_push 0 = .ok (.aload_n 0, 1) := by decide +kernel
theorem dX5_push_1 : decode cX5_push 1 = .ok (.iconst 4, 1) := by decide +kernel
theorem dX5_push_2 : decode cX5_push 2 = .ok (.iconst (-1), 1) := by decide +kernel
theorem dX5_push_3 : decode cX5_push 3 = .ok (.invokevirtual 81, 3) := by decide +kernel
theorem dX5_push_6 : decode cX5_push 6 = .ok (.ifCond .ne 5, 3) := by decide +kernel
theorem dX5_push_9 : decode cX5_push 9 = .ok (.iconst 0, 1) := by decide +kernel
theorem dX5_push_10 : decode cX5_push 10 = .ok (.ireturn, 1) := by decide +kernel
theorem dX5_push_11 : decode cX5_push 11 = .ok (.aload_n 0, 1) := by decide +kernel
theorem dX5_push_12 : decode cX5_push 12 = .ok (.getfield 38, 3) := by decide +kernel
theorem dX5_push_15 : decode cX5_push 15 = .ok (.aload_n 0, 1) := by decide +kernel
theorem dX5_push_16 : decode cX5_push 16 = .ok (.getfield 59, 3) := by decide +kernel
theorem dX5_push_19 : decode cX5_push 19 = .ok (.iload_n 1, 1) := by decide +kernel
theorem dX5_push_20 : decode cX5_push 20 = .ok (.iastore, 1) := by decide +kernel
theorem dX5_push_21 : decode cX5_push 21 = .ok (.aload_n 0, 1) := by decide +kernel
theorem dX5_push_22 : decode cX5_push 22 = .ok (.dup, 1) := by decide +kernel
theorem dX5_push_23 : decode cX5_push 23 = .ok (.getfield 59, 3) := by decide +kernel
theorem dX5_push_26 : decode cX5_push 26 = .ok (.iconst 1, 1) := by decide +kernel
theorem dX5_push_27 : decode cX5_push 27 = .ok (.iadd, 1) := by decide +kernel
theorem dX5_push_28 : decode cX5_push 28 = .ok (.putfield 59, 3) := by decide +kernel
theorem dX5_push_31 : decode cX5_push 31 = .ok (.aload_n 0, 1) := by decide +kernel
theorem dX5_push_32 : decode cX5_push 32 = .ok (.invokevirtual 85, 3) := by decide +kernel
theorem dX5_push_35 : decode cX5_push 35 = .ok (.iconst 1, 1) := by decide +kernel
theorem dX5_push_36 : decode cX5_push 36 = .ok (.ireturn, 1) := by decide +kernel
theorem dX5_call_0 : decode cX5_call 0 = .ok (.iload_n 2, 1) := by decide +kernel
theorem dX5_call_1 : decode cX5_call 1 = .ok (.ifCond .lt 32, 3) := by decide +kernel
theorem dX5_call_4 : decode cX5_call 4 = .ok (.iload_n 2, 1) := by decide +kernel
theorem dX5_call_5 : decode cX5_call 5 = .ok (.aload_n 0, 1) := by decide +kernel
theorem dX5_call_6 : decode cX5_call 6 = .ok (.iload_n 1, 1) := by decide +kernel
theorem dX5_call_7 : decode cX5_call 7 = .ok (.invokevirtual 55, 3) := by decide +kernel
theorem dX5_call_10 : decode cX5_call 10 = .ok (.if_icmp .ge 23, 3) := by decide +kernel
theorem dX5_call_13 : decode cX5_call 13 = .ok (.aload_n 0, 1) := by decide +kernel
theorem dX5_call_14 : decode cX5_call 14 = .ok (.getfield 7, 3) := by decide +kernel
theorem dX5_call_17 : decode cX5_call 17 = .ok (.bipush 80, 2) := by decide +kernel
theorem dX5_call_19 : decode cX5_call 19 = .ok (.iload_n 1, 1) := by decide +kernel
theorem dX5_call_20 : decode cX5_call 20 = .ok (.imul, 1) := by decide +kernel
theorem dX5_call_21 : decode cX5_call 21 = .ok (.iconst 1, 1) := by decide +kernel
theorem dX5_call_22 : decode cX5_call 22 = .ok (.iadd, 1) := by decide +kernel
theorem dX5_call_23 : decode cX5_call 23 = .ok (.iload_n 2, 1) := by decide +kernel
theorem dX5_call_24 : decode cX5_call 24 = .ok (.iadd, 1) := by decide +kernel
theorem dX5_call_25 : decode cX5_call 25 = .ok (.iaload, 1) := by decide +kernel
theorem dX5_call_26 : decode cX5_call 26 = .ok (.sipush 255, 3) := by decide +kernel
theorem dX5_call_29 : decode cX5_call 29 = .ok (.iand, 1) := by decide +kernel
theorem dX5_call_30 : decode cX5_call 30 = .ok (.goto 4, 3) := by decide +kernel
theorem dX5_call_33 : decode cX5_call 33 = .ok (.iconst 0, 1) := by decide +kernel
theorem dX5_call_34 : decode cX5_call 34 = .ok (.istore 4, 2) := by decide +kernel
theorem dX5_call_36 : decode cX5_call 36 = .ok (.iload 4, 2) := by decide +kernel
theorem dX5_call_38 : decode cX5_call 38 = .ok (.ifCond .le 18, 3) := by decide +kernel
theorem dX5_call_41 : decode cX5_call 41 = .ok (.aload_n 0, 1) := by decide +kernel
theorem dX5_call_42 : decode cX5_call 42 = .ok (.getfield 7, 3) := by decide +kernel
theorem dX5_call_45 : decode cX5_call 45 = .ok (.bipush 80, 2) := by decide +kernel
theorem dX5_call_47 : decode cX5_call 47 = .ok (.iload_n 1, 1) := by decide +kernel
theorem dX5_call_48 : decode cX5_call 48 = .ok (.imul, 1) := by decide +kernel
theorem dX5_call_49 : decode cX5_call 49 = .ok (.iload 4, 2) := by decide +kernel
theorem dX5_call_51 : decode cX5_call 51 = .ok (.iadd, 1) := by decide +kernel
theorem dX5_call_52 : decode cX5_call 52 = .ok (.iaload, 1) := by decide +kernel
theorem dX5_call_53 : decode cX5_call 53 = .ok (.goto 4, 3) := by decide +kernel
theorem dX5_call_56 : decode cX5_call 56 = .ok (.iconst (-1), 1) := by decide +kernel
theorem dX5_call_57 : decode cX5_call 57 = .ok (.istore 5, 2) := by decide +kernel
theorem dX5_call_59 : decode cX5_call 59 = .ok (.iload 5, 2) := by decide +kernel
theorem dX5_call_61 : decode cX5_call 61 = .ok (.ifCond .lt 10, 3) := by decide +kernel
theorem dX5_call_64 : decode cX5_call 64 = .ok (.iload 5, 2) := by decide +kernel
theorem dX5_call_66 : decode cX5_call 66 = .ok (.bipush 6, 2) := by decide +kernel
theorem dX5_call_68 : decode cX5_call 68 = .ok (.if_icmp .le 9, 3) := by decide +kernel
theorem dX5_call_71 : decode cX5_call 71 = .ok (.aload_n 0, 1) := by decide +kernel
theorem dX5_call_72 : decode cX5_call 72 = .ok (.iconst 3, 1) := by decide +kernel
theorem dX5_call_73 : decode cX5_call 73 = .ok (.putfield 52, 3) := by decide +kernel
theorem dX5_call_76 : decode cX5_call 76 = .ok (.return_, 1) := by decide +kernel
theorem dX5_call_77 : decode cX5_call 77 = .ok (.aload_n 0, 1) := by decide +kernel
theorem dX5_call_78 : decode cX5_call 78 = .ok (.dup, 1) := by decide +kernel
theorem dX5_call_79 : decode cX5_call 79 = .ok (.getfield 88, 3) := by decide +kernel
theorem dX5_call_82 : decode cX5_call 82 = .ok (.iconst 1, 1) := by decide +kernel
theorem dX5_call_83 : decode cX5_call 83 = .ok (.iadd, 1) := by decide +kernel
theorem dX5_call_84 : decode cX5_call 84 = .ok (.putfield 88, 3) := by decide +kernel
theorem dX5_call_87 : decode cX5_call 87 = .ok (.aload_n 0, 1) := by decide +kernel
theorem dX5_call_88 : decode cX5_call 88 = .ok (.getfield 16, 3) := by decide +kernel
theorem dX5_call_91 : decode cX5_call 91 = .ok (.iload_n 1, 1) := by decide +kernel
theorem dX5_call_92 : decode cX5_call 92 = .ok (.baload, 1) := by decide +kernel
theorem dX5_call_93 : decode cX5_call 93 = .ok (.ifCond .ne 39, 3) := by decide +kernel
theorem dX5_call_96 : decode cX5_call 96 = .ok (.aload_n 0, 1) := by decide +kernel
theorem dX5_call_97 : decode cX5_call 97 = .ok (.aload_n 0, 1) := by decide +kernel
theorem dX5_call_98 : decode cX5_call 98 = .ok (.getfield 13, 3) := by decide +kernel
theorem dX5_call_101 : decode cX5_call 101 = .ok (.iload_n 1, 1) := by decide +kernel
theorem dX5_call_102 : decode cX5_call 102 = .ok (.iaload, 1) := by decide +kernel
theorem dX5_call_103 : decode cX5_call 103 = .ok (.iload_n 1, 1) := by decide +kernel
theorem dX5_call_104 : decode cX5_call 104 = .ok (.invokevirtual 81, 3) := by decide +kernel
theorem dX5_call_107 : decode cX5_call 107 = .ok (.ifCond .ne 4, 3) := by decide +kernel
theorem dX5_call_110 : decode cX5_call 110 = .ok (.return_, 1) := by decide +kernel
theorem dX5_call_111 : decode cX5_call 111 = .ok (.aload_n 0, 1) := by decide +kernel
theorem dX5_call_112 : decode cX5_call 112 = .ok (.getfield 16, 3) := by decide +kernel
theorem dX5_call_115 : decode cX5_call 115 = .ok (.iload_n 1, 1) := by decide +kernel
theorem dX5_call_116 : decode cX5_call 116 = .ok (.iconst 1, 1) := by decide +kernel
theorem dX5_call_117 : decode cX5_call 117 = .ok (.bastore, 1) := by decide +kernel
theorem dX5_call_118 : decode cX5_call 118 = .ok (.aload_n 0, 1) := by decide +kernel
theorem dX5_call_119 : decode cX5_call 119 = .ok (.dup, 1) := by decide +kernel
theorem dX5_call_120 : decode cX5_call 120 = .ok (.getfield 91, 3) := by decide +kernel
theorem dX5_call_123 : decode cX5_call 123 = .ok (.iconst 1, 1) := by decide +kernel
theorem dX5_call_124 : decode cX5_call 124 = .ok (.iadd, 1) := by decide +kernel
theorem dX5_call_125 : decode cX5_call 125 = .ok (.putfield 91, 3) := by decide +kernel
theorem dX5_call_128 : decode cX5_call 128 = .ok (.aload_n 0, 1) := by decide +kernel
theorem dX5_call_129 : decode cX5_call 129 = .ok (.invokevirtual 85, 3) := by decide +kernel
theorem dX5_call_132 : decode cX5_call 132 = .ok (.aload_n 0, 1) := by decide +kernel
theorem dX5_call_133 : decode cX5_call 133 = .ok (.getfield 20, 3) := by decide +kernel
theorem dX5_call_136 : decode cX5_call 136 = .ok (.iload_n 1, 1) := by decide +kernel
theorem dX5_call_137 : decode cX5_call 137 = .ok (.aload_n 0, 1) := by decide +kernel
theorem dX5_call_138 : decode cX5_call 138 = .ok (.getfield 88, 3) := by decide +kernel
theorem dX5_call_141 : decode cX5_call 141 = .ok (.iastore, 1) := by decide +kernel
theorem dX5_call_142 : decode cX5_call 142 = .ok (.aload_n 0, 1) := by decide +kernel
theorem dX5_call_143 : decode cX5_call 143 = .ok (.bipush 8, 2) := by decide +kernel
theorem dX5_call_145 : decode cX5_call 145 = .ok (.iconst 4, 1) := by decide +kernel
theorem dX5_call_146 : decode cX5_call 146 = .ok (.iload 5, 2) := by decide +kernel
theorem dX5_call_148 : decode cX5_call 148 = .ok (.imul, 1) := by decide +kernel
theorem dX5_call_149 : decode cX5_call 149 = .ok (.iadd, 1) := by decide +kernel
theorem dX5_call_150 : decode cX5_call 150 = .ok (.iload_n 1, 1) := by decide +kernel
theorem dX5_call_151 : decode cX5_call 151 = .ok (.invokevirtual 81, 3) := by decide +kernel
theorem dX5_call_154 : decode cX5_call 154 = .ok (.ifCond .ne 4, 3) := by decide +kernel
theorem dX5_call_157 : decode cX5_call 157 = .ok (.return_, 1) := by decide +kernel
theorem dX5_call_158 : decode cX5_call 158 = .ok (.aload_n 0, 1) := by decide +kernel
theorem dX5_call_159 : decode cX5_call 159 = .ok (.getfield 23, 3) := by decide +kernel
theorem dX5_call_162 : decode cX5_call 162 = .ok (.aload_n 0, 1) := by decide +kernel
theorem dX5_call_163 : decode cX5_call 163 = .ok (.getfield 62, 3) := by decide +kernel
theorem dX5_call_166 : decode cX5_call 166 = .ok (.iload_n 1, 1) := by decide +kernel
theorem dX5_call_167 : decode cX5_call 167 = .ok (.iastore, 1) := by decide +kernel
theorem dX5_call_168 : decode cX5_call 168 = .ok (.aload_n 0, 1) := by decide +kernel
theorem dX5_call_169 : decode cX5_call 169 = .ok (.getfield 26, 3) := by decide +kernel
theorem dX5_call_172 : decode cX5_call 172 = .ok (.aload_n 0, 1) := by decide +kernel
theorem dX5_call_173 : decode cX5_call 173 = .ok (.getfield 62, 3) := by decide +kernel
theorem dX5_call_176 : decode cX5_call 176 = .ok (.iload 4, 2) := by decide +kernel
theorem dX5_call_178 : decode cX5_call 178 = .ok (.iconst 1, 1) := by decide +kernel
theorem dX5_call_179 : decode cX5_call 179 = .ok (.iadd, 1) := by decide +kernel
theorem dX5_call_180 : decode cX5_call 180 = .ok (.iastore, 1) := by decide +kernel
theorem dX5_call_181 : decode cX5_call 181 = .ok (.aload_n 0, 1) := by decide +kernel
theorem dX5_call_182 : decode cX5_call 182 = .ok (.getfield 29, 3) := by decide +kernel
theorem dX5_call_185 : decode cX5_call 185 = .ok (.aload_n 0, 1) := by decide +kernel
theorem dX5_call_186 : decode cX5_call 186 = .ok (.getfield 62, 3) := by decide +kernel
theorem dX5_call_189 : decode cX5_call 189 = .ok (.iload 5, 2) := by decide +kernel
theorem dX5_call_191 : decode cX5_call 191 = .ok (.iastore, 1) := by decide +kernel
theorem dX5_call_192 : decode cX5_call 192 = .ok (.aload_n 0, 1) := by decide +kernel
theorem dX5_call_193 : decode cX5_call 193 = .ok (.getfield 35, 3) := by decide +kernel
theorem dX5_call_196 : decode cX5_call 196 = .ok (.aload_n 0, 1) := by decide +kernel
theorem dX5_call_197 : decode cX5_call 197 = .ok (.getfield 62, 3) := by decide +kernel
theorem dX5_call_200 : decode cX5_call 200 = .ok (.aload_n 0, 1) := by decide +kernel
theorem dX5_call_201 : decode cX5_call 201 = .ok (.getfield 59, 3) := by decide +kernel
theorem dX5_call_204 : decode cX5_call 204 = .ok (.iastore, 1) := by decide +kernel
theorem dX5_call_205 : decode cX5_call 205 = .ok (.iconst 0, 1) := by decide +kernel
theorem dX5_call_206 : decode cX5_call 206 = .ok (.istore 6, 2) := by decide +kernel
theorem dX5_call_208 : decode cX5_call 208 = .ok (.iload 6, 2) := by decide +kernel
theorem dX5_call_210 : decode cX5_call 210 = .ok (.bipush 6, 2) := by decide +kernel
theorem dX5_call_212 : decode cX5_call 212 = .ok (.if_icmp .ge 39, 3) := by decide +kernel
theorem dX5_call_215 : decode cX5_call 215 = .ok (.aload_n 0, 1) := by decide +kernel
theorem dX5_call_216 : decode cX5_call 216 = .ok (.getfield 32, 3) := by decide +kernel
theorem dX5_call_219 : decode cX5_call 219 = .ok (.bipush 6, 2) := by decide +kernel
theorem dX5_call_221 : decode cX5_call 221 = .ok (.aload_n 0, 1) := by decide +kernel
theorem dX5_call_222 : decode cX5_call 222 = .ok (.getfield 62, 3) := by decide +kernel
theorem dX5_call_225 : decode cX5_call 225 = .ok (.imul, 1) := by decide +kernel
theorem dX5_call_226 : decode cX5_call 226 = .ok (.iload 6, 2) := by decide +kernel
theorem dX5_call_228 : decode cX5_call 228 = .ok (.iadd, 1) := by decide +kernel
theorem dX5_call_229 : decode cX5_call 229 = .ok (.iload 6, 2) := by decide +kernel
theorem dX5_call_231 : decode cX5_call 231 = .ok (.ifCond .ne 12, 3) := by decide +kernel
theorem dX5_call_234 : decode cX5_call 234 = .ok (.iload 5, 2) := by decide +kernel
theorem dX5_call_236 : decode cX5_call 236 = .ok (.ifCond .le 7, 3) := by decide +kernel
theorem dX5_call_239 : decode cX5_call 239 = .ok (.iload_n 3, 1) := by decide +kernel
theorem dX5_call_240 : decode cX5_call 240 = .ok (.goto 4, 3) := by decide +kernel
theorem dX5_call_243 : decode cX5_call 243 = .ok (.iconst 0, 1) := by decide +kernel
theorem dX5_call_244 : decode cX5_call 244 = .ok (.iastore, 1) := by decide +kernel
theorem dX5_call_245 : decode cX5_call 245 = .ok (.iinc 6 1, 3) := by decide +kernel
theorem dX5_call_248 : decode cX5_call 248 = .ok (.goto (-40), 3) := by decide +kernel
theorem dX5_call_251 : decode cX5_call 251 = .ok (.aload_n 0, 1) := by decide +kernel
theorem dX5_call_252 : decode cX5_call 252 = .ok (.dup, 1) := by decide +kernel
theorem dX5_call_253 : decode cX5_call 253 = .ok (.getfield 62, 3) := by decide +kernel
theorem dX5_call_256 : decode cX5_call 256 = .ok (.iconst 1, 1) := by decide +kernel
theorem dX5_call_257 : decode cX5_call 257 = .ok (.iadd, 1) := by decide +kernel
theorem dX5_call_258 : decode cX5_call 258 = .ok (.putfield 62, 3) := by decide +kernel
theorem dX5_call_261 : decode cX5_call 261 = .ok (.aload_n 0, 1) := by decide +kernel
theorem dX5_call_262 : decode cX5_call 262 = .ok (.invokevirtual 85, 3) := by decide +kernel
theorem dX5_call_265 : decode cX5_call 265 = .ok (.return_, 1) := by decide +kernel
theorem dX5_start_0 : decode cX5_start 0 = .ok (.aload_n 0, 1) := by decide +kernel
theorem dX5_start_1 : decode cX5_start 1 = .ok (.iload_n 1, 1) := by decide +kernel
theorem dX5_start_2 : decode cX5_start 2 = .ok (.invokestatic 48, 3) := by decide +kernel
theorem dX5_start_5 : decode cX5_start 5 = .ok (.ifCond .eq 14, 3) := by decide +kernel
theorem dX5_start_8 : decode cX5_start 8 = .ok (.iload_n 3, 1) := by decide +kernel
theorem dX5_start_9 : decode cX5_start 9 = .ok (.ifCond .lt 10, 3) := by decide +kernel
theorem dX5_start_12 : decode cX5_start 12 = .ok (.iload_n 3, 1) := by decide +kernel
theorem dX5_start_13 : decode cX5_start 13 = .ok (.sipush 4000, 3) := by decide +kernel
theorem dX5_start_16 : decode cX5_start 16 = .ok (.if_icmp .le 7, 3) := by decide +kernel
theorem dX5_start_19 : decode cX5_start 19 = .ok (.iconst 1, 1) := by decide +kernel
theorem dX5_start_20 : decode cX5_start 20 = .ok (.goto 16, 3) := by decide +kernel
theorem dX5_start_23 : decode cX5_start 23 = .ok (.aload_n 0, 1) := by decide +kernel
theorem dX5_start_24 : decode cX5_start 24 = .ok (.iload_n 1, 1) := by decide +kernel
theorem dX5_start_25 : decode cX5_start 25 = .ok (.invokevirtual 55, 3) := by decide +kernel
theorem dX5_start_28 : decode cX5_start 28 = .ok (.ifCond .ne 7, 3) := by decide +kernel
theorem dX5_start_31 : decode cX5_start 31 = .ok (.iconst 2, 1) := by decide +kernel
theorem dX5_start_32 : decode cX5_start 32 = .ok (.goto 4, 3) := by decide +kernel
theorem dX5_start_35 : decode cX5_start 35 = .ok (.iconst 0, 1) := by decide +kernel
theorem dX5_start_36 : decode cX5_start 36 = .ok (.putfield 44, 3) := by decide +kernel
theorem dX5_start_39 : decode cX5_start 39 = .ok (.aload_n 0, 1) := by decide +kernel
theorem dX5_start_40 : decode cX5_start 40 = .ok (.getfield 44, 3) := by decide +kernel
theorem dX5_start_43 : decode cX5_start 43 = .ok (.ifCond .le 4, 3) := by decide +kernel
theorem dX5_start_46 : decode cX5_start 46 = .ok (.return_, 1) := by decide +kernel
theorem dX5_start_47 : decode cX5_start 47 = .ok (.aload_n 0, 1) := by decide +kernel
theorem dX5_start_48 : decode cX5_start 48 = .ok (.iconst 1, 1) := by decide +kernel
theorem dX5_start_49 : decode cX5_start 49 = .ok (.putfield 52, 3) := by decide +kernel
theorem dX5_start_52 : decode cX5_start 52 = .ok (.aload_n 0, 1) := by decide +kernel
theorem dX5_start_53 : decode cX5_start 53 = .ok (.iload_n 3, 1) := by decide +kernel
theorem dX5_start_54 : decode cX5_start 54 = .ok (.putfield 69, 3) := by decide +kernel
theorem dX5_start_57 : decode cX5_start 57 = .ok (.aload_n 0, 1) := by decide +kernel
theorem dX5_start_58 : decode cX5_start 58 = .ok (.iconst 0, 1) := by decide +kernel
theorem dX5_start_59 : decode cX5_start 59 = .ok (.putfield 88, 3) := by decide +kernel
theorem dX5_start_62 : decode cX5_start 62 = .ok (.aload_n 0, 1) := by decide +kernel
theorem dX5_start_63 : decode cX5_start 63 = .ok (.iconst 0, 1) := by decide +kernel
theorem dX5_start_64 : decode cX5_start 64 = .ok (.putfield 78, 3) := by decide +kernel
theorem dX5_start_67 : decode cX5_start 67 = .ok (.aload_n 0, 1) := by decide +kernel
theorem dX5_start_68 : decode cX5_start 68 = .ok (.iconst 0, 1) := by decide +kernel
theorem dX5_start_69 : decode cX5_start 69 = .ok (.putfield 91, 3) := by decide +kernel
theorem dX5_start_72 : decode cX5_start 72 = .ok (.aload_n 0, 1) := by decide +kernel
theorem dX5_start_73 : decode cX5_start 73 = .ok (.iconst 0, 1) := by decide +kernel
theorem dX5_start_74 : decode cX5_start 74 = .ok (.putfield 75, 3) := by decide +kernel
theorem dX5_start_77 : decode cX5_start 77 = .ok (.aload_n 0, 1) := by decide +kernel
theorem dX5_start_78 : decode cX5_start 78 = .ok (.iconst 0, 1) := by decide +kernel
theorem dX5_start_79 : decode cX5_start 79 = .ok (.putfield 62, 3) := by decide +kernel
theorem dX5_start_82 : decode cX5_start 82 = .ok (.aload_n 0, 1) := by decide +kernel
theorem dX5_start_83 : decode cX5_start 83 = .ok (.iconst 0, 1) := by decide +kernel
theorem dX5_start_84 : decode cX5_start 84 = .ok (.putfield 59, 3) := by decide +kernel
theorem dX5_start_87 : decode cX5_start 87 = .ok (.aload_n 0, 1) := by decide +kernel
theorem dX5_start_88 : decode cX5_start 88 = .ok (.iconst 0, 1) := by decide +kernel
theorem dX5_start_89 : decode cX5_start 89 = .ok (.putfield 94, 3) := by decide +kernel
theorem dX5_start_92 : decode cX5_start 92 = .ok (.aload_n 0, 1) := by decide +kernel
theorem dX5_start_93 : decode cX5_start 93 = .ok (.iconst 0, 1) := by decide +kernel
theorem dX5_start_94 : decode cX5_start 94 = .ok (.putfield 97, 3) := by decide +kernel
theorem dX5_start_97 : decode cX5_start 97 = .ok (.iconst 0, 1) := by decide +kernel
theorem dX5_start_98 : decode cX5_start 98 = .ok (.istore 4, 2) := by decide +kernel
theorem dX5_start_100 : decode cX5_start 100 = .ok (.iload 4, 2) := by decide +kernel
theorem dX5_start_102 : decode cX5_start 102 = .ok (.iconst 5, 1) := by decide +kernel
theorem dX5_start_103 : decode cX5_start 103 = .ok (.if_icmp .ge 25, 3) := by decide +kernel
theorem dX5_start_106 : decode cX5_start 106 = .ok (.aload_n 0, 1) := by decide +kernel
theorem dX5_start_107 : decode cX5_start 107 = .ok (.getfield 16, 3) := by decide +kernel
theorem dX5_start_110 : decode cX5_start 110 = .ok (.iload 4, 2) := by decide +kernel
theorem dX5_start_112 : decode cX5_start 112 = .ok (.iconst 0, 1) := by decide +kernel
theorem dX5_start_113 : decode cX5_start 113 = .ok (.bastore, 1) := by decide +kernel
theorem dX5_start_114 : decode cX5_start 114 = .ok (.aload_n 0, 1) := by decide +kernel
theorem dX5_start_115 : decode cX5_start 115 = .ok (.getfield 20, 3) := by decide +kernel
theorem dX5_start_118 : decode cX5_start 118 = .ok (.iload 4, 2) := by decide +kernel
theorem dX5_start_120 : decode cX5_start 120 = .ok (.iconst 0, 1) := by decide +kernel
theorem dX5_start_121 : decode cX5_start 121 = .ok (.iastore, 1) := by decide +kernel
theorem dX5_start_122 : decode cX5_start 122 = .ok (.iinc 4 1, 3) := by decide +kernel
theorem dX5_start_125 : decode cX5_start 125 = .ok (.goto (-25), 3) := by decide +kernel
theorem dX5_start_128 : decode cX5_start 128 = .ok (.aload_n 0, 1) := by decide +kernel
theorem dX5_start_129 : decode cX5_start 129 = .ok (.iload_n 1, 1) := by decide +kernel
theorem dX5_start_130 : decode cX5_start 130 = .ok (.iconst 0, 1) := by decide +kernel
theorem dX5_start_131 : decode cX5_start 131 = .ok (.iload_n 2, 1) := by decide +kernel
theorem dX5_start_132 : decode cX5_start 132 = .ok (.invokevirtual 100, 3) := by decide +kernel
theorem dX5_start_135 : decode cX5_start 135 = .ok (.return_, 1) := by decide +kernel
theorem dX5_size_0 : decode cX5_size 0 = .ok (.iload_n 0, 1) := by decide +kernel
theorem dX5_size_1 : decode cX5_size 1 = .ok (.bipush 10, 2) := by decide +kernel
theorem dX5_size_3 : decode cX5_size 3 = .ok (.if_icmp .ne 7, 3) := by decide +kernel
theorem dX5_size_6 : decode cX5_size 6 = .ok (.iconst 3, 1) := by decide +kernel
theorem dX5_size_7 : decode cX5_size 7 = .ok (.goto 29, 3) := by decide +kernel
