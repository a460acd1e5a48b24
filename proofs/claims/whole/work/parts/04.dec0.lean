theorem dX0_init_0 : decode cX0_init 0 = .ok (.aload_n 0, 1) := by decide +kernel
theorem dX0_init_1 : decode cX0_init 1 = .ok (.invokespecial 3, 3) := by decide +kernel
theorem dX0_init_4 : decode cX0_init 4 = .ok (.aload_n 0, 1) := by decide +kernel
theorem dX0_init_5 : decode cX0_init 5 = .ok (.iconst 5, 1) := by decide +kernel
theorem dX0_init_6 : decode cX0_init 6 = .ok (.bipush 80, 2) := by decide +kernel
theorem dX0_init_8 : decode cX0_init 8 = .ok (.multianewarray 9 2, 4) := by decide +kernel
theorem dX0_init_12 : decode cX0_init 12 = .ok (.putfield 11, 3) := by decide +kernel
theorem dX0_init_15 : decode cX0_init 15 = .ok (.aload_n 0, 1) := by decide +kernel
theorem dX0_init_16 : decode cX0_init 16 = .ok (.iconst 5, 1) := by decide +kernel
theorem dX0_init_17 : decode cX0_init 17 = .ok (.newarray .int, 2) := by decide +kernel
theorem dX0_init_19 : decode cX0_init 19 = .ok (.putfield 16, 3) := by decide +kernel
theorem dX0_init_22 : decode cX0_init 22 = .ok (.return_, 1) := by decide +kernel
theorem dX0_lengthOf_0 : decode cX0_lengthOf 0 = .ok (.iload_n 1, 1) := by decide +kernel
theorem dX0_lengthOf_1 : decode cX0_lengthOf 1 = .ok (.ifCond .lt 17, 3) := by decide +kernel
theorem dX0_lengthOf_4 : decode cX0_lengthOf 4 = .ok (.iload_n 1, 1) := by decide +kernel
theorem dX0_lengthOf_5 : decode cX0_lengthOf 5 = .ok (.iconst 5, 1) := by decide +kernel
theorem dX0_lengthOf_6 : decode cX0_lengthOf 6 = .ok (.if_icmp .ge 12, 3) := by decide +kernel
theorem dX0_lengthOf_9 : decode cX0_lengthOf 9 = .ok (.aload_n 0, 1) := by decide +kernel
theorem dX0_lengthOf_10 : decode cX0_lengthOf 10 = .ok (.getfield 16, 3) := by decide +kernel
theorem dX0_lengthOf_13 : decode cX0_lengthOf 13 = .ok (.iload_n 1, 1) := by decide +kernel
theorem dX0_lengthOf_14 : decode cX0_lengthOf 14 = .ok (.iaload, 1) := by decide +kernel
theorem dX0_lengthOf_15 : decode cX0_lengthOf 15 = .ok (.goto 4, 3) := by decide +kernel
theorem dX0_lengthOf_18 : decode cX0_lengthOf 18 = .ok (.iconst 0, 1) := by decide +kernel
theorem dX0_lengthOf_19 : decode cX0_lengthOf 19 = .ok (.ireturn, 1) := by decide +kernel
theorem dX0_append_0 : decode cX0_append 0 = .ok (.aload_n 0, 1) := by decide +kernel
theorem dX0_append_1 : decode cX0_append 1 = .ok (.iload_n 1, 1) := by decide +kernel
theorem dX0_append_2 : decode cX0_append 2 = .ok (.invokevirtual 20, 3) := by decide +kernel
theorem dX0_append_5 : decode cX0_append 5 = .ok (.istore_n 3, 1) := by decide +kernel
theorem dX0_append_6 : decode cX0_append 6 = .ok (.iload_n 1, 1) := by decide +kernel
theorem dX0_append_7 : decode cX0_append 7 = .ok (.invokestatic 24, 3) := by decide +kernel
theorem dX0_append_10 : decode cX0_append 10 = .ok (.ifCond .eq 27, 3) := by decide +kernel
theorem dX0_append_13 : decode cX0_append 13 = .ok (.iload_n 3, 1) := by decide +kernel
theorem dX0_append_14 : decode cX0_append 14 = .ok (.bipush 80, 2) := by decide +kernel
theorem dX0_append_16 : decode cX0_append 16 = .ok (.if_icmp .ge 21, 3) := by decide +kernel
theorem dX0_append_19 : decode cX0_append 19 = .ok (.aload_n 0, 1) := by decide +kernel
theorem dX0_append_20 : decode cX0_append 20 = .ok (.getfield 11, 3) := by decide +kernel
theorem dX0_append_23 : decode cX0_append 23 = .ok (.iload_n 1, 1) := by decide +kernel
theorem dX0_append_24 : decode cX0_append 24 = .ok (.aaload, 1) := by decide +kernel
theorem dX0_append_25 : decode cX0_append 25 = .ok (.iload_n 3, 1) := by decide +kernel
theorem dX0_append_26 : decode cX0_append 26 = .ok (.iload_n 2, 1) := by decide +kernel
theorem dX0_append_27 : decode cX0_append 27 = .ok (.bastore, 1) := by decide +kernel
theorem dX0_append_28 : decode cX0_append 28 = .ok (.aload_n 0, 1) := by decide +kernel
theorem dX0_append_29 : decode cX0_append 29 = .ok (.getfield 16, 3) := by decide +kernel
theorem dX0_append_32 : decode cX0_append 32 = .ok (.iload_n 1, 1) := by decide +kernel
theorem dX0_append_33 : decode cX0_append 33 = .ok (.iload_n 3, 1) := by decide +kernel
theorem dX0_append_34 : decode cX0_append 34 = .ok (.iconst 1, 1) := by decide +kernel
theorem dX0_append_35 : decode cX0_append 35 = .ok (.iadd, 1) := by decide +kernel
theorem dX0_append_36 : decode cX0_append 36 = .ok (.iastore, 1) := by decide +kernel
theorem dX0_append_37 : decode cX0_append 37 = .ok (.return_, 1) := by decide +kernel
theorem dX0_wipe_0 : decode cX0_wipe 0 = .ok (.iload_n 1, 1) := by decide +kernel
theorem dX0_wipe_1 : decode cX0_wipe 1 = .ok (.invokestatic 24, 3) := by decide +kernel
theorem dX0_wipe_4 : decode cX0_wipe 4 = .ok (.ifCond .eq 10, 3) := by decide +kernel
theorem dX0_wipe_7 : decode cX0_wipe 7 = .ok (.aload_n 0, 1) := by decide +kernel
theorem dX0_wipe_8 : decode cX0_wipe 8 = .ok (.getfield 16, 3) := by decide +kernel
theorem dX0_wipe_11 : decode cX0_wipe 11 = .ok (.iload_n 1, 1) := by decide +kernel
theorem dX0_wipe_12 : decode cX0_wipe 12 = .ok (.iconst 0, 1) := by decide +kernel
theorem dX0_wipe_13 : decode cX0_wipe 13 = .ok (.iastore, 1) := by decide +kernel
theorem dX0_wipe_14 : decode cX0_wipe 14 = .ok (.return_, 1) := by decide +kernel
theorem dX0_byteAt_0 : decode cX0_byteAt 0 = .ok (.iload_n 1, 1) := by decide +kernel
theorem dX0_byteAt_1 : decode cX0_byteAt 1 = .ok (.ifCond .lt 26, 3) := by decide +kernel
theorem dX0_byteAt_4 : decode cX0_byteAt 4 = .ok (.iload_n 1, 1) := by decide +kernel
theorem dX0_byteAt_5 : decode cX0_byteAt 5 = .ok (.iconst 5, 1) := by decide +kernel
theorem dX0_byteAt_6 : decode cX0_byteAt 6 = .ok (.if_icmp .ge 21, 3) := by decide +kernel
theorem dX0_byteAt_9 : decode cX0_byteAt 9 = .ok (.iload_n 2, 1) := by decide +kernel
theorem dX0_byteAt_10 : decode cX0_byteAt 10 = .ok (.ifCond .lt 17, 3) := by decide +kernel
theorem dX0_byteAt_13 : decode cX0_byteAt 13 = .ok (.iload_n 2, 1) := by decide +kernel
theorem dX0_byteAt_14 : decode cX0_byteAt 14 = .ok (.aload_n 0, 1) := by decide +kernel
theorem dX0_byteAt_15 : decode cX0_byteAt 15 = .ok (.getfield 16, 3) := by decide +kernel
theorem dX0_byteAt_18 : decode cX0_byteAt 18 = .ok (.iload_n 1, 1) := by decide +kernel
theorem dX0_byteAt_19 : decode cX0_byteAt 19 = .ok (.iaload, 1) := by decide +kernel
theorem dX0_byteAt_20 : decode cX0_byteAt 20 = .ok (.if_icmp .ge 7, 3) := by decide +kernel
theorem dX0_byteAt_23 : decode cX0_byteAt 23 = .ok (.iconst 1, 1) := by decide +kernel
theorem dX0_byteAt_24 : decode cX0_byteAt 24 = .ok (.goto 4, 3) := by decide +kernel
theorem dX0_byteAt_27 : decode cX0_byteAt 27 = .ok (.iconst 0, 1) := by decide +kernel
theorem dX0_byteAt_28 : decode cX0_byteAt 28 = .ok (.istore_n 3, 1) := by decide +kernel
theorem dX0_byteAt_29 : decode cX0_byteAt 29 = .ok (.iload_n 3, 1) := by decide +kernel
theorem dX0_byteAt_30 : decode cX0_byteAt 30 = .ok (.ifCond .eq 14, 3) := by decide +kernel
theorem dX0_byteAt_33 : decode cX0_byteAt 33 = .ok (.aload_n 0, 1) := by decide +kernel
theorem dX0_byteAt_34 : decode cX0_byteAt 34 = .ok (.getfield 11, 3) := by decide +kernel
theorem dX0_byteAt_37 : decode cX0_byteAt 37 = .ok (.iload_n 1, 1) := by decide +kernel
theorem dX0_byteAt_38 : decode cX0_byteAt 38 = .ok (.aaload, 1) := by decide +kernel
theorem dX0_byteAt_39 : decode cX0_byteAt 39 = .ok (.iload_n 2, 1) := by decide +kernel
theorem dX0_byteAt_40 : decode cX0_byteAt 40 = .ok (.baload, 1) := by decide +kernel
theorem dX0_byteAt_41 : decode cX0_byteAt 41 = .ok (.goto 4, 3) := by decide +kernel
theorem dX0_byteAt_44 : decode cX0_byteAt 44 = .ok (.iconst 0, 1) := by decide +kernel
theorem dX0_byteAt_45 : decode cX0_byteAt 45 = .ok (.ireturn, 1) := by decide +kernel
theorem dX0_proceduresOf_0 : decode cX0_proceduresOf 0 = .ok (.aload_n 0, 1) := by decide +kernel
theorem dX0_proceduresOf_1 : decode cX0_proceduresOf 1 = .ok (.iload_n 1, 1) := by decide +kernel
theorem dX0_proceduresOf_2 : decode cX0_proceduresOf 2 = .ok (.iconst 0, 1) := by decide +kernel
theorem dX0_proceduresOf_3 : decode cX0_proceduresOf 3 = .ok (.invokevirtual 28, 3) := by decide +kernel
theorem dX0_proceduresOf_6 : decode cX0_proceduresOf 6 = .ok (.istore_n 2, 1) := by decide +kernel
theorem dX0_proceduresOf_7 : decode cX0_proceduresOf 7 = .ok (.iload_n 2, 1) := by decide +kernel
theorem dX0_proceduresOf_8 : decode cX0_proceduresOf 8 = .ok (.iconst 1, 1) := by decide +kernel
theorem dX0_proceduresOf_9 : decode cX0_proceduresOf 9 = .ok (.if_icmp .lt 8, 3) := by decide +kernel
theorem dX0_proceduresOf_12 : decode cX0_proceduresOf 12 = .ok (.iload_n 2, 1) := by decide +kernel
theorem dX0_proceduresOf_13 : decode cX0_proceduresOf 13 = .ok (.iconst 4, 1) := by decide +kernel
theorem dX0_proceduresOf_14 : decode cX0_proceduresOf 14 = .ok (.if_icmp .le 5, 3) := by decide +kernel
theorem dX0_proceduresOf_17 : decode cX0_proceduresOf 17 = .ok (.iconst 0, 1) := by decide +kernel
theorem dX0_proceduresOf_18 : decode cX0_proceduresOf 18 = .ok (.ireturn, 1) := by decide +kernel
theorem dX0_proceduresOf_19 : decode cX0_proceduresOf 19 = .ok (.iconst 1, 1) := by decide +kernel
theorem dX0_proceduresOf_20 : decode cX0_proceduresOf 20 = .ok (.istore_n 3, 1) := by decide +kernel
theorem dX0_proceduresOf_21 : decode cX0_proceduresOf 21 = .ok (.iload_n 3, 1) := by decide +kernel
theorem dX0_proceduresOf_22 : decode cX0_proceduresOf 22 = .ok (.iload_n 2, 1) := by decide +kernel
theorem dX0_proceduresOf_23 : decode cX0_proceduresOf 23 = .ok (.if_icmp .gt 39, 3) := by decide +kernel
theorem dX0_proceduresOf_26 : decode cX0_proceduresOf 26 = .ok (.aload_n 0, 1) := by decide +kernel
theorem dX0_proceduresOf_27 : decode cX0_proceduresOf 27 = .ok (.iload_n 1, 1) := by decide +kernel
theorem dX0_proceduresOf_28 : decode cX0_proceduresOf 28 = .ok (.iload_n 3, 1) := by decide +kernel
theorem dX0_proceduresOf_29 : decode cX0_proceduresOf 29 = .ok (.invokevirtual 28, 3) := by decide +kernel
theorem dX0_proceduresOf_32 : decode cX0_proceduresOf 32 = .ok (.sipush 255, 3) := by decide +kernel
theorem dX0_proceduresOf_35 : decode cX0_proceduresOf 35 = .ok (.iand, 1) := by decide +kernel
theorem dX0_proceduresOf_36 : decode cX0_proceduresOf 36 = .ok (.istore 4, 2) := by decide +kernel
theorem dX0_proceduresOf_38 : decode cX0_proceduresOf 38 = .ok (.iload 4, 2) := by decide +kernel
theorem dX0_proceduresOf_40 : decode cX0_proceduresOf 40 = .ok (.iload_n 2, 1) := by decide +kernel
theorem dX0_proceduresOf_41 : decode cX0_proceduresOf 41 = .ok (.if_icmp .le 13, 3) := by decide +kernel
theorem dX0_proceduresOf_44 : decode cX0_proceduresOf 44 = .ok (.iload 4, 2) := by decide +kernel
theorem dX0_proceduresOf_46 : decode cX0_proceduresOf 46 = .ok (.aload_n 0, 1) := by decide +kernel
theorem dX0_proceduresOf_47 : decode cX0_proceduresOf 47 = .ok (.iload_n 1, 1) := by decide +kernel
theorem dX0_proceduresOf_48 : decode cX0_proceduresOf 48 = .ok (.invokevirtual 20, 3) := by decide +kernel
theorem dX0_proceduresOf_51 : decode cX0_proceduresOf 51 = .ok (.if_icmp .lt 5, 3) := by decide +kernel
theorem dX0_proceduresOf_54 : decode cX0_proceduresOf 54 = .ok (.iconst 0, 1) := by decide +kernel
theorem dX0_proceduresOf_55 : decode cX0_proceduresOf 55 = .ok (.ireturn, 1) := by decide +kernel
theorem dX0_proceduresOf_56 : decode cX0_proceduresOf 56 = .ok (.iinc 3 1, 3) := by decide +kernel
theorem dX0_proceduresOf_59 : decode cX0_proceduresOf 59 = .ok (.goto (-38), 3) := by decide +kernel
theorem dX0_proceduresOf_62 : decode cX0_proceduresOf 62 = .ok (.iload_n 2, 1) := by decide +kernel
theorem dX0_proceduresOf_63 : decode cX0_proceduresOf 63 = .ok (.ireturn, 1) := by decide +kernel
theorem dX0_beginOf_0 : decode cX0_beginOf 0 = .ok (.aload_n 0, 1) := by decide +kernel
theorem dX0_beginOf_1 : decode cX0_beginOf 1 = .ok (.iload_n 1, 1) := by decide +kernel
theorem dX0_beginOf_2 : decode cX0_beginOf 2 = .ok (.iload_n 2, 1) := by decide +kernel
theorem dX0_beginOf_3 : decode cX0_beginOf 3 = .ok (.iconst 1, 1) := by decide +kernel
theorem dX0_beginOf_4 : decode cX0_beginOf 4 = .ok (.iadd, 1) := by decide +kernel
theorem dX0_beginOf_5 : decode cX0_beginOf 5 = .ok (.invokevirtual 28, 3) := by decide +kernel
theorem dX0_beginOf_8 : decode cX0_beginOf 8 = .ok (.sipush 255, 3) := by decide +kernel
theorem dX0_beginOf_11 : decode cX0_beginOf 11 = .ok (.iand, 1) := by decide +kernel
theorem dX0_beginOf_12 : decode cX0_beginOf 12 = .ok (.ireturn, 1) := by decide +kernel
theorem dX0_localsOf_0 : decode cX0_localsOf 0 = .ok (.iload_n 2, 1) := by decide +kernel
theorem dX0_localsOf_1 : decode cX0_localsOf 1 = .ok (.ifCond .lt 12, 3) := by decide +kernel
theorem dX0_localsOf_4 : decode cX0_localsOf 4 = .ok (.iload_n 2, 1) := by decide +kernel
theorem dX0_localsOf_5 : decode cX0_localsOf 5 = .ok (.aload_n 0, 1) := by decide +kernel
theorem dX0_localsOf_6 : decode cX0_localsOf 6 = .ok (.iload_n 1, 1) := by decide +kernel
theorem dX0_localsOf_7 : decode cX0_localsOf 7 = .ok (.invokevirtual 32, 3) := by decide +kernel
theorem dX0_localsOf_10 : decode cX0_localsOf 10 = .ok (.if_icmp .lt 5, 3) := by decide +kernel
theorem dX0_localsOf_13 : decode cX0_localsOf 13 = .ok (.iconst (-1), 1) := by decide +kernel
theorem dX0_localsOf_14 : decode cX0_localsOf 14 = .ok (.ireturn, 1) := by decide +kernel
theorem dX0_localsOf_15 : decode cX0_localsOf 15 = .ok (.aload_n 0, 1) := by decide +kernel
theorem dX0_localsOf_16 : decode cX0_localsOf 16 = .ok (.iload_n 1, 1) := by decide +kernel
theorem dX0_localsOf_17 : decode cX0_localsOf 17 = .ok (.aload_n 0, 1) := by decide +kernel
theorem dX0_localsOf_18 : decode cX0_localsOf 18 = .ok (.iload_n 1, 1) := by decide +kernel
theorem dX0_localsOf_19 : decode cX0_localsOf 19 = .ok (.iload_n 2, 1) := by decide +kernel
theorem dX0_localsOf_20 : decode cX0_localsOf 20 = .ok (.invokevirtual 35, 3) := by decide +kernel
theorem dX0_localsOf_23 : decode cX0_localsOf 23 = .ok (.invokevirtual 28, 3) := by decide +kernel
theorem dX0_localsOf_26 : decode cX0_localsOf 26 = .ok (.istore_n 3, 1) := by decide +kernel
theorem dX0_localsOf_27 : decode cX0_localsOf 27 = .ok (.iload_n 3, 1) := by decide +kernel
theorem dX0_localsOf_28 : decode cX0_localsOf 28 = .ok (.ifCond .lt 13, 3) := by decide +kernel
theorem dX0_localsOf_31 : decode cX0_localsOf 31 = .ok (.iload_n 3, 1) := by decide +kernel
theorem dX0_localsOf_32 : decode cX0_localsOf 32 = .ok (.bipush 6, 2) := by decide +kernel
theorem dX0_localsOf_34 : decode cX0_localsOf 34 = .ok (.if_icmp .gt 7, 3) := by decide +kernel
theorem dX0_localsOf_37 : decode cX0_localsOf 37 = .ok (.iload_n 3, 1) := by decide +kernel
theorem dX0_localsOf_38 : decode cX0_localsOf 38 = .ok (.goto 4, 3) := by decide +kernel
theorem dX0_localsOf_41 : decode cX0_localsOf 41 = .ok (.iconst (-1), 1) := by decide +kernel
theorem dX0_localsOf_42 : decode cX0_localsOf 42 = .ok (.ireturn, 1) := by decide +kernel
theorem dX1_init_0 : decode cX1_init 0 = .ok (.aload_n 0, 1) := by decide +kernel
theorem dX1_init_1 : decode cX1_init 1 = .ok (.invokespecial 3, 3) := by decide +kernel
theorem dX1_init_4 : decode cX1_init 4 = .ok (.aload_n 0, 1) := by decide +kernel
theorem dX1_init_5 : decode cX1_init 5 = .ok (.sipush 500, 3) := by decide +kernel
theorem dX1_init_8 : decode cX1_init 8 = .ok (.newarray .int, 2) := by decide +kernel
theorem dX1_init_10 : decode cX1_init 10 = .ok (.putfield 11, 3) := by decide +kernel
theorem dX1_init_13 : decode cX1_init 13 = .ok (.aload_n 0, 1) := by decide +kernel
theorem dX1_init_14 : decode cX1_init 14 = .ok (.sipush 500, 3) := by decide +kernel
theorem dX1_init_17 : decode cX1_init 17 = .ok (.newarray .int, 2) := by decide +kernel
theorem dX1_init_19 : decode cX1_init 19 = .ok (.putfield 15, 3) := by decide +kernel
theorem dX1_init_22 : decode cX1_init 22 = .ok (.aload_n 0, 1) := by decide +kernel
theorem dX1_init_23 : decode cX1_init 23 = .ok (.sipush 500, 3) := by decide +kernel
theorem dX1_init_26 : decode cX1_init 26 = .ok (.newarray .int, 2) := by decide +kernel
theorem dX1_init_28 : decode cX1_init 28 = .ok (.putfield 18, 3) := by decide +kernel
theorem dX1_init_31 : decode cX1_init 31 = .ok (.aload_n 0, 1) := by decide +kernel
theorem dX1_init_32 : decode cX1_init 32 = .ok (.sipush 500, 3) := by decide +kernel
theorem dX1_init_35 : decode cX1_init 35 = .ok (.newarray .int, 2) := by decide +kernel
theorem dX1_init_37 : decode cX1_init 37 = .ok (.putfield 21, 3) := by decide +kernel
theorem dX1_init_40 : decode cX1_init 40 = .ok (.aload_n 0, 1) := by decide +kernel
theorem dX1_init_41 : decode cX1_init 41 = .ok (.sipush 1000, 3) := by decide +kernel
theorem dX1_init_44 : decode cX1_init 44 = .ok (.newarray .int, 2) := by decide +kernel
theorem dX1_init_46 : decode cX1_init 46 = .ok (.putfield 24, 3) := by decide +kernel
theorem dX1_init_49 : decode cX1_init 49 = .ok (.return_, 1) := by decide +kernel
theorem dX1_empty_0 : decode cX1_empty 0 = .ok (.aload_n 0, 1) := by decide +kernel
theorem dX1_empty_1 : decode cX1_empty 1 = .ok (.iconst 0, 1) := by decide +kernel
theorem dX1_empty_2 : decode cX1_empty 2 = .ok (.putfield 27, 3) := by decide +kernel
theorem dX1_empty_5 : decode cX1_empty 5 = .ok (.aload_n 0, 1) := by decide +kernel
theorem dX1_empty_6 : decode cX1_empty 6 = .ok (.iconst 0, 1) := by decide +kernel
theorem dX1_empty_7 : decode cX1_empty 7 = .ok (.putfield 31, 3) := by decide +kernel
theorem dX1_empty_10 : decode cX1_empty 10 = .ok (.return_, 1) := by decide +kernel
theorem dX1_count_0 : decode cX1_count 0 = .ok (.aload_n 0, 1) := by decide +kernel
theorem dX1_count_1 : decode cX1_count 1 = .ok (.getfield 27, 3) := by decide +kernel
theorem dX1_count_4 : decode cX1_count 4 = .ok (.ireturn, 1) := by decide +kernel
theorem dX1_latestSegment_0 : decode cX1_latestSegment 0 = .ok (.aload_n 0, 1) := by decide +kernel
theorem dX1_latestSegment_1 : decode cX1_latestSegment 1 = .ok (.getfield 27, 3) := by decide +kernel
theorem dX1_latestSegment_4 : decode cX1_latestSegment 4 = .ok (.ifCond .le 17, 3) := by decide +kernel
theorem dX1_latestSegment_7 : decode cX1_latestSegment 7 = .ok (.aload_n 0, 1) := by decide +kernel
theorem dX1_latestSegment_8 : decode cX1_latestSegment 8 = .ok (.getfield 11, 3) := by decide +kernel
theorem dX1_latestSegment_11 : decode cX1_latestSegment 11 = .ok (.aload_n 0, 1) := by decide +kernel
theorem dX1_latestSegment_12 : decode cX1_latestSegment 12 = .ok (.getfield 27, 3) := by decide +kernel
theorem dX1_latestSegment_15 : decode cX1_latestSegment 15 = .ok (.iconst 1, 1) := by decide +kernel
theorem dX1_latestSegment_16 : decode cX1_latestSegment 16 = .ok (.isub, 1) := by decide +kernel
theorem dX1_latestSegment_17 : decode cX1_latestSegment 17 = .ok (.iaload, 1) := by decide +kernel
theorem dX1_latestSegment_18 : decode cX1_latestSegment 18 = .ok (.goto 4, 3) := by decide +kernel
theorem dX1_latestSegment_21 : decode cX1_latestSegment 21 = .ok (.iconst (-1), 1) := by decide +kernel
theorem dX1_latestSegment_22 : decode cX1_latestSegment 22 = .ok (.ireturn, 1) := by decide +kernel
theorem dX1_latestPlace_0 : decode cX1_latestPlace 0 = .ok (.aload_n 0, 1) := by decide +kernel
theorem dX1_latestPlace_1 : decode cX1_latestPlace 1 = .ok (.getfield 27, 3) := by decide +kernel
theorem dX1_latestPlace_4 : decode cX1_latestPlace 4 = .ok (.ifCond .le 17, 3) := by decide +kernel
theorem dX1_latestPlace_7 : decode cX1_latestPlace 7 = .ok (.aload_n 0, 1) := by decide +kernel
theorem dX1_latestPlace_8 : decode cX1_latestPlace 8 = .ok (.getfield 15, 3) := by decide +kernel
theorem dX1_latestPlace_11 : decode cX1_latestPlace 11 = .ok (.aload_n 0, 1) := by decide +kernel
theorem dX1_latestPlace_12 : decode cX1_latestPlace 12 = .ok (.getfield 27, 3) := by decide +kernel
theorem dX1_latestPlace_15 : decode cX1_latestPlace 15 = .ok (.iconst 1, 1) := by decide +kernel
theorem dX1_latestPlace_16 : decode cX1_latestPlace 16 = .ok (.isub, 1) := by decide +kernel
theorem dX1_latestPlace_17 : decode cX1_latestPlace 17 = .ok (.iaload, 1) := by decide +kernel
theorem dX1_latestPlace_18 : decode cX1_latestPlace 18 = .ok (.goto 4, 3) := by decide +kernel
theorem dX1_latestPlace_21 : decode cX1_latestPlace 21 = .ok (.iconst (-1), 1) := by decide +kernel
theorem dX1_latestPlace_22 : decode cX1_latestPlace 22 = .ok (.ireturn, 1) := by decide +kernel
theorem dX1_latestLocals_0 : decode cX1_latestLocals 0 = .ok (.aload_n 0, 1) := by decide +kernel
theorem dX1_latestLocals_1 : decode cX1_latestLocals 1 = .ok (.getfield 27, 3) := by decide +kernel
theorem dX1_latestLocals_4 : decode cX1_latestLocals 4 = .ok (.ifCond .le 17, 3) := by decide +kernel
theorem dX1_latestLocals_7 : decode cX1_latestLocals 7 = .ok (.aload_n 0, 1) := by decide +kernel
theorem dX1_latestLocals_8 : decode cX1_latestLocals 8 = .ok (.getfield 18, 3) := by decide +kernel
theorem dX1_latestLocals_11 : decode cX1_latestLocals 11 = .ok (.aload_n 0, 1) := by decide +kernel
theorem dX1_latestLocals_12 : decode cX1_latestLocals 12 = .ok (.getfield 27, 3) := by decide +kernel
theorem dX1_latestLocals_15 : decode cX1_latestLocals 15 = .ok (.iconst 1, 1) := by decide +kernel
theorem dX1_latestLocals_16 : decode cX1_latestLocals 16 = .ok (.isub, 1) := by decide +kernel
theorem dX1_latestLocals_17 : decode cX1_latestLocals 17 = .ok (.iaload, 1) := by decide +kernel
theorem dX1_latestLocals_18 : decode cX1_latestLocals 18 = .ok (.goto 4, 3) := by decide +kernel
theorem dX1_latestLocals_21 : decode cX1_latestLocals 21 = .ok (.iconst 0, 1) := by decide +kernel
theorem dX1_latestLocals_22 : decode cX1_latestLocals 22 = .ok (.ireturn, 1) := by decide +kernel
theorem dX1_depth_0 : decode cX1_depth 0 = .ok (.aload_n 0, 1) := by decide +kernel
theorem dX1_depth_1 : decode cX1_depth 1 = .ok (.getfield 27, 3) := by decide +kernel
theorem dX1_depth_4 : decode cX1_depth 4 = .ok (.ifCond .le 34, 3) := by decide +kernel
theorem dX1_depth_7 : decode cX1_depth 7 = .ok (.aload_n 0, 1) := by decide +kernel
theorem dX1_depth_8 : decode cX1_depth 8 = .ok (.getfield 31, 3) := by decide +kernel
theorem dX1_depth_11 : decode cX1_depth 11 = .ok (.aload_n 0, 1) := by decide +kernel
theorem dX1_depth_12 : decode cX1_depth 12 = .ok (.getfield 21, 3) := by decide +kernel
theorem dX1_depth_15 : decode cX1_depth 15 = .ok (.aload_n 0, 1) := by decide +kernel
theorem dX1_depth_16 : decode cX1_depth 16 = .ok (.getfield 27, 3) := by decide +kernel
theorem dX1_depth_19 : decode cX1_depth 19 = .ok (.iconst 1, 1) := by decide +kernel
theorem dX1_depth_20 : decode cX1_depth 20 = .ok (.isub, 1) := by decide +kernel
theorem dX1_depth_21 : decode cX1_depth 21 = .ok (.iaload, 1) := by decide +kernel
theorem dX1_depth_22 : decode cX1_depth 22 = .ok (.isub, 1) := by decide +kernel
theorem dX1_depth_23 : decode cX1_depth 23 = .ok (.aload_n 0, 1) := by decide +kernel
theorem dX1_depth_24 : decode cX1_depth 24 = .ok (.getfield 18, 3) := by decide +kernel
theorem dX1_depth_27 : decode cX1_depth 27 = .ok (.aload_n 0, 1) := by decide +kernel
theorem dX1_depth_28 : decode cX1_depth 28 = .ok (.getfield 27, 3) := by decide +kernel
theorem dX1_depth_31 : decode cX1_depth 31 = .ok (.iconst 1, 1) := by decide +kernel
theorem dX1_depth_32 : decode cX1_depth 32 = .ok (.isub, 1) := by decide +kernel
theorem dX1_depth_33 : decode cX1_depth 33 = .ok (.iaload, 1) := by decide +kernel
theorem dX1_depth_34 : decode cX1_depth 34 = .ok (.isub, 1) := by decide +kernel
theorem dX1_depth_35 : decode cX1_depth 35 = .ok (.goto 4, 3) := by decide +kernel
theorem dX1_depth_38 : decode cX1_depth 38 = .ok (.iconst 0, 1) := by decide +kernel
theorem dX1_depth_39 : decode cX1_depth 39 = .ok (.ireturn, 1) := by decide +kernel
theorem dX1_open_0 : decode cX1_open 0 = .ok (.aload_n 0, 1) := by decide +kernel
theorem dX1_open_1 : decode cX1_open 1 = .ok (.getfield 27, 3) := by decide +kernel
theorem dX1_open_4 : decode cX1_open 4 = .ok (.sipush 500, 3) := by decide +kernel
theorem dX1_open_7 : decode cX1_open 7 = .ok (.if_icmp .ge 19, 3) := by decide +kernel
theorem dX1_open_10 : decode cX1_open 10 = .ok (.iload_n 3, 1) := by decide +kernel
theorem dX1_open_11 : decode cX1_open 11 = .ok (.ifCond .lt 15, 3) := by decide +kernel
theorem dX1_open_14 : decode cX1_open 14 = .ok (.iload_n 3, 1) := by decide +kernel
theorem dX1_open_15 : decode cX1_open 15 = .ok (.sipush 1000, 3) := by decide +kernel
theorem dX1_open_18 : decode cX1_open 18 = .ok (.aload_n 0, 1) := by decide +kernel
theorem dX1_open_19 : decode cX1_open 19 = .ok (.getfield 31, 3) := by decide +kernel
theorem dX1_open_22 : decode cX1_open 22 = .ok (.isub, 1) := by decide +kernel
theorem dX1_open_23 : decode cX1_open 23 = .ok (.if_icmp .le 4, 3) := by decide +kernel
theorem dX1_open_26 : decode cX1_open 26 = .ok (.return_, 1) := by decide +kernel
theorem dX1_open_27 : decode cX1_open 27 = .ok (.aload_n 0, 1) := by decide +kernel
theorem dX1_open_28 : decode cX1_open 28 = .ok (.getfield 11, 3) := by decide +kernel
theorem dX1_open_31 : decode cX1_open 31 = .ok (.aload_n 0, 1) := by decide +kernel
theorem dX1_open_32 : decode cX1_open 32 = .ok (.getfield 27, 3) := by decide +kernel
theorem dX1_open_35 : decode cX1_open 35 = .ok (.iload_n 1, 1) := by decide +kernel
theorem dX1_open_36 : decode cX1_open 36 = .ok (.iastore, 1) := by decide +kernel
theorem dX1_open_37 : decode cX1_open 37 = .ok (.aload_n 0, 1) := by decide +kernel
theorem dX1_open_38 : decode cX1_open 38 = .ok (.getfield 15, 3) := by decide +kernel
theorem dX1_open_41 : decode cX1_open 41 = .ok (.aload_n 0, 1) := by decide +kernel
theorem dX1_open_42 : decode cX1_open 42 = .ok (.getfield 27, 3) := by decide +kernel
theorem dX1_open_45 : decode cX1_open 45 = .ok (.iload_n 2, 1) := by decide +kernel
theorem dX1_open_46 : decode cX1_open 46 = .ok (.iastore, 1) := by decide +kernel
theorem dX1_open_47 : decode cX1_open 47 = .ok (.aload_n 0, 1) := by decide +kernel
theorem dX1_open_48 : decode cX1_open 48 = .ok (.getfield 18, 3) := by decide +kernel
theorem dX1_open_51 : decode cX1_open 51 = .ok (.aload_n 0, 1) := by decide +kernel
theorem dX1_open_52 : decode cX1_open 52 = .ok (.getfield 27, 3) := by decide +kernel
theorem dX1_open_55 : decode cX1_open 55 = .ok (.iload_n 3, 1) := by decide +kernel
theorem dX1_open_56 : decode cX1_open 56 = .ok (.iastore, 1) := by decide +kernel
theorem dX1_open_57 : decode cX1_open 57 = .ok (.aload_n 0, 1) := by decide +kernel
theorem dX1_open_58 : decode cX1_open 58 = .ok (.getfield 21, 3) := by decide +kernel
theorem dX1_open_61 : decode cX1_open 61 = .ok (.aload_n 0, 1) := by decide +kernel
theorem dX1_open_62 : decode cX1_open 62 = .ok (.getfield 27, 3) := by decide +kernel
theorem dX1_open_65 : decode cX1_open 65 = .ok (.aload_n 0, 1) := by decide +kernel
theorem dX1_open_66 : decode cX1_open 66 = .ok (.getfield 31, 3) := by decide +kernel
theorem dX1_open_69 : decode cX1_open 69 = .ok (.iastore, 1) := by decide +kernel
theorem dX1_open_70 : decode cX1_open 70 = .ok (.iconst 0, 1) := by decide +kernel
theorem dX1_open_71 : decode cX1_open 71 = .ok (.istore 5, 2) := by decide +kernel
theorem dX1_open_73 : decode cX1_open 73 = .ok (.iload 5, 2) := by decide +kernel
theorem dX1_open_75 : decode cX1_open 75 = .ok (.iload_n 3, 1) := by decide +kernel
theorem dX1_open_76 : decode cX1_open 76 = .ok (.if_icmp .ge 32, 3) := by decide +kernel
theorem dX1_open_79 : decode cX1_open 79 = .ok (.aload_n 0, 1) := by decide +kernel
theorem dX1_open_80 : decode cX1_open 80 = .ok (.getfield 24, 3) := by decide +kernel
theorem dX1_open_83 : decode cX1_open 83 = .ok (.aload_n 0, 1) := by decide +kernel
theorem dX1_open_84 : decode cX1_open 84 = .ok (.getfield 31, 3) := by decide +kernel
theorem dX1_open_87 : decode cX1_open 87 = .ok (.iload 5, 2) := by decide +kernel
theorem dX1_open_89 : decode cX1_open 89 = .ok (.iadd, 1) := by decide +kernel
theorem dX1_open_90 : decode cX1_open 90 = .ok (.iload 5, 2) := by decide +kernel
theorem dX1_open_92 : decode cX1_open 92 = .ok (.ifCond .ne 8, 3) := by decide +kernel
theorem dX1_open_95 : decode cX1_open 95 = .ok (.iload 4, 2) := by decide +kernel
theorem dX1_open_97 : decode cX1_open 97 = .ok (.goto 4, 3) := by decide +kernel
theorem dX1_open_100 : decode cX1_open 100 = .ok (.iconst 0, 1) := by decide +kernel
theorem dX1_open_101 : decode cX1_open 101 = .ok (.iastore, 1) := by decide +kernel
theorem dX1_open_102 : decode cX1_open 102 = .ok (.iinc 5 1, 3) := by decide +kernel
theorem dX1_open_105 : decode cX1_open 105 = .ok (.goto (-32), 3) := by decide +kernel
theorem dX1_open_108 : decode cX1_open 108 = .ok (.aload_n 0, 1) := by decide +kernel
theorem dX1_open_109 : decode cX1_open 109 = .ok (.dup, 1) := by decide +kernel
theorem dX1_open_110 : decode cX1_open 110 = .ok (.getfield 31, 3) := by decide +kernel
theorem dX1_open_113 : decode cX1_open 113 = .ok (.iload_n 3, 1) := by decide +kernel
theorem dX1_open_114 : decode cX1_open 114 = .ok (.iadd, 1) := by decide +kernel
theorem dX1_open_115 : decode cX1_open 115 = .ok (.putfield 31, 3) := by decide +kernel
theorem dX1_open_118 : decode cX1_open 118 = .ok (.aload_n 0, 1) := by decide +kernel
theorem dX1_open_119 : decode cX1_open 119 = .ok (.dup, 1) := by decide +kernel
theorem dX1_open_120 : decode cX1_open 120 = .ok (.getfield 27, 3) := by decide +kernel
theorem dX1_open_123 : decode cX1_open 123 = .ok (.iconst 1, 1) := by decide +kernel
theorem dX1_open_124 : decode cX1_open 124 = .ok (.iadd, 1) := by decide +kernel
theorem dX1_open_125 : decode cX1_open 125 = .ok (.putfield 27, 3) := by decide +kernel
theorem dX1_open_128 : decode cX1_open 128 = .ok (.return_, 1) := by decide +kernel
theorem dX1_close_0 : decode cX1_close 0 = .ok (.aload_n 0, 1) := by decide +kernel
theorem dX1_close_1 : decode cX1_close 1 = .ok (.getfield 27, 3) := by decide +kernel
theorem dX1_close_4 : decode cX1_close 4 = .ok (.ifCond .le 26, 3) := by decide +kernel
theorem dX1_close_7 : decode cX1_close 7 = .ok (.aload_n 0, 1) := by decide +kernel
theorem dX1_close_8 : decode cX1_close 8 = .ok (.dup, 1) := by decide +kernel
theorem dX1_close_9 : decode cX1_close 9 = .ok (.getfield 27, 3) := by decide +kernel
theorem dX1_close_12 : decode cX1_close 12 = .ok (.iconst 1, 1) := by decide +kernel
theorem dX1_close_13 : decode cX1_close 13 = .ok (.isub, 1) := by decide +kernel
theorem dX1_close_14 : decode cX1_close 14 = .ok (.putfield 27, 3) := by decide +kernel
theorem dX1_close_17 : decode cX1_close 17 = .ok (.aload_n 0, 1) := by decide +kernel
theorem dX1_close_18 : decode cX1_close 18 = .ok (.aload_n 0, 1) := by decide +kernel
theorem dX1_close_19 : decode cX1_close 19 = .ok (.getfield 21, 3) := by decide +kernel
theorem dX1_close_22 : decode cX1_close 22 = .ok (.aload_n 0, 1) := by decide +kernel
theorem dX1_close_23 : decode cX1_close 23 = .ok (.getfield 27, 3) := by decide +kernel
theorem dX1_close_26 : decode cX1_close 26 = .ok (.iaload, 1) := by decide +kernel
theorem dX1_close_27 : decode cX1_close 27 = .ok (.putfield 31, 3) := by decide +kernel
theorem dX1_close_30 : decode cX1_close 30 = .ok (.return_, 1) := by decide +kernel
theorem dX1_moveTo_0 : decode cX1_moveTo 0 = .ok (.aload_n 0, 1) := by decide +kernel
theorem dX1_moveTo_1 : decode cX1_moveTo 1 = .ok (.getfield 27, 3) := by decide +kernel
theorem dX1_moveTo_4 : decode cX1_moveTo 4 = .ok (.ifCond .le 15, 3) := by decide +kernel
theorem dX1_moveTo_7 : decode cX1_moveTo 7 = .ok (.aload_n 0, 1) := by decide +kernel
theorem dX1_moveTo_8 : decode cX1_moveTo 8 = .ok (.getfield 15, 3) := by decide +kernel
theorem dX1_moveTo_11 : decode cX1_moveTo 11 = .ok (.aload_n 0, 1) := by decide +kernel
theorem dX1_moveTo_12 : decode cX1_moveTo 12 = .ok (.getfield 27, 3) := by decide +kernel
theorem dX1_moveTo_15 : decode cX1_moveTo 15 = .ok (.iconst 1, 1) := by decide +kernel
theorem dX1_moveTo_16 : decode cX1_moveTo 16 = .ok (.isub, 1) := by decide +kernel
theorem dX1_moveTo_17 : decode cX1_moveTo 17 = .ok (.iload_n 1, 1) := by decide +kernel
theorem dX1_moveTo_18 : decode cX1_moveTo 18 = .ok (.iastore, 1) := by decide +kernel
theorem dX1_moveTo_19 : decode cX1_moveTo 19 = .ok (.return_, 1) := by decide +kernel
theorem dX1_moveCallerTo_0 : decode cX1_moveCallerTo 0 = .ok (.aload_n 0, 1) := by decide +kernel
theorem dX1_moveCallerTo_1 : decode cX1_moveCallerTo 1 = .ok (.getfield 27, 3) := by decide +kernel
theorem dX1_moveCallerTo_4 : decode cX1_moveCallerTo 4 = .ok (.iconst 1, 1) := by decide +kernel
theorem dX1_moveCallerTo_5 : decode cX1_moveCallerTo 5 = .ok (.if_icmp .le 15, 3) := by decide +kernel
theorem dX1_moveCallerTo_8 : decode cX1_moveCallerTo 8 = .ok (.aload_n 0, 1) := by decide +kernel
theorem dX1_moveCallerTo_9 : decode cX1_moveCallerTo 9 = .ok (.getfield 15, 3) := by decide +kernel
theorem dX1_moveCallerTo_12 : decode cX1_moveCallerTo 12 = .ok (.aload_n 0, 1) := by decide +kernel
theorem dX1_moveCallerTo_13 : decode cX1_moveCallerTo 13 = .ok (.getfield 27, 3) := by decide +kernel
theorem dX1_moveCallerTo_16 : decode cX1_moveCallerTo 16 = .ok (.iconst 2, 1) := by decide +kernel
theorem dX1_moveCallerTo_17 : decode cX1_moveCallerTo 17 = .ok (.isub, 1) := by decide +kernel
theorem dX1_moveCallerTo_18 : decode cX1_moveCallerTo 18 = .ok (.iload_n 1, 1) := by decide +kernel
theorem dX1_moveCallerTo_19 : decode cX1_moveCallerTo 19 = .ok (.iastore, 1) := by decide +kernel
theorem dX1_moveCallerTo_20 : decode cX1_moveCallerTo 20 = .ok (.return_, 1) := by decide +kernel
theorem dX1_push_0 : decode cX1_push 0 = .ok (.aload_n 0, 1) := by decide +kernel
theorem dX1_push_1 : decode cX1_push 1 = .ok (.getfield 31, 3) := by decide +kernel
theorem dX1_push_4 : decode cX1_push 4 = .ok (.sipush 1000, 3) := by decide +kernel
theorem dX1_push_7 : decode cX1_push 7 = .ok (.if_icmp .ge 23, 3) := by decide +kernel
theorem dX1_push_10 : decode cX1_push 10 = .ok (.aload_n 0, 1) := by decide +kernel
theorem dX1_push_11 : decode cX1_push 11 = .ok (.getfield 24, 3) := by decide +kernel
theorem dX1_push_14 : decode cX1_push 14 = .ok (.aload_n 0, 1) := by decide +kernel
theorem dX1_push_15 : decode cX1_push 15 = .ok (.getfield 31, 3) := by decide +kernel
theorem dX1_push_18 : decode cX1_push 18 = .ok (.iload_n 1, 1) := by decide +kernel
theorem dX1_push_19 : decode cX1_push 19 = .ok (.iastore, 1) := by decide +kernel
theorem dX1_push_20 : decode cX1_push 20 = .ok (.aload_n 0, 1) := by decide +kernel
theorem dX1_push_21 : decode cX1_push 21 = .ok (.dup, 1) := by decide +kernel
theorem dX1_push_22 : decode cX1_push 22 = .ok (.getfield 31, 3) := by decide +kernel
theorem dX1_push_25 : decode cX1_push 25 = .ok (.iconst 1, 1) := by decide +kernel
theorem dX1_push_26 : decode cX1_push 26 = .ok (.iadd, 1) := by decide +kernel
theorem dX1_push_27 : decode cX1_push 27 = .ok (.putfield 31, 3) := by decide +kernel
theorem dX1_push_30 : decode cX1_push 30 = .ok (.return_, 1) := by decide +kernel
theorem dX1_pop_0 : decode cX1_pop 0 = .ok (.aload_n 0, 1) := by decide +kernel
theorem dX1_pop_1 : decode cX1_pop 1 = .ok (.invokevirtual 34, 3) := by decide +kernel
theorem dX1_pop_4 : decode cX1_pop 4 = .ok (.ifCond .gt 5, 3) := by decide +kernel
theorem dX1_pop_7 : decode cX1_pop 7 = .ok (.iconst 0, 1) := by decide +kernel
theorem dX1_pop_8 : decode cX1_pop 8 = .ok (.ireturn, 1) := by decide +kernel
theorem dX1_pop_9 : decode cX1_pop 9 = .ok (.aload_n 0, 1) := by decide +kernel
theorem dX1_pop_10 : decode cX1_pop 10 = .ok (.dup, 1) := by decide +kernel
theorem dX1_pop_11 : decode cX1_pop 11 = .ok (.getfield 31, 3) := by decide +kernel
theorem dX1_pop_14 : decode cX1_pop 14 = .ok (.iconst 1, 1) := by decide +kernel
theorem dX1_pop_15 : decode cX1_pop 15 = .ok (.isub, 1) := by decide +kernel
theorem dX1_pop_16 : decode cX1_pop 16 = .ok (.putfield 31, 3) := by decide +kernel
theorem dX1_pop_19 : decode cX1_pop 19 = .ok (.aload_n 0, 1) := by decide +kernel
theorem dX1_pop_20 : decode cX1_pop 20 = .ok (.getfield 24, 3) := by decide +kernel
theorem dX1_pop_23 : decode cX1_pop 23 = .ok (.aload_n 0, 1) := by decide +kernel
theorem dX1_pop_24 : decode cX1_pop 24 = .ok (.getfield 31, 3) := by decide +kernel
theorem dX1_pop_27 : decode cX1_pop 27 = .ok (.iaload, 1) := by decide +kernel
theorem dX1_pop_28 : decode cX1_pop 28 = .ok (.ireturn, 1) := by decide +kernel
theorem dX1_hasLocal_0 : decode cX1_hasLocal 0 = .ok (.iload_n 1, 1) := by decide +kernel
theorem dX1_hasLocal_1 : decode cX1_hasLocal 1 = .ok (.ifCond .lt 29, 3) := by decide +kernel
theorem dX1_hasLocal_4 : decode cX1_hasLocal 4 = .ok (.iload_n 1, 1) := by decide +kernel
theorem dX1_hasLocal_5 : decode cX1_hasLocal 5 = .ok (.aload_n 0, 1) := by decide +kernel
theorem dX1_hasLocal_6 : decode cX1_hasLocal 6 = .ok (.getfield 27, 3) := by decide +kernel
theorem dX1_hasLocal_9 : decode cX1_hasLocal 9 = .ok (.if_icmp .ge 21, 3) := by decide +kernel
theorem dX1_hasLocal_12 : decode cX1_hasLocal 12 = .ok (.iload_n 2, 1) := by decide +kernel
theorem dX1_hasLocal_13 : decode cX1_hasLocal 13 = .ok (.ifCond .lt 17, 3) := by decide +kernel
theorem dX1_hasLocal_16 : decode cX1_hasLocal 16 = .ok (.iload_n 2, 1) := by decide +kernel
theorem dX1_hasLocal_17 : decode cX1_hasLocal 17 = .ok (.aload_n 0, 1) := by decide +kernel
theorem dX1_hasLocal_18 : decode cX1_hasLocal 18 = .ok (.getfield 18, 3) := by decide +kernel
theorem dX1_hasLocal_21 : decode cX1_hasLocal 21 = .ok (.iload_n 1, 1) := by decide +kernel
theorem dX1_hasLocal_22 : decode cX1_hasLocal 22 = .ok (.iaload, 1) := by decide +kernel
theorem dX1_hasLocal_23 : decode cX1_hasLocal 23 = .ok (.if_icmp .ge 7, 3) := by decide +kernel
theorem dX1_hasLocal_26 : decode cX1_hasLocal 26 = .ok (.iconst 1, 1) := by decide +kernel
theorem dX1_hasLocal_27 : decode cX1_hasLocal 27 = .ok (.goto 4, 3) := by decide +kernel
theorem dX1_hasLocal_30 : decode cX1_hasLocal 30 = .ok (.iconst 0, 1) := by decide +kernel
theorem dX1_hasLocal_31 : decode cX1_hasLocal 31 = .ok (.ireturn, 1) := by decide +kernel
