theorem dX3_giveBack_38 : decode cX3_giveBack 38 = .ok (.aload_n 0, 1) := by decide +kernel
theorem dX3_giveBack_39 : decode cX3_giveBack 39 = .ok (.getfield 21, 3) := by decide +kernel
theorem dX3_giveBack_42 : decode cX3_giveBack 42 = .ok (.invokevirtual 90, 3) := by decide +kernel
theorem dX3_giveBack_45 : decode cX3_giveBack 45 = .ok (.imul, 1) := by decide +kernel
theorem dX3_giveBack_46 : decode cX3_giveBack 46 = .ok (.iadd, 1) := by decide +kernel
theorem dX3_giveBack_47 : decode cX3_giveBack 47 = .ok (.istore_n 2, 1) := by decide +kernel
theorem dX3_giveBack_48 : decode cX3_giveBack 48 = .ok (.aload_n 0, 1) := by decide +kernel
theorem dX3_giveBack_49 : decode cX3_giveBack 49 = .ok (.getfield 12, 3) := by decide +kernel
theorem dX3_giveBack_52 : decode cX3_giveBack 52 = .ok (.aload_n 0, 1) := by decide +kernel
theorem dX3_giveBack_53 : decode cX3_giveBack 53 = .ok (.getfield 21, 3) := by decide +kernel
theorem dX3_giveBack_56 : decode cX3_giveBack 56 = .ok (.invokevirtual 84, 3) := by decide +kernel
theorem dX3_giveBack_59 : decode cX3_giveBack 59 = .ok (.iload_n 2, 1) := by decide +kernel
theorem dX3_giveBack_60 : decode cX3_giveBack 60 = .ok (.invokevirtual 188, 3) := by decide +kernel
theorem dX3_giveBack_63 : decode cX3_giveBack 63 = .ok (.aload_n 0, 1) := by decide +kernel
theorem dX3_giveBack_64 : decode cX3_giveBack 64 = .ok (.getfield 21, 3) := by decide +kernel
theorem dX3_giveBack_67 : decode cX3_giveBack 67 = .ok (.invokevirtual 191, 3) := by decide +kernel
theorem dX3_giveBack_70 : decode cX3_giveBack 70 = .ok (.aload_n 0, 1) := by decide +kernel
theorem dX3_giveBack_71 : decode cX3_giveBack 71 = .ok (.iload_n 1, 1) := by decide +kernel
theorem dX3_giveBack_72 : decode cX3_giveBack 72 = .ok (.invokevirtual 152, 3) := by decide +kernel
theorem dX3_giveBack_75 : decode cX3_giveBack 75 = .ok (.pop, 1) := by decide +kernel
theorem dX3_giveBack_76 : decode cX3_giveBack 76 = .ok (.return_, 1) := by decide +kernel
theorem dX3_frameBytes_0 : decode cX3_frameBytes 0 = .ok (.bipush 8, 2) := by decide +kernel
theorem dX3_frameBytes_2 : decode cX3_frameBytes 2 = .ok (.iconst 4, 1) := by decide +kernel
theorem dX3_frameBytes_3 : decode cX3_frameBytes 3 = .ok (.iload_n 0, 1) := by decide +kernel
theorem dX3_frameBytes_4 : decode cX3_frameBytes 4 = .ok (.imul, 1) := by decide +kernel
theorem dX3_frameBytes_5 : decode cX3_frameBytes 5 = .ok (.iadd, 1) := by decide +kernel
theorem dX3_frameBytes_6 : decode cX3_frameBytes 6 = .ok (.ireturn, 1) := by decide +kernel
theorem dX4_init_0 : decode cX4_init 0 = .ok (.aload_n 0, 1) := by decide +kernel
theorem dX4_init_1 : decode cX4_init 1 = .ok (.invokespecial 1, 3) := by decide +kernel
theorem dX4_init_4 : decode cX4_init 4 = .ok (.aload_n 0, 1) := by decide +kernel
theorem dX4_init_5 : decode cX4_init 5 = .ok (.new 7, 3) := by decide +kernel
theorem dX4_init_8 : decode cX4_init 8 = .ok (.dup, 1) := by decide +kernel
theorem dX4_init_9 : decode cX4_init 9 = .ok (.invokespecial 9, 3) := by decide +kernel
theorem dX4_init_12 : decode cX4_init 12 = .ok (.putfield 10, 3) := by decide +kernel
theorem dX4_init_15 : decode cX4_init 15 = .ok (.aload_n 0, 1) := by decide +kernel
theorem dX4_init_16 : decode cX4_init 16 = .ok (.new 16, 3) := by decide +kernel
theorem dX4_init_19 : decode cX4_init 19 = .ok (.dup, 1) := by decide +kernel
theorem dX4_init_20 : decode cX4_init 20 = .ok (.aload_n 0, 1) := by decide +kernel
theorem dX4_init_21 : decode cX4_init 21 = .ok (.getfield 10, 3) := by decide +kernel
theorem dX4_init_24 : decode cX4_init 24 = .ok (.invokespecial 18, 3) := by decide +kernel
theorem dX4_init_27 : decode cX4_init 27 = .ok (.putfield 21, 3) := by decide +kernel
theorem dX4_init_30 : decode cX4_init 30 = .ok (.return_, 1) := by decide +kernel
theorem dX4_code_0 : decode cX4_code 0 = .ok (.iload_n 1, 1) := by decide +kernel
theorem dX4_code_1 : decode cX4_code 1 = .ok (.invokestatic 25, 3) := by decide +kernel
theorem dX4_code_4 : decode cX4_code 4 = .ok (.aload_n 0, 1) := by decide +kernel
theorem dX4_code_5 : decode cX4_code 5 = .ok (.getfield 10, 3) := by decide +kernel
theorem dX4_code_8 : decode cX4_code 8 = .ok (.iload_n 1, 1) := by decide +kernel
theorem dX4_code_9 : decode cX4_code 9 = .ok (.invokevirtual 29, 3) := by decide +kernel
theorem dX4_code_12 : decode cX4_code 12 = .ok (.bipush 80, 2) := by decide +kernel
theorem dX4_code_14 : decode cX4_code 14 = .ok (.if_icmp .lt 13, 3) := by decide +kernel
theorem dX4_code_17 : decode cX4_code 17 = .ok (.new 33, 3) := by decide +kernel
theorem dX4_code_20 : decode cX4_code 20 = .ok (.dup, 1) := by decide +kernel
theorem dX4_code_21 : decode cX4_code 21 = .ok (.ldc 35, 2) := by decide +kernel
theorem dX4_code_23 : decode cX4_code 23 = .ok (.invokespecial 37, 3) := by decide +kernel
theorem dX4_code_26 : decode cX4_code 26 = .ok (.athrow, 1) := by decide +kernel
theorem dX4_code_27 : decode cX4_code 27 = .ok (.aload_n 0, 1) := by decide +kernel
theorem dX4_code_28 : decode cX4_code 28 = .ok (.getfield 21, 3) := by decide +kernel
theorem dX4_code_31 : decode cX4_code 31 = .ok (.invokevirtual 40, 3) := by decide +kernel
theorem dX4_code_34 : decode cX4_code 34 = .ok (.aload_n 0, 1) := by decide +kernel
theorem dX4_code_35 : decode cX4_code 35 = .ok (.getfield 10, 3) := by decide +kernel
theorem dX4_code_38 : decode cX4_code 38 = .ok (.iload_n 1, 1) := by decide +kernel
theorem dX4_code_39 : decode cX4_code 39 = .ok (.iload_n 2, 1) := by decide +kernel
theorem dX4_code_40 : decode cX4_code 40 = .ok (.invokevirtual 43, 3) := by decide +kernel
theorem dX4_code_43 : decode cX4_code 43 = .ok (.aload_n 0, 1) := by decide +kernel
theorem dX4_code_44 : decode cX4_code 44 = .ok (.getfield 10, 3) := by decide +kernel
theorem dX4_code_47 : decode cX4_code 47 = .ok (.iload_n 1, 1) := by decide +kernel
theorem dX4_code_48 : decode cX4_code 48 = .ok (.invokevirtual 29, 3) := by decide +kernel
theorem dX4_code_51 : decode cX4_code 51 = .ok (.ireturn, 1) := by decide +kernel
theorem dX4_clear_0 : decode cX4_clear 0 = .ok (.iload_n 1, 1) := by decide +kernel
theorem dX4_clear_1 : decode cX4_clear 1 = .ok (.invokestatic 25, 3) := by decide +kernel
theorem dX4_clear_4 : decode cX4_clear 4 = .ok (.aload_n 0, 1) := by decide +kernel
theorem dX4_clear_5 : decode cX4_clear 5 = .ok (.getfield 21, 3) := by decide +kernel
theorem dX4_clear_8 : decode cX4_clear 8 = .ok (.invokevirtual 40, 3) := by decide +kernel
theorem dX4_clear_11 : decode cX4_clear 11 = .ok (.aload_n 0, 1) := by decide +kernel
theorem dX4_clear_12 : decode cX4_clear 12 = .ok (.getfield 10, 3) := by decide +kernel
theorem dX4_clear_15 : decode cX4_clear 15 = .ok (.iload_n 1, 1) := by decide +kernel
theorem dX4_clear_16 : decode cX4_clear 16 = .ok (.invokevirtual 47, 3) := by decide +kernel
theorem dX4_clear_19 : decode cX4_clear 19 = .ok (.return_, 1) := by decide +kernel
theorem dX4_good_0 : decode cX4_good 0 = .ok (.iload_n 1, 1) := by decide +kernel
theorem dX4_good_1 : decode cX4_good 1 = .ok (.invokestatic 25, 3) := by decide +kernel
theorem dX4_good_4 : decode cX4_good 4 = .ok (.aload_n 0, 1) := by decide +kernel
theorem dX4_good_5 : decode cX4_good 5 = .ok (.getfield 10, 3) := by decide +kernel
theorem dX4_good_8 : decode cX4_good 8 = .ok (.iload_n 1, 1) := by decide +kernel
theorem dX4_good_9 : decode cX4_good 9 = .ok (.invokevirtual 50, 3) := by decide +kernel
theorem dX4_good_12 : decode cX4_good 12 = .ok (.ireturn, 1) := by decide +kernel
theorem dX4_start_0 : decode cX4_start 0 = .ok (.iload_n 1, 1) := by decide +kernel
theorem dX4_start_1 : decode cX4_start 1 = .ok (.invokestatic 25, 3) := by decide +kernel
theorem dX4_start_4 : decode cX4_start 4 = .ok (.iload_n 3, 1) := by decide +kernel
theorem dX4_start_5 : decode cX4_start 5 = .ok (.ifCond .lt 10, 3) := by decide +kernel
theorem dX4_start_8 : decode cX4_start 8 = .ok (.iload_n 3, 1) := by decide +kernel
theorem dX4_start_9 : decode cX4_start 9 = .ok (.sipush 4000, 3) := by decide +kernel
theorem dX4_start_12 : decode cX4_start 12 = .ok (.if_icmp .le 13, 3) := by decide +kernel
theorem dX4_start_15 : decode cX4_start 15 = .ok (.new 53, 3) := by decide +kernel
theorem dX4_start_18 : decode cX4_start 18 = .ok (.dup, 1) := by decide +kernel
theorem dX4_start_19 : decode cX4_start 19 = .ok (.ldc 55, 2) := by decide +kernel
theorem dX4_start_21 : decode cX4_start 21 = .ok (.invokespecial 57, 3) := by decide +kernel
theorem dX4_start_24 : decode cX4_start 24 = .ok (.athrow, 1) := by decide +kernel
theorem dX4_start_25 : decode cX4_start 25 = .ok (.aload_n 0, 1) := by decide +kernel
theorem dX4_start_26 : decode cX4_start 26 = .ok (.getfield 10, 3) := by decide +kernel
theorem dX4_start_29 : decode cX4_start 29 = .ok (.iload_n 1, 1) := by decide +kernel
theorem dX4_start_30 : decode cX4_start 30 = .ok (.invokevirtual 50, 3) := by decide +kernel
theorem dX4_start_33 : decode cX4_start 33 = .ok (.ifCond .ne 13, 3) := by decide +kernel
theorem dX4_start_36 : decode cX4_start 36 = .ok (.new 58, 3) := by decide +kernel
theorem dX4_start_39 : decode cX4_start 39 = .ok (.dup, 1) := by decide +kernel
theorem dX4_start_40 : decode cX4_start 40 = .ok (.ldc 60, 2) := by decide +kernel
theorem dX4_start_42 : decode cX4_start 42 = .ok (.invokespecial 62, 3) := by decide +kernel
theorem dX4_start_45 : decode cX4_start 45 = .ok (.athrow, 1) := by decide +kernel
theorem dX4_start_46 : decode cX4_start 46 = .ok (.aload_n 0, 1) := by decide +kernel
theorem dX4_start_47 : decode cX4_start 47 = .ok (.getfield 21, 3) := by decide +kernel
theorem dX4_start_50 : decode cX4_start 50 = .ok (.iload_n 1, 1) := by decide +kernel
theorem dX4_start_51 : decode cX4_start 51 = .ok (.iload_n 2, 1) := by decide +kernel
theorem dX4_start_52 : decode cX4_start 52 = .ok (.iload_n 3, 1) := by decide +kernel
theorem dX4_start_53 : decode cX4_start 53 = .ok (.invokevirtual 63, 3) := by decide +kernel
theorem dX4_start_56 : decode cX4_start 56 = .ok (.return_, 1) := by decide +kernel
theorem dX4_step_0 : decode cX4_step 0 = .ok (.aload_n 0, 1) := by decide +kernel
theorem dX4_step_1 : decode cX4_step 1 = .ok (.getfield 21, 3) := by decide +kernel
theorem dX4_step_4 : decode cX4_step 4 = .ok (.invokevirtual 67, 3) := by decide +kernel
theorem dX4_step_7 : decode cX4_step 7 = .ok (.ifCond .ne 13, 3) := by decide +kernel
theorem dX4_step_10 : decode cX4_step 10 = .ok (.new 58, 3) := by decide +kernel
theorem dX4_step_13 : decode cX4_step 13 = .ok (.dup, 1) := by decide +kernel
theorem dX4_step_14 : decode cX4_step 14 = .ok (.ldc 71, 2) := by decide +kernel
theorem dX4_step_16 : decode cX4_step 16 = .ok (.invokespecial 62, 3) := by decide +kernel
theorem dX4_step_19 : decode cX4_step 19 = .ok (.athrow, 1) := by decide +kernel
theorem dX4_step_20 : decode cX4_step 20 = .ok (.iload_n 1, 1) := by decide +kernel
theorem dX4_step_21 : decode cX4_step 21 = .ok (.ifCond .lt 10, 3) := by decide +kernel
theorem dX4_step_24 : decode cX4_step 24 = .ok (.iload_n 1, 1) := by decide +kernel
theorem dX4_step_25 : decode cX4_step 25 = .ok (.sipush 2000, 3) := by decide +kernel
theorem dX4_step_28 : decode cX4_step 28 = .ok (.if_icmp .le 13, 3) := by decide +kernel
theorem dX4_step_31 : decode cX4_step 31 = .ok (.new 53, 3) := by decide +kernel
theorem dX4_step_34 : decode cX4_step 34 = .ok (.dup, 1) := by decide +kernel
theorem dX4_step_35 : decode cX4_step 35 = .ok (.ldc 73, 2) := by decide +kernel
theorem dX4_step_37 : decode cX4_step 37 = .ok (.invokespecial 57, 3) := by decide +kernel
theorem dX4_step_40 : decode cX4_step 40 = .ok (.athrow, 1) := by decide +kernel
theorem dX4_step_41 : decode cX4_step 41 = .ok (.iconst 0, 1) := by decide +kernel
theorem dX4_step_42 : decode cX4_step 42 = .ok (.istore_n 2, 1) := by decide +kernel
theorem dX4_step_43 : decode cX4_step 43 = .ok (.iload_n 2, 1) := by decide +kernel
theorem dX4_step_44 : decode cX4_step 44 = .ok (.iload_n 1, 1) := by decide +kernel
theorem dX4_step_45 : decode cX4_step 45 = .ok (.if_icmp .ge 27, 3) := by decide +kernel
theorem dX4_step_48 : decode cX4_step 48 = .ok (.aload_n 0, 1) := by decide +kernel
theorem dX4_step_49 : decode cX4_step 49 = .ok (.getfield 21, 3) := by decide +kernel
theorem dX4_step_52 : decode cX4_step 52 = .ok (.invokevirtual 67, 3) := by decide +kernel
theorem dX4_step_55 : decode cX4_step 55 = .ok (.iconst 1, 1) := by decide +kernel
theorem dX4_step_56 : decode cX4_step 56 = .ok (.if_icmp .ne 16, 3) := by decide +kernel
theorem dX4_step_59 : decode cX4_step 59 = .ok (.aload_n 0, 1) := by decide +kernel
theorem dX4_step_60 : decode cX4_step 60 = .ok (.getfield 21, 3) := by decide +kernel
theorem dX4_step_63 : decode cX4_step 63 = .ok (.invokevirtual 75, 3) := by decide +kernel
theorem dX4_step_66 : decode cX4_step 66 = .ok (.iinc 2 1, 3) := by decide +kernel
theorem dX4_step_69 : decode cX4_step 69 = .ok (.goto (-26), 3) := by decide +kernel
theorem dX4_step_72 : decode cX4_step 72 = .ok (.iload_n 2, 1) := by decide +kernel
theorem dX4_step_73 : decode cX4_step 73 = .ok (.ireturn, 1) := by decide +kernel
theorem dX4_look_0 : decode cX4_look 0 = .ok (.iload_n 1, 1) := by decide +kernel
theorem dX4_look_1 : decode cX4_look 1 = .ok (.ifCond .lt 9, 3) := by decide +kernel
theorem dX4_look_4 : decode cX4_look 4 = .ok (.iload_n 1, 1) := by decide +kernel
theorem dX4_look_5 : decode cX4_look 5 = .ok (.bipush 10, 2) := by decide +kernel
theorem dX4_look_7 : decode cX4_look 7 = .ok (.if_icmp .le 13, 3) := by decide +kernel
theorem dX4_look_10 : decode cX4_look 10 = .ok (.new 53, 3) := by decide +kernel
theorem dX4_look_13 : decode cX4_look 13 = .ok (.dup, 1) := by decide +kernel
theorem dX4_look_14 : decode cX4_look 14 = .ok (.ldc 78, 2) := by decide +kernel
theorem dX4_look_16 : decode cX4_look 16 = .ok (.invokespecial 57, 3) := by decide +kernel
theorem dX4_look_19 : decode cX4_look 19 = .ok (.athrow, 1) := by decide +kernel
theorem dX4_look_20 : decode cX4_look 20 = .ok (.aload_n 0, 1) := by decide +kernel
theorem dX4_look_21 : decode cX4_look 21 = .ok (.getfield 21, 3) := by decide +kernel
theorem dX4_look_24 : decode cX4_look 24 = .ok (.iload_n 1, 1) := by decide +kernel
theorem dX4_look_25 : decode cX4_look 25 = .ok (.invokevirtual 80, 3) := by decide +kernel
theorem dX4_look_28 : decode cX4_look 28 = .ok (.ireturn, 1) := by decide +kernel
theorem dX4_state_0 : decode cX4_state 0 = .ok (.iload_n 1, 1) := by decide +kernel
theorem dX4_state_1 : decode cX4_state 1 = .ok (.invokestatic 25, 3) := by decide +kernel
theorem dX4_state_4 : decode cX4_state 4 = .ok (.aload_n 0, 1) := by decide +kernel
theorem dX4_state_5 : decode cX4_state 5 = .ok (.getfield 21, 3) := by decide +kernel
theorem dX4_state_8 : decode cX4_state 8 = .ok (.iload_n 1, 1) := by decide +kernel
theorem dX4_state_9 : decode cX4_state 9 = .ok (.invokevirtual 83, 3) := by decide +kernel
theorem dX4_state_12 : decode cX4_state 12 = .ok (.ireturn, 1) := by decide +kernel
theorem dX4_out_0 : decode cX4_out 0 = .ok (.iload_n 1, 1) := by decide +kernel
theorem dX4_out_1 : decode cX4_out 1 = .ok (.ifCond .lt 14, 3) := by decide +kernel
theorem dX4_out_4 : decode cX4_out 4 = .ok (.iload_n 1, 1) := by decide +kernel
theorem dX4_out_5 : decode cX4_out 5 = .ok (.aload_n 0, 1) := by decide +kernel
theorem dX4_out_6 : decode cX4_out 6 = .ok (.getfield 21, 3) := by decide +kernel
theorem dX4_out_9 : decode cX4_out 9 = .ok (.invokevirtual 86, 3) := by decide +kernel
theorem dX4_out_12 : decode cX4_out 12 = .ok (.if_icmp .lt 13, 3) := by decide +kernel
theorem dX4_out_15 : decode cX4_out 15 = .ok (.new 33, 3) := by decide +kernel
theorem dX4_out_18 : decode cX4_out 18 = .ok (.dup, 1) := by decide +kernel
theorem dX4_out_19 : decode cX4_out 19 = .ok (.ldc 89, 2) := by decide +kernel
theorem dX4_out_21 : decode cX4_out 21 = .ok (.invokespecial 37, 3) := by decide +kernel
theorem dX4_out_24 : decode cX4_out 24 = .ok (.athrow, 1) := by decide +kernel
theorem dX4_out_25 : decode cX4_out 25 = .ok (.aload_n 0, 1) := by decide +kernel
theorem dX4_out_26 : decode cX4_out 26 = .ok (.getfield 21, 3) := by decide +kernel
theorem dX4_out_29 : decode cX4_out 29 = .ok (.iload_n 1, 1) := by decide +kernel
theorem dX4_out_30 : decode cX4_out 30 = .ok (.invokevirtual 91, 3) := by decide +kernel
theorem dX4_out_33 : decode cX4_out 33 = .ok (.ireturn, 1) := by decide +kernel
theorem dX4_local_0 : decode cX4_local 0 = .ok (.aload_n 0, 1) := by decide +kernel
theorem dX4_local_1 : decode cX4_local 1 = .ok (.getfield 21, 3) := by decide +kernel
theorem dX4_local_4 : decode cX4_local 4 = .ok (.iload_n 1, 1) := by decide +kernel
theorem dX4_local_5 : decode cX4_local 5 = .ok (.iload_n 2, 1) := by decide +kernel
theorem dX4_local_6 : decode cX4_local 6 = .ok (.invokevirtual 94, 3) := by decide +kernel
theorem dX4_local_9 : decode cX4_local 9 = .ok (.ireturn, 1) := by decide +kernel
theorem dX4_requireSegment_0 : decode cX4_requireSegment 0 = .ok (.iload_n 0, 1) := by decide +kernel
theorem dX4_requireSegment_1 : decode cX4_requireSegment 1 = .ok (.invokestatic 98, 3) := by decide +kernel
theorem dX4_requireSegment_4 : decode cX4_requireSegment 4 = .ok (.ifCond .ne 13, 3) := by decide +kernel
theorem dX4_requireSegment_7 : decode cX4_requireSegment 7 = .ok (.new 53, 3) := by decide +kernel
theorem dX4_requireSegment_10 : decode cX4_requireSegment 10 = .ok (.dup, 1) := by decide +kernel
theorem dX4_requireSegment_11 : decode cX4_requireSegment 11 = .ok (.ldc 102, 2) := by decide +kernel
theorem dX4_requireSegment_13 : decode cX4_requireSegment 13 = .ok (.invokespecial 57, 3) := by decide +kernel
theorem dX4_requireSegment_16 : decode cX4_requireSegment 16 = .ok (.athrow, 1) := by decide +kernel
theorem dX4_requireSegment_17 : decode cX4_requireSegment 17 = .ok (.return_, 1) := by decide +kernel
theorem dX4_isSegment_0 : decode cX4_isSegment 0 = .ok (.iload_n 0, 1) := by decide +kernel
theorem dX4_isSegment_1 : decode cX4_isSegment 1 = .ok (.ifCond .lt 12, 3) := by decide +kernel
theorem dX4_isSegment_4 : decode cX4_isSegment 4 = .ok (.iload_n 0, 1) := by decide +kernel
theorem dX4_isSegment_5 : decode cX4_isSegment 5 = .ok (.iconst 5, 1) := by decide +kernel
theorem dX4_isSegment_6 : decode cX4_isSegment 6 = .ok (.if_icmp .ge 7, 3) := by decide +kernel
theorem dX4_isSegment_9 : decode cX4_isSegment 9 = .ok (.iconst 1, 1) := by decide +kernel
theorem dX4_isSegment_10 : decode cX4_isSegment 10 = .ok (.goto 4, 3) := by decide +kernel
theorem dX4_isSegment_13 : decode cX4_isSegment 13 = .ok (.iconst 0, 1) := by decide +kernel
theorem dX4_isSegment_14 : decode cX4_isSegment 14 = .ok (.ireturn, 1) := by decide +kernel
theorem dX5_init_0 : decode cX5_init 0 = .ok (.aload_n 0, 1) := by decide +kernel
theorem dX5_init_1 : decode cX5_init 1 = .ok (.invokespecial 1, 3) := by decide +kernel
theorem dX5_init_4 : decode cX5_init 4 = .ok (.aload_n 0, 1) := by decide +kernel
theorem dX5_init_5 : decode cX5_init 5 = .ok (.sipush 400, 3) := by decide +kernel
theorem dX5_init_8 : decode cX5_init 8 = .ok (.newarray .int, 2) := by decide +kernel
theorem dX5_init_10 : decode cX5_init 10 = .ok (.putfield 7, 3) := by decide +kernel
theorem dX5_init_13 : decode cX5_init 13 = .ok (.aload_n 0, 1) := by decide +kernel
theorem dX5_init_14 : decode cX5_init 14 = .ok (.iconst 5, 1) := by decide +kernel
theorem dX5_init_15 : decode cX5_init 15 = .ok (.newarray .int, 2) := by decide +kernel
theorem dX5_init_17 : decode cX5_init 17 = .ok (.putfield 13, 3) := by decide +kernel
theorem dX5_init_20 : decode cX5_init 20 = .ok (.aload_n 0, 1) := by decide +kernel
theorem dX5_init_21 : decode cX5_init 21 = .ok (.iconst 5, 1) := by decide +kernel
theorem dX5_init_22 : decode cX5_init 22 = .ok (.newarray .boolean, 2) := by decide +kernel
theorem dX5_init_24 : decode cX5_init 24 = .ok (.putfield 16, 3) := by decide +kernel
theorem dX5_init_27 : decode cX5_init 27 = .ok (.aload_n 0, 1) := by decide +kernel
theorem dX5_init_28 : decode cX5_init 28 = .ok (.iconst 5, 1) := by decide +kernel
theorem dX5_init_29 : decode cX5_init 29 = .ok (.newarray .int, 2) := by decide +kernel
theorem dX5_init_31 : decode cX5_init 31 = .ok (.putfield 20, 3) := by decide +kernel
theorem dX5_init_34 : decode cX5_init 34 = .ok (.aload_n 0, 1) := by decide +kernel
theorem dX5_init_35 : decode cX5_init 35 = .ok (.sipush 520, 3) := by decide +kernel
theorem dX5_init_38 : decode cX5_init 38 = .ok (.newarray .int, 2) := by decide +kernel
theorem dX5_init_40 : decode cX5_init 40 = .ok (.putfield 23, 3) := by decide +kernel
theorem dX5_init_43 : decode cX5_init 43 = .ok (.aload_n 0, 1) := by decide +kernel
theorem dX5_init_44 : decode cX5_init 44 = .ok (.sipush 520, 3) := by decide +kernel
theorem dX5_init_47 : decode cX5_init 47 = .ok (.newarray .int, 2) := by decide +kernel
theorem dX5_init_49 : decode cX5_init 49 = .ok (.putfield 26, 3) := by decide +kernel
theorem dX5_init_52 : decode cX5_init 52 = .ok (.aload_n 0, 1) := by decide +kernel
theorem dX5_init_53 : decode cX5_init 53 = .ok (.sipush 520, 3) := by decide +kernel
theorem dX5_init_56 : decode cX5_init 56 = .ok (.newarray .int, 2) := by decide +kernel
theorem dX5_init_58 : decode cX5_init 58 = .ok (.putfield 29, 3) := by decide +kernel
theorem dX5_init_61 : decode cX5_init 61 = .ok (.aload_n 0, 1) := by decide +kernel
theorem dX5_init_62 : decode cX5_init 62 = .ok (.sipush 3120, 3) := by decide +kernel
theorem dX5_init_65 : decode cX5_init 65 = .ok (.newarray .int, 2) := by decide +kernel
theorem dX5_init_67 : decode cX5_init 67 = .ok (.putfield 32, 3) := by decide +kernel
theorem dX5_init_70 : decode cX5_init 70 = .ok (.aload_n 0, 1) := by decide +kernel
theorem dX5_init_71 : decode cX5_init 71 = .ok (.sipush 520, 3) := by decide +kernel
theorem dX5_init_74 : decode cX5_init 74 = .ok (.newarray .int, 2) := by decide +kernel
theorem dX5_init_76 : decode cX5_init 76 = .ok (.putfield 35, 3) := by decide +kernel
theorem dX5_init_79 : decode cX5_init 79 = .ok (.aload_n 0, 1) := by decide +kernel
theorem dX5_init_80 : decode cX5_init 80 = .ok (.sipush 1010, 3) := by decide +kernel
theorem dX5_init_83 : decode cX5_init 83 = .ok (.newarray .int, 2) := by decide +kernel
theorem dX5_init_85 : decode cX5_init 85 = .ok (.putfield 38, 3) := by decide +kernel
theorem dX5_init_88 : decode cX5_init 88 = .ok (.aload_n 0, 1) := by decide +kernel
theorem dX5_init_89 : decode cX5_init 89 = .ok (.bipush 40, 2) := by decide +kernel
theorem dX5_init_91 : decode cX5_init 91 = .ok (.newarray .int, 2) := by decide +kernel
theorem dX5_init_93 : decode cX5_init 93 = .ok (.putfield 41, 3) := by decide +kernel
theorem dX5_init_96 : decode cX5_init 96 = .ok (.return_, 1) := by decide +kernel
theorem dX5_thrown_0 : decode cX5_thrown 0 = .ok (.aload_n 0, 1) := by decide +kernel
theorem dX5_thrown_1 : decode cX5_thrown 1 = .ok (.getfield 44, 3) := by decide +kernel
theorem dX5_thrown_4 : decode cX5_thrown 4 = .ok (.ireturn, 1) := by decide +kernel
theorem dX5_isSegment_0 : decode cX5_isSegment 0 = .ok (.iload_n 0, 1) := by decide +kernel
theorem dX5_isSegment_1 : decode cX5_isSegment 1 = .ok (.ifCond .lt 12, 3) := by decide +kernel
theorem dX5_isSegment_4 : decode cX5_isSegment 4 = .ok (.iload_n 0, 1) := by decide +kernel
theorem dX5_isSegment_5 : decode cX5_isSegment 5 = .ok (.iconst 5, 1) := by decide +kernel
theorem dX5_isSegment_6 : decode cX5_isSegment 6 = .ok (.if_icmp .ge 7, 3) := by decide +kernel
theorem dX5_isSegment_9 : decode cX5_isSegment 9 = .ok (.iconst 1, 1) := by decide +kernel
theorem dX5_isSegment_10 : decode cX5_isSegment 10 = .ok (.goto 4, 3) := by decide +kernel
theorem dX5_isSegment_13 : decode cX5_isSegment 13 = .ok (.iconst 0, 1) := by decide +kernel
theorem dX5_isSegment_14 : decode cX5_isSegment 14 = .ok (.ireturn, 1) := by decide +kernel
theorem dX5_code_0 : decode cX5_code 0 = .ok (.aload_n 0, 1) := by decide +kernel
theorem dX5_code_1 : decode cX5_code 1 = .ok (.iload_n 1, 1) := by decide +kernel
theorem dX5_code_2 : decode cX5_code 2 = .ok (.invokestatic 48, 3) := by decide +kernel
theorem dX5_code_5 : decode cX5_code 5 = .ok (.ifCond .ne 7, 3) := by decide +kernel
theorem dX5_code_8 : decode cX5_code 8 = .ok (.iconst 1, 1) := by decide +kernel
theorem dX5_code_9 : decode cX5_code 9 = .ok (.goto 19, 3) := by decide +kernel
theorem dX5_code_12 : decode cX5_code 12 = .ok (.aload_n 0, 1) := by decide +kernel
theorem dX5_code_13 : decode cX5_code 13 = .ok (.getfield 13, 3) := by decide +kernel
theorem dX5_code_16 : decode cX5_code 16 = .ok (.iload_n 1, 1) := by decide +kernel
theorem dX5_code_17 : decode cX5_code 17 = .ok (.iaload, 1) := by decide +kernel
theorem dX5_code_18 : decode cX5_code 18 = .ok (.bipush 80, 2) := by decide +kernel
theorem dX5_code_20 : decode cX5_code 20 = .ok (.if_icmp .ne 7, 3) := by decide +kernel
theorem dX5_code_23 : decode cX5_code 23 = .ok (.iconst 2, 1) := by decide +kernel
theorem dX5_code_24 : decode cX5_code 24 = .ok (.goto 4, 3) := by decide +kernel
theorem dX5_code_27 : decode cX5_code 27 = .ok (.iconst 0, 1) := by decide +kernel
theorem dX5_code_28 : decode cX5_code 28 = .ok (.putfield 44, 3) := by decide +kernel
theorem dX5_code_31 : decode cX5_code 31 = .ok (.aload_n 0, 1) := by decide +kernel
theorem dX5_code_32 : decode cX5_code 32 = .ok (.getfield 44, 3) := by decide +kernel
theorem dX5_code_35 : decode cX5_code 35 = .ok (.ifCond .le 5, 3) := by decide +kernel
theorem dX5_code_38 : decode cX5_code 38 = .ok (.iconst 0, 1) := by decide +kernel
theorem dX5_code_39 : decode cX5_code 39 = .ok (.ireturn, 1) := by decide +kernel
theorem dX5_code_40 : decode cX5_code 40 = .ok (.aload_n 0, 1) := by decide +kernel
theorem dX5_code_41 : decode cX5_code 41 = .ok (.getfield 7, 3) := by decide +kernel
theorem dX5_code_44 : decode cX5_code 44 = .ok (.bipush 80, 2) := by decide +kernel
theorem dX5_code_46 : decode cX5_code 46 = .ok (.iload_n 1, 1) := by decide +kernel
theorem dX5_code_47 : decode cX5_code 47 = .ok (.imul, 1) := by decide +kernel
theorem dX5_code_48 : decode cX5_code 48 = .ok (.aload_n 0, 1) := by decide +kernel
theorem dX5_code_49 : decode cX5_code 49 = .ok (.getfield 13, 3) := by decide +kernel
theorem dX5_code_52 : decode cX5_code 52 = .ok (.iload_n 1, 1) := by decide +kernel
theorem dX5_code_53 : decode cX5_code 53 = .ok (.iaload, 1) := by decide +kernel
theorem dX5_code_54 : decode cX5_code 54 = .ok (.iadd, 1) := by decide +kernel
theorem dX5_code_55 : decode cX5_code 55 = .ok (.iload_n 2, 1) := by decide +kernel
theorem dX5_code_56 : decode cX5_code 56 = .ok (.iastore, 1) := by decide +kernel
theorem dX5_code_57 : decode cX5_code 57 = .ok (.aload_n 0, 1) := by decide +kernel
theorem dX5_code_58 : decode cX5_code 58 = .ok (.getfield 13, 3) := by decide +kernel
theorem dX5_code_61 : decode cX5_code 61 = .ok (.iload_n 1, 1) := by decide +kernel
theorem dX5_code_62 : decode cX5_code 62 = .ok (.dup2, 1) := by decide +kernel
theorem dX5_code_63 : decode cX5_code 63 = .ok (.iaload, 1) := by decide +kernel
theorem dX5_code_64 : decode cX5_code 64 = .ok (.iconst 1, 1) := by decide +kernel
theorem dX5_code_65 : decode cX5_code 65 = .ok (.iadd, 1) := by decide +kernel
theorem dX5_code_66 : decode cX5_code 66 = .ok (.iastore, 1) := by decide +kernel
theorem dX5_code_67 : decode cX5_code 67 = .ok (.aload_n 0, 1) := by decide +kernel
theorem dX5_code_68 : decode cX5_code 68 = .ok (.iconst 0, 1) := by decide +kernel
theorem dX5_code_69 : decode cX5_code 69 = .ok (.putfield 52, 3) := by decide +kernel
theorem dX5_code_72 : decode cX5_code 72 = .ok (.aload_n 0, 1) := by decide +kernel
theorem dX5_code_73 : decode cX5_code 73 = .ok (.getfield 13, 3) := by decide +kernel
theorem dX5_code_76 : decode cX5_code 76 = .ok (.iload_n 1, 1) := by decide +kernel
theorem dX5_code_77 : decode cX5_code 77 = .ok (.iaload, 1) := by decide +kernel
theorem dX5_code_78 : decode cX5_code 78 = .ok (.ireturn, 1) := by decide +kernel
theorem dX5_clear_0 : decode cX5_clear 0 = .ok (.aload_n 0, 1) := by decide +kernel
theorem dX5_clear_1 : decode cX5_clear 1 = .ok (.iload_n 1, 1) := by decide +kernel
theorem dX5_clear_2 : decode cX5_clear 2 = .ok (.invokestatic 48, 3) := by decide +kernel
theorem dX5_clear_5 : decode cX5_clear 5 = .ok (.ifCond .eq 7, 3) := by decide +kernel
theorem dX5_clear_8 : decode cX5_clear 8 = .ok (.iconst 0, 1) := by decide +kernel
theorem dX5_clear_9 : decode cX5_clear 9 = .ok (.goto 4, 3) := by decide +kernel
theorem dX5_clear_12 : decode cX5_clear 12 = .ok (.iconst 1, 1) := by decide +kernel
theorem dX5_clear_13 : decode cX5_clear 13 = .ok (.putfield 44, 3) := by decide +kernel
theorem dX5_clear_16 : decode cX5_clear 16 = .ok (.aload_n 0, 1) := by decide +kernel
theorem dX5_clear_17 : decode cX5_clear 17 = .ok (.getfield 44, 3) := by decide +kernel
theorem dX5_clear_20 : decode cX5_clear 20 = .ok (.ifCond .le 4, 3) := by decide +kernel
theorem dX5_clear_23 : decode cX5_clear 23 = .ok (.return_, 1) := by decide +kernel
theorem dX5_clear_24 : decode cX5_clear 24 = .ok (.aload_n 0, 1) := by decide +kernel
theorem dX5_clear_25 : decode cX5_clear 25 = .ok (.getfield 13, 3) := by decide +kernel
theorem dX5_clear_28 : decode cX5_clear 28 = .ok (.iload_n 1, 1) := by decide +kernel
theorem dX5_clear_29 : decode cX5_clear 29 = .ok (.iconst 0, 1) := by decide +kernel
theorem dX5_clear_30 : decode cX5_clear 30 = .ok (.iastore, 1) := by decide +kernel
theorem dX5_clear_31 : decode cX5_clear 31 = .ok (.aload_n 0, 1) := by decide +kernel
theorem dX5_clear_32 : decode cX5_clear 32 = .ok (.iconst 0, 1) := by decide +kernel
theorem dX5_clear_33 : decode cX5_clear 33 = .ok (.putfield 52, 3) := by decide +kernel
theorem dX5_clear_36 : decode cX5_clear 36 = .ok (.return_, 1) := by decide +kernel
theorem dX5_procedures_0 : decode cX5_procedures 0 = .ok (.iload_n 1, 1) := by decide +kernel
theorem dX5_procedures_1 : decode cX5_procedures 1 = .ok (.invokestatic 48, 3) := by decide +kernel
theorem dX5_procedures_4 : decode cX5_procedures 4 = .ok (.ifCond .eq 12, 3) := by decide +kernel
theorem dX5_procedures_7 : decode cX5_procedures 7 = .ok (.aload_n 0, 1) := by decide +kernel
theorem dX5_procedures_8 : decode cX5_procedures 8 = .ok (.getfield 13, 3) := by decide +kernel
theorem dX5_procedures_11 : decode cX5_procedures 11 = .ok (.iload_n 1, 1) := by decide +kernel
theorem dX5_procedures_12 : decode cX5_procedures 12 = .ok (.iaload, 1) := by decide +kernel
theorem dX5_procedures_13 : decode cX5_procedures 13 = .ok (.ifCond .ne 5, 3) := by decide +kernel
theorem dX5_procedures_16 : decode cX5_procedures 16 = .ok (.iconst 0, 1) := by decide +kernel
theorem dX5_procedures_17 : decode cX5_procedures 17 = .ok (.ireturn, 1) := by decide +kernel
theorem dX5_procedures_18 : decode cX5_procedures 18 = .ok (.aload_n 0, 1) := by decide +kernel
theorem dX5_procedures_19 : decode cX5_procedures 19 = .ok (.getfield 7, 3) := by decide +kernel
theorem dX5_procedures_22 : decode cX5_procedures 22 = .ok (.bipush 80, 2) := by decide +kernel
theorem dX5_procedures_24 : decode cX5_procedures 24 = .ok (.iload_n 1, 1) := by decide +kernel
theorem dX5_procedures_25 : decode cX5_procedures 25 = .ok (.imul, 1) := by decide +kernel
theorem dX5_procedures_26 : decode cX5_procedures 26 = .ok (.iaload, 1) := by decide +kernel
theorem dX5_procedures_27 : decode cX5_procedures 27 = .ok (.istore_n 2, 1) := by decide +kernel
theorem dX5_procedures_28 : decode cX5_procedures 28 = .ok (.iload_n 2, 1) := by decide +kernel
theorem dX5_procedures_29 : decode cX5_procedures 29 = .ok (.iconst 1, 1) := by decide +kernel
theorem dX5_procedures_30 : decode cX5_procedures 30 = .ok (.if_icmp .lt 22, 3) := by decide +kernel
theorem dX5_procedures_33 : decode cX5_procedures 33 = .ok (.iload_n 2, 1) := by decide +kernel
theorem dX5_procedures_34 : decode cX5_procedures 34 = .ok (.iconst 4, 1) := by decide +kernel
theorem dX5_procedures_35 : decode cX5_procedures 35 = .ok (.if_icmp .gt 17, 3) := by decide +kernel
theorem dX5_procedures_38 : decode cX5_procedures 38 = .ok (.iload_n 2, 1) := by decide +kernel
theorem dX5_procedures_39 : decode cX5_procedures 39 = .ok (.aload_n 0, 1) := by decide +kernel
theorem dX5_procedures_40 : decode cX5_procedures 40 = .ok (.getfield 13, 3) := by decide +kernel
theorem dX5_procedures_43 : decode cX5_procedures 43 = .ok (.iload_n 1, 1) := by decide +kernel
theorem dX5_procedures_44 : decode cX5_procedures 44 = .ok (.iaload, 1) := by decide +kernel
theorem dX5_procedures_45 : decode cX5_procedures 45 = .ok (.if_icmp .ge 7, 3) := by decide +kernel
theorem dX5_procedures_48 : decode cX5_procedures 48 = .ok (.iconst 1, 1) := by decide +kernel
theorem dX5_procedures_49 : decode cX5_procedures 49 = .ok (.goto 4, 3) := by decide +kernel
theorem dX5_procedures_52 : decode cX5_procedures 52 = .ok (.iconst 0, 1) := by decide +kernel
theorem dX5_procedures_53 : decode cX5_procedures 53 = .ok (.istore_n 3, 1) := by decide +kernel
theorem dX5_procedures_54 : decode cX5_procedures 54 = .ok (.iconst 1, 1) := by decide +kernel
theorem dX5_procedures_55 : decode cX5_procedures 55 = .ok (.istore 4, 2) := by decide +kernel
theorem dX5_procedures_57 : decode cX5_procedures 57 = .ok (.iload 4, 2) := by decide +kernel
theorem dX5_procedures_59 : decode cX5_procedures 59 = .ok (.iload_n 2, 1) := by decide +kernel
theorem dX5_procedures_60 : decode cX5_procedures 60 = .ok (.if_icmp .gt 54, 3) := by decide +kernel
theorem dX5_procedures_63 : decode cX5_procedures 63 = .ok (.iload_n 3, 1) := by decide +kernel
theorem dX5_procedures_64 : decode cX5_procedures 64 = .ok (.ifCond .eq 50, 3) := by decide +kernel
theorem dX5_procedures_67 : decode cX5_procedures 67 = .ok (.aload_n 0, 1) := by decide +kernel
theorem dX5_procedures_68 : decode cX5_procedures 68 = .ok (.getfield 7, 3) := by decide +kernel
theorem dX5_procedures_71 : decode cX5_procedures 71 = .ok (.bipush 80, 2) := by decide +kernel
theorem dX5_procedures_73 : decode cX5_procedures 73 = .ok (.iload_n 1, 1) := by decide +kernel
theorem dX5_procedures_74 : decode cX5_procedures 74 = .ok (.imul, 1) := by decide +kernel
theorem dX5_procedures_75 : decode cX5_procedures 75 = .ok (.iload 4, 2) := by decide +kernel
theorem dX5_procedures_77 : decode cX5_procedures 77 = .ok (.iadd, 1) := by decide +kernel
theorem dX5_procedures_78 : decode cX5_procedures 78 = .ok (.iaload, 1) := by decide +kernel
theorem dX5_procedures_79 : decode cX5_procedures 79 = .ok (.sipush 255, 3) := by decide +kernel
theorem dX5_procedures_82 : decode cX5_procedures 82 = .ok (.iand, 1) := by decide +kernel
theorem dX5_procedures_83 : decode cX5_procedures 83 = .ok (.istore 5, 2) := by decide +kernel
theorem dX5_procedures_85 : decode cX5_procedures 85 = .ok (.iload 5, 2) := by decide +kernel
theorem dX5_procedures_87 : decode cX5_procedures 87 = .ok (.iload_n 2, 1) := by decide +kernel
theorem dX5_procedures_88 : decode cX5_procedures 88 = .ok (.if_icmp .le 18, 3) := by decide +kernel
theorem dX5_procedures_91 : decode cX5_procedures 91 = .ok (.iload 5, 2) := by decide +kernel
theorem dX5_procedures_93 : decode cX5_procedures 93 = .ok (.aload_n 0, 1) := by decide +kernel
theorem dX5_procedures_94 : decode cX5_procedures 94 = .ok (.getfield 13, 3) := by decide +kernel
theorem dX5_procedures_97 : decode cX5_procedures 97 = .ok (.iload_n 1, 1) := by decide +kernel
theorem dX5_procedures_98 : decode cX5_procedures 98 = .ok (.iaload, 1) := by decide +kernel
theorem dX5_procedures_99 : decode cX5_procedures 99 = .ok (.if_icmp .ge 7, 3) := by decide +kernel
theorem dX5_procedures_102 : decode cX5_procedures 102 = .ok (.iconst 1, 1) := by decide +kernel
theorem dX5_procedures_103 : decode cX5_procedures 103 = .ok (.goto 4, 3) := by decide +kernel
theorem dX5_procedures_106 : decode cX5_procedures 106 = .ok (.iconst 0, 1) := by decide +kernel
theorem dX5_procedures_107 : decode cX5_procedures 107 = .ok (.istore_n 3, 1) := by decide +kernel
theorem dX5_procedures_108 : decode cX5_procedures 108 = .ok (.iinc 4 1, 3) := by decide +kernel
theorem dX5_procedures_111 : decode cX5_procedures 111 = .ok (.goto (-54), 3) := by decide +kernel
theorem dX5_procedures_114 : decode cX5_procedures 114 = .ok (.iload_n 3, 1) := by decide +kernel
theorem dX5_procedures_115 : decode cX5_procedures 115 = .ok (.ifCond .eq 7, 3) := by decide +kernel
theorem dX5_procedures_118 : decode cX5_procedures 118 = .ok (.iload_n 2, 1) := by decide +kernel
theorem dX5_procedures_119 : decode cX5_procedures 119 = .ok (.goto 4, 3) := by decide +kernel
theorem dX5_procedures_122 : decode cX5_procedures 122 = .ok (.iconst 0, 1) := by decide +kernel
theorem dX5_procedures_123 : decode cX5_procedures 123 = .ok (.ireturn, 1) := by decide +kernel
theorem dX5_good_0 : decode cX5_good 0 = .ok (.aload_n 0, 1) := by decide +kernel
theorem dX5_good_1 : decode cX5_good 1 = .ok (.iload_n 1, 1) := by decide +kernel
theorem dX5_good_2 : decode cX5_good 2 = .ok (.invokestatic 48, 3) := by decide +kernel
theorem dX5_good_5 : decode cX5_good 5 = .ok (.ifCond .eq 7, 3) := by decide +kernel
theorem dX5_good_8 : decode cX5_good 8 = .ok (.iconst 0, 1) := by decide +kernel
theorem dX5_good_9 : decode cX5_good 9 = .ok (.goto 4, 3) := by decide +kernel
