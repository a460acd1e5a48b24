theorem dX1_localAt_0 : decode cX1_localAt 0 = .ok (.aload_n 0, 1) := by decide +kernel
theorem dX1_localAt_1 : decode cX1_localAt 1 = .ok (.iload_n 1, 1) := by decide +kernel
theorem dX1_localAt_2 : decode cX1_localAt 2 = .ok (.iload_n 2, 1) := by decide +kernel
theorem dX1_localAt_3 : decode cX1_localAt 3 = .ok (.invokevirtual 38, 3) := by decide +kernel
theorem dX1_localAt_6 : decode cX1_localAt 6 = .ok (.ifCond .eq 19, 3) := by decide +kernel
theorem dX1_localAt_9 : decode cX1_localAt 9 = .ok (.aload_n 0, 1) := by decide +kernel
theorem dX1_localAt_10 : decode cX1_localAt 10 = .ok (.getfield 24, 3) := by decide +kernel
theorem dX1_localAt_13 : decode cX1_localAt 13 = .ok (.aload_n 0, 1) := by decide +kernel
theorem dX1_localAt_14 : decode cX1_localAt 14 = .ok (.getfield 21, 3) := by decide +kernel
theorem dX1_localAt_17 : decode cX1_localAt 17 = .ok (.iload_n 1, 1) := by decide +kernel
theorem dX1_localAt_18 : decode cX1_localAt 18 = .ok (.iaload, 1) := by decide +kernel
theorem dX1_localAt_19 : decode cX1_localAt 19 = .ok (.iload_n 2, 1) := by decide +kernel
theorem dX1_localAt_20 : decode cX1_localAt 20 = .ok (.iadd, 1) := by decide +kernel
theorem dX1_localAt_21 : decode cX1_localAt 21 = .ok (.iaload, 1) := by decide +kernel
theorem dX1_localAt_22 : decode cX1_localAt 22 = .ok (.goto 4, 3) := by decide +kernel
theorem dX1_localAt_25 : decode cX1_localAt 25 = .ok (.iconst 0, 1) := by decide +kernel
theorem dX1_localAt_26 : decode cX1_localAt 26 = .ok (.ireturn, 1) := by decide +kernel
theorem dX1_setLocal_0 : decode cX1_setLocal 0 = .ok (.aload_n 0, 1) := by decide +kernel
theorem dX1_setLocal_1 : decode cX1_setLocal 1 = .ok (.iload_n 1, 1) := by decide +kernel
theorem dX1_setLocal_2 : decode cX1_setLocal 2 = .ok (.iload_n 2, 1) := by decide +kernel
theorem dX1_setLocal_3 : decode cX1_setLocal 3 = .ok (.invokevirtual 38, 3) := by decide +kernel
theorem dX1_setLocal_6 : decode cX1_setLocal 6 = .ok (.ifCond .eq 17, 3) := by decide +kernel
theorem dX1_setLocal_9 : decode cX1_setLocal 9 = .ok (.aload_n 0, 1) := by decide +kernel
theorem dX1_setLocal_10 : decode cX1_setLocal 10 = .ok (.getfield 24, 3) := by decide +kernel
theorem dX1_setLocal_13 : decode cX1_setLocal 13 = .ok (.aload_n 0, 1) := by decide +kernel
theorem dX1_setLocal_14 : decode cX1_setLocal 14 = .ok (.getfield 21, 3) := by decide +kernel
theorem dX1_setLocal_17 : decode cX1_setLocal 17 = .ok (.iload_n 1, 1) := by decide +kernel
theorem dX1_setLocal_18 : decode cX1_setLocal 18 = .ok (.iaload, 1) := by decide +kernel
theorem dX1_setLocal_19 : decode cX1_setLocal 19 = .ok (.iload_n 2, 1) := by decide +kernel
theorem dX1_setLocal_20 : decode cX1_setLocal 20 = .ok (.iadd, 1) := by decide +kernel
theorem dX1_setLocal_21 : decode cX1_setLocal 21 = .ok (.iload_n 3, 1) := by decide +kernel
theorem dX1_setLocal_22 : decode cX1_setLocal 22 = .ok (.iastore, 1) := by decide +kernel
theorem dX1_setLocal_23 : decode cX1_setLocal 23 = .ok (.return_, 1) := by decide +kernel
theorem dX2_init_0 : decode cX2_init 0 = .ok (.aload_n 0, 1) := by decide +kernel
theorem dX2_init_1 : decode cX2_init 1 = .ok (.invokespecial 3, 3) := by decide +kernel
theorem dX2_init_4 : decode cX2_init 4 = .ok (.aload_n 0, 1) := by decide +kernel
theorem dX2_init_5 : decode cX2_init 5 = .ok (.iconst 5, 1) := by decide +kernel
theorem dX2_init_6 : decode cX2_init 6 = .ok (.newarray .int, 2) := by decide +kernel
theorem dX2_init_8 : decode cX2_init 8 = .ok (.putfield 9, 3) := by decide +kernel
theorem dX2_init_11 : decode cX2_init 11 = .ok (.aload_n 0, 1) := by decide +kernel
theorem dX2_init_12 : decode cX2_init 12 = .ok (.iconst 5, 1) := by decide +kernel
theorem dX2_init_13 : decode cX2_init 13 = .ok (.newarray .int, 2) := by decide +kernel
theorem dX2_init_15 : decode cX2_init 15 = .ok (.putfield 15, 3) := by decide +kernel
theorem dX2_init_18 : decode cX2_init 18 = .ok (.aload_n 0, 1) := by decide +kernel
theorem dX2_init_19 : decode cX2_init 19 = .ok (.iconst 5, 1) := by decide +kernel
theorem dX2_init_20 : decode cX2_init 20 = .ok (.newarray .int, 2) := by decide +kernel
theorem dX2_init_22 : decode cX2_init 22 = .ok (.putfield 18, 3) := by decide +kernel
theorem dX2_init_25 : decode cX2_init 25 = .ok (.return_, 1) := by decide +kernel
theorem dX2_empty_0 : decode cX2_empty 0 = .ok (.iconst 0, 1) := by decide +kernel
theorem dX2_empty_1 : decode cX2_empty 1 = .ok (.istore_n 2, 1) := by decide +kernel
theorem dX2_empty_2 : decode cX2_empty 2 = .ok (.iload_n 2, 1) := by decide +kernel
theorem dX2_empty_3 : decode cX2_empty 3 = .ok (.iconst 5, 1) := by decide +kernel
theorem dX2_empty_4 : decode cX2_empty 4 = .ok (.if_icmp .ge 30, 3) := by decide +kernel
theorem dX2_empty_7 : decode cX2_empty 7 = .ok (.aload_n 0, 1) := by decide +kernel
theorem dX2_empty_8 : decode cX2_empty 8 = .ok (.getfield 9, 3) := by decide +kernel
theorem dX2_empty_11 : decode cX2_empty 11 = .ok (.iload_n 2, 1) := by decide +kernel
theorem dX2_empty_12 : decode cX2_empty 12 = .ok (.iconst 0, 1) := by decide +kernel
theorem dX2_empty_13 : decode cX2_empty 13 = .ok (.iastore, 1) := by decide +kernel
theorem dX2_empty_14 : decode cX2_empty 14 = .ok (.aload_n 0, 1) := by decide +kernel
theorem dX2_empty_15 : decode cX2_empty 15 = .ok (.getfield 15, 3) := by decide +kernel
theorem dX2_empty_18 : decode cX2_empty 18 = .ok (.iload_n 2, 1) := by decide +kernel
theorem dX2_empty_19 : decode cX2_empty 19 = .ok (.iconst 0, 1) := by decide +kernel
theorem dX2_empty_20 : decode cX2_empty 20 = .ok (.iastore, 1) := by decide +kernel
theorem dX2_empty_21 : decode cX2_empty 21 = .ok (.aload_n 0, 1) := by decide +kernel
theorem dX2_empty_22 : decode cX2_empty 22 = .ok (.getfield 18, 3) := by decide +kernel
theorem dX2_empty_25 : decode cX2_empty 25 = .ok (.iload_n 2, 1) := by decide +kernel
theorem dX2_empty_26 : decode cX2_empty 26 = .ok (.iconst 0, 1) := by decide +kernel
theorem dX2_empty_27 : decode cX2_empty 27 = .ok (.iastore, 1) := by decide +kernel
theorem dX2_empty_28 : decode cX2_empty 28 = .ok (.iinc 2 1, 3) := by decide +kernel
theorem dX2_empty_31 : decode cX2_empty 31 = .ok (.goto (-29), 3) := by decide +kernel
theorem dX2_empty_34 : decode cX2_empty 34 = .ok (.aload_n 0, 1) := by decide +kernel
theorem dX2_empty_35 : decode cX2_empty 35 = .ok (.iconst 0, 1) := by decide +kernel
theorem dX2_empty_36 : decode cX2_empty 36 = .ok (.putfield 21, 3) := by decide +kernel
theorem dX2_empty_39 : decode cX2_empty 39 = .ok (.aload_n 0, 1) := by decide +kernel
theorem dX2_empty_40 : decode cX2_empty 40 = .ok (.iload_n 1, 1) := by decide +kernel
theorem dX2_empty_41 : decode cX2_empty 41 = .ok (.putfield 25, 3) := by decide +kernel
theorem dX2_empty_44 : decode cX2_empty 44 = .ok (.aload_n 0, 1) := by decide +kernel
theorem dX2_empty_45 : decode cX2_empty 45 = .ok (.iconst 0, 1) := by decide +kernel
theorem dX2_empty_46 : decode cX2_empty 46 = .ok (.putfield 28, 3) := by decide +kernel
theorem dX2_empty_49 : decode cX2_empty 49 = .ok (.aload_n 0, 1) := by decide +kernel
theorem dX2_empty_50 : decode cX2_empty 50 = .ok (.iconst 0, 1) := by decide +kernel
theorem dX2_empty_51 : decode cX2_empty 51 = .ok (.putfield 31, 3) := by decide +kernel
theorem dX2_empty_54 : decode cX2_empty 54 = .ok (.aload_n 0, 1) := by decide +kernel
theorem dX2_empty_55 : decode cX2_empty 55 = .ok (.iconst 0, 1) := by decide +kernel
theorem dX2_empty_56 : decode cX2_empty 56 = .ok (.putfield 34, 3) := by decide +kernel
theorem dX2_empty_59 : decode cX2_empty 59 = .ok (.aload_n 0, 1) := by decide +kernel
theorem dX2_empty_60 : decode cX2_empty 60 = .ok (.iconst 0, 1) := by decide +kernel
theorem dX2_empty_61 : decode cX2_empty 61 = .ok (.putfield 37, 3) := by decide +kernel
theorem dX2_empty_64 : decode cX2_empty 64 = .ok (.return_, 1) := by decide +kernel
theorem dX2_held_0 : decode cX2_held 0 = .ok (.aload_n 0, 1) := by decide +kernel
theorem dX2_held_1 : decode cX2_held 1 = .ok (.getfield 28, 3) := by decide +kernel
theorem dX2_held_4 : decode cX2_held 4 = .ok (.ireturn, 1) := by decide +kernel
theorem dX2_most_0 : decode cX2_most 0 = .ok (.aload_n 0, 1) := by decide +kernel
theorem dX2_most_1 : decode cX2_most 1 = .ok (.getfield 31, 3) := by decide +kernel
theorem dX2_most_4 : decode cX2_most 4 = .ok (.ireturn, 1) := by decide +kernel
theorem dX2_loads_0 : decode cX2_loads 0 = .ok (.aload_n 0, 1) := by decide +kernel
theorem dX2_loads_1 : decode cX2_loads 1 = .ok (.getfield 34, 3) := by decide +kernel
theorem dX2_loads_4 : decode cX2_loads 4 = .ok (.ireturn, 1) := by decide +kernel
theorem dX2_gone_0 : decode cX2_gone 0 = .ok (.aload_n 0, 1) := by decide +kernel
theorem dX2_gone_1 : decode cX2_gone 1 = .ok (.getfield 37, 3) := by decide +kernel
theorem dX2_gone_4 : decode cX2_gone 4 = .ok (.ireturn, 1) := by decide +kernel
theorem dX2_isResident_0 : decode cX2_isResident 0 = .ok (.iload_n 1, 1) := by decide +kernel
theorem dX2_isResident_1 : decode cX2_isResident 1 = .ok (.invokestatic 40, 3) := by decide +kernel
theorem dX2_isResident_4 : decode cX2_isResident 4 = .ok (.ifCond .eq 16, 3) := by decide +kernel
theorem dX2_isResident_7 : decode cX2_isResident 7 = .ok (.aload_n 0, 1) := by decide +kernel
theorem dX2_isResident_8 : decode cX2_isResident 8 = .ok (.getfield 9, 3) := by decide +kernel
theorem dX2_isResident_11 : decode cX2_isResident 11 = .ok (.iload_n 1, 1) := by decide +kernel
theorem dX2_isResident_12 : decode cX2_isResident 12 = .ok (.iaload, 1) := by decide +kernel
theorem dX2_isResident_13 : decode cX2_isResident 13 = .ok (.ifCond .le 7, 3) := by decide +kernel
theorem dX2_isResident_16 : decode cX2_isResident 16 = .ok (.iconst 1, 1) := by decide +kernel
theorem dX2_isResident_17 : decode cX2_isResident 17 = .ok (.goto 4, 3) := by decide +kernel
theorem dX2_isResident_20 : decode cX2_isResident 20 = .ok (.iconst 0, 1) := by decide +kernel
theorem dX2_isResident_21 : decode cX2_isResident 21 = .ok (.ireturn, 1) := by decide +kernel
theorem dX2_isActive_0 : decode cX2_isActive 0 = .ok (.iload_n 1, 1) := by decide +kernel
theorem dX2_isActive_1 : decode cX2_isActive 1 = .ok (.invokestatic 40, 3) := by decide +kernel
theorem dX2_isActive_4 : decode cX2_isActive 4 = .ok (.ifCond .eq 16, 3) := by decide +kernel
theorem dX2_isActive_7 : decode cX2_isActive 7 = .ok (.aload_n 0, 1) := by decide +kernel
theorem dX2_isActive_8 : decode cX2_isActive 8 = .ok (.getfield 15, 3) := by decide +kernel
theorem dX2_isActive_11 : decode cX2_isActive 11 = .ok (.iload_n 1, 1) := by decide +kernel
theorem dX2_isActive_12 : decode cX2_isActive 12 = .ok (.iaload, 1) := by decide +kernel
theorem dX2_isActive_13 : decode cX2_isActive 13 = .ok (.ifCond .le 7, 3) := by decide +kernel
theorem dX2_isActive_16 : decode cX2_isActive 16 = .ok (.iconst 1, 1) := by decide +kernel
theorem dX2_isActive_17 : decode cX2_isActive 17 = .ok (.goto 4, 3) := by decide +kernel
theorem dX2_isActive_20 : decode cX2_isActive 20 = .ok (.iconst 0, 1) := by decide +kernel
theorem dX2_isActive_21 : decode cX2_isActive 21 = .ok (.ireturn, 1) := by decide +kernel
theorem dX2_bringIn_0 : decode cX2_bringIn 0 = .ok (.iload_n 1, 1) := by decide +kernel
theorem dX2_bringIn_1 : decode cX2_bringIn 1 = .ok (.invokestatic 40, 3) := by decide +kernel
theorem dX2_bringIn_4 : decode cX2_bringIn 4 = .ok (.ifCond .eq 11, 3) := by decide +kernel
theorem dX2_bringIn_7 : decode cX2_bringIn 7 = .ok (.aload_n 0, 1) := by decide +kernel
theorem dX2_bringIn_8 : decode cX2_bringIn 8 = .ok (.iload_n 1, 1) := by decide +kernel
theorem dX2_bringIn_9 : decode cX2_bringIn 9 = .ok (.invokevirtual 44, 3) := by decide +kernel
theorem dX2_bringIn_12 : decode cX2_bringIn 12 = .ok (.ifCond .eq 8, 3) := by decide +kernel
theorem dX2_bringIn_15 : decode cX2_bringIn 15 = .ok (.iload_n 1, 1) := by decide +kernel
theorem dX2_bringIn_16 : decode cX2_bringIn 16 = .ok (.invokestatic 40, 3) := by decide +kernel
theorem dX2_bringIn_19 : decode cX2_bringIn 19 = .ok (.ireturn, 1) := by decide +kernel
theorem dX2_bringIn_20 : decode cX2_bringIn 20 = .ok (.aload_n 0, 1) := by decide +kernel
theorem dX2_bringIn_21 : decode cX2_bringIn 21 = .ok (.iload_n 2, 1) := by decide +kernel
theorem dX2_bringIn_22 : decode cX2_bringIn 22 = .ok (.iload_n 1, 1) := by decide +kernel
theorem dX2_bringIn_23 : decode cX2_bringIn 23 = .ok (.invokevirtual 47, 3) := by decide +kernel
theorem dX2_bringIn_26 : decode cX2_bringIn 26 = .ok (.ifCond .ne 5, 3) := by decide +kernel
theorem dX2_bringIn_29 : decode cX2_bringIn 29 = .ok (.iconst 0, 1) := by decide +kernel
theorem dX2_bringIn_30 : decode cX2_bringIn 30 = .ok (.ireturn, 1) := by decide +kernel
theorem dX2_bringIn_31 : decode cX2_bringIn 31 = .ok (.aload_n 0, 1) := by decide +kernel
theorem dX2_bringIn_32 : decode cX2_bringIn 32 = .ok (.getfield 9, 3) := by decide +kernel
theorem dX2_bringIn_35 : decode cX2_bringIn 35 = .ok (.iload_n 1, 1) := by decide +kernel
theorem dX2_bringIn_36 : decode cX2_bringIn 36 = .ok (.iload_n 2, 1) := by decide +kernel
theorem dX2_bringIn_37 : decode cX2_bringIn 37 = .ok (.iastore, 1) := by decide +kernel
theorem dX2_bringIn_38 : decode cX2_bringIn 38 = .ok (.aload_n 0, 1) := by decide +kernel
theorem dX2_bringIn_39 : decode cX2_bringIn 39 = .ok (.dup, 1) := by decide +kernel
theorem dX2_bringIn_40 : decode cX2_bringIn 40 = .ok (.getfield 34, 3) := by decide +kernel
theorem dX2_bringIn_43 : decode cX2_bringIn 43 = .ok (.iconst 1, 1) := by decide +kernel
theorem dX2_bringIn_44 : decode cX2_bringIn 44 = .ok (.iadd, 1) := by decide +kernel
theorem dX2_bringIn_45 : decode cX2_bringIn 45 = .ok (.putfield 34, 3) := by decide +kernel
theorem dX2_bringIn_48 : decode cX2_bringIn 48 = .ok (.iconst 1, 1) := by decide +kernel
theorem dX2_bringIn_49 : decode cX2_bringIn 49 = .ok (.ireturn, 1) := by decide +kernel
theorem dX2_addFrame_0 : decode cX2_addFrame 0 = .ok (.iload_n 1, 1) := by decide +kernel
theorem dX2_addFrame_1 : decode cX2_addFrame 1 = .ok (.invokestatic 40, 3) := by decide +kernel
theorem dX2_addFrame_4 : decode cX2_addFrame 4 = .ok (.ifCond .eq 12, 3) := by decide +kernel
theorem dX2_addFrame_7 : decode cX2_addFrame 7 = .ok (.aload_n 0, 1) := by decide +kernel
theorem dX2_addFrame_8 : decode cX2_addFrame 8 = .ok (.iload_n 2, 1) := by decide +kernel
theorem dX2_addFrame_9 : decode cX2_addFrame 9 = .ok (.iload_n 1, 1) := by decide +kernel
theorem dX2_addFrame_10 : decode cX2_addFrame 10 = .ok (.invokevirtual 47, 3) := by decide +kernel
theorem dX2_addFrame_13 : decode cX2_addFrame 13 = .ok (.ifCond .ne 5, 3) := by decide +kernel
theorem dX2_addFrame_16 : decode cX2_addFrame 16 = .ok (.iconst 0, 1) := by decide +kernel
theorem dX2_addFrame_17 : decode cX2_addFrame 17 = .ok (.ireturn, 1) := by decide +kernel
theorem dX2_addFrame_18 : decode cX2_addFrame 18 = .ok (.aload_n 0, 1) := by decide +kernel
theorem dX2_addFrame_19 : decode cX2_addFrame 19 = .ok (.getfield 15, 3) := by decide +kernel
theorem dX2_addFrame_22 : decode cX2_addFrame 22 = .ok (.iload_n 1, 1) := by decide +kernel
theorem dX2_addFrame_23 : decode cX2_addFrame 23 = .ok (.dup2, 1) := by decide +kernel
theorem dX2_addFrame_24 : decode cX2_addFrame 24 = .ok (.iaload, 1) := by decide +kernel
theorem dX2_addFrame_25 : decode cX2_addFrame 25 = .ok (.iconst 1, 1) := by decide +kernel
theorem dX2_addFrame_26 : decode cX2_addFrame 26 = .ok (.iadd, 1) := by decide +kernel
theorem dX2_addFrame_27 : decode cX2_addFrame 27 = .ok (.iastore, 1) := by decide +kernel
theorem dX2_addFrame_28 : decode cX2_addFrame 28 = .ok (.aload_n 0, 1) := by decide +kernel
theorem dX2_addFrame_29 : decode cX2_addFrame 29 = .ok (.dup, 1) := by decide +kernel
theorem dX2_addFrame_30 : decode cX2_addFrame 30 = .ok (.getfield 21, 3) := by decide +kernel
theorem dX2_addFrame_33 : decode cX2_addFrame 33 = .ok (.iconst 1, 1) := by decide +kernel
theorem dX2_addFrame_34 : decode cX2_addFrame 34 = .ok (.iadd, 1) := by decide +kernel
theorem dX2_addFrame_35 : decode cX2_addFrame 35 = .ok (.putfield 21, 3) := by decide +kernel
theorem dX2_addFrame_38 : decode cX2_addFrame 38 = .ok (.aload_n 0, 1) := by decide +kernel
theorem dX2_addFrame_39 : decode cX2_addFrame 39 = .ok (.getfield 18, 3) := by decide +kernel
theorem dX2_addFrame_42 : decode cX2_addFrame 42 = .ok (.iload_n 1, 1) := by decide +kernel
theorem dX2_addFrame_43 : decode cX2_addFrame 43 = .ok (.aload_n 0, 1) := by decide +kernel
theorem dX2_addFrame_44 : decode cX2_addFrame 44 = .ok (.getfield 21, 3) := by decide +kernel
theorem dX2_addFrame_47 : decode cX2_addFrame 47 = .ok (.iastore, 1) := by decide +kernel
theorem dX2_addFrame_48 : decode cX2_addFrame 48 = .ok (.iconst 1, 1) := by decide +kernel
theorem dX2_addFrame_49 : decode cX2_addFrame 49 = .ok (.ireturn, 1) := by decide +kernel
theorem dX2_dropFrame_0 : decode cX2_dropFrame 0 = .ok (.aload_n 0, 1) := by decide +kernel
theorem dX2_dropFrame_1 : decode cX2_dropFrame 1 = .ok (.iload_n 1, 1) := by decide +kernel
theorem dX2_dropFrame_2 : decode cX2_dropFrame 2 = .ok (.invokevirtual 51, 3) := by decide +kernel
theorem dX2_dropFrame_5 : decode cX2_dropFrame 5 = .ok (.ifCond .eq 23, 3) := by decide +kernel
theorem dX2_dropFrame_8 : decode cX2_dropFrame 8 = .ok (.aload_n 0, 1) := by decide +kernel
theorem dX2_dropFrame_9 : decode cX2_dropFrame 9 = .ok (.getfield 15, 3) := by decide +kernel
theorem dX2_dropFrame_12 : decode cX2_dropFrame 12 = .ok (.iload_n 1, 1) := by decide +kernel
theorem dX2_dropFrame_13 : decode cX2_dropFrame 13 = .ok (.dup2, 1) := by decide +kernel
theorem dX2_dropFrame_14 : decode cX2_dropFrame 14 = .ok (.iaload, 1) := by decide +kernel
theorem dX2_dropFrame_15 : decode cX2_dropFrame 15 = .ok (.iconst 1, 1) := by decide +kernel
theorem dX2_dropFrame_16 : decode cX2_dropFrame 16 = .ok (.isub, 1) := by decide +kernel
theorem dX2_dropFrame_17 : decode cX2_dropFrame 17 = .ok (.iastore, 1) := by decide +kernel
theorem dX2_dropFrame_18 : decode cX2_dropFrame 18 = .ok (.aload_n 0, 1) := by decide +kernel
theorem dX2_dropFrame_19 : decode cX2_dropFrame 19 = .ok (.dup, 1) := by decide +kernel
theorem dX2_dropFrame_20 : decode cX2_dropFrame 20 = .ok (.getfield 28, 3) := by decide +kernel
theorem dX2_dropFrame_23 : decode cX2_dropFrame 23 = .ok (.iload_n 2, 1) := by decide +kernel
theorem dX2_dropFrame_24 : decode cX2_dropFrame 24 = .ok (.isub, 1) := by decide +kernel
theorem dX2_dropFrame_25 : decode cX2_dropFrame 25 = .ok (.putfield 28, 3) := by decide +kernel
theorem dX2_dropFrame_28 : decode cX2_dropFrame 28 = .ok (.return_, 1) := by decide +kernel
theorem dX2_dropNumber_0 : decode cX2_dropNumber 0 = .ok (.aload_n 0, 1) := by decide +kernel
theorem dX2_dropNumber_1 : decode cX2_dropNumber 1 = .ok (.dup, 1) := by decide +kernel
theorem dX2_dropNumber_2 : decode cX2_dropNumber 2 = .ok (.getfield 28, 3) := by decide +kernel
theorem dX2_dropNumber_5 : decode cX2_dropNumber 5 = .ok (.iconst 4, 1) := by decide +kernel
theorem dX2_dropNumber_6 : decode cX2_dropNumber 6 = .ok (.isub, 1) := by decide +kernel
theorem dX2_dropNumber_7 : decode cX2_dropNumber 7 = .ok (.putfield 28, 3) := by decide +kernel
theorem dX2_dropNumber_10 : decode cX2_dropNumber 10 = .ok (.return_, 1) := by decide +kernel
theorem dX2_hold_0 : decode cX2_hold 0 = .ok (.iconst 0, 1) := by decide +kernel
theorem dX2_hold_1 : decode cX2_hold 1 = .ok (.istore_n 3, 1) := by decide +kernel
theorem dX2_hold_2 : decode cX2_hold 2 = .ok (.aload_n 0, 1) := by decide +kernel
theorem dX2_hold_3 : decode cX2_hold 3 = .ok (.getfield 28, 3) := by decide +kernel
theorem dX2_hold_6 : decode cX2_hold 6 = .ok (.iload_n 1, 1) := by decide +kernel
theorem dX2_hold_7 : decode cX2_hold 7 = .ok (.iadd, 1) := by decide +kernel
theorem dX2_hold_8 : decode cX2_hold 8 = .ok (.aload_n 0, 1) := by decide +kernel
theorem dX2_hold_9 : decode cX2_hold 9 = .ok (.getfield 25, 3) := by decide +kernel
theorem dX2_hold_12 : decode cX2_hold 12 = .ok (.if_icmp .le 63, 3) := by decide +kernel
theorem dX2_hold_15 : decode cX2_hold 15 = .ok (.iload_n 3, 1) := by decide +kernel
theorem dX2_hold_16 : decode cX2_hold 16 = .ok (.iconst 5, 1) := by decide +kernel
theorem dX2_hold_17 : decode cX2_hold 17 = .ok (.if_icmp .ge 58, 3) := by decide +kernel
theorem dX2_hold_20 : decode cX2_hold 20 = .ok (.aload_n 0, 1) := by decide +kernel
theorem dX2_hold_21 : decode cX2_hold 21 = .ok (.iload_n 2, 1) := by decide +kernel
theorem dX2_hold_22 : decode cX2_hold 22 = .ok (.invokevirtual 54, 3) := by decide +kernel
theorem dX2_hold_25 : decode cX2_hold 25 = .ok (.istore 4, 2) := by decide +kernel
theorem dX2_hold_27 : decode cX2_hold 27 = .ok (.iload 4, 2) := by decide +kernel
theorem dX2_hold_29 : decode cX2_hold 29 = .ok (.iconst (-1), 1) := by decide +kernel
theorem dX2_hold_30 : decode cX2_hold 30 = .ok (.if_icmp .ne 5, 3) := by decide +kernel
theorem dX2_hold_33 : decode cX2_hold 33 = .ok (.iconst 0, 1) := by decide +kernel
theorem dX2_hold_34 : decode cX2_hold 34 = .ok (.ireturn, 1) := by decide +kernel
theorem dX2_hold_35 : decode cX2_hold 35 = .ok (.aload_n 0, 1) := by decide +kernel
theorem dX2_hold_36 : decode cX2_hold 36 = .ok (.dup, 1) := by decide +kernel
theorem dX2_hold_37 : decode cX2_hold 37 = .ok (.getfield 28, 3) := by decide +kernel
theorem dX2_hold_40 : decode cX2_hold 40 = .ok (.aload_n 0, 1) := by decide +kernel
theorem dX2_hold_41 : decode cX2_hold 41 = .ok (.getfield 9, 3) := by decide +kernel
theorem dX2_hold_44 : decode cX2_hold 44 = .ok (.iload 4, 2) := by decide +kernel
theorem dX2_hold_46 : decode cX2_hold 46 = .ok (.iaload, 1) := by decide +kernel
theorem dX2_hold_47 : decode cX2_hold 47 = .ok (.isub, 1) := by decide +kernel
theorem dX2_hold_48 : decode cX2_hold 48 = .ok (.putfield 28, 3) := by decide +kernel
theorem dX2_hold_51 : decode cX2_hold 51 = .ok (.aload_n 0, 1) := by decide +kernel
theorem dX2_hold_52 : decode cX2_hold 52 = .ok (.getfield 9, 3) := by decide +kernel
theorem dX2_hold_55 : decode cX2_hold 55 = .ok (.iload 4, 2) := by decide +kernel
theorem dX2_hold_57 : decode cX2_hold 57 = .ok (.iconst 0, 1) := by decide +kernel
theorem dX2_hold_58 : decode cX2_hold 58 = .ok (.iastore, 1) := by decide +kernel
theorem dX2_hold_59 : decode cX2_hold 59 = .ok (.aload_n 0, 1) := by decide +kernel
theorem dX2_hold_60 : decode cX2_hold 60 = .ok (.dup, 1) := by decide +kernel
theorem dX2_hold_61 : decode cX2_hold 61 = .ok (.getfield 37, 3) := by decide +kernel
theorem dX2_hold_64 : decode cX2_hold 64 = .ok (.iconst 1, 1) := by decide +kernel
theorem dX2_hold_65 : decode cX2_hold 65 = .ok (.iadd, 1) := by decide +kernel
theorem dX2_hold_66 : decode cX2_hold 66 = .ok (.putfield 37, 3) := by decide +kernel
theorem dX2_hold_69 : decode cX2_hold 69 = .ok (.iinc 3 1, 3) := by decide +kernel
theorem dX2_hold_72 : decode cX2_hold 72 = .ok (.goto (-70), 3) := by decide +kernel
theorem dX2_hold_75 : decode cX2_hold 75 = .ok (.aload_n 0, 1) := by decide +kernel
theorem dX2_hold_76 : decode cX2_hold 76 = .ok (.getfield 28, 3) := by decide +kernel
theorem dX2_hold_79 : decode cX2_hold 79 = .ok (.iload_n 1, 1) := by decide +kernel
theorem dX2_hold_80 : decode cX2_hold 80 = .ok (.iadd, 1) := by decide +kernel
theorem dX2_hold_81 : decode cX2_hold 81 = .ok (.aload_n 0, 1) := by decide +kernel
theorem dX2_hold_82 : decode cX2_hold 82 = .ok (.getfield 25, 3) := by decide +kernel
theorem dX2_hold_85 : decode cX2_hold 85 = .ok (.if_icmp .le 5, 3) := by decide +kernel
theorem dX2_hold_88 : decode cX2_hold 88 = .ok (.iconst 0, 1) := by decide +kernel
theorem dX2_hold_89 : decode cX2_hold 89 = .ok (.ireturn, 1) := by decide +kernel
theorem dX2_hold_90 : decode cX2_hold 90 = .ok (.aload_n 0, 1) := by decide +kernel
theorem dX2_hold_91 : decode cX2_hold 91 = .ok (.dup, 1) := by decide +kernel
theorem dX2_hold_92 : decode cX2_hold 92 = .ok (.getfield 28, 3) := by decide +kernel
theorem dX2_hold_95 : decode cX2_hold 95 = .ok (.iload_n 1, 1) := by decide +kernel
theorem dX2_hold_96 : decode cX2_hold 96 = .ok (.iadd, 1) := by decide +kernel
theorem dX2_hold_97 : decode cX2_hold 97 = .ok (.putfield 28, 3) := by decide +kernel
theorem dX2_hold_100 : decode cX2_hold 100 = .ok (.aload_n 0, 1) := by decide +kernel
theorem dX2_hold_101 : decode cX2_hold 101 = .ok (.aload_n 0, 1) := by decide +kernel
theorem dX2_hold_102 : decode cX2_hold 102 = .ok (.getfield 31, 3) := by decide +kernel
theorem dX2_hold_105 : decode cX2_hold 105 = .ok (.aload_n 0, 1) := by decide +kernel
theorem dX2_hold_106 : decode cX2_hold 106 = .ok (.getfield 28, 3) := by decide +kernel
theorem dX2_hold_109 : decode cX2_hold 109 = .ok (.invokestatic 58, 3) := by decide +kernel
theorem dX2_hold_112 : decode cX2_hold 112 = .ok (.putfield 31, 3) := by decide +kernel
theorem dX2_hold_115 : decode cX2_hold 115 = .ok (.iconst 1, 1) := by decide +kernel
theorem dX2_hold_116 : decode cX2_hold 116 = .ok (.ireturn, 1) := by decide +kernel
theorem dX2_leastLatelyCalled_0 : decode cX2_leastLatelyCalled 0 = .ok (.iconst (-1), 1) := by decide +kernel
theorem dX2_leastLatelyCalled_1 : decode cX2_leastLatelyCalled 1 = .ok (.istore_n 2, 1) := by decide +kernel
theorem dX2_leastLatelyCalled_2 : decode cX2_leastLatelyCalled 2 = .ok (.iconst 0, 1) := by decide +kernel
theorem dX2_leastLatelyCalled_3 : decode cX2_leastLatelyCalled 3 = .ok (.istore_n 3, 1) := by decide +kernel
theorem dX2_leastLatelyCalled_4 : decode cX2_leastLatelyCalled 4 = .ok (.iload_n 3, 1) := by decide +kernel
theorem dX2_leastLatelyCalled_5 : decode cX2_leastLatelyCalled 5 = .ok (.iconst 5, 1) := by decide +kernel
theorem dX2_leastLatelyCalled_6 : decode cX2_leastLatelyCalled 6 = .ok (.if_icmp .ge 66, 3) := by decide +kernel
theorem dX2_leastLatelyCalled_9 : decode cX2_leastLatelyCalled 9 = .ok (.iload_n 3, 1) := by decide +kernel
theorem dX2_leastLatelyCalled_10 : decode cX2_leastLatelyCalled 10 = .ok (.iload_n 1, 1) := by decide +kernel
theorem dX2_leastLatelyCalled_11 : decode cX2_leastLatelyCalled 11 = .ok (.if_icmp .eq 25, 3) := by decide +kernel
theorem dX2_leastLatelyCalled_14 : decode cX2_leastLatelyCalled 14 = .ok (.aload_n 0, 1) := by decide +kernel
theorem dX2_leastLatelyCalled_15 : decode cX2_leastLatelyCalled 15 = .ok (.getfield 9, 3) := by decide +kernel
theorem dX2_leastLatelyCalled_18 : decode cX2_leastLatelyCalled 18 = .ok (.iload_n 3, 1) := by decide +kernel
theorem dX2_leastLatelyCalled_19 : decode cX2_leastLatelyCalled 19 = .ok (.iaload, 1) := by decide +kernel
theorem dX2_leastLatelyCalled_20 : decode cX2_leastLatelyCalled 20 = .ok (.ifCond .le 16, 3) := by decide +kernel
theorem dX2_leastLatelyCalled_23 : decode cX2_leastLatelyCalled 23 = .ok (.aload_n 0, 1) := by decide +kernel
theorem dX2_leastLatelyCalled_24 : decode cX2_leastLatelyCalled 24 = .ok (.getfield 15, 3) := by decide +kernel
theorem dX2_leastLatelyCalled_27 : decode cX2_leastLatelyCalled 27 = .ok (.iload_n 3, 1) := by decide +kernel
theorem dX2_leastLatelyCalled_28 : decode cX2_leastLatelyCalled 28 = .ok (.iaload, 1) := by decide +kernel
theorem dX2_leastLatelyCalled_29 : decode cX2_leastLatelyCalled 29 = .ok (.ifCond .ne 7, 3) := by decide +kernel
theorem dX2_leastLatelyCalled_32 : decode cX2_leastLatelyCalled 32 = .ok (.iconst 1, 1) := by decide +kernel
theorem dX2_leastLatelyCalled_33 : decode cX2_leastLatelyCalled 33 = .ok (.goto 4, 3) := by decide +kernel
theorem dX2_leastLatelyCalled_36 : decode cX2_leastLatelyCalled 36 = .ok (.iconst 0, 1) := by decide +kernel
theorem dX2_leastLatelyCalled_37 : decode cX2_leastLatelyCalled 37 = .ok (.istore 4, 2) := by decide +kernel
theorem dX2_leastLatelyCalled_39 : decode cX2_leastLatelyCalled 39 = .ok (.iload 4, 2) := by decide +kernel
theorem dX2_leastLatelyCalled_41 : decode cX2_leastLatelyCalled 41 = .ok (.ifCond .eq 25, 3) := by decide +kernel
theorem dX2_leastLatelyCalled_44 : decode cX2_leastLatelyCalled 44 = .ok (.iload_n 2, 1) := by decide +kernel
theorem dX2_leastLatelyCalled_45 : decode cX2_leastLatelyCalled 45 = .ok (.iconst (-1), 1) := by decide +kernel
theorem dX2_leastLatelyCalled_46 : decode cX2_leastLatelyCalled 46 = .ok (.if_icmp .eq 18, 3) := by decide +kernel
theorem dX2_leastLatelyCalled_49 : decode cX2_leastLatelyCalled 49 = .ok (.aload_n 0, 1) := by decide +kernel
theorem dX2_leastLatelyCalled_50 : decode cX2_leastLatelyCalled 50 = .ok (.getfield 18, 3) := by decide +kernel
theorem dX2_leastLatelyCalled_53 : decode cX2_leastLatelyCalled 53 = .ok (.iload_n 3, 1) := by decide +kernel
theorem dX2_leastLatelyCalled_54 : decode cX2_leastLatelyCalled 54 = .ok (.iaload, 1) := by decide +kernel
theorem dX2_leastLatelyCalled_55 : decode cX2_leastLatelyCalled 55 = .ok (.aload_n 0, 1) := by decide +kernel
theorem dX2_leastLatelyCalled_56 : decode cX2_leastLatelyCalled 56 = .ok (.getfield 18, 3) := by decide +kernel
theorem dX2_leastLatelyCalled_59 : decode cX2_leastLatelyCalled 59 = .ok (.iload_n 2, 1) := by decide +kernel
theorem dX2_leastLatelyCalled_60 : decode cX2_leastLatelyCalled 60 = .ok (.iaload, 1) := by decide +kernel
theorem dX2_leastLatelyCalled_61 : decode cX2_leastLatelyCalled 61 = .ok (.if_icmp .ge 5, 3) := by decide +kernel
theorem dX2_leastLatelyCalled_64 : decode cX2_leastLatelyCalled 64 = .ok (.iload_n 3, 1) := by decide +kernel
theorem dX2_leastLatelyCalled_65 : decode cX2_leastLatelyCalled 65 = .ok (.istore_n 2, 1) := by decide +kernel
theorem dX2_leastLatelyCalled_66 : decode cX2_leastLatelyCalled 66 = .ok (.iinc 3 1, 3) := by decide +kernel
theorem dX2_leastLatelyCalled_69 : decode cX2_leastLatelyCalled 69 = .ok (.goto (-65), 3) := by decide +kernel
theorem dX2_leastLatelyCalled_72 : decode cX2_leastLatelyCalled 72 = .ok (.iload_n 2, 1) := by decide +kernel
theorem dX2_leastLatelyCalled_73 : decode cX2_leastLatelyCalled 73 = .ok (.ireturn, 1) := by decide +kernel
theorem dX3_init_0 : decode cX3_init 0 = .ok (.aload_n 0, 1) := by decide +kernel
theorem dX3_init_1 : decode cX3_init 1 = .ok (.invokespecial 3, 3) := by decide +kernel
theorem dX3_init_4 : decode cX3_init 4 = .ok (.aload_n 0, 1) := by decide +kernel
theorem dX3_init_5 : decode cX3_init 5 = .ok (.new 9, 3) := by decide +kernel
theorem dX3_init_8 : decode cX3_init 8 = .ok (.dup, 1) := by decide +kernel
theorem dX3_init_9 : decode cX3_init 9 = .ok (.invokespecial 11, 3) := by decide +kernel
theorem dX3_init_12 : decode cX3_init 12 = .ok (.putfield 12, 3) := by decide +kernel
theorem dX3_init_15 : decode cX3_init 15 = .ok (.aload_n 0, 1) := by decide +kernel
theorem dX3_init_16 : decode cX3_init 16 = .ok (.new 18, 3) := by decide +kernel
theorem dX3_init_19 : decode cX3_init 19 = .ok (.dup, 1) := by decide +kernel
theorem dX3_init_20 : decode cX3_init 20 = .ok (.invokespecial 20, 3) := by decide +kernel
theorem dX3_init_23 : decode cX3_init 23 = .ok (.putfield 21, 3) := by decide +kernel
theorem dX3_init_26 : decode cX3_init 26 = .ok (.aload_n 0, 1) := by decide +kernel
theorem dX3_init_27 : decode cX3_init 27 = .ok (.bipush 40, 2) := by decide +kernel
theorem dX3_init_29 : decode cX3_init 29 = .ok (.newarray .int, 2) := by decide +kernel
theorem dX3_init_31 : decode cX3_init 31 = .ok (.putfield 25, 3) := by decide +kernel
theorem dX3_init_34 : decode cX3_init 34 = .ok (.aload_n 0, 1) := by decide +kernel
theorem dX3_init_35 : decode cX3_init 35 = .ok (.aload_n 1, 1) := by decide +kernel
theorem dX3_init_36 : decode cX3_init 36 = .ok (.putfield 29, 3) := by decide +kernel
theorem dX3_init_39 : decode cX3_init 39 = .ok (.return_, 1) := by decide +kernel
theorem dX3_forget_0 : decode cX3_forget 0 = .ok (.aload_n 0, 1) := by decide +kernel
theorem dX3_forget_1 : decode cX3_forget 1 = .ok (.iconst 0, 1) := by decide +kernel
theorem dX3_forget_2 : decode cX3_forget 2 = .ok (.iconst 0, 1) := by decide +kernel
theorem dX3_forget_3 : decode cX3_forget 3 = .ok (.invokevirtual 33, 3) := by decide +kernel
theorem dX3_forget_6 : decode cX3_forget 6 = .ok (.return_, 1) := by decide +kernel
theorem dX3_begin_0 : decode cX3_begin 0 = .ok (.aload_n 0, 1) := by decide +kernel
theorem dX3_begin_1 : decode cX3_begin 1 = .ok (.iload_n 3, 1) := by decide +kernel
theorem dX3_begin_2 : decode cX3_begin 2 = .ok (.iconst 1, 1) := by decide +kernel
theorem dX3_begin_3 : decode cX3_begin 3 = .ok (.invokevirtual 33, 3) := by decide +kernel
theorem dX3_begin_6 : decode cX3_begin 6 = .ok (.aload_n 0, 1) := by decide +kernel
theorem dX3_begin_7 : decode cX3_begin 7 = .ok (.iload_n 1, 1) := by decide +kernel
theorem dX3_begin_8 : decode cX3_begin 8 = .ok (.iconst 0, 1) := by decide +kernel
theorem dX3_begin_9 : decode cX3_begin 9 = .ok (.iload_n 2, 1) := by decide +kernel
theorem dX3_begin_10 : decode cX3_begin 10 = .ok (.invokevirtual 37, 3) := by decide +kernel
theorem dX3_begin_13 : decode cX3_begin 13 = .ok (.pop, 1) := by decide +kernel
theorem dX3_begin_14 : decode cX3_begin 14 = .ok (.return_, 1) := by decide +kernel
theorem dX3_makeFresh_0 : decode cX3_makeFresh 0 = .ok (.aload_n 0, 1) := by decide +kernel
theorem dX3_makeFresh_1 : decode cX3_makeFresh 1 = .ok (.getfield 12, 3) := by decide +kernel
theorem dX3_makeFresh_4 : decode cX3_makeFresh 4 = .ok (.iload_n 1, 1) := by decide +kernel
theorem dX3_makeFresh_5 : decode cX3_makeFresh 5 = .ok (.invokevirtual 41, 3) := by decide +kernel
theorem dX3_makeFresh_8 : decode cX3_makeFresh 8 = .ok (.aload_n 0, 1) := by decide +kernel
theorem dX3_makeFresh_9 : decode cX3_makeFresh 9 = .ok (.getfield 21, 3) := by decide +kernel
theorem dX3_makeFresh_12 : decode cX3_makeFresh 12 = .ok (.invokevirtual 45, 3) := by decide +kernel
theorem dX3_makeFresh_15 : decode cX3_makeFresh 15 = .ok (.aload_n 0, 1) := by decide +kernel
theorem dX3_makeFresh_16 : decode cX3_makeFresh 16 = .ok (.iconst 0, 1) := by decide +kernel
theorem dX3_makeFresh_17 : decode cX3_makeFresh 17 = .ok (.putfield 47, 3) := by decide +kernel
theorem dX3_makeFresh_20 : decode cX3_makeFresh 20 = .ok (.aload_n 0, 1) := by decide +kernel
theorem dX3_makeFresh_21 : decode cX3_makeFresh 21 = .ok (.iconst 0, 1) := by decide +kernel
theorem dX3_makeFresh_22 : decode cX3_makeFresh 22 = .ok (.putfield 51, 3) := by decide +kernel
theorem dX3_makeFresh_25 : decode cX3_makeFresh 25 = .ok (.aload_n 0, 1) := by decide +kernel
theorem dX3_makeFresh_26 : decode cX3_makeFresh 26 = .ok (.iload_n 2, 1) := by decide +kernel
theorem dX3_makeFresh_27 : decode cX3_makeFresh 27 = .ok (.putfield 54, 3) := by decide +kernel
theorem dX3_makeFresh_30 : decode cX3_makeFresh 30 = .ok (.return_, 1) := by decide +kernel
theorem dX3_status_0 : decode cX3_status 0 = .ok (.aload_n 0, 1) := by decide +kernel
theorem dX3_status_1 : decode cX3_status 1 = .ok (.getfield 54, 3) := by decide +kernel
theorem dX3_status_4 : decode cX3_status 4 = .ok (.ireturn, 1) := by decide +kernel
theorem dX3_outCount_0 : decode cX3_outCount 0 = .ok (.aload_n 0, 1) := by decide +kernel
theorem dX3_outCount_1 : decode cX3_outCount 1 = .ok (.getfield 47, 3) := by decide +kernel
theorem dX3_outCount_4 : decode cX3_outCount 4 = .ok (.ireturn, 1) := by decide +kernel
theorem dX3_outAt_0 : decode cX3_outAt 0 = .ok (.iload_n 1, 1) := by decide +kernel
theorem dX3_outAt_1 : decode cX3_outAt 1 = .ok (.ifCond .lt 20, 3) := by decide +kernel
theorem dX3_outAt_4 : decode cX3_outAt 4 = .ok (.iload_n 1, 1) := by decide +kernel
theorem dX3_outAt_5 : decode cX3_outAt 5 = .ok (.aload_n 0, 1) := by decide +kernel
theorem dX3_outAt_6 : decode cX3_outAt 6 = .ok (.getfield 47, 3) := by decide +kernel
theorem dX3_outAt_9 : decode cX3_outAt 9 = .ok (.if_icmp .ge 12, 3) := by decide +kernel
theorem dX3_outAt_12 : decode cX3_outAt 12 = .ok (.aload_n 0, 1) := by decide +kernel
theorem dX3_outAt_13 : decode cX3_outAt 13 = .ok (.getfield 25, 3) := by decide +kernel
theorem dX3_outAt_16 : decode cX3_outAt 16 = .ok (.iload_n 1, 1) := by decide +kernel
theorem dX3_outAt_17 : decode cX3_outAt 17 = .ok (.iaload, 1) := by decide +kernel
theorem dX3_outAt_18 : decode cX3_outAt 18 = .ok (.goto 4, 3) := by decide +kernel
theorem dX3_outAt_21 : decode cX3_outAt 21 = .ok (.iconst 0, 1) := by decide +kernel
theorem dX3_outAt_22 : decode cX3_outAt 22 = .ok (.ireturn, 1) := by decide +kernel
theorem dX3_localAt_0 : decode cX3_localAt 0 = .ok (.aload_n 0, 1) := by decide +kernel
theorem dX3_localAt_1 : decode cX3_localAt 1 = .ok (.getfield 21, 3) := by decide +kernel
theorem dX3_localAt_4 : decode cX3_localAt 4 = .ok (.iload_n 1, 1) := by decide +kernel
theorem dX3_localAt_5 : decode cX3_localAt 5 = .ok (.iload_n 2, 1) := by decide +kernel
theorem dX3_localAt_6 : decode cX3_localAt 6 = .ok (.invokevirtual 57, 3) := by decide +kernel
theorem dX3_localAt_9 : decode cX3_localAt 9 = .ok (.ireturn, 1) := by decide +kernel
theorem dX3_stateOf_0 : decode cX3_stateOf 0 = .ok (.aload_n 0, 1) := by decide +kernel
theorem dX3_stateOf_1 : decode cX3_stateOf 1 = .ok (.getfield 12, 3) := by decide +kernel
theorem dX3_stateOf_4 : decode cX3_stateOf 4 = .ok (.iload_n 1, 1) := by decide +kernel
theorem dX3_stateOf_5 : decode cX3_stateOf 5 = .ok (.invokevirtual 61, 3) := by decide +kernel
theorem dX3_stateOf_8 : decode cX3_stateOf 8 = .ok (.ifCond .eq 7, 3) := by decide +kernel
theorem dX3_stateOf_11 : decode cX3_stateOf 11 = .ok (.iconst 1, 1) := by decide +kernel
theorem dX3_stateOf_12 : decode cX3_stateOf 12 = .ok (.goto 4, 3) := by decide +kernel
theorem dX3_stateOf_15 : decode cX3_stateOf 15 = .ok (.iconst 0, 1) := by decide +kernel
theorem dX3_stateOf_16 : decode cX3_stateOf 16 = .ok (.aload_n 0, 1) := by decide +kernel
theorem dX3_stateOf_17 : decode cX3_stateOf 17 = .ok (.getfield 12, 3) := by decide +kernel
theorem dX3_stateOf_20 : decode cX3_stateOf 20 = .ok (.iload_n 1, 1) := by decide +kernel
theorem dX3_stateOf_21 : decode cX3_stateOf 21 = .ok (.invokevirtual 65, 3) := by decide +kernel
theorem dX3_stateOf_24 : decode cX3_stateOf 24 = .ok (.ifCond .eq 7, 3) := by decide +kernel
theorem dX3_stateOf_27 : decode cX3_stateOf 27 = .ok (.iconst 2, 1) := by decide +kernel
theorem dX3_stateOf_28 : decode cX3_stateOf 28 = .ok (.goto 4, 3) := by decide +kernel
theorem dX3_stateOf_31 : decode cX3_stateOf 31 = .ok (.iconst 0, 1) := by decide +kernel
theorem dX3_stateOf_32 : decode cX3_stateOf 32 = .ok (.iadd, 1) := by decide +kernel
theorem dX3_stateOf_33 : decode cX3_stateOf 33 = .ok (.ireturn, 1) := by decide +kernel
