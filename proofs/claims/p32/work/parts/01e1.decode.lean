theorem dX1_step_10 : decode cX1_step 10 = .ok (.iload_n 1, 1) := by decide +kernel
theorem dX1_step_11 : decode cX1_step 11 = .ok (.iload_n 3, 1) := by decide +kernel
theorem dX1_step_12 : decode cX1_step 12 = .ok (.invokestatic 28, 3) := by decide +kernel
theorem dX1_step_15 : decode cX1_step 15 = .ok (.ifCond .eq 9, 3) := by decide +kernel
theorem dX1_step_18 : decode cX1_step 18 = .ok (.iload_n 2, 1) := by decide +kernel
theorem dX1_step_19 : decode cX1_step 19 = .ok (.aload_n 0, 1) := by decide +kernel
theorem dX1_step_20 : decode cX1_step 20 = .ok (.iload_n 3, 1) := by decide +kernel
theorem dX1_step_21 : decode cX1_step 21 = .ok (.iaload, 1) := by decide +kernel
theorem dX1_step_22 : decode cX1_step 22 = .ok (.ior, 1) := by decide +kernel
theorem dX1_step_23 : decode cX1_step 23 = .ok (.istore_n 2, 1) := by decide +kernel
theorem dX1_step_24 : decode cX1_step 24 = .ok (.iinc 3 1, 3) := by decide +kernel
theorem dX1_step_27 : decode cX1_step 27 = .ok (.goto (-23), 3) := by decide +kernel
theorem dX1_step_30 : decode cX1_step 30 = .ok (.iload_n 2, 1) := by decide +kernel
theorem dX1_step_31 : decode cX1_step 31 = .ok (.ireturn, 1) := by decide +kernel
theorem dX2_init_0 : decode cX2_init 0 = .ok (.aload_n 0, 1) := by decide +kernel
theorem dX2_init_1 : decode cX2_init 1 = .ok (.invokespecial 3, 3) := by decide +kernel
theorem dX2_init_4 : decode cX2_init 4 = .ok (.aload_n 0, 1) := by decide +kernel
theorem dX2_init_5 : decode cX2_init 5 = .ok (.sipush 300, 3) := by decide +kernel
theorem dX2_init_8 : decode cX2_init 8 = .ok (.newarray .int, 2) := by decide +kernel
theorem dX2_init_10 : decode cX2_init 10 = .ok (.putfield 9, 3) := by decide +kernel
theorem dX2_init_13 : decode cX2_init 13 = .ok (.aload_n 0, 1) := by decide +kernel
theorem dX2_init_14 : decode cX2_init 14 = .ok (.sipush 300, 3) := by decide +kernel
theorem dX2_init_17 : decode cX2_init 17 = .ok (.newarray .int, 2) := by decide +kernel
theorem dX2_init_19 : decode cX2_init 19 = .ok (.putfield 15, 3) := by decide +kernel
theorem dX2_init_22 : decode cX2_init 22 = .ok (.aload_n 0, 1) := by decide +kernel
theorem dX2_init_23 : decode cX2_init 23 = .ok (.sipush 300, 3) := by decide +kernel
theorem dX2_init_26 : decode cX2_init 26 = .ok (.newarray .int, 2) := by decide +kernel
theorem dX2_init_28 : decode cX2_init 28 = .ok (.putfield 18, 3) := by decide +kernel
theorem dX2_init_31 : decode cX2_init 31 = .ok (.aload_n 0, 1) := by decide +kernel
theorem dX2_init_32 : decode cX2_init 32 = .ok (.sipush 300, 3) := by decide +kernel
theorem dX2_init_35 : decode cX2_init 35 = .ok (.newarray .int, 2) := by decide +kernel
theorem dX2_init_37 : decode cX2_init 37 = .ok (.putfield 21, 3) := by decide +kernel
theorem dX2_init_40 : decode cX2_init 40 = .ok (.aload_n 0, 1) := by decide +kernel
theorem dX2_init_41 : decode cX2_init 41 = .ok (.bipush 14, 2) := by decide +kernel
theorem dX2_init_43 : decode cX2_init 43 = .ok (.newarray .int, 2) := by decide +kernel
theorem dX2_init_45 : decode cX2_init 45 = .ok (.putfield 24, 3) := by decide +kernel
theorem dX2_init_48 : decode cX2_init 48 = .ok (.aload_n 0, 1) := by decide +kernel
theorem dX2_init_49 : decode cX2_init 49 = .ok (.iconst 0, 1) := by decide +kernel
theorem dX2_init_50 : decode cX2_init 50 = .ok (.putfield 27, 3) := by decide +kernel
theorem dX2_init_53 : decode cX2_init 53 = .ok (.return_, 1) := by decide +kernel
theorem dX2_isFull_0 : decode cX2_isFull 0 = .ok (.aload_n 0, 1) := by decide +kernel
theorem dX2_isFull_1 : decode cX2_isFull 1 = .ok (.getfield 27, 3) := by decide +kernel
theorem dX2_isFull_4 : decode cX2_isFull 4 = .ok (.sipush 300, 3) := by decide +kernel
theorem dX2_isFull_7 : decode cX2_isFull 7 = .ok (.if_icmp .lt 7, 3) := by decide +kernel
theorem dX2_isFull_10 : decode cX2_isFull 10 = .ok (.iconst 1, 1) := by decide +kernel
theorem dX2_isFull_11 : decode cX2_isFull 11 = .ok (.goto 4, 3) := by decide +kernel
theorem dX2_isFull_14 : decode cX2_isFull 14 = .ok (.iconst 0, 1) := by decide +kernel
theorem dX2_isFull_15 : decode cX2_isFull 15 = .ok (.ireturn, 1) := by decide +kernel
theorem dX2_count_0 : decode cX2_count 0 = .ok (.aload_n 0, 1) := by decide +kernel
theorem dX2_count_1 : decode cX2_count 1 = .ok (.getfield 27, 3) := by decide +kernel
theorem dX2_count_4 : decode cX2_count 4 = .ok (.ireturn, 1) := by decide +kernel
theorem dX2_addRaise_0 : decode cX2_addRaise 0 = .ok (.aload_n 0, 1) := by decide +kernel
theorem dX2_addRaise_1 : decode cX2_addRaise 1 = .ok (.getfield 24, 3) := by decide +kernel
theorem dX2_addRaise_4 : decode cX2_addRaise 4 = .ok (.iload_n 1, 1) := by decide +kernel
theorem dX2_addRaise_5 : decode cX2_addRaise 5 = .ok (.iload_n 2, 1) := by decide +kernel
theorem dX2_addRaise_6 : decode cX2_addRaise 6 = .ok (.iastore, 1) := by decide +kernel
theorem dX2_addRaise_7 : decode cX2_addRaise 7 = .ok (.aload_n 0, 1) := by decide +kernel
theorem dX2_addRaise_8 : decode cX2_addRaise 8 = .ok (.iconst 0, 1) := by decide +kernel
theorem dX2_addRaise_9 : decode cX2_addRaise 9 = .ok (.iload_n 1, 1) := by decide +kernel
theorem dX2_addRaise_10 : decode cX2_addRaise 10 = .ok (.iload_n 2, 1) := by decide +kernel
theorem dX2_addRaise_11 : decode cX2_addRaise 11 = .ok (.iconst (-1), 1) := by decide +kernel
theorem dX2_addRaise_12 : decode cX2_addRaise 12 = .ok (.invokevirtual 31, 3) := by decide +kernel
theorem dX2_addRaise_15 : decode cX2_addRaise 15 = .ok (.return_, 1) := by decide +kernel
theorem dX2_addClear_0 : decode cX2_addClear 0 = .ok (.aload_n 0, 1) := by decide +kernel
theorem dX2_addClear_1 : decode cX2_addClear 1 = .ok (.iconst 1, 1) := by decide +kernel
theorem dX2_addClear_2 : decode cX2_addClear 2 = .ok (.iload_n 1, 1) := by decide +kernel
theorem dX2_addClear_3 : decode cX2_addClear 3 = .ok (.iload_n 2, 1) := by decide +kernel
theorem dX2_addClear_4 : decode cX2_addClear 4 = .ok (.iload_n 2, 1) := by decide +kernel
theorem dX2_addClear_5 : decode cX2_addClear 5 = .ok (.aload_n 0, 1) := by decide +kernel
theorem dX2_addClear_6 : decode cX2_addClear 6 = .ok (.getfield 24, 3) := by decide +kernel
theorem dX2_addClear_9 : decode cX2_addClear 9 = .ok (.iload_n 1, 1) := by decide +kernel
theorem dX2_addClear_10 : decode cX2_addClear 10 = .ok (.iaload, 1) := by decide +kernel
theorem dX2_addClear_11 : decode cX2_addClear 11 = .ok (.isub, 1) := by decide +kernel
theorem dX2_addClear_12 : decode cX2_addClear 12 = .ok (.invokevirtual 31, 3) := by decide +kernel
theorem dX2_addClear_15 : decode cX2_addClear 15 = .ok (.return_, 1) := by decide +kernel
theorem dX2_add_0 : decode cX2_add 0 = .ok (.aload_n 0, 1) := by decide +kernel
theorem dX2_add_1 : decode cX2_add 1 = .ok (.getfield 9, 3) := by decide +kernel
theorem dX2_add_4 : decode cX2_add 4 = .ok (.aload_n 0, 1) := by decide +kernel
theorem dX2_add_5 : decode cX2_add 5 = .ok (.getfield 27, 3) := by decide +kernel
theorem dX2_add_8 : decode cX2_add 8 = .ok (.iload_n 1, 1) := by decide +kernel
theorem dX2_add_9 : decode cX2_add 9 = .ok (.iastore, 1) := by decide +kernel
theorem dX2_add_10 : decode cX2_add 10 = .ok (.aload_n 0, 1) := by decide +kernel
theorem dX2_add_11 : decode cX2_add 11 = .ok (.getfield 15, 3) := by decide +kernel
theorem dX2_add_14 : decode cX2_add 14 = .ok (.aload_n 0, 1) := by decide +kernel
theorem dX2_add_15 : decode cX2_add 15 = .ok (.getfield 27, 3) := by decide +kernel
theorem dX2_add_18 : decode cX2_add 18 = .ok (.iload_n 2, 1) := by decide +kernel
theorem dX2_add_19 : decode cX2_add 19 = .ok (.iastore, 1) := by decide +kernel
theorem dX2_add_20 : decode cX2_add 20 = .ok (.aload_n 0, 1) := by decide +kernel
theorem dX2_add_21 : decode cX2_add 21 = .ok (.getfield 18, 3) := by decide +kernel
theorem dX2_add_24 : decode cX2_add 24 = .ok (.aload_n 0, 1) := by decide +kernel
theorem dX2_add_25 : decode cX2_add 25 = .ok (.getfield 27, 3) := by decide +kernel
theorem dX2_add_28 : decode cX2_add 28 = .ok (.iload_n 3, 1) := by decide +kernel
theorem dX2_add_29 : decode cX2_add 29 = .ok (.iastore, 1) := by decide +kernel
theorem dX2_add_30 : decode cX2_add 30 = .ok (.aload_n 0, 1) := by decide +kernel
theorem dX2_add_31 : decode cX2_add 31 = .ok (.getfield 21, 3) := by decide +kernel
theorem dX2_add_34 : decode cX2_add 34 = .ok (.aload_n 0, 1) := by decide +kernel
theorem dX2_add_35 : decode cX2_add 35 = .ok (.getfield 27, 3) := by decide +kernel
theorem dX2_add_38 : decode cX2_add 38 = .ok (.iload 4, 2) := by decide +kernel
theorem dX2_add_40 : decode cX2_add 40 = .ok (.iastore, 1) := by decide +kernel
theorem dX2_add_41 : decode cX2_add 41 = .ok (.aload_n 0, 1) := by decide +kernel
theorem dX2_add_42 : decode cX2_add 42 = .ok (.dup, 1) := by decide +kernel
theorem dX2_add_43 : decode cX2_add 43 = .ok (.getfield 27, 3) := by decide +kernel
theorem dX2_add_46 : decode cX2_add 46 = .ok (.iconst 1, 1) := by decide +kernel
theorem dX2_add_47 : decode cX2_add 47 = .ok (.iadd, 1) := by decide +kernel
theorem dX2_add_48 : decode cX2_add 48 = .ok (.putfield 27, 3) := by decide +kernel
theorem dX2_add_51 : decode cX2_add 51 = .ok (.return_, 1) := by decide +kernel
theorem dX3_init_0 : decode cX3_init 0 = .ok (.aload_n 0, 1) := by decide +kernel
theorem dX3_init_1 : decode cX3_init 1 = .ok (.invokespecial 3, 3) := by decide +kernel
theorem dX3_init_4 : decode cX3_init 4 = .ok (.aload_n 0, 1) := by decide +kernel
theorem dX3_init_5 : decode cX3_init 5 = .ok (.bipush 14, 2) := by decide +kernel
theorem dX3_init_7 : decode cX3_init 7 = .ok (.newarray .int, 2) := by decide +kernel
theorem dX3_init_9 : decode cX3_init 9 = .ok (.putfield 9, 3) := by decide +kernel
theorem dX3_init_12 : decode cX3_init 12 = .ok (.aload_n 0, 1) := by decide +kernel
theorem dX3_init_13 : decode cX3_init 13 = .ok (.sipush 301, 3) := by decide +kernel
theorem dX3_init_16 : decode cX3_init 16 = .ok (.newarray .int, 2) := by decide +kernel
theorem dX3_init_18 : decode cX3_init 18 = .ok (.putfield 15, 3) := by decide +kernel
theorem dX3_init_21 : decode cX3_init 21 = .ok (.aload_n 0, 1) := by decide +kernel
theorem dX3_init_22 : decode cX3_init 22 = .ok (.iconst 0, 1) := by decide +kernel
theorem dX3_init_23 : decode cX3_init 23 = .ok (.putfield 18, 3) := by decide +kernel
theorem dX3_init_26 : decode cX3_init 26 = .ok (.iconst 0, 1) := by decide +kernel
theorem dX3_init_27 : decode cX3_init 27 = .ok (.istore_n 1, 1) := by decide +kernel
theorem dX3_init_28 : decode cX3_init 28 = .ok (.iload_n 1, 1) := by decide +kernel
theorem dX3_init_29 : decode cX3_init 29 = .ok (.bipush 14, 2) := by decide +kernel
theorem dX3_init_31 : decode cX3_init 31 = .ok (.if_icmp .ge 16, 3) := by decide +kernel
theorem dX3_init_34 : decode cX3_init 34 = .ok (.aload_n 0, 1) := by decide +kernel
theorem dX3_init_35 : decode cX3_init 35 = .ok (.getfield 9, 3) := by decide +kernel
theorem dX3_init_38 : decode cX3_init 38 = .ok (.iload_n 1, 1) := by decide +kernel
theorem dX3_init_39 : decode cX3_init 39 = .ok (.iconst (-1), 1) := by decide +kernel
theorem dX3_init_40 : decode cX3_init 40 = .ok (.iastore, 1) := by decide +kernel
theorem dX3_init_41 : decode cX3_init 41 = .ok (.iinc 1 1, 3) := by decide +kernel
theorem dX3_init_44 : decode cX3_init 44 = .ok (.goto (-16), 3) := by decide +kernel
theorem dX3_init_47 : decode cX3_init 47 = .ok (.iconst 0, 1) := by decide +kernel
theorem dX3_init_48 : decode cX3_init 48 = .ok (.istore_n 1, 1) := by decide +kernel
theorem dX3_init_49 : decode cX3_init 49 = .ok (.iload_n 1, 1) := by decide +kernel
theorem dX3_init_50 : decode cX3_init 50 = .ok (.sipush 300, 3) := by decide +kernel
theorem dX3_init_53 : decode cX3_init 53 = .ok (.if_icmp .gt 16, 3) := by decide +kernel
theorem dX3_init_56 : decode cX3_init 56 = .ok (.aload_n 0, 1) := by decide +kernel
theorem dX3_init_57 : decode cX3_init 57 = .ok (.getfield 15, 3) := by decide +kernel
theorem dX3_init_60 : decode cX3_init 60 = .ok (.iload_n 1, 1) := by decide +kernel
theorem dX3_init_61 : decode cX3_init 61 = .ok (.iconst (-1), 1) := by decide +kernel
theorem dX3_init_62 : decode cX3_init 62 = .ok (.iastore, 1) := by decide +kernel
theorem dX3_init_63 : decode cX3_init 63 = .ok (.iinc 1 1, 3) := by decide +kernel
theorem dX3_init_66 : decode cX3_init 66 = .ok (.goto (-17), 3) := by decide +kernel
theorem dX3_init_69 : decode cX3_init 69 = .ok (.return_, 1) := by decide +kernel
theorem dX3_numberOf_0 : decode cX3_numberOf 0 = .ok (.aload_n 0, 1) := by decide +kernel
theorem dX3_numberOf_1 : decode cX3_numberOf 1 = .ok (.getfield 9, 3) := by decide +kernel
theorem dX3_numberOf_4 : decode cX3_numberOf 4 = .ok (.iload_n 1, 1) := by decide +kernel
theorem dX3_numberOf_5 : decode cX3_numberOf 5 = .ok (.iaload, 1) := by decide +kernel
theorem dX3_numberOf_6 : decode cX3_numberOf 6 = .ok (.ireturn, 1) := by decide +kernel
theorem dX3_sizeOf_0 : decode cX3_sizeOf 0 = .ok (.aload_n 0, 1) := by decide +kernel
theorem dX3_sizeOf_1 : decode cX3_sizeOf 1 = .ok (.iload_n 1, 1) := by decide +kernel
theorem dX3_sizeOf_2 : decode cX3_sizeOf 2 = .ok (.invokevirtual 22, 3) := by decide +kernel
theorem dX3_sizeOf_5 : decode cX3_sizeOf 5 = .ok (.ifCond .ne 5, 3) := by decide +kernel
theorem dX3_sizeOf_8 : decode cX3_sizeOf 8 = .ok (.iconst 0, 1) := by decide +kernel
theorem dX3_sizeOf_9 : decode cX3_sizeOf 9 = .ok (.ireturn, 1) := by decide +kernel
theorem dX3_sizeOf_10 : decode cX3_sizeOf 10 = .ok (.iconst 0, 1) := by decide +kernel
theorem dX3_sizeOf_11 : decode cX3_sizeOf 11 = .ok (.istore_n 2, 1) := by decide +kernel
theorem dX3_sizeOf_12 : decode cX3_sizeOf 12 = .ok (.iconst 0, 1) := by decide +kernel
theorem dX3_sizeOf_13 : decode cX3_sizeOf 13 = .ok (.istore_n 3, 1) := by decide +kernel
theorem dX3_sizeOf_14 : decode cX3_sizeOf 14 = .ok (.iload_n 3, 1) := by decide +kernel
theorem dX3_sizeOf_15 : decode cX3_sizeOf 15 = .ok (.bipush 14, 2) := by decide +kernel
theorem dX3_sizeOf_17 : decode cX3_sizeOf 17 = .ok (.if_icmp .ge 22, 3) := by decide +kernel
theorem dX3_sizeOf_20 : decode cX3_sizeOf 20 = .ok (.aload_n 0, 1) := by decide +kernel
theorem dX3_sizeOf_21 : decode cX3_sizeOf 21 = .ok (.getfield 9, 3) := by decide +kernel
theorem dX3_sizeOf_24 : decode cX3_sizeOf 24 = .ok (.iload_n 3, 1) := by decide +kernel
theorem dX3_sizeOf_25 : decode cX3_sizeOf 25 = .ok (.iaload, 1) := by decide +kernel
theorem dX3_sizeOf_26 : decode cX3_sizeOf 26 = .ok (.iload_n 1, 1) := by decide +kernel
theorem dX3_sizeOf_27 : decode cX3_sizeOf 27 = .ok (.if_icmp .ne 6, 3) := by decide +kernel
theorem dX3_sizeOf_30 : decode cX3_sizeOf 30 = .ok (.iinc 2 1, 3) := by decide +kernel
theorem dX3_sizeOf_33 : decode cX3_sizeOf 33 = .ok (.iinc 3 1, 3) := by decide +kernel
theorem dX3_sizeOf_36 : decode cX3_sizeOf 36 = .ok (.goto (-22), 3) := by decide +kernel
theorem dX3_sizeOf_39 : decode cX3_sizeOf 39 = .ok (.iload_n 2, 1) := by decide +kernel
theorem dX3_sizeOf_40 : decode cX3_sizeOf 40 = .ok (.ireturn, 1) := by decide +kernel
theorem dX3_join_0 : decode cX3_join 0 = .ok (.iload_n 2, 1) := by decide +kernel
theorem dX3_join_1 : decode cX3_join 1 = .ok (.ifCond .ne 26, 3) := by decide +kernel
theorem dX3_join_4 : decode cX3_join 4 = .ok (.aload_n 0, 1) := by decide +kernel
theorem dX3_join_5 : decode cX3_join 5 = .ok (.dup, 1) := by decide +kernel
theorem dX3_join_6 : decode cX3_join 6 = .ok (.getfield 18, 3) := by decide +kernel
theorem dX3_join_9 : decode cX3_join 9 = .ok (.iconst 1, 1) := by decide +kernel
theorem dX3_join_10 : decode cX3_join 10 = .ok (.iadd, 1) := by decide +kernel
theorem dX3_join_11 : decode cX3_join 11 = .ok (.putfield 18, 3) := by decide +kernel
theorem dX3_join_14 : decode cX3_join 14 = .ok (.aload_n 0, 1) := by decide +kernel
theorem dX3_join_15 : decode cX3_join 15 = .ok (.getfield 9, 3) := by decide +kernel
theorem dX3_join_18 : decode cX3_join 18 = .ok (.iload_n 1, 1) := by decide +kernel
theorem dX3_join_19 : decode cX3_join 19 = .ok (.aload_n 0, 1) := by decide +kernel
theorem dX3_join_20 : decode cX3_join 20 = .ok (.getfield 18, 3) := by decide +kernel
theorem dX3_join_23 : decode cX3_join 23 = .ok (.iastore, 1) := by decide +kernel
theorem dX3_join_24 : decode cX3_join 24 = .ok (.goto 14, 3) := by decide +kernel
theorem dX3_join_27 : decode cX3_join 27 = .ok (.aload_n 0, 1) := by decide +kernel
theorem dX3_join_28 : decode cX3_join 28 = .ok (.getfield 9, 3) := by decide +kernel
theorem dX3_join_31 : decode cX3_join 31 = .ok (.iload_n 1, 1) := by decide +kernel
theorem dX3_join_32 : decode cX3_join 32 = .ok (.aload_n 0, 1) := by decide +kernel
theorem dX3_join_33 : decode cX3_join 33 = .ok (.iload_n 2, 1) := by decide +kernel
theorem dX3_join_34 : decode cX3_join 34 = .ok (.invokevirtual 33, 3) := by decide +kernel
theorem dX3_join_37 : decode cX3_join 37 = .ok (.iastore, 1) := by decide +kernel
theorem dX3_join_38 : decode cX3_join 38 = .ok (.aload_n 0, 1) := by decide +kernel
theorem dX3_join_39 : decode cX3_join 39 = .ok (.getfield 9, 3) := by decide +kernel
theorem dX3_join_42 : decode cX3_join 42 = .ok (.iload_n 1, 1) := by decide +kernel
theorem dX3_join_43 : decode cX3_join 43 = .ok (.iaload, 1) := by decide +kernel
theorem dX3_join_44 : decode cX3_join 44 = .ok (.ireturn, 1) := by decide +kernel
theorem dX3_leave_0 : decode cX3_leave 0 = .ok (.aload_n 0, 1) := by decide +kernel
theorem dX3_leave_1 : decode cX3_leave 1 = .ok (.getfield 9, 3) := by decide +kernel
theorem dX3_leave_4 : decode cX3_leave 4 = .ok (.iload_n 1, 1) := by decide +kernel
theorem dX3_leave_5 : decode cX3_leave 5 = .ok (.iaload, 1) := by decide +kernel
theorem dX3_leave_6 : decode cX3_leave 6 = .ok (.istore_n 2, 1) := by decide +kernel
theorem dX3_leave_7 : decode cX3_leave 7 = .ok (.aload_n 0, 1) := by decide +kernel
theorem dX3_leave_8 : decode cX3_leave 8 = .ok (.getfield 9, 3) := by decide +kernel
theorem dX3_leave_11 : decode cX3_leave 11 = .ok (.iload_n 1, 1) := by decide +kernel
theorem dX3_leave_12 : decode cX3_leave 12 = .ok (.iconst (-1), 1) := by decide +kernel
theorem dX3_leave_13 : decode cX3_leave 13 = .ok (.iastore, 1) := by decide +kernel
theorem dX3_leave_14 : decode cX3_leave 14 = .ok (.aload_n 0, 1) := by decide +kernel
theorem dX3_leave_15 : decode cX3_leave 15 = .ok (.iload_n 2, 1) := by decide +kernel
theorem dX3_leave_16 : decode cX3_leave 16 = .ok (.invokevirtual 26, 3) := by decide +kernel
theorem dX3_leave_19 : decode cX3_leave 19 = .ok (.ireturn, 1) := by decide +kernel
theorem dX3_isUsed_0 : decode cX3_isUsed 0 = .ok (.iload_n 1, 1) := by decide +kernel
theorem dX3_isUsed_1 : decode cX3_isUsed 1 = .ok (.iconst 1, 1) := by decide +kernel
theorem dX3_isUsed_2 : decode cX3_isUsed 2 = .ok (.if_icmp .lt 24, 3) := by decide +kernel
theorem dX3_isUsed_5 : decode cX3_isUsed 5 = .ok (.iload_n 1, 1) := by decide +kernel
theorem dX3_isUsed_6 : decode cX3_isUsed 6 = .ok (.aload_n 0, 1) := by decide +kernel
theorem dX3_isUsed_7 : decode cX3_isUsed 7 = .ok (.getfield 18, 3) := by decide +kernel
theorem dX3_isUsed_10 : decode cX3_isUsed 10 = .ok (.if_icmp .gt 16, 3) := by decide +kernel
theorem dX3_isUsed_13 : decode cX3_isUsed 13 = .ok (.iload_n 1, 1) := by decide +kernel
theorem dX3_isUsed_14 : decode cX3_isUsed 14 = .ok (.aload_n 0, 1) := by decide +kernel
theorem dX3_isUsed_15 : decode cX3_isUsed 15 = .ok (.getfield 15, 3) := by decide +kernel
theorem dX3_isUsed_18 : decode cX3_isUsed 18 = .ok (.arraylength, 1) := by decide +kernel
theorem dX3_isUsed_19 : decode cX3_isUsed 19 = .ok (.if_icmp .ge 7, 3) := by decide +kernel
theorem dX3_isUsed_22 : decode cX3_isUsed 22 = .ok (.iconst 1, 1) := by decide +kernel
theorem dX3_isUsed_23 : decode cX3_isUsed 23 = .ok (.goto 4, 3) := by decide +kernel
theorem dX3_isUsed_26 : decode cX3_isUsed 26 = .ok (.iconst 0, 1) := by decide +kernel
theorem dX3_isUsed_27 : decode cX3_isUsed 27 = .ok (.ireturn, 1) := by decide +kernel
theorem dX3_unite_0 : decode cX3_unite 0 = .ok (.aload_n 0, 1) := by decide +kernel
theorem dX3_unite_1 : decode cX3_unite 1 = .ok (.getfield 18, 3) := by decide +kernel
theorem dX3_unite_4 : decode cX3_unite 4 = .ok (.istore_n 2, 1) := by decide +kernel
theorem dX3_unite_5 : decode cX3_unite 5 = .ok (.iconst 0, 1) := by decide +kernel
theorem dX3_unite_6 : decode cX3_unite 6 = .ok (.istore_n 3, 1) := by decide +kernel
theorem dX3_unite_7 : decode cX3_unite 7 = .ok (.iload_n 3, 1) := by decide +kernel
theorem dX3_unite_8 : decode cX3_unite 8 = .ok (.bipush 14, 2) := by decide +kernel
theorem dX3_unite_10 : decode cX3_unite 10 = .ok (.if_icmp .ge 28, 3) := by decide +kernel
theorem dX3_unite_13 : decode cX3_unite 13 = .ok (.iload_n 1, 1) := by decide +kernel
theorem dX3_unite_14 : decode cX3_unite 14 = .ok (.iload_n 3, 1) := by decide +kernel
theorem dX3_unite_15 : decode cX3_unite 15 = .ok (.invokestatic 36, 3) := by decide +kernel
theorem dX3_unite_18 : decode cX3_unite 18 = .ok (.ifCond .eq 14, 3) := by decide +kernel
theorem dX3_unite_21 : decode cX3_unite 21 = .ok (.iload_n 2, 1) := by decide +kernel
theorem dX3_unite_22 : decode cX3_unite 22 = .ok (.aload_n 0, 1) := by decide +kernel
theorem dX3_unite_23 : decode cX3_unite 23 = .ok (.getfield 9, 3) := by decide +kernel
theorem dX3_unite_26 : decode cX3_unite 26 = .ok (.iload_n 3, 1) := by decide +kernel
theorem dX3_unite_27 : decode cX3_unite 27 = .ok (.iaload, 1) := by decide +kernel
theorem dX3_unite_28 : decode cX3_unite 28 = .ok (.invokestatic 40, 3) := by decide +kernel
theorem dX3_unite_31 : decode cX3_unite 31 = .ok (.istore_n 2, 1) := by decide +kernel
theorem dX3_unite_32 : decode cX3_unite 32 = .ok (.iinc 3 1, 3) := by decide +kernel
theorem dX3_unite_35 : decode cX3_unite 35 = .ok (.goto (-28), 3) := by decide +kernel
theorem dX3_unite_38 : decode cX3_unite 38 = .ok (.iconst 0, 1) := by decide +kernel
theorem dX3_unite_39 : decode cX3_unite 39 = .ok (.istore_n 3, 1) := by decide +kernel
theorem dX3_unite_40 : decode cX3_unite 40 = .ok (.iload_n 3, 1) := by decide +kernel
theorem dX3_unite_41 : decode cX3_unite 41 = .ok (.bipush 14, 2) := by decide +kernel
theorem dX3_unite_43 : decode cX3_unite 43 = .ok (.if_icmp .ge 38, 3) := by decide +kernel
theorem dX3_unite_46 : decode cX3_unite 46 = .ok (.iload_n 1, 1) := by decide +kernel
theorem dX3_unite_47 : decode cX3_unite 47 = .ok (.iload_n 3, 1) := by decide +kernel
theorem dX3_unite_48 : decode cX3_unite 48 = .ok (.invokestatic 36, 3) := by decide +kernel
theorem dX3_unite_51 : decode cX3_unite 51 = .ok (.ifCond .eq 24, 3) := by decide +kernel
theorem dX3_unite_54 : decode cX3_unite 54 = .ok (.aload_n 0, 1) := by decide +kernel
theorem dX3_unite_55 : decode cX3_unite 55 = .ok (.getfield 9, 3) := by decide +kernel
theorem dX3_unite_58 : decode cX3_unite 58 = .ok (.iload_n 3, 1) := by decide +kernel
theorem dX3_unite_59 : decode cX3_unite 59 = .ok (.iaload, 1) := by decide +kernel
theorem dX3_unite_60 : decode cX3_unite 60 = .ok (.iload_n 2, 1) := by decide +kernel
theorem dX3_unite_61 : decode cX3_unite 61 = .ok (.if_icmp .eq 14, 3) := by decide +kernel
theorem dX3_unite_64 : decode cX3_unite 64 = .ok (.aload_n 0, 1) := by decide +kernel
theorem dX3_unite_65 : decode cX3_unite 65 = .ok (.aload_n 0, 1) := by decide +kernel
theorem dX3_unite_66 : decode cX3_unite 66 = .ok (.getfield 9, 3) := by decide +kernel
theorem dX3_unite_69 : decode cX3_unite 69 = .ok (.iload_n 3, 1) := by decide +kernel
theorem dX3_unite_70 : decode cX3_unite 70 = .ok (.iaload, 1) := by decide +kernel
theorem dX3_unite_71 : decode cX3_unite 71 = .ok (.iload_n 2, 1) := by decide +kernel
theorem dX3_unite_72 : decode cX3_unite 72 = .ok (.invokevirtual 46, 3) := by decide +kernel
theorem dX3_unite_75 : decode cX3_unite 75 = .ok (.iinc 3 1, 3) := by decide +kernel
theorem dX3_unite_78 : decode cX3_unite 78 = .ok (.goto (-38), 3) := by decide +kernel
theorem dX3_unite_81 : decode cX3_unite 81 = .ok (.iload_n 2, 1) := by decide +kernel
theorem dX3_unite_82 : decode cX3_unite 82 = .ok (.ireturn, 1) := by decide +kernel
theorem dX3_merge_0 : decode cX3_merge 0 = .ok (.iconst 0, 1) := by decide +kernel
theorem dX3_merge_1 : decode cX3_merge 1 = .ok (.istore_n 3, 1) := by decide +kernel
theorem dX3_merge_2 : decode cX3_merge 2 = .ok (.iload_n 3, 1) := by decide +kernel
theorem dX3_merge_3 : decode cX3_merge 3 = .ok (.bipush 14, 2) := by decide +kernel
theorem dX3_merge_5 : decode cX3_merge 5 = .ok (.if_icmp .ge 26, 3) := by decide +kernel
theorem dX3_merge_8 : decode cX3_merge 8 = .ok (.aload_n 0, 1) := by decide +kernel
theorem dX3_merge_9 : decode cX3_merge 9 = .ok (.getfield 9, 3) := by decide +kernel
theorem dX3_merge_12 : decode cX3_merge 12 = .ok (.iload_n 3, 1) := by decide +kernel
theorem dX3_merge_13 : decode cX3_merge 13 = .ok (.iaload, 1) := by decide +kernel
theorem dX3_merge_14 : decode cX3_merge 14 = .ok (.iload_n 1, 1) := by decide +kernel
theorem dX3_merge_15 : decode cX3_merge 15 = .ok (.if_icmp .ne 10, 3) := by decide +kernel
theorem dX3_merge_18 : decode cX3_merge 18 = .ok (.aload_n 0, 1) := by decide +kernel
theorem dX3_merge_19 : decode cX3_merge 19 = .ok (.getfield 9, 3) := by decide +kernel
theorem dX3_merge_22 : decode cX3_merge 22 = .ok (.iload_n 3, 1) := by decide +kernel
theorem dX3_merge_23 : decode cX3_merge 23 = .ok (.iload_n 2, 1) := by decide +kernel
theorem dX3_merge_24 : decode cX3_merge 24 = .ok (.iastore, 1) := by decide +kernel
theorem dX3_merge_25 : decode cX3_merge 25 = .ok (.iinc 3 1, 3) := by decide +kernel
theorem dX3_merge_28 : decode cX3_merge 28 = .ok (.goto (-26), 3) := by decide +kernel
theorem dX3_merge_31 : decode cX3_merge 31 = .ok (.aload_n 0, 1) := by decide +kernel
theorem dX3_merge_32 : decode cX3_merge 32 = .ok (.iload_n 1, 1) := by decide +kernel
theorem dX3_merge_33 : decode cX3_merge 33 = .ok (.invokevirtual 22, 3) := by decide +kernel
theorem dX3_merge_36 : decode cX3_merge 36 = .ok (.ifCond .eq 10, 3) := by decide +kernel
theorem dX3_merge_39 : decode cX3_merge 39 = .ok (.aload_n 0, 1) := by decide +kernel
theorem dX3_merge_40 : decode cX3_merge 40 = .ok (.getfield 15, 3) := by decide +kernel
theorem dX3_merge_43 : decode cX3_merge 43 = .ok (.iload_n 1, 1) := by decide +kernel
theorem dX3_merge_44 : decode cX3_merge 44 = .ok (.iload_n 2, 1) := by decide +kernel
theorem dX3_merge_45 : decode cX3_merge 45 = .ok (.iastore, 1) := by decide +kernel
theorem dX3_merge_46 : decode cX3_merge 46 = .ok (.return_, 1) := by decide +kernel
theorem dX4_init_0 : decode cX4_init 0 = .ok (.aload_n 0, 1) := by decide +kernel
theorem dX4_init_1 : decode cX4_init 1 = .ok (.invokespecial 1, 3) := by decide +kernel
theorem dX4_init_4 : decode cX4_init 4 = .ok (.aload_n 0, 1) := by decide +kernel
theorem dX4_init_5 : decode cX4_init 5 = .ok (.new 7, 3) := by decide +kernel
theorem dX4_init_8 : decode cX4_init 8 = .ok (.dup, 1) := by decide +kernel
theorem dX4_init_9 : decode cX4_init 9 = .ok (.invokespecial 9, 3) := by decide +kernel
theorem dX4_init_12 : decode cX4_init 12 = .ok (.putfield 10, 3) := by decide +kernel
theorem dX4_init_15 : decode cX4_init 15 = .ok (.aload_n 0, 1) := by decide +kernel
theorem dX4_init_16 : decode cX4_init 16 = .ok (.new 16, 3) := by decide +kernel
theorem dX4_init_19 : decode cX4_init 19 = .ok (.dup, 1) := by decide +kernel
theorem dX4_init_20 : decode cX4_init 20 = .ok (.invokespecial 18, 3) := by decide +kernel
theorem dX4_init_23 : decode cX4_init 23 = .ok (.putfield 19, 3) := by decide +kernel
theorem dX4_init_26 : decode cX4_init 26 = .ok (.aload_n 0, 1) := by decide +kernel
theorem dX4_init_27 : decode cX4_init 27 = .ok (.new 23, 3) := by decide +kernel
theorem dX4_init_30 : decode cX4_init 30 = .ok (.dup, 1) := by decide +kernel
theorem dX4_init_31 : decode cX4_init 31 = .ok (.invokespecial 25, 3) := by decide +kernel
theorem dX4_init_34 : decode cX4_init 34 = .ok (.putfield 26, 3) := by decide +kernel
theorem dX4_init_37 : decode cX4_init 37 = .ok (.aload_n 0, 1) := by decide +kernel
theorem dX4_init_38 : decode cX4_init 38 = .ok (.iconst 0, 1) := by decide +kernel
theorem dX4_init_39 : decode cX4_init 39 = .ok (.putfield 30, 3) := by decide +kernel
theorem dX4_init_42 : decode cX4_init 42 = .ok (.aload_n 0, 1) := by decide +kernel
theorem dX4_init_43 : decode cX4_init 43 = .ok (.iconst 0, 1) := by decide +kernel
theorem dX4_init_44 : decode cX4_init 44 = .ok (.putfield 34, 3) := by decide +kernel
theorem dX4_init_47 : decode cX4_init 47 = .ok (.return_, 1) := by decide +kernel
theorem dX4_need_0 : decode cX4_need 0 = .ok (.iload_n 1, 1) := by decide +kernel
theorem dX4_need_1 : decode cX4_need 1 = .ok (.invokestatic 37, 3) := by decide +kernel
theorem dX4_need_4 : decode cX4_need 4 = .ok (.iload_n 2, 1) := by decide +kernel
theorem dX4_need_5 : decode cX4_need 5 = .ok (.invokestatic 37, 3) := by decide +kernel
theorem dX4_need_8 : decode cX4_need 8 = .ok (.iload_n 1, 1) := by decide +kernel
theorem dX4_need_9 : decode cX4_need 9 = .ok (.iload_n 2, 1) := by decide +kernel
theorem dX4_need_10 : decode cX4_need 10 = .ok (.if_icmp .eq 18, 3) := by decide +kernel
theorem dX4_need_13 : decode cX4_need 13 = .ok (.aload_n 0, 1) := by decide +kernel
theorem dX4_need_14 : decode cX4_need 14 = .ok (.getfield 10, 3) := by decide +kernel
theorem dX4_need_17 : decode cX4_need 17 = .ok (.iload_n 2, 1) := by decide +kernel
theorem dX4_need_18 : decode cX4_need 18 = .ok (.invokevirtual 41, 3) := by decide +kernel
theorem dX4_need_21 : decode cX4_need 21 = .ok (.iload_n 1, 1) := by decide +kernel
theorem dX4_need_22 : decode cX4_need 22 = .ok (.invokestatic 45, 3) := by decide +kernel
theorem dX4_need_25 : decode cX4_need 25 = .ok (.ifCond .eq 13, 3) := by decide +kernel
theorem dX4_need_28 : decode cX4_need 28 = .ok (.new 49, 3) := by decide +kernel
theorem dX4_need_31 : decode cX4_need 31 = .ok (.dup, 1) := by decide +kernel
theorem dX4_need_32 : decode cX4_need 32 = .ok (.ldc 51, 2) := by decide +kernel
theorem dX4_need_34 : decode cX4_need 34 = .ok (.invokespecial 53, 3) := by decide +kernel
theorem dX4_need_37 : decode cX4_need 37 = .ok (.athrow, 1) := by decide +kernel
theorem dX4_need_38 : decode cX4_need 38 = .ok (.aload_n 0, 1) := by decide +kernel
theorem dX4_need_39 : decode cX4_need 39 = .ok (.getfield 10, 3) := by decide +kernel
theorem dX4_need_42 : decode cX4_need 42 = .ok (.iload_n 1, 1) := by decide +kernel
theorem dX4_need_43 : decode cX4_need 43 = .ok (.iload_n 2, 1) := by decide +kernel
theorem dX4_need_44 : decode cX4_need 44 = .ok (.invokevirtual 56, 3) := by decide +kernel
theorem dX4_need_47 : decode cX4_need 47 = .ok (.ireturn, 1) := by decide +kernel
theorem dX4_release_0 : decode cX4_release 0 = .ok (.iload_n 1, 1) := by decide +kernel
theorem dX4_release_1 : decode cX4_release 1 = .ok (.invokestatic 37, 3) := by decide +kernel
theorem dX4_release_4 : decode cX4_release 4 = .ok (.iload_n 2, 1) := by decide +kernel
theorem dX4_release_5 : decode cX4_release 5 = .ok (.invokestatic 37, 3) := by decide +kernel
theorem dX4_release_8 : decode cX4_release 8 = .ok (.aload_n 0, 1) := by decide +kernel
theorem dX4_release_9 : decode cX4_release 9 = .ok (.getfield 10, 3) := by decide +kernel
theorem dX4_release_12 : decode cX4_release 12 = .ok (.iload_n 1, 1) := by decide +kernel
theorem dX4_release_13 : decode cX4_release 13 = .ok (.iload_n 2, 1) := by decide +kernel
theorem dX4_release_14 : decode cX4_release 14 = .ok (.invokevirtual 59, 3) := by decide +kernel
theorem dX4_release_17 : decode cX4_release 17 = .ok (.ireturn, 1) := by decide +kernel
theorem dX4_needs_0 : decode cX4_needs 0 = .ok (.iload_n 1, 1) := by decide +kernel
theorem dX4_needs_1 : decode cX4_needs 1 = .ok (.invokestatic 37, 3) := by decide +kernel
theorem dX4_needs_4 : decode cX4_needs 4 = .ok (.iload_n 2, 1) := by decide +kernel
theorem dX4_needs_5 : decode cX4_needs 5 = .ok (.invokestatic 37, 3) := by decide +kernel
theorem dX4_needs_8 : decode cX4_needs 8 = .ok (.aload_n 0, 1) := by decide +kernel
theorem dX4_needs_9 : decode cX4_needs 9 = .ok (.getfield 10, 3) := by decide +kernel
theorem dX4_needs_12 : decode cX4_needs 12 = .ok (.iload_n 1, 1) := by decide +kernel
theorem dX4_needs_13 : decode cX4_needs 13 = .ok (.invokevirtual 62, 3) := by decide +kernel
theorem dX4_needs_16 : decode cX4_needs 16 = .ok (.iload_n 2, 1) := by decide +kernel
theorem dX4_needs_17 : decode cX4_needs 17 = .ok (.invokestatic 45, 3) := by decide +kernel
theorem dX4_needs_20 : decode cX4_needs 20 = .ok (.ireturn, 1) := by decide +kernel
theorem dX4_dependsOn_0 : decode cX4_dependsOn 0 = .ok (.iload_n 1, 1) := by decide +kernel
theorem dX4_dependsOn_1 : decode cX4_dependsOn 1 = .ok (.invokestatic 37, 3) := by decide +kernel
theorem dX4_dependsOn_4 : decode cX4_dependsOn 4 = .ok (.iload_n 2, 1) := by decide +kernel
theorem dX4_dependsOn_5 : decode cX4_dependsOn 5 = .ok (.invokestatic 37, 3) := by decide +kernel
theorem dX4_dependsOn_8 : decode cX4_dependsOn 8 = .ok (.aload_n 0, 1) := by decide +kernel
theorem dX4_dependsOn_9 : decode cX4_dependsOn 9 = .ok (.getfield 10, 3) := by decide +kernel
theorem dX4_dependsOn_12 : decode cX4_dependsOn 12 = .ok (.iload_n 1, 1) := by decide +kernel
theorem dX4_dependsOn_13 : decode cX4_dependsOn 13 = .ok (.invokevirtual 41, 3) := by decide +kernel
theorem dX4_dependsOn_16 : decode cX4_dependsOn 16 = .ok (.iload_n 2, 1) := by decide +kernel
theorem dX4_dependsOn_17 : decode cX4_dependsOn 17 = .ok (.invokestatic 45, 3) := by decide +kernel
theorem dX4_dependsOn_20 : decode cX4_dependsOn 20 = .ok (.ireturn, 1) := by decide +kernel
theorem dX4_height_0 : decode cX4_height 0 = .ok (.iload_n 1, 1) := by decide +kernel
theorem dX4_height_1 : decode cX4_height 1 = .ok (.invokestatic 37, 3) := by decide +kernel
theorem dX4_height_4 : decode cX4_height 4 = .ok (.aload_n 0, 1) := by decide +kernel
theorem dX4_height_5 : decode cX4_height 5 = .ok (.getfield 10, 3) := by decide +kernel
theorem dX4_height_8 : decode cX4_height 8 = .ok (.iload_n 1, 1) := by decide +kernel
theorem dX4_height_9 : decode cX4_height 9 = .ok (.invokevirtual 65, 3) := by decide +kernel
theorem dX4_height_12 : decode cX4_height 12 = .ok (.ireturn, 1) := by decide +kernel
theorem dX4_tick_0 : decode cX4_tick 0 = .ok (.iload_n 1, 1) := by decide +kernel
theorem dX4_tick_1 : decode cX4_tick 1 = .ok (.bipush 100, 2) := by decide +kernel
theorem dX4_tick_3 : decode cX4_tick 3 = .ok (.invokestatic 68, 3) := by decide +kernel
theorem dX4_tick_6 : decode cX4_tick 6 = .ok (.aload_n 0, 1) := by decide +kernel
theorem dX4_tick_7 : decode cX4_tick 7 = .ok (.dup, 1) := by decide +kernel
theorem dX4_tick_8 : decode cX4_tick 8 = .ok (.getfield 34, 3) := by decide +kernel
theorem dX4_tick_11 : decode cX4_tick 11 = .ok (.iload_n 1, 1) := by decide +kernel
theorem dX4_tick_12 : decode cX4_tick 12 = .ok (.iadd, 1) := by decide +kernel
theorem dX4_tick_13 : decode cX4_tick 13 = .ok (.putfield 34, 3) := by decide +kernel
theorem dX4_tick_16 : decode cX4_tick 16 = .ok (.aload_n 0, 1) := by decide +kernel
theorem dX4_tick_17 : decode cX4_tick 17 = .ok (.getfield 34, 3) := by decide +kernel
theorem dX4_tick_20 : decode cX4_tick 20 = .ok (.ireturn, 1) := by decide +kernel
theorem dX4_now_0 : decode cX4_now 0 = .ok (.aload_n 0, 1) := by decide +kernel
theorem dX4_now_1 : decode cX4_now 1 = .ok (.getfield 34, 3) := by decide +kernel
theorem dX4_now_4 : decode cX4_now 4 = .ok (.ireturn, 1) := by decide +kernel
theorem dX4_raise_0 : decode cX4_raise 0 = .ok (.iload_n 1, 1) := by decide +kernel
theorem dX4_raise_1 : decode cX4_raise 1 = .ok (.invokestatic 37, 3) := by decide +kernel
theorem dX4_raise_4 : decode cX4_raise 4 = .ok (.aload_n 0, 1) := by decide +kernel
theorem dX4_raise_5 : decode cX4_raise 5 = .ok (.aload_n 0, 1) := by decide +kernel
theorem dX4_raise_6 : decode cX4_raise 6 = .ok (.getfield 30, 3) := by decide +kernel
theorem dX4_raise_9 : decode cX4_raise 9 = .ok (.iload_n 1, 1) := by decide +kernel
theorem dX4_raise_10 : decode cX4_raise 10 = .ok (.invokestatic 45, 3) := by decide +kernel
theorem dX4_raise_13 : decode cX4_raise 13 = .ok (.ifCond .ne 7, 3) := by decide +kernel
theorem dX4_raise_16 : decode cX4_raise 16 = .ok (.iconst 1, 1) := by decide +kernel
theorem dX4_raise_17 : decode cX4_raise 17 = .ok (.goto 4, 3) := by decide +kernel
theorem dX4_raise_20 : decode cX4_raise 20 = .ok (.iconst 0, 1) := by decide +kernel
theorem dX4_raise_21 : decode cX4_raise 21 = .ok (.invokevirtual 72, 3) := by decide +kernel
theorem dX4_raise_24 : decode cX4_raise 24 = .ok (.aload_n 0, 1) := by decide +kernel
theorem dX4_raise_25 : decode cX4_raise 25 = .ok (.getfield 19, 3) := by decide +kernel
theorem dX4_raise_28 : decode cX4_raise 28 = .ok (.iload_n 1, 1) := by decide +kernel
theorem dX4_raise_29 : decode cX4_raise 29 = .ok (.aload_n 0, 1) := by decide +kernel
theorem dX4_raise_30 : decode cX4_raise 30 = .ok (.getfield 34, 3) := by decide +kernel
theorem dX4_raise_33 : decode cX4_raise 33 = .ok (.invokevirtual 76, 3) := by decide +kernel
theorem dX4_raise_36 : decode cX4_raise 36 = .ok (.aload_n 0, 1) := by decide +kernel
theorem dX4_raise_37 : decode cX4_raise 37 = .ok (.getfield 10, 3) := by decide +kernel
theorem dX4_raise_40 : decode cX4_raise 40 = .ok (.iload_n 1, 1) := by decide +kernel
theorem dX4_raise_41 : decode cX4_raise 41 = .ok (.invokevirtual 41, 3) := by decide +kernel
theorem dX4_raise_44 : decode cX4_raise 44 = .ok (.aload_n 0, 1) := by decide +kernel
theorem dX4_raise_45 : decode cX4_raise 45 = .ok (.getfield 10, 3) := by decide +kernel
theorem dX4_raise_48 : decode cX4_raise 48 = .ok (.iload_n 1, 1) := by decide +kernel
theorem dX4_raise_49 : decode cX4_raise 49 = .ok (.invokevirtual 79, 3) := by decide +kernel
theorem dX4_raise_52 : decode cX4_raise 52 = .ok (.ior, 1) := by decide +kernel
theorem dX4_raise_53 : decode cX4_raise 53 = .ok (.aload_n 0, 1) := by decide +kernel
theorem dX4_raise_54 : decode cX4_raise 54 = .ok (.getfield 30, 3) := by decide +kernel
theorem dX4_raise_57 : decode cX4_raise 57 = .ok (.iand, 1) := by decide +kernel
theorem dX4_raise_58 : decode cX4_raise 58 = .ok (.istore_n 2, 1) := by decide +kernel
theorem dX4_raise_59 : decode cX4_raise 59 = .ok (.aload_n 0, 1) := by decide +kernel
theorem dX4_raise_60 : decode cX4_raise 60 = .ok (.dup, 1) := by decide +kernel
theorem dX4_raise_61 : decode cX4_raise 61 = .ok (.getfield 30, 3) := by decide +kernel
theorem dX4_raise_64 : decode cX4_raise 64 = .ok (.iload_n 1, 1) := by decide +kernel
theorem dX4_raise_65 : decode cX4_raise 65 = .ok (.invokestatic 82, 3) := by decide +kernel
theorem dX4_raise_68 : decode cX4_raise 68 = .ok (.ior, 1) := by decide +kernel
theorem dX4_raise_69 : decode cX4_raise 69 = .ok (.putfield 30, 3) := by decide +kernel
theorem dX4_raise_72 : decode cX4_raise 72 = .ok (.aload_n 0, 1) := by decide +kernel
theorem dX4_raise_73 : decode cX4_raise 73 = .ok (.getfield 26, 3) := by decide +kernel
theorem dX4_raise_76 : decode cX4_raise 76 = .ok (.iload_n 1, 1) := by decide +kernel
theorem dX4_raise_77 : decode cX4_raise 77 = .ok (.iload_n 2, 1) := by decide +kernel
theorem dX4_raise_78 : decode cX4_raise 78 = .ok (.invokevirtual 85, 3) := by decide +kernel
theorem dX4_raise_81 : decode cX4_raise 81 = .ok (.ireturn, 1) := by decide +kernel
theorem dX4_clear_0 : decode cX4_clear 0 = .ok (.iload_n 1, 1) := by decide +kernel
theorem dX4_clear_1 : decode cX4_clear 1 = .ok (.invokestatic 37, 3) := by decide +kernel
theorem dX4_clear_4 : decode cX4_clear 4 = .ok (.aload_n 0, 1) := by decide +kernel
theorem dX4_clear_5 : decode cX4_clear 5 = .ok (.aload_n 0, 1) := by decide +kernel
theorem dX4_clear_6 : decode cX4_clear 6 = .ok (.getfield 30, 3) := by decide +kernel
theorem dX4_clear_9 : decode cX4_clear 9 = .ok (.iload_n 1, 1) := by decide +kernel
theorem dX4_clear_10 : decode cX4_clear 10 = .ok (.invokestatic 45, 3) := by decide +kernel
theorem dX4_clear_13 : decode cX4_clear 13 = .ok (.invokevirtual 72, 3) := by decide +kernel
theorem dX4_clear_16 : decode cX4_clear 16 = .ok (.aload_n 0, 1) := by decide +kernel
theorem dX4_clear_17 : decode cX4_clear 17 = .ok (.getfield 19, 3) := by decide +kernel
theorem dX4_clear_20 : decode cX4_clear 20 = .ok (.iload_n 1, 1) := by decide +kernel
theorem dX4_clear_21 : decode cX4_clear 21 = .ok (.aload_n 0, 1) := by decide +kernel
theorem dX4_clear_22 : decode cX4_clear 22 = .ok (.getfield 34, 3) := by decide +kernel
theorem dX4_clear_25 : decode cX4_clear 25 = .ok (.invokevirtual 89, 3) := by decide +kernel
theorem dX4_clear_28 : decode cX4_clear 28 = .ok (.aload_n 0, 1) := by decide +kernel
theorem dX4_clear_29 : decode cX4_clear 29 = .ok (.dup, 1) := by decide +kernel
theorem dX4_clear_30 : decode cX4_clear 30 = .ok (.getfield 30, 3) := by decide +kernel
theorem dX4_clear_33 : decode cX4_clear 33 = .ok (.iload_n 1, 1) := by decide +kernel
theorem dX4_clear_34 : decode cX4_clear 34 = .ok (.invokestatic 82, 3) := by decide +kernel
theorem dX4_clear_37 : decode cX4_clear 37 = .ok (.iconst (-1), 1) := by decide +kernel
theorem dX4_clear_38 : decode cX4_clear 38 = .ok (.ixor, 1) := by decide +kernel
theorem dX4_clear_39 : decode cX4_clear 39 = .ok (.iand, 1) := by decide +kernel
theorem dX4_clear_40 : decode cX4_clear 40 = .ok (.putfield 30, 3) := by decide +kernel
theorem dX4_clear_43 : decode cX4_clear 43 = .ok (.aload_n 0, 1) := by decide +kernel
theorem dX4_clear_44 : decode cX4_clear 44 = .ok (.getfield 26, 3) := by decide +kernel
theorem dX4_clear_47 : decode cX4_clear 47 = .ok (.iload_n 1, 1) := by decide +kernel
theorem dX4_clear_48 : decode cX4_clear 48 = .ok (.invokevirtual 92, 3) := by decide +kernel
theorem dX4_clear_51 : decode cX4_clear 51 = .ok (.ireturn, 1) := by decide +kernel
theorem dX4_events_0 : decode cX4_events 0 = .ok (.aload_n 0, 1) := by decide +kernel
theorem dX4_events_1 : decode cX4_events 1 = .ok (.getfield 19, 3) := by decide +kernel
theorem dX4_events_4 : decode cX4_events 4 = .ok (.invokevirtual 103, 3) := by decide +kernel
theorem dX4_events_7 : decode cX4_events 7 = .ok (.ireturn, 1) := by decide +kernel
theorem dX4_ticketOf_0 : decode cX4_ticketOf 0 = .ok (.iload_n 1, 1) := by decide +kernel
theorem dX4_ticketOf_1 : decode cX4_ticketOf 1 = .ok (.invokestatic 37, 3) := by decide +kernel
theorem dX4_ticketOf_4 : decode cX4_ticketOf 4 = .ok (.aload_n 0, 1) := by decide +kernel
theorem dX4_ticketOf_5 : decode cX4_ticketOf 5 = .ok (.getfield 26, 3) := by decide +kernel
theorem dX4_ticketOf_8 : decode cX4_ticketOf 8 = .ok (.iload_n 1, 1) := by decide +kernel
theorem dX4_ticketOf_9 : decode cX4_ticketOf 9 = .ok (.invokevirtual 125, 3) := by decide +kernel
theorem dX4_ticketOf_12 : decode cX4_ticketOf 12 = .ok (.ireturn, 1) := by decide +kernel
theorem dX4_isPlausible_0 : decode cX4_isPlausible 0 = .ok (.iload_n 1, 1) := by decide +kernel
theorem dX4_isPlausible_1 : decode cX4_isPlausible 1 = .ok (.invokestatic 37, 3) := by decide +kernel
theorem dX4_isPlausible_4 : decode cX4_isPlausible 4 = .ok (.aload_n 0, 1) := by decide +kernel
theorem dX4_isPlausible_5 : decode cX4_isPlausible 5 = .ok (.invokevirtual 137, 3) := by decide +kernel
theorem dX4_isPlausible_8 : decode cX4_isPlausible 8 = .ok (.invokevirtual 141, 3) := by decide +kernel
theorem dX4_isPlausible_11 : decode cX4_isPlausible 11 = .ok (.iload_n 1, 1) := by decide +kernel
theorem dX4_isPlausible_12 : decode cX4_isPlausible 12 = .ok (.invokestatic 45, 3) := by decide +kernel
theorem dX4_isPlausible_15 : decode cX4_isPlausible 15 = .ok (.ireturn, 1) := by decide +kernel
theorem dX4_causes_0 : decode cX4_causes 0 = .ok (.aload_n 0, 1) := by decide +kernel
theorem dX4_causes_1 : decode cX4_causes 1 = .ok (.invokevirtual 137, 3) := by decide +kernel
theorem dX4_causes_4 : decode cX4_causes 4 = .ok (.invokevirtual 146, 3) := by decide +kernel
theorem dX4_causes_7 : decode cX4_causes 7 = .ok (.invokestatic 149, 3) := by decide +kernel
theorem dX4_causes_10 : decode cX4_causes 10 = .ok (.ireturn, 1) := by decide +kernel
theorem dX4_cause_0 : decode cX4_cause 0 = .ok (.aload_n 0, 1) := by decide +kernel
theorem dX4_cause_1 : decode cX4_cause 1 = .ok (.invokevirtual 137, 3) := by decide +kernel
theorem dX4_cause_4 : decode cX4_cause 4 = .ok (.invokevirtual 146, 3) := by decide +kernel
theorem dX4_cause_7 : decode cX4_cause 7 = .ok (.iload_n 1, 1) := by decide +kernel
theorem dX4_cause_8 : decode cX4_cause 8 = .ok (.invokestatic 154, 3) := by decide +kernel
theorem dX4_cause_11 : decode cX4_cause 11 = .ok (.ireturn, 1) := by decide +kernel
theorem dX4_causeByTrying_0 : decode cX4_causeByTrying 0 = .ok (.aload_n 0, 1) := by decide +kernel
theorem dX4_causeByTrying_1 : decode cX4_causeByTrying 1 = .ok (.invokevirtual 137, 3) := by decide +kernel
theorem dX4_causeByTrying_4 : decode cX4_causeByTrying 4 = .ok (.invokevirtual 157, 3) := by decide +kernel
theorem dX4_causeByTrying_7 : decode cX4_causeByTrying 7 = .ok (.iload_n 1, 1) := by decide +kernel
theorem dX4_causeByTrying_8 : decode cX4_causeByTrying 8 = .ok (.invokestatic 154, 3) := by decide +kernel
theorem dX4_causeByTrying_11 : decode cX4_causeByTrying 11 = .ok (.ireturn, 1) := by decide +kernel
theorem dX4_greedyCauses_0 : decode cX4_greedyCauses 0 = .ok (.aload_n 0, 1) := by decide +kernel
theorem dX4_greedyCauses_1 : decode cX4_greedyCauses 1 = .ok (.invokevirtual 137, 3) := by decide +kernel
theorem dX4_greedyCauses_4 : decode cX4_greedyCauses 4 = .ok (.invokevirtual 160, 3) := by decide +kernel
theorem dX4_greedyCauses_7 : decode cX4_greedyCauses 7 = .ok (.ireturn, 1) := by decide +kernel
theorem dX4_greedyCause_0 : decode cX4_greedyCause 0 = .ok (.aload_n 0, 1) := by decide +kernel
theorem dX4_greedyCause_1 : decode cX4_greedyCause 1 = .ok (.invokevirtual 137, 3) := by decide +kernel
theorem dX4_greedyCause_4 : decode cX4_greedyCause 4 = .ok (.iload_n 1, 1) := by decide +kernel
theorem dX4_greedyCause_5 : decode cX4_greedyCause 5 = .ok (.invokevirtual 163, 3) := by decide +kernel
theorem dX4_greedyCause_8 : decode cX4_greedyCause 8 = .ok (.istore_n 2, 1) := by decide +kernel
theorem dX4_greedyCause_9 : decode cX4_greedyCause 9 = .ok (.iload_n 2, 1) := by decide +kernel
theorem dX4_greedyCause_10 : decode cX4_greedyCause 10 = .ok (.iconst (-1), 1) := by decide +kernel
theorem dX4_greedyCause_11 : decode cX4_greedyCause 11 = .ok (.if_icmp .ne 13, 3) := by decide +kernel
theorem dX4_greedyCause_14 : decode cX4_greedyCause 14 = .ok (.new 166, 3) := by decide +kernel
theorem dX4_greedyCause_17 : decode cX4_greedyCause 17 = .ok (.dup, 1) := by decide +kernel
theorem dX4_greedyCause_18 : decode cX4_greedyCause 18 = .ok (.ldc 168, 2) := by decide +kernel
theorem dX4_greedyCause_20 : decode cX4_greedyCause 20 = .ok (.invokespecial 170, 3) := by decide +kernel
theorem dX4_greedyCause_23 : decode cX4_greedyCause 23 = .ok (.athrow, 1) := by decide +kernel
theorem dX4_greedyCause_24 : decode cX4_greedyCause 24 = .ok (.iload_n 2, 1) := by decide +kernel
theorem dX4_greedyCause_25 : decode cX4_greedyCause 25 = .ok (.ireturn, 1) := by decide +kernel
theorem dX4_causeOf_0 : decode cX4_causeOf 0 = .ok (.iload_n 1, 1) := by decide +kernel
theorem dX4_causeOf_1 : decode cX4_causeOf 1 = .ok (.invokestatic 37, 3) := by decide +kernel
theorem dX4_causeOf_4 : decode cX4_causeOf 4 = .ok (.aload_n 0, 1) := by decide +kernel
theorem dX4_causeOf_5 : decode cX4_causeOf 5 = .ok (.getfield 30, 3) := by decide +kernel
theorem dX4_causeOf_8 : decode cX4_causeOf 8 = .ok (.iload_n 1, 1) := by decide +kernel
theorem dX4_causeOf_9 : decode cX4_causeOf 9 = .ok (.invokestatic 45, 3) := by decide +kernel
theorem dX4_causeOf_12 : decode cX4_causeOf 12 = .ok (.ifCond .ne 5, 3) := by decide +kernel
theorem dX4_causeOf_15 : decode cX4_causeOf 15 = .ok (.iconst (-1), 1) := by decide +kernel
theorem dX4_causeOf_16 : decode cX4_causeOf 16 = .ok (.ireturn, 1) := by decide +kernel
theorem dX4_causeOf_17 : decode cX4_causeOf 17 = .ok (.aload_n 0, 1) := by decide +kernel
theorem dX4_causeOf_18 : decode cX4_causeOf 18 = .ok (.invokevirtual 137, 3) := by decide +kernel
theorem dX4_causeOf_21 : decode cX4_causeOf 21 = .ok (.invokevirtual 146, 3) := by decide +kernel
theorem dX4_causeOf_24 : decode cX4_causeOf 24 = .ok (.aload_n 0, 1) := by decide +kernel
theorem dX4_causeOf_25 : decode cX4_causeOf 25 = .ok (.getfield 10, 3) := by decide +kernel
theorem dX4_causeOf_28 : decode cX4_causeOf 28 = .ok (.iload_n 1, 1) := by decide +kernel
theorem dX4_causeOf_29 : decode cX4_causeOf 29 = .ok (.invokevirtual 171, 3) := by decide +kernel
theorem dX4_causeOf_32 : decode cX4_causeOf 32 = .ok (.iand, 1) := by decide +kernel
theorem dX4_causeOf_33 : decode cX4_causeOf 33 = .ok (.iconst 0, 1) := by decide +kernel
theorem dX4_causeOf_34 : decode cX4_causeOf 34 = .ok (.invokestatic 174, 3) := by decide +kernel
theorem dX4_causeOf_37 : decode cX4_causeOf 37 = .ok (.ireturn, 1) := by decide +kernel
theorem dX4_diagnoser_0 : decode cX4_diagnoser 0 = .ok (.new 142, 3) := by decide +kernel
theorem dX4_diagnoser_3 : decode cX4_diagnoser 3 = .ok (.dup, 1) := by decide +kernel
theorem dX4_diagnoser_4 : decode cX4_diagnoser 4 = .ok (.aload_n 0, 1) := by decide +kernel
theorem dX4_diagnoser_5 : decode cX4_diagnoser 5 = .ok (.getfield 10, 3) := by decide +kernel
theorem dX4_diagnoser_8 : decode cX4_diagnoser 8 = .ok (.aload_n 0, 1) := by decide +kernel
theorem dX4_diagnoser_9 : decode cX4_diagnoser 9 = .ok (.getfield 30, 3) := by decide +kernel
theorem dX4_diagnoser_12 : decode cX4_diagnoser 12 = .ok (.invokespecial 177, 3) := by decide +kernel
theorem dX4_diagnoser_15 : decode cX4_diagnoser 15 = .ok (.areturn, 1) := by decide +kernel
theorem dX4_checkNode_0 : decode cX4_checkNode 0 = .ok (.iload_n 0, 1) := by decide +kernel
theorem dX4_checkNode_1 : decode cX4_checkNode 1 = .ok (.ifCond .lt 9, 3) := by decide +kernel
theorem dX4_checkNode_4 : decode cX4_checkNode 4 = .ok (.iload_n 0, 1) := by decide +kernel
theorem dX4_checkNode_5 : decode cX4_checkNode 5 = .ok (.bipush 14, 2) := by decide +kernel
theorem dX4_checkNode_7 : decode cX4_checkNode 7 = .ok (.if_icmp .lt 13, 3) := by decide +kernel
theorem dX4_checkNode_10 : decode cX4_checkNode 10 = .ok (.new 166, 3) := by decide +kernel
theorem dX4_checkNode_13 : decode cX4_checkNode 13 = .ok (.dup, 1) := by decide +kernel
theorem dX4_checkNode_14 : decode cX4_checkNode 14 = .ok (.ldc 180, 2) := by decide +kernel
theorem dX4_checkNode_16 : decode cX4_checkNode 16 = .ok (.invokespecial 170, 3) := by decide +kernel
theorem dX4_checkNode_19 : decode cX4_checkNode 19 = .ok (.athrow, 1) := by decide +kernel
theorem dX4_checkNode_20 : decode cX4_checkNode 20 = .ok (.return_, 1) := by decide +kernel
theorem dX4_checkTicks_0 : decode cX4_checkTicks 0 = .ok (.iload_n 0, 1) := by decide +kernel
theorem dX4_checkTicks_1 : decode cX4_checkTicks 1 = .ok (.iconst 1, 1) := by decide +kernel
theorem dX4_checkTicks_2 : decode cX4_checkTicks 2 = .ok (.if_icmp .lt 8, 3) := by decide +kernel
theorem dX4_checkTicks_5 : decode cX4_checkTicks 5 = .ok (.iload_n 0, 1) := by decide +kernel
theorem dX4_checkTicks_6 : decode cX4_checkTicks 6 = .ok (.iload_n 1, 1) := by decide +kernel
theorem dX4_checkTicks_7 : decode cX4_checkTicks 7 = .ok (.if_icmp .le 13, 3) := by decide +kernel
theorem dX4_checkTicks_10 : decode cX4_checkTicks 10 = .ok (.new 49, 3) := by decide +kernel
