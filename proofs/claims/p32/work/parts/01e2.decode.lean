theorem dX4_checkTicks_13 : decode cX4_checkTicks 13 = .ok (.dup, 1) := by decide +kernel
theorem dX4_checkTicks_14 : decode cX4_checkTicks 14 = .ok (.ldc 182, 2) := by decide +kernel
theorem dX4_checkTicks_16 : decode cX4_checkTicks 16 = .ok (.invokespecial 53, 3) := by decide +kernel
theorem dX4_checkTicks_19 : decode cX4_checkTicks 19 = .ok (.athrow, 1) := by decide +kernel
theorem dX4_checkTicks_20 : decode cX4_checkTicks 20 = .ok (.return_, 1) := by decide +kernel
theorem dX4_checkChange_0 : decode cX4_checkChange 0 = .ok (.iload_n 1, 1) := by decide +kernel
theorem dX4_checkChange_1 : decode cX4_checkChange 1 = .ok (.ifCond .eq 13, 3) := by decide +kernel
theorem dX4_checkChange_4 : decode cX4_checkChange 4 = .ok (.aload_n 0, 1) := by decide +kernel
theorem dX4_checkChange_5 : decode cX4_checkChange 5 = .ok (.getfield 19, 3) := by decide +kernel
theorem dX4_checkChange_8 : decode cX4_checkChange 8 = .ok (.invokevirtual 184, 3) := by decide +kernel
theorem dX4_checkChange_11 : decode cX4_checkChange 11 = .ok (.ifCond .eq 13, 3) := by decide +kernel
theorem dX4_checkChange_14 : decode cX4_checkChange 14 = .ok (.new 188, 3) := by decide +kernel
theorem dX4_checkChange_17 : decode cX4_checkChange 17 = .ok (.dup, 1) := by decide +kernel
theorem dX4_checkChange_18 : decode cX4_checkChange 18 = .ok (.ldc 190, 2) := by decide +kernel
theorem dX4_checkChange_20 : decode cX4_checkChange 20 = .ok (.invokespecial 192, 3) := by decide +kernel
theorem dX4_checkChange_23 : decode cX4_checkChange 23 = .ok (.athrow, 1) := by decide +kernel
theorem dX4_checkChange_24 : decode cX4_checkChange 24 = .ok (.return_, 1) := by decide +kernel
theorem dX4_nodeThere_0 : decode cX4_nodeThere 0 = .ok (.iload_n 0, 1) := by decide +kernel
theorem dX4_nodeThere_1 : decode cX4_nodeThere 1 = .ok (.iload_n 1, 1) := by decide +kernel
theorem dX4_nodeThere_2 : decode cX4_nodeThere 2 = .ok (.invokestatic 174, 3) := by decide +kernel
theorem dX4_nodeThere_5 : decode cX4_nodeThere 5 = .ok (.istore_n 2, 1) := by decide +kernel
theorem dX4_nodeThere_6 : decode cX4_nodeThere 6 = .ok (.iload_n 2, 1) := by decide +kernel
theorem dX4_nodeThere_7 : decode cX4_nodeThere 7 = .ok (.iconst (-1), 1) := by decide +kernel
theorem dX4_nodeThere_8 : decode cX4_nodeThere 8 = .ok (.if_icmp .ne 13, 3) := by decide +kernel
theorem dX4_nodeThere_11 : decode cX4_nodeThere 11 = .ok (.new 166, 3) := by decide +kernel
theorem dX4_nodeThere_14 : decode cX4_nodeThere 14 = .ok (.dup, 1) := by decide +kernel
theorem dX4_nodeThere_15 : decode cX4_nodeThere 15 = .ok (.ldc 168, 2) := by decide +kernel
theorem dX4_nodeThere_17 : decode cX4_nodeThere 17 = .ok (.invokespecial 170, 3) := by decide +kernel
theorem dX4_nodeThere_20 : decode cX4_nodeThere 20 = .ok (.athrow, 1) := by decide +kernel
theorem dX4_nodeThere_21 : decode cX4_nodeThere 21 = .ok (.iload_n 2, 1) := by decide +kernel
theorem dX4_nodeThere_22 : decode cX4_nodeThere 22 = .ok (.ireturn, 1) := by decide +kernel
theorem dX4_only_0 : decode cX4_only 0 = .ok (.iconst 1, 1) := by decide +kernel
theorem dX4_only_1 : decode cX4_only 1 = .ok (.iload_n 0, 1) := by decide +kernel
theorem dX4_only_2 : decode cX4_only 2 = .ok (.ishl, 1) := by decide +kernel
theorem dX4_only_3 : decode cX4_only 3 = .ok (.ireturn, 1) := by decide +kernel
theorem dX4_has_0 : decode cX4_has 0 = .ok (.iload_n 0, 1) := by decide +kernel
theorem dX4_has_1 : decode cX4_has 1 = .ok (.iload_n 1, 1) := by decide +kernel
theorem dX4_has_2 : decode cX4_has 2 = .ok (.invokestatic 82, 3) := by decide +kernel
theorem dX4_has_5 : decode cX4_has 5 = .ok (.iand, 1) := by decide +kernel
theorem dX4_has_6 : decode cX4_has 6 = .ok (.ifCond .eq 7, 3) := by decide +kernel
theorem dX4_has_9 : decode cX4_has 9 = .ok (.iconst 1, 1) := by decide +kernel
theorem dX4_has_10 : decode cX4_has 10 = .ok (.goto 4, 3) := by decide +kernel
theorem dX4_has_13 : decode cX4_has 13 = .ok (.iconst 0, 1) := by decide +kernel
theorem dX4_has_14 : decode cX4_has 14 = .ok (.ireturn, 1) := by decide +kernel
theorem dX4_nodeAtPlace_0 : decode cX4_nodeAtPlace 0 = .ok (.iconst 0, 1) := by decide +kernel
theorem dX4_nodeAtPlace_1 : decode cX4_nodeAtPlace 1 = .ok (.istore_n 2, 1) := by decide +kernel
theorem dX4_nodeAtPlace_2 : decode cX4_nodeAtPlace 2 = .ok (.iconst 0, 1) := by decide +kernel
theorem dX4_nodeAtPlace_3 : decode cX4_nodeAtPlace 3 = .ok (.istore_n 3, 1) := by decide +kernel
theorem dX4_nodeAtPlace_4 : decode cX4_nodeAtPlace 4 = .ok (.iload_n 3, 1) := by decide +kernel
theorem dX4_nodeAtPlace_5 : decode cX4_nodeAtPlace 5 = .ok (.bipush 14, 2) := by decide +kernel
theorem dX4_nodeAtPlace_7 : decode cX4_nodeAtPlace 7 = .ok (.if_icmp .ge 27, 3) := by decide +kernel
theorem dX4_nodeAtPlace_10 : decode cX4_nodeAtPlace 10 = .ok (.iload_n 0, 1) := by decide +kernel
theorem dX4_nodeAtPlace_11 : decode cX4_nodeAtPlace 11 = .ok (.iload_n 3, 1) := by decide +kernel
theorem dX4_nodeAtPlace_12 : decode cX4_nodeAtPlace 12 = .ok (.invokestatic 45, 3) := by decide +kernel
theorem dX4_nodeAtPlace_15 : decode cX4_nodeAtPlace 15 = .ok (.ifCond .eq 13, 3) := by decide +kernel
theorem dX4_nodeAtPlace_18 : decode cX4_nodeAtPlace 18 = .ok (.iload_n 2, 1) := by decide +kernel
theorem dX4_nodeAtPlace_19 : decode cX4_nodeAtPlace 19 = .ok (.iload_n 1, 1) := by decide +kernel
theorem dX4_nodeAtPlace_20 : decode cX4_nodeAtPlace 20 = .ok (.if_icmp .ne 5, 3) := by decide +kernel
theorem dX4_nodeAtPlace_23 : decode cX4_nodeAtPlace 23 = .ok (.iload_n 3, 1) := by decide +kernel
theorem dX4_nodeAtPlace_24 : decode cX4_nodeAtPlace 24 = .ok (.ireturn, 1) := by decide +kernel
theorem dX4_nodeAtPlace_25 : decode cX4_nodeAtPlace 25 = .ok (.iinc 2 1, 3) := by decide +kernel
theorem dX4_nodeAtPlace_28 : decode cX4_nodeAtPlace 28 = .ok (.iinc 3 1, 3) := by decide +kernel
theorem dX4_nodeAtPlace_31 : decode cX4_nodeAtPlace 31 = .ok (.goto (-27), 3) := by decide +kernel
theorem dX4_nodeAtPlace_34 : decode cX4_nodeAtPlace 34 = .ok (.iconst (-1), 1) := by decide +kernel
theorem dX4_nodeAtPlace_35 : decode cX4_nodeAtPlace 35 = .ok (.ireturn, 1) := by decide +kernel
theorem dJ6_bitCount_0f7a4_0 : decode cJ6_bitCount_0f7a4 0 = .ok (.iload_n 0, 1) := by decide +kernel
theorem dJ6_bitCount_0f7a4_1 : decode cJ6_bitCount_0f7a4 1 = .ok (.iload_n 0, 1) := by decide +kernel
theorem dJ6_bitCount_0f7a4_2 : decode cJ6_bitCount_0f7a4 2 = .ok (.iconst 1, 1) := by decide +kernel
theorem dJ6_bitCount_0f7a4_3 : decode cJ6_bitCount_0f7a4 3 = .ok (.iushr, 1) := by decide +kernel
theorem dJ6_bitCount_0f7a4_4 : decode cJ6_bitCount_0f7a4 4 = .ok (.ldc_w 265, 3) := by decide +kernel
theorem dJ6_bitCount_0f7a4_7 : decode cJ6_bitCount_0f7a4 7 = .ok (.iand, 1) := by decide +kernel
theorem dJ6_bitCount_0f7a4_8 : decode cJ6_bitCount_0f7a4 8 = .ok (.isub, 1) := by decide +kernel
theorem dJ6_bitCount_0f7a4_9 : decode cJ6_bitCount_0f7a4 9 = .ok (.istore_n 0, 1) := by decide +kernel
theorem dJ6_bitCount_0f7a4_10 : decode cJ6_bitCount_0f7a4 10 = .ok (.iload_n 0, 1) := by decide +kernel
theorem dJ6_bitCount_0f7a4_11 : decode cJ6_bitCount_0f7a4 11 = .ok (.ldc_w 266, 3) := by decide +kernel
theorem dJ6_bitCount_0f7a4_14 : decode cJ6_bitCount_0f7a4 14 = .ok (.iand, 1) := by decide +kernel
theorem dJ6_bitCount_0f7a4_15 : decode cJ6_bitCount_0f7a4 15 = .ok (.iload_n 0, 1) := by decide +kernel
theorem dJ6_bitCount_0f7a4_16 : decode cJ6_bitCount_0f7a4 16 = .ok (.iconst 2, 1) := by decide +kernel
theorem dJ6_bitCount_0f7a4_17 : decode cJ6_bitCount_0f7a4 17 = .ok (.iushr, 1) := by decide +kernel
theorem dJ6_bitCount_0f7a4_18 : decode cJ6_bitCount_0f7a4 18 = .ok (.ldc_w 266, 3) := by decide +kernel
theorem dJ6_bitCount_0f7a4_21 : decode cJ6_bitCount_0f7a4 21 = .ok (.iand, 1) := by decide +kernel
theorem dJ6_bitCount_0f7a4_22 : decode cJ6_bitCount_0f7a4 22 = .ok (.iadd, 1) := by decide +kernel
theorem dJ6_bitCount_0f7a4_23 : decode cJ6_bitCount_0f7a4 23 = .ok (.istore_n 0, 1) := by decide +kernel
theorem dJ6_bitCount_0f7a4_24 : decode cJ6_bitCount_0f7a4 24 = .ok (.iload_n 0, 1) := by decide +kernel
theorem dJ6_bitCount_0f7a4_25 : decode cJ6_bitCount_0f7a4 25 = .ok (.iload_n 0, 1) := by decide +kernel
theorem dJ6_bitCount_0f7a4_26 : decode cJ6_bitCount_0f7a4 26 = .ok (.iconst 4, 1) := by decide +kernel
theorem dJ6_bitCount_0f7a4_27 : decode cJ6_bitCount_0f7a4 27 = .ok (.iushr, 1) := by decide +kernel
theorem dJ6_bitCount_0f7a4_28 : decode cJ6_bitCount_0f7a4 28 = .ok (.iadd, 1) := by decide +kernel
theorem dJ6_bitCount_0f7a4_29 : decode cJ6_bitCount_0f7a4 29 = .ok (.ldc_w 267, 3) := by decide +kernel
theorem dJ6_bitCount_0f7a4_32 : decode cJ6_bitCount_0f7a4 32 = .ok (.iand, 1) := by decide +kernel
theorem dJ6_bitCount_0f7a4_33 : decode cJ6_bitCount_0f7a4 33 = .ok (.istore_n 0, 1) := by decide +kernel
theorem dJ6_bitCount_0f7a4_34 : decode cJ6_bitCount_0f7a4 34 = .ok (.iload_n 0, 1) := by decide +kernel
theorem dJ6_bitCount_0f7a4_35 : decode cJ6_bitCount_0f7a4 35 = .ok (.iload_n 0, 1) := by decide +kernel
theorem dJ6_bitCount_0f7a4_36 : decode cJ6_bitCount_0f7a4 36 = .ok (.bipush 8, 2) := by decide +kernel
theorem dJ6_bitCount_0f7a4_38 : decode cJ6_bitCount_0f7a4 38 = .ok (.iushr, 1) := by decide +kernel
theorem dJ6_bitCount_0f7a4_39 : decode cJ6_bitCount_0f7a4 39 = .ok (.iadd, 1) := by decide +kernel
theorem dJ6_bitCount_0f7a4_40 : decode cJ6_bitCount_0f7a4 40 = .ok (.istore_n 0, 1) := by decide +kernel
theorem dJ6_bitCount_0f7a4_41 : decode cJ6_bitCount_0f7a4 41 = .ok (.iload_n 0, 1) := by decide +kernel
theorem dJ6_bitCount_0f7a4_42 : decode cJ6_bitCount_0f7a4 42 = .ok (.iload_n 0, 1) := by decide +kernel
theorem dJ6_bitCount_0f7a4_43 : decode cJ6_bitCount_0f7a4 43 = .ok (.bipush 16, 2) := by decide +kernel
theorem dJ6_bitCount_0f7a4_45 : decode cJ6_bitCount_0f7a4 45 = .ok (.iushr, 1) := by decide +kernel
theorem dJ6_bitCount_0f7a4_46 : decode cJ6_bitCount_0f7a4 46 = .ok (.iadd, 1) := by decide +kernel
theorem dJ6_bitCount_0f7a4_47 : decode cJ6_bitCount_0f7a4 47 = .ok (.istore_n 0, 1) := by decide +kernel
theorem dJ6_bitCount_0f7a4_48 : decode cJ6_bitCount_0f7a4 48 = .ok (.iload_n 0, 1) := by decide +kernel
theorem dJ6_bitCount_0f7a4_49 : decode cJ6_bitCount_0f7a4 49 = .ok (.bipush 63, 2) := by decide +kernel
theorem dJ6_bitCount_0f7a4_51 : decode cJ6_bitCount_0f7a4 51 = .ok (.iand, 1) := by decide +kernel
theorem dJ6_bitCount_0f7a4_52 : decode cJ6_bitCount_0f7a4 52 = .ok (.ireturn, 1) := by decide +kernel
theorem dJ9_min_7cf53_0 : decode cJ9_min_7cf53 0 = .ok (.iload_n 0, 1) := by decide +kernel
theorem dJ9_min_7cf53_1 : decode cJ9_min_7cf53 1 = .ok (.iload_n 1, 1) := by decide +kernel
theorem dJ9_min_7cf53_2 : decode cJ9_min_7cf53 2 = .ok (.if_icmp .gt 7, 3) := by decide +kernel
theorem dJ9_min_7cf53_5 : decode cJ9_min_7cf53 5 = .ok (.iload_n 0, 1) := by decide +kernel
theorem dJ9_min_7cf53_6 : decode cJ9_min_7cf53 6 = .ok (.goto 4, 3) := by decide +kernel
theorem dJ9_min_7cf53_9 : decode cJ9_min_7cf53 9 = .ok (.iload_n 1, 1) := by decide +kernel
theorem dJ9_min_7cf53_10 : decode cJ9_min_7cf53 10 = .ok (.ireturn, 1) := by decide +kernel
theorem dL_cell_0 : decode cL_cell 0 = .ok (.iload_n 1, 1) := by decide +kernel
theorem dL_cell_1 : decode cL_cell 1 = .ok (.aload_n 0, 1) := by decide +kernel
theorem dL_cell_2 : decode cL_cell 2 = .ok (.arraylength, 1) := by decide +kernel
theorem dL_cell_3 : decode cL_cell 3 = .ok (.if_icmp .ge 9, 3) := by decide +kernel
theorem dL_cell_6 : decode cL_cell 6 = .ok (.aload_n 0, 1) := by decide +kernel
theorem dL_cell_7 : decode cL_cell 7 = .ok (.iload_n 1, 1) := by decide +kernel
theorem dL_cell_8 : decode cL_cell 8 = .ok (.iaload, 1) := by decide +kernel
theorem dL_cell_9 : decode cL_cell 9 = .ok (.goto 15, 3) := by decide +kernel
theorem dL_cell_12 : decode cL_cell 12 = .ok (.ldc 7, 2) := by decide +kernel
theorem dL_cell_14 : decode cL_cell 14 = .ok (.iload_n 1, 1) := by decide +kernel
theorem dL_cell_15 : decode cL_cell 15 = .ok (.sipush 7001, 3) := by decide +kernel
theorem dL_cell_18 : decode cL_cell 18 = .ok (.irem, 1) := by decide +kernel
theorem dL_cell_19 : decode cL_cell 19 = .ok (.imul, 1) := by decide +kernel
theorem dL_cell_20 : decode cL_cell 20 = .ok (.sipush 3391, 3) := by decide +kernel
theorem dL_cell_23 : decode cL_cell 23 = .ok (.iadd, 1) := by decide +kernel
theorem dL_cell_24 : decode cL_cell 24 = .ok (.ldc 8, 2) := by decide +kernel
theorem dL_cell_26 : decode cL_cell 26 = .ok (.iand, 1) := by decide +kernel
theorem dL_cell_27 : decode cL_cell 27 = .ok (.ireturn, 1) := by decide +kernel
theorem dL_need_0 : decode cL_need 0 = .ok (.aload_n 0, 1) := by decide +kernel
theorem dL_need_1 : decode cL_need 1 = .ok (.iload_n 1, 1) := by decide +kernel
theorem dL_need_2 : decode cL_need 2 = .ok (.iload_n 2, 1) := by decide +kernel
theorem dL_need_3 : decode cL_need 3 = .ok (.invokevirtual 9, 3) := by decide +kernel
theorem dL_need_6 : decode cL_need 6 = .ok (.ifCond .eq 7, 3) := by decide +kernel
theorem dL_need_9 : decode cL_need 9 = .ok (.iconst 1, 1) := by decide +kernel
theorem dL_need_10 : decode cL_need 10 = .ok (.goto 4, 3) := by decide +kernel
theorem dL_need_13 : decode cL_need 13 = .ok (.iconst 0, 1) := by decide +kernel
theorem dL_need_14 : decode cL_need 14 = .ok (.ireturn, 1) := by decide +kernel
theorem dL_need_15 : decode cL_need 15 = .ok (.astore_n 3, 1) := by decide +kernel
theorem dL_need_16 : decode cL_need 16 = .ok (.bipush (-101), 2) := by decide +kernel
theorem dL_need_18 : decode cL_need 18 = .ok (.ireturn, 1) := by decide +kernel
theorem dL_need_19 : decode cL_need 19 = .ok (.astore_n 3, 1) := by decide +kernel
theorem dL_need_20 : decode cL_need 20 = .ok (.bipush (-102), 2) := by decide +kernel
theorem dL_need_22 : decode cL_need 22 = .ok (.ireturn, 1) := by decide +kernel
theorem dL_release_0 : decode cL_release 0 = .ok (.aload_n 0, 1) := by decide +kernel
theorem dL_release_1 : decode cL_release 1 = .ok (.iload_n 1, 1) := by decide +kernel
theorem dL_release_2 : decode cL_release 2 = .ok (.iload_n 2, 1) := by decide +kernel
theorem dL_release_3 : decode cL_release 3 = .ok (.invokevirtual 19, 3) := by decide +kernel
theorem dL_release_6 : decode cL_release 6 = .ok (.ifCond .eq 7, 3) := by decide +kernel
theorem dL_release_9 : decode cL_release 9 = .ok (.iconst 1, 1) := by decide +kernel
theorem dL_release_10 : decode cL_release 10 = .ok (.goto 4, 3) := by decide +kernel
theorem dL_release_13 : decode cL_release 13 = .ok (.iconst 0, 1) := by decide +kernel
theorem dL_release_14 : decode cL_release 14 = .ok (.ireturn, 1) := by decide +kernel
theorem dL_release_15 : decode cL_release 15 = .ok (.astore_n 3, 1) := by decide +kernel
theorem dL_release_16 : decode cL_release 16 = .ok (.bipush (-101), 2) := by decide +kernel
theorem dL_release_18 : decode cL_release 18 = .ok (.ireturn, 1) := by decide +kernel
theorem dL_needs_0 : decode cL_needs 0 = .ok (.aload_n 0, 1) := by decide +kernel
theorem dL_needs_1 : decode cL_needs 1 = .ok (.iload_n 1, 1) := by decide +kernel
theorem dL_needs_2 : decode cL_needs 2 = .ok (.iload_n 2, 1) := by decide +kernel
theorem dL_needs_3 : decode cL_needs 3 = .ok (.invokevirtual 22, 3) := by decide +kernel
theorem dL_needs_6 : decode cL_needs 6 = .ok (.ifCond .eq 7, 3) := by decide +kernel
theorem dL_needs_9 : decode cL_needs 9 = .ok (.iconst 1, 1) := by decide +kernel
theorem dL_needs_10 : decode cL_needs 10 = .ok (.goto 4, 3) := by decide +kernel
theorem dL_needs_13 : decode cL_needs 13 = .ok (.iconst 0, 1) := by decide +kernel
theorem dL_needs_14 : decode cL_needs 14 = .ok (.ireturn, 1) := by decide +kernel
theorem dL_needs_15 : decode cL_needs 15 = .ok (.astore_n 3, 1) := by decide +kernel
theorem dL_needs_16 : decode cL_needs 16 = .ok (.bipush (-101), 2) := by decide +kernel
theorem dL_needs_18 : decode cL_needs 18 = .ok (.ireturn, 1) := by decide +kernel
theorem dL_depends_0 : decode cL_depends 0 = .ok (.aload_n 0, 1) := by decide +kernel
theorem dL_depends_1 : decode cL_depends 1 = .ok (.iload_n 1, 1) := by decide +kernel
theorem dL_depends_2 : decode cL_depends 2 = .ok (.iload_n 2, 1) := by decide +kernel
theorem dL_depends_3 : decode cL_depends 3 = .ok (.invokevirtual 25, 3) := by decide +kernel
theorem dL_depends_6 : decode cL_depends 6 = .ok (.ifCond .eq 7, 3) := by decide +kernel
theorem dL_depends_9 : decode cL_depends 9 = .ok (.iconst 1, 1) := by decide +kernel
theorem dL_depends_10 : decode cL_depends 10 = .ok (.goto 4, 3) := by decide +kernel
theorem dL_depends_13 : decode cL_depends 13 = .ok (.iconst 0, 1) := by decide +kernel
theorem dL_depends_14 : decode cL_depends 14 = .ok (.ireturn, 1) := by decide +kernel
theorem dL_depends_15 : decode cL_depends 15 = .ok (.astore_n 3, 1) := by decide +kernel
theorem dL_depends_16 : decode cL_depends 16 = .ok (.bipush (-101), 2) := by decide +kernel
theorem dL_depends_18 : decode cL_depends 18 = .ok (.ireturn, 1) := by decide +kernel
theorem dL_height_0 : decode cL_height 0 = .ok (.aload_n 0, 1) := by decide +kernel
theorem dL_height_1 : decode cL_height 1 = .ok (.iload_n 1, 1) := by decide +kernel
theorem dL_height_2 : decode cL_height 2 = .ok (.invokevirtual 28, 3) := by decide +kernel
theorem dL_height_5 : decode cL_height 5 = .ok (.ireturn, 1) := by decide +kernel
theorem dL_height_6 : decode cL_height 6 = .ok (.astore_n 2, 1) := by decide +kernel
theorem dL_height_7 : decode cL_height 7 = .ok (.bipush (-101), 2) := by decide +kernel
theorem dL_height_9 : decode cL_height 9 = .ok (.ireturn, 1) := by decide +kernel
theorem dL_tick_0 : decode cL_tick 0 = .ok (.aload_n 0, 1) := by decide +kernel
theorem dL_tick_1 : decode cL_tick 1 = .ok (.iload_n 1, 1) := by decide +kernel
theorem dL_tick_2 : decode cL_tick 2 = .ok (.invokevirtual 32, 3) := by decide +kernel
theorem dL_tick_5 : decode cL_tick 5 = .ok (.ireturn, 1) := by decide +kernel
theorem dL_tick_6 : decode cL_tick 6 = .ok (.astore_n 2, 1) := by decide +kernel
theorem dL_tick_7 : decode cL_tick 7 = .ok (.bipush (-102), 2) := by decide +kernel
theorem dL_tick_9 : decode cL_tick 9 = .ok (.ireturn, 1) := by decide +kernel
theorem dL_raise_0 : decode cL_raise 0 = .ok (.aload_n 0, 1) := by decide +kernel
theorem dL_raise_1 : decode cL_raise 1 = .ok (.iload_n 1, 1) := by decide +kernel
theorem dL_raise_2 : decode cL_raise 2 = .ok (.invokevirtual 35, 3) := by decide +kernel
theorem dL_raise_5 : decode cL_raise 5 = .ok (.ireturn, 1) := by decide +kernel
theorem dL_raise_6 : decode cL_raise 6 = .ok (.astore_n 2, 1) := by decide +kernel
theorem dL_raise_7 : decode cL_raise 7 = .ok (.bipush (-101), 2) := by decide +kernel
theorem dL_raise_9 : decode cL_raise 9 = .ok (.ireturn, 1) := by decide +kernel
theorem dL_raise_10 : decode cL_raise 10 = .ok (.astore_n 2, 1) := by decide +kernel
theorem dL_raise_11 : decode cL_raise 11 = .ok (.bipush (-103), 2) := by decide +kernel
theorem dL_raise_13 : decode cL_raise 13 = .ok (.ireturn, 1) := by decide +kernel
theorem dL_clear_0 : decode cL_clear 0 = .ok (.aload_n 0, 1) := by decide +kernel
theorem dL_clear_1 : decode cL_clear 1 = .ok (.iload_n 1, 1) := by decide +kernel
theorem dL_clear_2 : decode cL_clear 2 = .ok (.invokevirtual 40, 3) := by decide +kernel
theorem dL_clear_5 : decode cL_clear 5 = .ok (.ireturn, 1) := by decide +kernel
theorem dL_clear_6 : decode cL_clear 6 = .ok (.astore_n 2, 1) := by decide +kernel
theorem dL_clear_7 : decode cL_clear 7 = .ok (.bipush (-101), 2) := by decide +kernel
theorem dL_clear_9 : decode cL_clear 9 = .ok (.ireturn, 1) := by decide +kernel
theorem dL_clear_10 : decode cL_clear 10 = .ok (.astore_n 2, 1) := by decide +kernel
theorem dL_clear_11 : decode cL_clear 11 = .ok (.bipush (-103), 2) := by decide +kernel
theorem dL_clear_13 : decode cL_clear 13 = .ok (.ireturn, 1) := by decide +kernel
theorem dL_ticket_0 : decode cL_ticket 0 = .ok (.aload_n 0, 1) := by decide +kernel
theorem dL_ticket_1 : decode cL_ticket 1 = .ok (.iload_n 1, 1) := by decide +kernel
theorem dL_ticket_2 : decode cL_ticket 2 = .ok (.invokevirtual 43, 3) := by decide +kernel
theorem dL_ticket_5 : decode cL_ticket 5 = .ok (.ireturn, 1) := by decide +kernel
theorem dL_ticket_6 : decode cL_ticket 6 = .ok (.astore_n 2, 1) := by decide +kernel
theorem dL_ticket_7 : decode cL_ticket 7 = .ok (.bipush (-101), 2) := by decide +kernel
theorem dL_ticket_9 : decode cL_ticket 9 = .ok (.ireturn, 1) := by decide +kernel
theorem dL_plausible_0 : decode cL_plausible 0 = .ok (.aload_n 0, 1) := by decide +kernel
theorem dL_plausible_1 : decode cL_plausible 1 = .ok (.iload_n 1, 1) := by decide +kernel
theorem dL_plausible_2 : decode cL_plausible 2 = .ok (.invokevirtual 46, 3) := by decide +kernel
theorem dL_plausible_5 : decode cL_plausible 5 = .ok (.ifCond .eq 7, 3) := by decide +kernel
theorem dL_plausible_8 : decode cL_plausible 8 = .ok (.iconst 1, 1) := by decide +kernel
theorem dL_plausible_9 : decode cL_plausible 9 = .ok (.goto 4, 3) := by decide +kernel
theorem dL_plausible_12 : decode cL_plausible 12 = .ok (.iconst 0, 1) := by decide +kernel
theorem dL_plausible_13 : decode cL_plausible 13 = .ok (.ireturn, 1) := by decide +kernel
theorem dL_plausible_14 : decode cL_plausible 14 = .ok (.astore_n 2, 1) := by decide +kernel
theorem dL_plausible_15 : decode cL_plausible 15 = .ok (.bipush (-101), 2) := by decide +kernel
theorem dL_plausible_17 : decode cL_plausible 17 = .ok (.ireturn, 1) := by decide +kernel
theorem dL_cause_0 : decode cL_cause 0 = .ok (.aload_n 0, 1) := by decide +kernel
theorem dL_cause_1 : decode cL_cause 1 = .ok (.iload_n 1, 1) := by decide +kernel
theorem dL_cause_2 : decode cL_cause 2 = .ok (.invokevirtual 50, 3) := by decide +kernel
theorem dL_cause_5 : decode cL_cause 5 = .ok (.ireturn, 1) := by decide +kernel
theorem dL_cause_6 : decode cL_cause 6 = .ok (.astore_n 2, 1) := by decide +kernel
theorem dL_cause_7 : decode cL_cause 7 = .ok (.bipush (-101), 2) := by decide +kernel
theorem dL_cause_9 : decode cL_cause 9 = .ok (.ireturn, 1) := by decide +kernel
theorem dL_tried_0 : decode cL_tried 0 = .ok (.aload_n 0, 1) := by decide +kernel
theorem dL_tried_1 : decode cL_tried 1 = .ok (.iload_n 1, 1) := by decide +kernel
theorem dL_tried_2 : decode cL_tried 2 = .ok (.invokevirtual 53, 3) := by decide +kernel
theorem dL_tried_5 : decode cL_tried 5 = .ok (.ireturn, 1) := by decide +kernel
theorem dL_tried_6 : decode cL_tried 6 = .ok (.astore_n 2, 1) := by decide +kernel
theorem dL_tried_7 : decode cL_tried 7 = .ok (.bipush (-101), 2) := by decide +kernel
theorem dL_tried_9 : decode cL_tried 9 = .ok (.ireturn, 1) := by decide +kernel
theorem dL_greedy_0 : decode cL_greedy 0 = .ok (.aload_n 0, 1) := by decide +kernel
theorem dL_greedy_1 : decode cL_greedy 1 = .ok (.iload_n 1, 1) := by decide +kernel
theorem dL_greedy_2 : decode cL_greedy 2 = .ok (.invokevirtual 56, 3) := by decide +kernel
theorem dL_greedy_5 : decode cL_greedy 5 = .ok (.ireturn, 1) := by decide +kernel
theorem dL_greedy_6 : decode cL_greedy 6 = .ok (.astore_n 2, 1) := by decide +kernel
theorem dL_greedy_7 : decode cL_greedy 7 = .ok (.bipush (-101), 2) := by decide +kernel
theorem dL_greedy_9 : decode cL_greedy 9 = .ok (.ireturn, 1) := by decide +kernel
theorem dL_causeOf_0 : decode cL_causeOf 0 = .ok (.aload_n 0, 1) := by decide +kernel
theorem dL_causeOf_1 : decode cL_causeOf 1 = .ok (.iload_n 1, 1) := by decide +kernel
theorem dL_causeOf_2 : decode cL_causeOf 2 = .ok (.invokevirtual 59, 3) := by decide +kernel
theorem dL_causeOf_5 : decode cL_causeOf 5 = .ok (.ireturn, 1) := by decide +kernel
theorem dL_causeOf_6 : decode cL_causeOf 6 = .ok (.astore_n 2, 1) := by decide +kernel
theorem dL_causeOf_7 : decode cL_causeOf 7 = .ok (.bipush (-101), 2) := by decide +kernel
theorem dL_causeOf_9 : decode cL_causeOf 9 = .ok (.ireturn, 1) := by decide +kernel
theorem dL_hangs_0 : decode cL_hangs 0 = .ok (.iconst 1, 1) := by decide +kernel
theorem dL_hangs_1 : decode cL_hangs 1 = .ok (.istore_n 1, 1) := by decide +kernel
theorem dL_hangs_2 : decode cL_hangs 2 = .ok (.iconst 0, 1) := by decide +kernel
theorem dL_hangs_3 : decode cL_hangs 3 = .ok (.istore_n 2, 1) := by decide +kernel
theorem dL_hangs_4 : decode cL_hangs 4 = .ok (.iload_n 2, 1) := by decide +kernel
theorem dL_hangs_5 : decode cL_hangs 5 = .ok (.bipush 14, 2) := by decide +kernel
theorem dL_hangs_7 : decode cL_hangs 7 = .ok (.if_icmp .ge 191, 3) := by decide +kernel
theorem dL_hangs_10 : decode cL_hangs 10 = .ok (.iload_n 1, 1) := by decide +kernel
theorem dL_hangs_11 : decode cL_hangs 11 = .ok (.ifCond .eq 187, 3) := by decide +kernel
theorem dL_hangs_14 : decode cL_hangs 14 = .ok (.iconst 0, 1) := by decide +kernel
theorem dL_hangs_15 : decode cL_hangs 15 = .ok (.istore_n 3, 1) := by decide +kernel
theorem dL_hangs_16 : decode cL_hangs 16 = .ok (.iconst 0, 1) := by decide +kernel
theorem dL_hangs_17 : decode cL_hangs 17 = .ok (.istore 4, 2) := by decide +kernel
theorem dL_hangs_19 : decode cL_hangs 19 = .ok (.iload 4, 2) := by decide +kernel
theorem dL_hangs_21 : decode cL_hangs 21 = .ok (.bipush 14, 2) := by decide +kernel
theorem dL_hangs_23 : decode cL_hangs 23 = .ok (.if_icmp .ge 150, 3) := by decide +kernel
theorem dL_hangs_26 : decode cL_hangs 26 = .ok (.iload_n 1, 1) := by decide +kernel
theorem dL_hangs_27 : decode cL_hangs 27 = .ok (.ifCond .eq 146, 3) := by decide +kernel
theorem dL_hangs_30 : decode cL_hangs 30 = .ok (.aload_n 0, 1) := by decide +kernel
theorem dL_hangs_31 : decode cL_hangs 31 = .ok (.iload_n 2, 1) := by decide +kernel
theorem dL_hangs_32 : decode cL_hangs 32 = .ok (.iload 4, 2) := by decide +kernel
theorem dL_hangs_34 : decode cL_hangs 34 = .ok (.invokestatic 62, 3) := by decide +kernel
theorem dL_hangs_37 : decode cL_hangs 37 = .ok (.iconst 1, 1) := by decide +kernel
theorem dL_hangs_38 : decode cL_hangs 38 = .ok (.if_icmp .ne 7, 3) := by decide +kernel
theorem dL_hangs_41 : decode cL_hangs 41 = .ok (.iconst 1, 1) := by decide +kernel
theorem dL_hangs_42 : decode cL_hangs 42 = .ok (.goto 4, 3) := by decide +kernel
theorem dL_hangs_45 : decode cL_hangs 45 = .ok (.iconst 0, 1) := by decide +kernel
theorem dL_hangs_46 : decode cL_hangs 46 = .ok (.istore 5, 2) := by decide +kernel
theorem dL_hangs_48 : decode cL_hangs 48 = .ok (.iload 5, 2) := by decide +kernel
theorem dL_hangs_50 : decode cL_hangs 50 = .ok (.ifCond .eq 26, 3) := by decide +kernel
theorem dL_hangs_53 : decode cL_hangs 53 = .ok (.aload_n 0, 1) := by decide +kernel
theorem dL_hangs_54 : decode cL_hangs 54 = .ok (.iload 4, 2) := by decide +kernel
theorem dL_hangs_56 : decode cL_hangs 56 = .ok (.invokestatic 67, 3) := by decide +kernel
theorem dL_hangs_59 : decode cL_hangs 59 = .ok (.iconst 1, 1) := by decide +kernel
theorem dL_hangs_60 : decode cL_hangs 60 = .ok (.iadd, 1) := by decide +kernel
theorem dL_hangs_61 : decode cL_hangs 61 = .ok (.iload_n 3, 1) := by decide +kernel
theorem dL_hangs_62 : decode cL_hangs 62 = .ok (.if_icmp .le 14, 3) := by decide +kernel
theorem dL_hangs_65 : decode cL_hangs 65 = .ok (.aload_n 0, 1) := by decide +kernel
theorem dL_hangs_66 : decode cL_hangs 66 = .ok (.iload 4, 2) := by decide +kernel
theorem dL_hangs_68 : decode cL_hangs 68 = .ok (.invokestatic 67, 3) := by decide +kernel
theorem dL_hangs_71 : decode cL_hangs 71 = .ok (.iconst 1, 1) := by decide +kernel
theorem dL_hangs_72 : decode cL_hangs 72 = .ok (.iadd, 1) := by decide +kernel
theorem dL_hangs_73 : decode cL_hangs 73 = .ok (.goto 4, 3) := by decide +kernel
theorem dL_hangs_76 : decode cL_hangs 76 = .ok (.iload_n 3, 1) := by decide +kernel
theorem dL_hangs_77 : decode cL_hangs 77 = .ok (.istore_n 3, 1) := by decide +kernel
theorem dL_hangs_78 : decode cL_hangs 78 = .ok (.iconst 0, 1) := by decide +kernel
theorem dL_hangs_79 : decode cL_hangs 79 = .ok (.istore 6, 2) := by decide +kernel
theorem dL_hangs_81 : decode cL_hangs 81 = .ok (.iload 6, 2) := by decide +kernel
theorem dL_hangs_83 : decode cL_hangs 83 = .ok (.bipush 14, 2) := by decide +kernel
theorem dL_hangs_85 : decode cL_hangs 85 = .ok (.if_icmp .ge 44, 3) := by decide +kernel
theorem dL_hangs_88 : decode cL_hangs 88 = .ok (.iload 5, 2) := by decide +kernel
theorem dL_hangs_90 : decode cL_hangs 90 = .ok (.ifCond .ne 26, 3) := by decide +kernel
theorem dL_hangs_93 : decode cL_hangs 93 = .ok (.aload_n 0, 1) := by decide +kernel
theorem dL_hangs_94 : decode cL_hangs 94 = .ok (.iload_n 2, 1) := by decide +kernel
theorem dL_hangs_95 : decode cL_hangs 95 = .ok (.iload 6, 2) := by decide +kernel
theorem dL_hangs_97 : decode cL_hangs 97 = .ok (.invokestatic 62, 3) := by decide +kernel
theorem dL_hangs_100 : decode cL_hangs 100 = .ok (.iconst 1, 1) := by decide +kernel
theorem dL_hangs_101 : decode cL_hangs 101 = .ok (.if_icmp .ne 19, 3) := by decide +kernel
theorem dL_hangs_104 : decode cL_hangs 104 = .ok (.aload_n 0, 1) := by decide +kernel
theorem dL_hangs_105 : decode cL_hangs 105 = .ok (.iload 6, 2) := by decide +kernel
theorem dL_hangs_107 : decode cL_hangs 107 = .ok (.iload 4, 2) := by decide +kernel
theorem dL_hangs_109 : decode cL_hangs 109 = .ok (.invokestatic 70, 3) := by decide +kernel
theorem dL_hangs_112 : decode cL_hangs 112 = .ok (.iconst 1, 1) := by decide +kernel
theorem dL_hangs_113 : decode cL_hangs 113 = .ok (.if_icmp .ne 7, 3) := by decide +kernel
theorem dL_hangs_116 : decode cL_hangs 116 = .ok (.iconst 1, 1) := by decide +kernel
theorem dL_hangs_117 : decode cL_hangs 117 = .ok (.goto 4, 3) := by decide +kernel
theorem dL_hangs_120 : decode cL_hangs 120 = .ok (.iconst 0, 1) := by decide +kernel
theorem dL_hangs_121 : decode cL_hangs 121 = .ok (.istore 5, 2) := by decide +kernel
theorem dL_hangs_123 : decode cL_hangs 123 = .ok (.iinc 6 1, 3) := by decide +kernel
theorem dL_hangs_126 : decode cL_hangs 126 = .ok (.goto (-45), 3) := by decide +kernel
theorem dL_hangs_129 : decode cL_hangs 129 = .ok (.aload_n 0, 1) := by decide +kernel
theorem dL_hangs_130 : decode cL_hangs 130 = .ok (.iload_n 2, 1) := by decide +kernel
theorem dL_hangs_131 : decode cL_hangs 131 = .ok (.iload 4, 2) := by decide +kernel
theorem dL_hangs_133 : decode cL_hangs 133 = .ok (.invokestatic 70, 3) := by decide +kernel
theorem dL_hangs_136 : decode cL_hangs 136 = .ok (.iconst 1, 1) := by decide +kernel
theorem dL_hangs_137 : decode cL_hangs 137 = .ok (.if_icmp .ne 7, 3) := by decide +kernel
theorem dL_hangs_140 : decode cL_hangs 140 = .ok (.iconst 1, 1) := by decide +kernel
theorem dL_hangs_141 : decode cL_hangs 141 = .ok (.goto 4, 3) := by decide +kernel
theorem dL_hangs_144 : decode cL_hangs 144 = .ok (.iconst 0, 1) := by decide +kernel
theorem dL_hangs_145 : decode cL_hangs 145 = .ok (.iload 5, 2) := by decide +kernel
theorem dL_hangs_147 : decode cL_hangs 147 = .ok (.if_icmp .ne 18, 3) := by decide +kernel
theorem dL_hangs_150 : decode cL_hangs 150 = .ok (.iload_n 2, 1) := by decide +kernel
theorem dL_hangs_151 : decode cL_hangs 151 = .ok (.iload 4, 2) := by decide +kernel
theorem dL_hangs_153 : decode cL_hangs 153 = .ok (.if_icmp .ne 8, 3) := by decide +kernel
theorem dL_hangs_156 : decode cL_hangs 156 = .ok (.iload 5, 2) := by decide +kernel
theorem dL_hangs_158 : decode cL_hangs 158 = .ok (.ifCond .ne 7, 3) := by decide +kernel
theorem dL_hangs_161 : decode cL_hangs 161 = .ok (.iconst 1, 1) := by decide +kernel
theorem dL_hangs_162 : decode cL_hangs 162 = .ok (.goto 4, 3) := by decide +kernel
theorem dL_hangs_165 : decode cL_hangs 165 = .ok (.iconst 0, 1) := by decide +kernel
theorem dL_hangs_166 : decode cL_hangs 166 = .ok (.istore_n 1, 1) := by decide +kernel
theorem dL_hangs_167 : decode cL_hangs 167 = .ok (.iinc 4 1, 3) := by decide +kernel
theorem dL_hangs_170 : decode cL_hangs 170 = .ok (.goto (-151), 3) := by decide +kernel
theorem dL_hangs_173 : decode cL_hangs 173 = .ok (.iload_n 1, 1) := by decide +kernel
theorem dL_hangs_174 : decode cL_hangs 174 = .ok (.ifCond .eq 16, 3) := by decide +kernel
theorem dL_hangs_177 : decode cL_hangs 177 = .ok (.aload_n 0, 1) := by decide +kernel
theorem dL_hangs_178 : decode cL_hangs 178 = .ok (.iload_n 2, 1) := by decide +kernel
theorem dL_hangs_179 : decode cL_hangs 179 = .ok (.invokestatic 67, 3) := by decide +kernel
theorem dL_hangs_182 : decode cL_hangs 182 = .ok (.iload_n 3, 1) := by decide +kernel
theorem dL_hangs_183 : decode cL_hangs 183 = .ok (.if_icmp .ne 7, 3) := by decide +kernel
theorem dL_hangs_186 : decode cL_hangs 186 = .ok (.iconst 1, 1) := by decide +kernel
theorem dL_hangs_187 : decode cL_hangs 187 = .ok (.goto 4, 3) := by decide +kernel
theorem dL_hangs_190 : decode cL_hangs 190 = .ok (.iconst 0, 1) := by decide +kernel
theorem dL_hangs_191 : decode cL_hangs 191 = .ok (.istore_n 1, 1) := by decide +kernel
theorem dL_hangs_192 : decode cL_hangs 192 = .ok (.iinc 2 1, 3) := by decide +kernel
theorem dL_hangs_195 : decode cL_hangs 195 = .ok (.goto (-191), 3) := by decide +kernel
theorem dL_hangs_198 : decode cL_hangs 198 = .ok (.iload_n 1, 1) := by decide +kernel
theorem dL_hangs_199 : decode cL_hangs 199 = .ok (.ireturn, 1) := by decide +kernel
theorem dL_size_0 : decode cL_size 0 = .ok (.iconst 0, 1) := by decide +kernel
theorem dL_size_1 : decode cL_size 1 = .ok (.istore_n 1, 1) := by decide +kernel
theorem dL_size_2 : decode cL_size 2 = .ok (.iconst 0, 1) := by decide +kernel
theorem dL_size_3 : decode cL_size 3 = .ok (.istore_n 2, 1) := by decide +kernel
theorem dL_size_4 : decode cL_size 4 = .ok (.iload_n 2, 1) := by decide +kernel
theorem dL_size_5 : decode cL_size 5 = .ok (.bipush 14, 2) := by decide +kernel
theorem dL_size_7 : decode cL_size 7 = .ok (.if_icmp .ge 17, 3) := by decide +kernel
theorem dL_size_10 : decode cL_size 10 = .ok (.iload_n 1, 1) := by decide +kernel
theorem dL_size_11 : decode cL_size 11 = .ok (.iload_n 0, 1) := by decide +kernel
theorem dL_size_12 : decode cL_size 12 = .ok (.iload_n 2, 1) := by decide +kernel
theorem dL_size_13 : decode cL_size 13 = .ok (.ishr, 1) := by decide +kernel
theorem dL_size_14 : decode cL_size 14 = .ok (.iconst 1, 1) := by decide +kernel
theorem dL_size_15 : decode cL_size 15 = .ok (.iand, 1) := by decide +kernel
theorem dL_size_16 : decode cL_size 16 = .ok (.iadd, 1) := by decide +kernel
theorem dL_size_17 : decode cL_size 17 = .ok (.istore_n 1, 1) := by decide +kernel
theorem dL_size_18 : decode cL_size 18 = .ok (.iinc 2 1, 3) := by decide +kernel
theorem dL_size_21 : decode cL_size 21 = .ok (.goto (-17), 3) := by decide +kernel
theorem dL_size_24 : decode cL_size 24 = .ok (.iload_n 1, 1) := by decide +kernel
theorem dL_size_25 : decode cL_size 25 = .ok (.ireturn, 1) := by decide +kernel
theorem dL_all_0 : decode cL_all 0 = .ok (.iconst 0, 1) := by decide +kernel
theorem dL_all_1 : decode cL_all 1 = .ok (.istore_n 2, 1) := by decide +kernel
theorem dL_all_2 : decode cL_all 2 = .ok (.iconst 0, 1) := by decide +kernel
theorem dL_all_3 : decode cL_all 3 = .ok (.istore_n 3, 1) := by decide +kernel
theorem dL_all_4 : decode cL_all 4 = .ok (.iload_n 3, 1) := by decide +kernel
theorem dL_all_5 : decode cL_all 5 = .ok (.bipush 14, 2) := by decide +kernel
theorem dL_all_7 : decode cL_all 7 = .ok (.if_icmp .ge 28, 3) := by decide +kernel
theorem dL_all_10 : decode cL_all 10 = .ok (.iload_n 2, 1) := by decide +kernel
theorem dL_all_11 : decode cL_all 11 = .ok (.iload_n 1, 1) := by decide +kernel
theorem dL_all_12 : decode cL_all 12 = .ok (.iload_n 3, 1) := by decide +kernel
theorem dL_all_13 : decode cL_all 13 = .ok (.ishr, 1) := by decide +kernel
theorem dL_all_14 : decode cL_all 14 = .ok (.iconst 1, 1) := by decide +kernel
theorem dL_all_15 : decode cL_all 15 = .ok (.iand, 1) := by decide +kernel
theorem dL_all_16 : decode cL_all 16 = .ok (.iconst 1, 1) := by decide +kernel
theorem dL_all_17 : decode cL_all 17 = .ok (.if_icmp .ne 9, 3) := by decide +kernel
theorem dL_all_20 : decode cL_all 20 = .ok (.aload_n 0, 1) := by decide +kernel
theorem dL_all_21 : decode cL_all 21 = .ok (.iload_n 3, 1) := by decide +kernel
theorem dL_all_22 : decode cL_all 22 = .ok (.iaload, 1) := by decide +kernel
theorem dL_all_23 : decode cL_all 23 = .ok (.goto 4, 3) := by decide +kernel
theorem dL_all_26 : decode cL_all 26 = .ok (.iconst 0, 1) := by decide +kernel
theorem dL_all_27 : decode cL_all 27 = .ok (.ior, 1) := by decide +kernel
theorem dL_all_28 : decode cL_all 28 = .ok (.istore_n 2, 1) := by decide +kernel
theorem dL_all_29 : decode cL_all 29 = .ok (.iinc 3 1, 3) := by decide +kernel
theorem dL_all_32 : decode cL_all 32 = .ok (.goto (-28), 3) := by decide +kernel
theorem dL_all_35 : decode cL_all 35 = .ok (.iload_n 2, 1) := by decide +kernel
theorem dL_all_36 : decode cL_all 36 = .ok (.ireturn, 1) := by decide +kernel
theorem dL_isBest_0 : decode cL_isBest 0 = .ok (.iload_n 3, 1) := by decide +kernel
theorem dL_isBest_1 : decode cL_isBest 1 = .ok (.iload_n 1, 1) := by decide +kernel
theorem dL_isBest_2 : decode cL_isBest 2 = .ok (.iconst (-1), 1) := by decide +kernel
theorem dL_isBest_3 : decode cL_isBest 3 = .ok (.ixor, 1) := by decide +kernel
theorem dL_isBest_4 : decode cL_isBest 4 = .ok (.iand, 1) := by decide +kernel
theorem dL_isBest_5 : decode cL_isBest 5 = .ok (.ifCond .ne 18, 3) := by decide +kernel
theorem dL_isBest_8 : decode cL_isBest 8 = .ok (.aload_n 0, 1) := by decide +kernel
theorem dL_isBest_9 : decode cL_isBest 9 = .ok (.iload_n 3, 1) := by decide +kernel
theorem dL_isBest_10 : decode cL_isBest 10 = .ok (.invokestatic 73, 3) := by decide +kernel
theorem dL_isBest_13 : decode cL_isBest 13 = .ok (.iload_n 2, 1) := by decide +kernel
theorem dL_isBest_14 : decode cL_isBest 14 = .ok (.iand, 1) := by decide +kernel
theorem dL_isBest_15 : decode cL_isBest 15 = .ok (.iload_n 2, 1) := by decide +kernel
theorem dL_isBest_16 : decode cL_isBest 16 = .ok (.if_icmp .ne 7, 3) := by decide +kernel
theorem dL_isBest_19 : decode cL_isBest 19 = .ok (.iconst 1, 1) := by decide +kernel
theorem dL_isBest_20 : decode cL_isBest 20 = .ok (.goto 4, 3) := by decide +kernel
theorem dL_isBest_23 : decode cL_isBest 23 = .ok (.iconst 0, 1) := by decide +kernel
theorem dL_isBest_24 : decode cL_isBest 24 = .ok (.istore 4, 2) := by decide +kernel
theorem dL_isBest_26 : decode cL_isBest 26 = .ok (.iconst 0, 1) := by decide +kernel
theorem dL_isBest_27 : decode cL_isBest 27 = .ok (.istore 5, 2) := by decide +kernel
theorem dL_isBest_29 : decode cL_isBest 29 = .ok (.iload 5, 2) := by decide +kernel
theorem dL_isBest_31 : decode cL_isBest 31 = .ok (.sipush 16384, 3) := by decide +kernel
theorem dL_isBest_34 : decode cL_isBest 34 = .ok (.if_icmp .ge 156, 3) := by decide +kernel
theorem dL_isBest_37 : decode cL_isBest 37 = .ok (.iload 4, 2) := by decide +kernel
theorem dL_isBest_39 : decode cL_isBest 39 = .ok (.ifCond .eq 151, 3) := by decide +kernel
theorem dL_isBest_42 : decode cL_isBest 42 = .ok (.iload 5, 2) := by decide +kernel
theorem dL_isBest_44 : decode cL_isBest 44 = .ok (.iload_n 1, 1) := by decide +kernel
theorem dL_isBest_45 : decode cL_isBest 45 = .ok (.iconst (-1), 1) := by decide +kernel
theorem dL_isBest_46 : decode cL_isBest 46 = .ok (.ixor, 1) := by decide +kernel
theorem dL_isBest_47 : decode cL_isBest 47 = .ok (.iand, 1) := by decide +kernel
theorem dL_isBest_48 : decode cL_isBest 48 = .ok (.ifCond .ne 136, 3) := by decide +kernel
theorem dL_isBest_51 : decode cL_isBest 51 = .ok (.iload 5, 2) := by decide +kernel
theorem dL_isBest_53 : decode cL_isBest 53 = .ok (.invokestatic 77, 3) := by decide +kernel
theorem dL_isBest_56 : decode cL_isBest 56 = .ok (.iload_n 3, 1) := by decide +kernel
theorem dL_isBest_57 : decode cL_isBest 57 = .ok (.invokestatic 77, 3) := by decide +kernel
theorem dL_isBest_60 : decode cL_isBest 60 = .ok (.if_icmp .gt 124, 3) := by decide +kernel
theorem dL_isBest_63 : decode cL_isBest 63 = .ok (.aload_n 0, 1) := by decide +kernel
theorem dL_isBest_64 : decode cL_isBest 64 = .ok (.iload 5, 2) := by decide +kernel
theorem dL_isBest_66 : decode cL_isBest 66 = .ok (.invokestatic 73, 3) := by decide +kernel
theorem dL_isBest_69 : decode cL_isBest 69 = .ok (.iload_n 2, 1) := by decide +kernel
theorem dL_isBest_70 : decode cL_isBest 70 = .ok (.iand, 1) := by decide +kernel
theorem dL_isBest_71 : decode cL_isBest 71 = .ok (.iload_n 2, 1) := by decide +kernel
theorem dL_isBest_72 : decode cL_isBest 72 = .ok (.if_icmp .ne 112, 3) := by decide +kernel
theorem dL_isBest_75 : decode cL_isBest 75 = .ok (.iload 5, 2) := by decide +kernel
theorem dL_isBest_77 : decode cL_isBest 77 = .ok (.iload_n 2, 1) := by decide +kernel
theorem dL_isBest_78 : decode cL_isBest 78 = .ok (.iand, 1) := by decide +kernel
theorem dL_isBest_79 : decode cL_isBest 79 = .ok (.invokestatic 77, 3) := by decide +kernel
theorem dL_isBest_82 : decode cL_isBest 82 = .ok (.istore 6, 2) := by decide +kernel
theorem dL_isBest_84 : decode cL_isBest 84 = .ok (.iload_n 3, 1) := by decide +kernel
theorem dL_isBest_85 : decode cL_isBest 85 = .ok (.iload_n 2, 1) := by decide +kernel
theorem dL_isBest_86 : decode cL_isBest 86 = .ok (.iand, 1) := by decide +kernel
theorem dL_isBest_87 : decode cL_isBest 87 = .ok (.invokestatic 77, 3) := by decide +kernel
theorem dL_isBest_90 : decode cL_isBest 90 = .ok (.istore 7, 2) := by decide +kernel
theorem dL_isBest_92 : decode cL_isBest 92 = .ok (.iconst 0, 1) := by decide +kernel
theorem dL_isBest_93 : decode cL_isBest 93 = .ok (.istore 8, 2) := by decide +kernel
theorem dL_isBest_95 : decode cL_isBest 95 = .ok (.bipush 13, 2) := by decide +kernel
theorem dL_isBest_97 : decode cL_isBest 97 = .ok (.istore 9, 2) := by decide +kernel
theorem dL_isBest_99 : decode cL_isBest 99 = .ok (.iload 9, 2) := by decide +kernel
theorem dL_isBest_101 : decode cL_isBest 101 = .ok (.ifCond .lt 34, 3) := by decide +kernel
theorem dL_isBest_104 : decode cL_isBest 104 = .ok (.iload 5, 2) := by decide +kernel
theorem dL_isBest_106 : decode cL_isBest 106 = .ok (.iload 9, 2) := by decide +kernel
theorem dL_isBest_108 : decode cL_isBest 108 = .ok (.ishr, 1) := by decide +kernel
theorem dL_isBest_109 : decode cL_isBest 109 = .ok (.iconst 1, 1) := by decide +kernel
theorem dL_isBest_110 : decode cL_isBest 110 = .ok (.iand, 1) := by decide +kernel
theorem dL_isBest_111 : decode cL_isBest 111 = .ok (.iload_n 3, 1) := by decide +kernel
theorem dL_isBest_112 : decode cL_isBest 112 = .ok (.iload 9, 2) := by decide +kernel
theorem dL_isBest_114 : decode cL_isBest 114 = .ok (.ishr, 1) := by decide +kernel
theorem dL_isBest_115 : decode cL_isBest 115 = .ok (.iconst 1, 1) := by decide +kernel
theorem dL_isBest_116 : decode cL_isBest 116 = .ok (.iand, 1) := by decide +kernel
theorem dL_isBest_117 : decode cL_isBest 117 = .ok (.if_icmp .eq 8, 3) := by decide +kernel
theorem dL_isBest_120 : decode cL_isBest 120 = .ok (.iload 9, 2) := by decide +kernel
theorem dL_isBest_122 : decode cL_isBest 122 = .ok (.goto 5, 3) := by decide +kernel
theorem dL_isBest_125 : decode cL_isBest 125 = .ok (.iload 8, 2) := by decide +kernel
theorem dL_isBest_127 : decode cL_isBest 127 = .ok (.istore 8, 2) := by decide +kernel
theorem dL_isBest_129 : decode cL_isBest 129 = .ok (.iinc 9 (-1), 3) := by decide +kernel
theorem dL_isBest_132 : decode cL_isBest 132 = .ok (.goto (-33), 3) := by decide +kernel
theorem dL_isBest_135 : decode cL_isBest 135 = .ok (.iload 5, 2) := by decide +kernel
theorem dL_isBest_137 : decode cL_isBest 137 = .ok (.invokestatic 77, 3) := by decide +kernel
theorem dL_isBest_140 : decode cL_isBest 140 = .ok (.iload_n 3, 1) := by decide +kernel
theorem dL_isBest_141 : decode cL_isBest 141 = .ok (.invokestatic 77, 3) := by decide +kernel
theorem dL_isBest_144 : decode cL_isBest 144 = .ok (.if_icmp .ne 37, 3) := by decide +kernel
theorem dL_isBest_147 : decode cL_isBest 147 = .ok (.iload 6, 2) := by decide +kernel
theorem dL_isBest_149 : decode cL_isBest 149 = .ok (.iload 7, 2) := by decide +kernel
theorem dL_isBest_151 : decode cL_isBest 151 = .ok (.if_icmp .lt 26, 3) := by decide +kernel
theorem dL_isBest_154 : decode cL_isBest 154 = .ok (.iload 6, 2) := by decide +kernel
theorem dL_isBest_156 : decode cL_isBest 156 = .ok (.iload 7, 2) := by decide +kernel
theorem dL_isBest_158 : decode cL_isBest 158 = .ok (.if_icmp .ne 23, 3) := by decide +kernel
theorem dL_isBest_161 : decode cL_isBest 161 = .ok (.iload 5, 2) := by decide +kernel
theorem dL_isBest_163 : decode cL_isBest 163 = .ok (.iload_n 3, 1) := by decide +kernel
theorem dL_isBest_164 : decode cL_isBest 164 = .ok (.if_icmp .eq 13, 3) := by decide +kernel
theorem dL_isBest_167 : decode cL_isBest 167 = .ok (.iload_n 3, 1) := by decide +kernel
theorem dL_isBest_168 : decode cL_isBest 168 = .ok (.iload 8, 2) := by decide +kernel
theorem dL_isBest_170 : decode cL_isBest 170 = .ok (.ishr, 1) := by decide +kernel
theorem dL_isBest_171 : decode cL_isBest 171 = .ok (.iconst 1, 1) := by decide +kernel
theorem dL_isBest_172 : decode cL_isBest 172 = .ok (.iand, 1) := by decide +kernel
theorem dL_isBest_173 : decode cL_isBest 173 = .ok (.iconst 1, 1) := by decide +kernel
theorem dL_isBest_174 : decode cL_isBest 174 = .ok (.if_icmp .ne 7, 3) := by decide +kernel
theorem dL_isBest_177 : decode cL_isBest 177 = .ok (.iconst 1, 1) := by decide +kernel
theorem dL_isBest_178 : decode cL_isBest 178 = .ok (.goto 4, 3) := by decide +kernel
theorem dL_isBest_181 : decode cL_isBest 181 = .ok (.iconst 0, 1) := by decide +kernel
theorem dL_isBest_182 : decode cL_isBest 182 = .ok (.istore 4, 2) := by decide +kernel
theorem dL_isBest_184 : decode cL_isBest 184 = .ok (.iinc 5 1, 3) := by decide +kernel
theorem dL_isBest_187 : decode cL_isBest 187 = .ok (.goto (-158), 3) := by decide +kernel
theorem dL_isBest_190 : decode cL_isBest 190 = .ok (.iload 4, 2) := by decide +kernel
theorem dL_isBest_192 : decode cL_isBest 192 = .ok (.ireturn, 1) := by decide +kernel
theorem dL_causes_0 : decode cL_causes 0 = .ok (.bipush 14, 2) := by decide +kernel
theorem dL_causes_2 : decode cL_causes 2 = .ok (.newarray .int, 2) := by decide +kernel
theorem dL_causes_4 : decode cL_causes 4 = .ok (.astore_n 1, 1) := by decide +kernel
theorem dL_causes_5 : decode cL_causes 5 = .ok (.iconst 0, 1) := by decide +kernel
theorem dL_causes_6 : decode cL_causes 6 = .ok (.istore_n 2, 1) := by decide +kernel
theorem dL_causes_7 : decode cL_causes 7 = .ok (.iconst 0, 1) := by decide +kernel
theorem dL_causes_8 : decode cL_causes 8 = .ok (.istore_n 3, 1) := by decide +kernel
theorem dL_causes_9 : decode cL_causes 9 = .ok (.iconst 1, 1) := by decide +kernel
theorem dL_causes_10 : decode cL_causes 10 = .ok (.istore 4, 2) := by decide +kernel
theorem dL_causes_12 : decode cL_causes 12 = .ok (.iconst 0, 1) := by decide +kernel
theorem dL_causes_13 : decode cL_causes 13 = .ok (.istore 5, 2) := by decide +kernel
theorem dL_causes_15 : decode cL_causes 15 = .ok (.iload 5, 2) := by decide +kernel
theorem dL_causes_17 : decode cL_causes 17 = .ok (.bipush 14, 2) := by decide +kernel
theorem dL_causes_19 : decode cL_causes 19 = .ok (.if_icmp .ge 85, 3) := by decide +kernel
theorem dL_causes_22 : decode cL_causes 22 = .ok (.iload 4, 2) := by decide +kernel
theorem dL_causes_24 : decode cL_causes 24 = .ok (.ifCond .eq 80, 3) := by decide +kernel
theorem dL_causes_27 : decode cL_causes 27 = .ok (.iload_n 3, 1) := by decide +kernel
theorem dL_causes_28 : decode cL_causes 28 = .ok (.aload_n 0, 1) := by decide +kernel
theorem dL_causes_29 : decode cL_causes 29 = .ok (.iload 5, 2) := by decide +kernel
theorem dL_causes_31 : decode cL_causes 31 = .ok (.invokestatic 80, 3) := by decide +kernel
theorem dL_causes_34 : decode cL_causes 34 = .ok (.ifCond .le 10, 3) := by decide +kernel
theorem dL_causes_37 : decode cL_causes 37 = .ok (.iconst 1, 1) := by decide +kernel
theorem dL_causes_38 : decode cL_causes 38 = .ok (.iload 5, 2) := by decide +kernel
theorem dL_causes_40 : decode cL_causes 40 = .ok (.ishl, 1) := by decide +kernel
theorem dL_causes_41 : decode cL_causes 41 = .ok (.goto 4, 3) := by decide +kernel
theorem dL_causes_44 : decode cL_causes 44 = .ok (.iconst 0, 1) := by decide +kernel
theorem dL_causes_45 : decode cL_causes 45 = .ok (.ior, 1) := by decide +kernel
theorem dL_causes_46 : decode cL_causes 46 = .ok (.istore_n 3, 1) := by decide +kernel
theorem dL_causes_47 : decode cL_causes 47 = .ok (.aload_n 1, 1) := by decide +kernel
theorem dL_causes_48 : decode cL_causes 48 = .ok (.iload 5, 2) := by decide +kernel
theorem dL_causes_50 : decode cL_causes 50 = .ok (.iconst 1, 1) := by decide +kernel
theorem dL_causes_51 : decode cL_causes 51 = .ok (.iload 5, 2) := by decide +kernel
theorem dL_causes_53 : decode cL_causes 53 = .ok (.ishl, 1) := by decide +kernel
theorem dL_causes_54 : decode cL_causes 54 = .ok (.iastore, 1) := by decide +kernel
theorem dL_causes_55 : decode cL_causes 55 = .ok (.iconst 0, 1) := by decide +kernel
theorem dL_causes_56 : decode cL_causes 56 = .ok (.istore 6, 2) := by decide +kernel
theorem dL_causes_58 : decode cL_causes 58 = .ok (.iload 6, 2) := by decide +kernel
theorem dL_causes_60 : decode cL_causes 60 = .ok (.bipush 14, 2) := by decide +kernel
theorem dL_causes_62 : decode cL_causes 62 = .ok (.if_icmp .ge 36, 3) := by decide +kernel
theorem dL_causes_65 : decode cL_causes 65 = .ok (.aload_n 1, 1) := by decide +kernel
theorem dL_causes_66 : decode cL_causes 66 = .ok (.iload 5, 2) := by decide +kernel
theorem dL_causes_68 : decode cL_causes 68 = .ok (.dup2, 1) := by decide +kernel
theorem dL_causes_69 : decode cL_causes 69 = .ok (.iaload, 1) := by decide +kernel
theorem dL_causes_70 : decode cL_causes 70 = .ok (.aload_n 0, 1) := by decide +kernel
theorem dL_causes_71 : decode cL_causes 71 = .ok (.iload 6, 2) := by decide +kernel
theorem dL_causes_73 : decode cL_causes 73 = .ok (.iload 5, 2) := by decide +kernel
theorem dL_causes_75 : decode cL_causes 75 = .ok (.invokestatic 70, 3) := by decide +kernel
theorem dL_causes_78 : decode cL_causes 78 = .ok (.iconst 1, 1) := by decide +kernel
theorem dL_causes_79 : decode cL_causes 79 = .ok (.if_icmp .ne 10, 3) := by decide +kernel
theorem dL_causes_82 : decode cL_causes 82 = .ok (.iconst 1, 1) := by decide +kernel
theorem dL_causes_83 : decode cL_causes 83 = .ok (.iload 6, 2) := by decide +kernel
theorem dL_causes_85 : decode cL_causes 85 = .ok (.ishl, 1) := by decide +kernel
theorem dL_causes_86 : decode cL_causes 86 = .ok (.goto 4, 3) := by decide +kernel
theorem dL_causes_89 : decode cL_causes 89 = .ok (.iconst 0, 1) := by decide +kernel
theorem dL_causes_90 : decode cL_causes 90 = .ok (.ior, 1) := by decide +kernel
theorem dL_causes_91 : decode cL_causes 91 = .ok (.iastore, 1) := by decide +kernel
theorem dL_causes_92 : decode cL_causes 92 = .ok (.iinc 6 1, 3) := by decide +kernel
theorem dL_causes_95 : decode cL_causes 95 = .ok (.goto (-37), 3) := by decide +kernel
theorem dL_causes_98 : decode cL_causes 98 = .ok (.iinc 5 1, 3) := by decide +kernel
theorem dL_causes_101 : decode cL_causes 101 = .ok (.goto (-86), 3) := by decide +kernel
theorem dL_causes_104 : decode cL_causes 104 = .ok (.iconst 0, 1) := by decide +kernel
