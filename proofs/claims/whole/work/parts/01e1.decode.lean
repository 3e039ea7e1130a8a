theorem dX4_dependsOn_0 : decode cX4_dependsOn 0 = .ok (.iload_n 1, 1) := by decide +kernel
theorem dX4_dependsOn_1 : decode cX4_dependsOn 1 = .ok (.invokestatic 37, 3) := by decide +kernel
theorem dX4_dependsOn_4 : decode cX4_dependsOn 4 = .ok (.iload_n 2, 1) := by decide +kernel
theorem dX4_dependsOn_5 : decode cX4_dependsOn 5 = .ok (.invokestatic 37, 3) := by decide +kernel
theorem dX4_dependsOn_8 : decode cX4_dependsOn 8 = .ok (.aload_n 0, 1) := by decide +kernel
theorem dX4_dependsOn_9 : decode cX4_dependsOn 9 = .ok (.getfield 10, 3) := by decide +kernel
theorem dX4_dependsOn_12 : decode cX4_dependsOn 12 = .ok (.iload_n 1, 1) := by decide +kernel
theorem dX4_dependsOn_13 : decode cX4_dependsOn 13 = .ok (.invokevirtual 41, 3) := by decide +kernel
theorem dX4_dependsOn_16 : decode cX4_dependsOn 16 = .ok (.iload_n 2, 1) := by decide +kernel
theorem dX4_dependsOn_17 : decode cX4_dependsOn 17 = .ok (.invokestatic 45, 3) := by decide +kernel
theorem dX4_dependsOn_20 : decode cX4_dependsOn 20 = .ok (.ireturn, 1) := by decide +kernel
theorem dX4_height_0 : decode cX4_height 0 = .ok (.iload_n 1, 1) := by decide +kernel
theorem dX4_height_1 : decode cX4_height 1 = .ok (.invokestatic 37, 3) := by decide +kernel
theorem dX4_height_4 : decode cX4_height 4 = .ok (.aload_n 0, 1) := by decide +kernel
theorem dX4_height_5 : decode cX4_height 5 = .ok (.getfield 10, 3) := by decide +kernel
theorem dX4_height_8 : decode cX4_height 8 = .ok (.iload_n 1, 1) := by decide +kernel
theorem dX4_height_9 : decode cX4_height 9 = .ok (.invokevirtual 65, 3) := by decide +kernel
theorem dX4_height_12 : decode cX4_height 12 = .ok (.ireturn, 1) := by decide +kernel
theorem dX4_tick_0 : decode cX4_tick 0 = .ok (.iload_n 1, 1) := by decide +kernel
theorem dX4_tick_1 : decode cX4_tick 1 = .ok (.bipush 100, 2) := by decide +kernel
theorem dX4_tick_3 : decode cX4_tick 3 = .ok (.invokestatic 68, 3) := by decide +kernel
theorem dX4_tick_6 : decode cX4_tick 6 = .ok (.aload_n 0, 1) := by decide +kernel
theorem dX4_tick_7 : decode cX4_tick 7 = .ok (.dup, 1) := by decide +kernel
theorem dX4_tick_8 : decode cX4_tick 8 = .ok (.getfield 34, 3) := by decide +kernel
theorem dX4_tick_11 : decode cX4_tick 11 = .ok (.iload_n 1, 1) := by decide +kernel
theorem dX4_tick_12 : decode cX4_tick 12 = .ok (.iadd, 1) := by decide +kernel
theorem dX4_tick_13 : decode cX4_tick 13 = .ok (.putfield 34, 3) := by decide +kernel
theorem dX4_tick_16 : decode cX4_tick 16 = .ok (.aload_n 0, 1) := by decide +kernel
theorem dX4_tick_17 : decode cX4_tick 17 = .ok (.getfield 34, 3) := by decide +kernel
theorem dX4_tick_20 : decode cX4_tick 20 = .ok (.ireturn, 1) := by decide +kernel
theorem dX4_now_0 : decode cX4_now 0 = .ok (.aload_n 0, 1) := by decide +kernel
theorem dX4_now_1 : decode cX4_now 1 = .ok (.getfield 34, 3) := by decide +kernel
theorem dX4_now_4 : decode cX4_now 4 = .ok (.ireturn, 1) := by decide +kernel
theorem dX4_raise_0 : decode cX4_raise 0 = .ok (.iload_n 1, 1) := by decide +kernel
theorem dX4_raise_1 : decode cX4_raise 1 = .ok (.invokestatic 37, 3) := by decide +kernel
theorem dX4_raise_4 : decode cX4_raise 4 = .ok (.aload_n 0, 1) := by decide +kernel
theorem dX4_raise_5 : decode cX4_raise 5 = .ok (.aload_n 0, 1) := by decide +kernel
theorem dX4_raise_6 : decode cX4_raise 6 = .ok (.getfield 30, 3) := by decide +kernel
theorem dX4_raise_9 : decode cX4_raise 9 = .ok (.iload_n 1, 1) := by decide +kernel
theorem dX4_raise_10 : decode cX4_raise 10 = .ok (.invokestatic 45, 3) := by decide +kernel
theorem dX4_raise_13 : decode cX4_raise 13 = .ok (.ifCond .ne 7, 3) := by decide +kernel
theorem dX4_raise_16 : decode cX4_raise 16 = .ok (.iconst 1, 1) := by decide +kernel
theorem dX4_raise_17 : decode cX4_raise 17 = .ok (.goto 4, 3) := by decide +kernel
theorem dX4_raise_20 : decode cX4_raise 20 = .ok (.iconst 0, 1) := by decide +kernel
theorem dX4_raise_21 : decode cX4_raise 21 = .ok (.invokevirtual 72, 3) := by decide +kernel
theorem dX4_raise_24 : decode cX4_raise 24 = .ok (.aload_n 0, 1) := by decide +kernel
theorem dX4_raise_25 : decode cX4_raise 25 = .ok (.getfield 19, 3) := by decide +kernel
theorem dX4_raise_28 : decode cX4_raise 28 = .ok (.iload_n 1, 1) := by decide +kernel
theorem dX4_raise_29 : decode cX4_raise 29 = .ok (.aload_n 0, 1) := by decide +kernel
theorem dX4_raise_30 : decode cX4_raise 30 = .ok (.getfield 34, 3) := by decide +kernel
theorem dX4_raise_33 : decode cX4_raise 33 = .ok (.invokevirtual 76, 3) := by decide +kernel
theorem dX4_raise_36 : decode cX4_raise 36 = .ok (.aload_n 0, 1) := by decide +kernel
theorem dX4_raise_37 : decode cX4_raise 37 = .ok (.getfield 10, 3) := by decide +kernel
theorem dX4_raise_40 : decode cX4_raise 40 = .ok (.iload_n 1, 1) := by decide +kernel
theorem dX4_raise_41 : decode cX4_raise 41 = .ok (.invokevirtual 41, 3) := by decide +kernel
theorem dX4_raise_44 : decode cX4_raise 44 = .ok (.aload_n 0, 1) := by decide +kernel
theorem dX4_raise_45 : decode cX4_raise 45 = .ok (.getfield 10, 3) := by decide +kernel
theorem dX4_raise_48 : decode cX4_raise 48 = .ok (.iload_n 1, 1) := by decide +kernel
theorem dX4_raise_49 : decode cX4_raise 49 = .ok (.invokevirtual 79, 3) := by decide +kernel
theorem dX4_raise_52 : decode cX4_raise 52 = .ok (.ior, 1) := by decide +kernel
theorem dX4_raise_53 : decode cX4_raise 53 = .ok (.aload_n 0, 1) := by decide +kernel
theorem dX4_raise_54 : decode cX4_raise 54 = .ok (.getfield 30, 3) := by decide +kernel
theorem dX4_raise_57 : decode cX4_raise 57 = .ok (.iand, 1) := by decide +kernel
theorem dX4_raise_58 : decode cX4_raise 58 = .ok (.istore_n 2, 1) := by decide +kernel
theorem dX4_raise_59 : decode cX4_raise 59 = .ok (.aload_n 0, 1) := by decide +kernel
theorem dX4_raise_60 : decode cX4_raise 60 = .ok (.dup, 1) := by decide +kernel
theorem dX4_raise_61 : decode cX4_raise 61 = .ok (.getfield 30, 3) := by decide +kernel
theorem dX4_raise_64 : decode cX4_raise 64 = .ok (.iload_n 1, 1) := by decide +kernel
theorem dX4_raise_65 : decode cX4_raise 65 = .ok (.invokestatic 82, 3) := by decide +kernel
theorem dX4_raise_68 : decode cX4_raise 68 = .ok (.ior, 1) := by decide +kernel
theorem dX4_raise_69 : decode cX4_raise 69 = .ok (.putfield 30, 3) := by decide +kernel
theorem dX4_raise_72 : decode cX4_raise 72 = .ok (.aload_n 0, 1) := by decide +kernel
theorem dX4_raise_73 : decode cX4_raise 73 = .ok (.getfield 26, 3) := by decide +kernel
theorem dX4_raise_76 : decode cX4_raise 76 = .ok (.iload_n 1, 1) := by decide +kernel
theorem dX4_raise_77 : decode cX4_raise 77 = .ok (.iload_n 2, 1) := by decide +kernel
theorem dX4_raise_78 : decode cX4_raise 78 = .ok (.invokevirtual 85, 3) := by decide +kernel
theorem dX4_raise_81 : decode cX4_raise 81 = .ok (.ireturn, 1) := by decide +kernel
theorem dX4_clear_0 : decode cX4_clear 0 = .ok (.iload_n 1, 1) := by decide +kernel
theorem dX4_clear_1 : decode cX4_clear 1 = .ok (.invokestatic 37, 3) := by decide +kernel
theorem dX4_clear_4 : decode cX4_clear 4 = .ok (.aload_n 0, 1) := by decide +kernel
theorem dX4_clear_5 : decode cX4_clear 5 = .ok (.aload_n 0, 1) := by decide +kernel
theorem dX4_clear_6 : decode cX4_clear 6 = .ok (.getfield 30, 3) := by decide +kernel
theorem dX4_clear_9 : decode cX4_clear 9 = .ok (.iload_n 1, 1) := by decide +kernel
theorem dX4_clear_10 : decode cX4_clear 10 = .ok (.invokestatic 45, 3) := by decide +kernel
theorem dX4_clear_13 : decode cX4_clear 13 = .ok (.invokevirtual 72, 3) := by decide +kernel
theorem dX4_clear_16 : decode cX4_clear 16 = .ok (.aload_n 0, 1) := by decide +kernel
theorem dX4_clear_17 : decode cX4_clear 17 = .ok (.getfield 19, 3) := by decide +kernel
theorem dX4_clear_20 : decode cX4_clear 20 = .ok (.iload_n 1, 1) := by decide +kernel
theorem dX4_clear_21 : decode cX4_clear 21 = .ok (.aload_n 0, 1) := by decide +kernel
theorem dX4_clear_22 : decode cX4_clear 22 = .ok (.getfield 34, 3) := by decide +kernel
theorem dX4_clear_25 : decode cX4_clear 25 = .ok (.invokevirtual 89, 3) := by decide +kernel
theorem dX4_clear_28 : decode cX4_clear 28 = .ok (.aload_n 0, 1) := by decide +kernel
theorem dX4_clear_29 : decode cX4_clear 29 = .ok (.dup, 1) := by decide +kernel
theorem dX4_clear_30 : decode cX4_clear 30 = .ok (.getfield 30, 3) := by decide +kernel
theorem dX4_clear_33 : decode cX4_clear 33 = .ok (.iload_n 1, 1) := by decide +kernel
theorem dX4_clear_34 : decode cX4_clear 34 = .ok (.invokestatic 82, 3) := by decide +kernel
theorem dX4_clear_37 : decode cX4_clear 37 = .ok (.iconst (-1), 1) := by decide +kernel
theorem dX4_clear_38 : decode cX4_clear 38 = .ok (.ixor, 1) := by decide +kernel
theorem dX4_clear_39 : decode cX4_clear 39 = .ok (.iand, 1) := by decide +kernel
theorem dX4_clear_40 : decode cX4_clear 40 = .ok (.putfield 30, 3) := by decide +kernel
theorem dX4_clear_43 : decode cX4_clear 43 = .ok (.aload_n 0, 1) := by decide +kernel
theorem dX4_clear_44 : decode cX4_clear 44 = .ok (.getfield 26, 3) := by decide +kernel
theorem dX4_clear_47 : decode cX4_clear 47 = .ok (.iload_n 1, 1) := by decide +kernel
theorem dX4_clear_48 : decode cX4_clear 48 = .ok (.invokevirtual 92, 3) := by decide +kernel
theorem dX4_clear_51 : decode cX4_clear 51 = .ok (.ireturn, 1) := by decide +kernel
theorem dX4_state_0 : decode cX4_state 0 = .ok (.iload_n 1, 1) := by decide +kernel
theorem dX4_state_1 : decode cX4_state 1 = .ok (.invokestatic 37, 3) := by decide +kernel
theorem dX4_state_4 : decode cX4_state 4 = .ok (.aload_n 0, 1) := by decide +kernel
theorem dX4_state_5 : decode cX4_state 5 = .ok (.iload_n 1, 1) := by decide +kernel
theorem dX4_state_6 : decode cX4_state 6 = .ok (.invokevirtual 95, 3) := by decide +kernel
theorem dX4_state_9 : decode cX4_state 9 = .ok (.ireturn, 1) := by decide +kernel
theorem dX4_nodesThatAre_0 : decode cX4_nodesThatAre 0 = .ok (.iload_n 1, 1) := by decide +kernel
theorem dX4_nodesThatAre_1 : decode cX4_nodesThatAre 1 = .ok (.ifCond .lt 8, 3) := by decide +kernel
theorem dX4_nodesThatAre_4 : decode cX4_nodesThatAre 4 = .ok (.iload_n 1, 1) := by decide +kernel
theorem dX4_nodesThatAre_5 : decode cX4_nodesThatAre 5 = .ok (.iconst 3, 1) := by decide +kernel
theorem dX4_nodesThatAre_6 : decode cX4_nodesThatAre 6 = .ok (.if_icmp .le 13, 3) := by decide +kernel
theorem dX4_nodesThatAre_9 : decode cX4_nodesThatAre 9 = .ok (.new 49, 3) := by decide +kernel
theorem dX4_nodesThatAre_12 : decode cX4_nodesThatAre 12 = .ok (.dup, 1) := by decide +kernel
theorem dX4_nodesThatAre_13 : decode cX4_nodesThatAre 13 = .ok (.ldc 98, 2) := by decide +kernel
theorem dX4_nodesThatAre_15 : decode cX4_nodesThatAre 15 = .ok (.invokespecial 53, 3) := by decide +kernel
theorem dX4_nodesThatAre_18 : decode cX4_nodesThatAre 18 = .ok (.athrow, 1) := by decide +kernel
theorem dX4_nodesThatAre_19 : decode cX4_nodesThatAre 19 = .ok (.iconst 0, 1) := by decide +kernel
theorem dX4_nodesThatAre_20 : decode cX4_nodesThatAre 20 = .ok (.istore_n 2, 1) := by decide +kernel
theorem dX4_nodesThatAre_21 : decode cX4_nodesThatAre 21 = .ok (.iconst 0, 1) := by decide +kernel
theorem dX4_nodesThatAre_22 : decode cX4_nodesThatAre 22 = .ok (.istore_n 3, 1) := by decide +kernel
theorem dX4_nodesThatAre_23 : decode cX4_nodesThatAre 23 = .ok (.iload_n 3, 1) := by decide +kernel
theorem dX4_nodesThatAre_24 : decode cX4_nodesThatAre 24 = .ok (.bipush 14, 2) := by decide +kernel
theorem dX4_nodesThatAre_26 : decode cX4_nodesThatAre 26 = .ok (.if_icmp .ge 21, 3) := by decide +kernel
theorem dX4_nodesThatAre_29 : decode cX4_nodesThatAre 29 = .ok (.aload_n 0, 1) := by decide +kernel
theorem dX4_nodesThatAre_30 : decode cX4_nodesThatAre 30 = .ok (.iload_n 3, 1) := by decide +kernel
theorem dX4_nodesThatAre_31 : decode cX4_nodesThatAre 31 = .ok (.invokevirtual 95, 3) := by decide +kernel
theorem dX4_nodesThatAre_34 : decode cX4_nodesThatAre 34 = .ok (.iload_n 1, 1) := by decide +kernel
theorem dX4_nodesThatAre_35 : decode cX4_nodesThatAre 35 = .ok (.if_icmp .ne 6, 3) := by decide +kernel
theorem dX4_nodesThatAre_38 : decode cX4_nodesThatAre 38 = .ok (.iinc 2 1, 3) := by decide +kernel
theorem dX4_nodesThatAre_41 : decode cX4_nodesThatAre 41 = .ok (.iinc 3 1, 3) := by decide +kernel
theorem dX4_nodesThatAre_44 : decode cX4_nodesThatAre 44 = .ok (.goto (-21), 3) := by decide +kernel
theorem dX4_nodesThatAre_47 : decode cX4_nodesThatAre 47 = .ok (.iload_n 2, 1) := by decide +kernel
theorem dX4_nodesThatAre_48 : decode cX4_nodesThatAre 48 = .ok (.ireturn, 1) := by decide +kernel
theorem dX4_raises_0 : decode cX4_raises 0 = .ok (.iload_n 1, 1) := by decide +kernel
theorem dX4_raises_1 : decode cX4_raises 1 = .ok (.invokestatic 37, 3) := by decide +kernel
theorem dX4_raises_4 : decode cX4_raises 4 = .ok (.iload_n 2, 1) := by decide +kernel
theorem dX4_raises_5 : decode cX4_raises 5 = .ok (.sipush 1000, 3) := by decide +kernel
theorem dX4_raises_8 : decode cX4_raises 8 = .ok (.invokestatic 68, 3) := by decide +kernel
theorem dX4_raises_11 : decode cX4_raises 11 = .ok (.aload_n 0, 1) := by decide +kernel
theorem dX4_raises_12 : decode cX4_raises 12 = .ok (.getfield 19, 3) := by decide +kernel
theorem dX4_raises_15 : decode cX4_raises 15 = .ok (.iload_n 1, 1) := by decide +kernel
theorem dX4_raises_16 : decode cX4_raises 16 = .ok (.aload_n 0, 1) := by decide +kernel
theorem dX4_raises_17 : decode cX4_raises 17 = .ok (.getfield 34, 3) := by decide +kernel
theorem dX4_raises_20 : decode cX4_raises 20 = .ok (.iload_n 2, 1) := by decide +kernel
theorem dX4_raises_21 : decode cX4_raises 21 = .ok (.isub, 1) := by decide +kernel
theorem dX4_raises_22 : decode cX4_raises 22 = .ok (.invokevirtual 100, 3) := by decide +kernel
theorem dX4_raises_25 : decode cX4_raises 25 = .ok (.ireturn, 1) := by decide +kernel
theorem dX4_stateNow_0 : decode cX4_stateNow 0 = .ok (.aload_n 0, 1) := by decide +kernel
theorem dX4_stateNow_1 : decode cX4_stateNow 1 = .ok (.getfield 30, 3) := by decide +kernel
theorem dX4_stateNow_4 : decode cX4_stateNow 4 = .ok (.iload_n 1, 1) := by decide +kernel
theorem dX4_stateNow_5 : decode cX4_stateNow 5 = .ok (.invokestatic 45, 3) := by decide +kernel
theorem dX4_stateNow_8 : decode cX4_stateNow 8 = .ok (.ifCond .ne 5, 3) := by decide +kernel
theorem dX4_stateNow_11 : decode cX4_stateNow 11 = .ok (.iconst 0, 1) := by decide +kernel
theorem dX4_stateNow_12 : decode cX4_stateNow 12 = .ok (.ireturn, 1) := by decide +kernel
theorem dX4_stateNow_13 : decode cX4_stateNow 13 = .ok (.aload_n 0, 1) := by decide +kernel
theorem dX4_stateNow_14 : decode cX4_stateNow 14 = .ok (.getfield 19, 3) := by decide +kernel
theorem dX4_stateNow_17 : decode cX4_stateNow 17 = .ok (.iload_n 1, 1) := by decide +kernel
theorem dX4_stateNow_18 : decode cX4_stateNow 18 = .ok (.aload_n 0, 1) := by decide +kernel
theorem dX4_stateNow_19 : decode cX4_stateNow 19 = .ok (.getfield 34, 3) := by decide +kernel
theorem dX4_stateNow_22 : decode cX4_stateNow 22 = .ok (.bipush 10, 2) := by decide +kernel
theorem dX4_stateNow_24 : decode cX4_stateNow 24 = .ok (.isub, 1) := by decide +kernel
theorem dX4_stateNow_25 : decode cX4_stateNow 25 = .ok (.invokevirtual 100, 3) := by decide +kernel
theorem dX4_stateNow_28 : decode cX4_stateNow 28 = .ok (.iconst 3, 1) := by decide +kernel
theorem dX4_stateNow_29 : decode cX4_stateNow 29 = .ok (.if_icmp .lt 5, 3) := by decide +kernel
theorem dX4_stateNow_32 : decode cX4_stateNow 32 = .ok (.iconst 2, 1) := by decide +kernel
theorem dX4_stateNow_33 : decode cX4_stateNow 33 = .ok (.ireturn, 1) := by decide +kernel
theorem dX4_stateNow_34 : decode cX4_stateNow 34 = .ok (.aload_n 0, 1) := by decide +kernel
theorem dX4_stateNow_35 : decode cX4_stateNow 35 = .ok (.getfield 10, 3) := by decide +kernel
theorem dX4_stateNow_38 : decode cX4_stateNow 38 = .ok (.iload_n 1, 1) := by decide +kernel
theorem dX4_stateNow_39 : decode cX4_stateNow 39 = .ok (.invokevirtual 41, 3) := by decide +kernel
theorem dX4_stateNow_42 : decode cX4_stateNow 42 = .ok (.aload_n 0, 1) := by decide +kernel
theorem dX4_stateNow_43 : decode cX4_stateNow 43 = .ok (.getfield 30, 3) := by decide +kernel
theorem dX4_stateNow_46 : decode cX4_stateNow 46 = .ok (.iand, 1) := by decide +kernel
theorem dX4_stateNow_47 : decode cX4_stateNow 47 = .ok (.ifCond .eq 7, 3) := by decide +kernel
theorem dX4_stateNow_50 : decode cX4_stateNow 50 = .ok (.iconst 3, 1) := by decide +kernel
theorem dX4_stateNow_51 : decode cX4_stateNow 51 = .ok (.goto 4, 3) := by decide +kernel
theorem dX4_stateNow_54 : decode cX4_stateNow 54 = .ok (.iconst 1, 1) := by decide +kernel
theorem dX4_stateNow_55 : decode cX4_stateNow 55 = .ok (.ireturn, 1) := by decide +kernel
theorem dX4_events_0 : decode cX4_events 0 = .ok (.aload_n 0, 1) := by decide +kernel
theorem dX4_events_1 : decode cX4_events 1 = .ok (.getfield 19, 3) := by decide +kernel
theorem dX4_events_4 : decode cX4_events 4 = .ok (.invokevirtual 103, 3) := by decide +kernel
theorem dX4_events_7 : decode cX4_events 7 = .ok (.ireturn, 1) := by decide +kernel
theorem dX4_eventKind_0 : decode cX4_eventKind 0 = .ok (.aload_n 0, 1) := by decide +kernel
theorem dX4_eventKind_1 : decode cX4_eventKind 1 = .ok (.iload_n 1, 1) := by decide +kernel
theorem dX4_eventKind_2 : decode cX4_eventKind 2 = .ok (.invokevirtual 107, 3) := by decide +kernel
theorem dX4_eventKind_5 : decode cX4_eventKind 5 = .ok (.aload_n 0, 1) := by decide +kernel
theorem dX4_eventKind_6 : decode cX4_eventKind 6 = .ok (.getfield 19, 3) := by decide +kernel
theorem dX4_eventKind_9 : decode cX4_eventKind 9 = .ok (.iload_n 1, 1) := by decide +kernel
theorem dX4_eventKind_10 : decode cX4_eventKind 10 = .ok (.invokevirtual 110, 3) := by decide +kernel
theorem dX4_eventKind_13 : decode cX4_eventKind 13 = .ok (.ireturn, 1) := by decide +kernel
theorem dX4_eventNode_0 : decode cX4_eventNode 0 = .ok (.aload_n 0, 1) := by decide +kernel
theorem dX4_eventNode_1 : decode cX4_eventNode 1 = .ok (.iload_n 1, 1) := by decide +kernel
theorem dX4_eventNode_2 : decode cX4_eventNode 2 = .ok (.invokevirtual 107, 3) := by decide +kernel
theorem dX4_eventNode_5 : decode cX4_eventNode 5 = .ok (.aload_n 0, 1) := by decide +kernel
theorem dX4_eventNode_6 : decode cX4_eventNode 6 = .ok (.getfield 19, 3) := by decide +kernel
theorem dX4_eventNode_9 : decode cX4_eventNode 9 = .ok (.iload_n 1, 1) := by decide +kernel
theorem dX4_eventNode_10 : decode cX4_eventNode 10 = .ok (.invokevirtual 113, 3) := by decide +kernel
theorem dX4_eventNode_13 : decode cX4_eventNode 13 = .ok (.ireturn, 1) := by decide +kernel
theorem dX4_eventTime_0 : decode cX4_eventTime 0 = .ok (.aload_n 0, 1) := by decide +kernel
theorem dX4_eventTime_1 : decode cX4_eventTime 1 = .ok (.iload_n 1, 1) := by decide +kernel
theorem dX4_eventTime_2 : decode cX4_eventTime 2 = .ok (.invokevirtual 107, 3) := by decide +kernel
theorem dX4_eventTime_5 : decode cX4_eventTime 5 = .ok (.aload_n 0, 1) := by decide +kernel
theorem dX4_eventTime_6 : decode cX4_eventTime 6 = .ok (.getfield 19, 3) := by decide +kernel
theorem dX4_eventTime_9 : decode cX4_eventTime 9 = .ok (.iload_n 1, 1) := by decide +kernel
theorem dX4_eventTime_10 : decode cX4_eventTime 10 = .ok (.invokevirtual 116, 3) := by decide +kernel
theorem dX4_eventTime_13 : decode cX4_eventTime 13 = .ok (.ireturn, 1) := by decide +kernel
theorem dX4_eventLength_0 : decode cX4_eventLength 0 = .ok (.aload_n 0, 1) := by decide +kernel
theorem dX4_eventLength_1 : decode cX4_eventLength 1 = .ok (.iload_n 1, 1) := by decide +kernel
theorem dX4_eventLength_2 : decode cX4_eventLength 2 = .ok (.invokevirtual 107, 3) := by decide +kernel
theorem dX4_eventLength_5 : decode cX4_eventLength 5 = .ok (.aload_n 0, 1) := by decide +kernel
theorem dX4_eventLength_6 : decode cX4_eventLength 6 = .ok (.getfield 19, 3) := by decide +kernel
theorem dX4_eventLength_9 : decode cX4_eventLength 9 = .ok (.iload_n 1, 1) := by decide +kernel
theorem dX4_eventLength_10 : decode cX4_eventLength 10 = .ok (.invokevirtual 119, 3) := by decide +kernel
theorem dX4_eventLength_13 : decode cX4_eventLength 13 = .ok (.ireturn, 1) := by decide +kernel
theorem dX4_openTickets_0 : decode cX4_openTickets 0 = .ok (.aload_n 0, 1) := by decide +kernel
theorem dX4_openTickets_1 : decode cX4_openTickets 1 = .ok (.getfield 26, 3) := by decide +kernel
theorem dX4_openTickets_4 : decode cX4_openTickets 4 = .ok (.invokevirtual 122, 3) := by decide +kernel
theorem dX4_openTickets_7 : decode cX4_openTickets 7 = .ok (.ireturn, 1) := by decide +kernel
theorem dX4_ticketOf_0 : decode cX4_ticketOf 0 = .ok (.iload_n 1, 1) := by decide +kernel
theorem dX4_ticketOf_1 : decode cX4_ticketOf 1 = .ok (.invokestatic 37, 3) := by decide +kernel
theorem dX4_ticketOf_4 : decode cX4_ticketOf 4 = .ok (.aload_n 0, 1) := by decide +kernel
theorem dX4_ticketOf_5 : decode cX4_ticketOf 5 = .ok (.getfield 26, 3) := by decide +kernel
theorem dX4_ticketOf_8 : decode cX4_ticketOf 8 = .ok (.iload_n 1, 1) := by decide +kernel
theorem dX4_ticketOf_9 : decode cX4_ticketOf 9 = .ok (.invokevirtual 125, 3) := by decide +kernel
theorem dX4_ticketOf_12 : decode cX4_ticketOf 12 = .ok (.ireturn, 1) := by decide +kernel
theorem dX4_ticketState_0 : decode cX4_ticketState 0 = .ok (.aload_n 0, 1) := by decide +kernel
theorem dX4_ticketState_1 : decode cX4_ticketState 1 = .ok (.getfield 26, 3) := by decide +kernel
theorem dX4_ticketState_4 : decode cX4_ticketState 4 = .ok (.iload_n 1, 1) := by decide +kernel
theorem dX4_ticketState_5 : decode cX4_ticketState 5 = .ok (.invokevirtual 128, 3) := by decide +kernel
theorem dX4_ticketState_8 : decode cX4_ticketState 8 = .ok (.ireturn, 1) := by decide +kernel
theorem dX4_ticketSize_0 : decode cX4_ticketSize 0 = .ok (.aload_n 0, 1) := by decide +kernel
theorem dX4_ticketSize_1 : decode cX4_ticketSize 1 = .ok (.getfield 26, 3) := by decide +kernel
theorem dX4_ticketSize_4 : decode cX4_ticketSize 4 = .ok (.iload_n 1, 1) := by decide +kernel
theorem dX4_ticketSize_5 : decode cX4_ticketSize 5 = .ok (.invokevirtual 131, 3) := by decide +kernel
theorem dX4_ticketSize_8 : decode cX4_ticketSize 8 = .ok (.ireturn, 1) := by decide +kernel
theorem dX4_mergedInto_0 : decode cX4_mergedInto 0 = .ok (.aload_n 0, 1) := by decide +kernel
theorem dX4_mergedInto_1 : decode cX4_mergedInto 1 = .ok (.getfield 26, 3) := by decide +kernel
theorem dX4_mergedInto_4 : decode cX4_mergedInto 4 = .ok (.iload_n 1, 1) := by decide +kernel
theorem dX4_mergedInto_5 : decode cX4_mergedInto 5 = .ok (.invokevirtual 134, 3) := by decide +kernel
theorem dX4_mergedInto_8 : decode cX4_mergedInto 8 = .ok (.ireturn, 1) := by decide +kernel
theorem dX4_isPlausible_0 : decode cX4_isPlausible 0 = .ok (.iload_n 1, 1) := by decide +kernel
theorem dX4_isPlausible_1 : decode cX4_isPlausible 1 = .ok (.invokestatic 37, 3) := by decide +kernel
theorem dX4_isPlausible_4 : decode cX4_isPlausible 4 = .ok (.aload_n 0, 1) := by decide +kernel
theorem dX4_isPlausible_5 : decode cX4_isPlausible 5 = .ok (.invokevirtual 137, 3) := by decide +kernel
theorem dX4_isPlausible_8 : decode cX4_isPlausible 8 = .ok (.invokevirtual 141, 3) := by decide +kernel
theorem dX4_isPlausible_11 : decode cX4_isPlausible 11 = .ok (.iload_n 1, 1) := by decide +kernel
theorem dX4_isPlausible_12 : decode cX4_isPlausible 12 = .ok (.invokestatic 45, 3) := by decide +kernel
theorem dX4_isPlausible_15 : decode cX4_isPlausible 15 = .ok (.ireturn, 1) := by decide +kernel
theorem dX4_causes_0 : decode cX4_causes 0 = .ok (.aload_n 0, 1) := by decide +kernel
theorem dX4_causes_1 : decode cX4_causes 1 = .ok (.invokevirtual 137, 3) := by decide +kernel
theorem dX4_causes_4 : decode cX4_causes 4 = .ok (.invokevirtual 146, 3) := by decide +kernel
theorem dX4_causes_7 : decode cX4_causes 7 = .ok (.invokestatic 149, 3) := by decide +kernel
theorem dX4_causes_10 : decode cX4_causes 10 = .ok (.ireturn, 1) := by decide +kernel
theorem dX4_cause_0 : decode cX4_cause 0 = .ok (.aload_n 0, 1) := by decide +kernel
theorem dX4_cause_1 : decode cX4_cause 1 = .ok (.invokevirtual 137, 3) := by decide +kernel
theorem dX4_cause_4 : decode cX4_cause 4 = .ok (.invokevirtual 146, 3) := by decide +kernel
theorem dX4_cause_7 : decode cX4_cause 7 = .ok (.iload_n 1, 1) := by decide +kernel
theorem dX4_cause_8 : decode cX4_cause 8 = .ok (.invokestatic 154, 3) := by decide +kernel
theorem dX4_cause_11 : decode cX4_cause 11 = .ok (.ireturn, 1) := by decide +kernel
theorem dX4_causeByTrying_0 : decode cX4_causeByTrying 0 = .ok (.aload_n 0, 1) := by decide +kernel
theorem dX4_causeByTrying_1 : decode cX4_causeByTrying 1 = .ok (.invokevirtual 137, 3) := by decide +kernel
theorem dX4_causeByTrying_4 : decode cX4_causeByTrying 4 = .ok (.invokevirtual 157, 3) := by decide +kernel
theorem dX4_causeByTrying_7 : decode cX4_causeByTrying 7 = .ok (.iload_n 1, 1) := by decide +kernel
theorem dX4_causeByTrying_8 : decode cX4_causeByTrying 8 = .ok (.invokestatic 154, 3) := by decide +kernel
theorem dX4_causeByTrying_11 : decode cX4_causeByTrying 11 = .ok (.ireturn, 1) := by decide +kernel
theorem dX4_greedyCauses_0 : decode cX4_greedyCauses 0 = .ok (.aload_n 0, 1) := by decide +kernel
theorem dX4_greedyCauses_1 : decode cX4_greedyCauses 1 = .ok (.invokevirtual 137, 3) := by decide +kernel
theorem dX4_greedyCauses_4 : decode cX4_greedyCauses 4 = .ok (.invokevirtual 160, 3) := by decide +kernel
theorem dX4_greedyCauses_7 : decode cX4_greedyCauses 7 = .ok (.ireturn, 1) := by decide +kernel
theorem dX4_greedyCause_0 : decode cX4_greedyCause 0 = .ok (.aload_n 0, 1) := by decide +kernel
theorem dX4_greedyCause_1 : decode cX4_greedyCause 1 = .ok (.invokevirtual 137, 3) := by decide +kernel
theorem dX4_greedyCause_4 : decode cX4_greedyCause 4 = .ok (.iload_n 1, 1) := by decide +kernel
theorem dX4_greedyCause_5 : decode cX4_greedyCause 5 = .ok (.invokevirtual 163, 3) := by decide +kernel
theorem dX4_greedyCause_8 : decode cX4_greedyCause 8 = .ok (.istore_n 2, 1) := by decide +kernel
theorem dX4_greedyCause_9 : decode cX4_greedyCause 9 = .ok (.iload_n 2, 1) := by decide +kernel
theorem dX4_greedyCause_10 : decode cX4_greedyCause 10 = .ok (.iconst (-1), 1) := by decide +kernel
theorem dX4_greedyCause_11 : decode cX4_greedyCause 11 = .ok (.if_icmp .ne 13, 3) := by decide +kernel
theorem dX4_greedyCause_14 : decode cX4_greedyCause 14 = .ok (.new 166, 3) := by decide +kernel
theorem dX4_greedyCause_17 : decode cX4_greedyCause 17 = .ok (.dup, 1) := by decide +kernel
theorem dX4_greedyCause_18 : decode cX4_greedyCause 18 = .ok (.ldc 168, 2) := by decide +kernel
theorem dX4_greedyCause_20 : decode cX4_greedyCause 20 = .ok (.invokespecial 170, 3) := by decide +kernel
theorem dX4_greedyCause_23 : decode cX4_greedyCause 23 = .ok (.athrow, 1) := by decide +kernel
theorem dX4_greedyCause_24 : decode cX4_greedyCause 24 = .ok (.iload_n 2, 1) := by decide +kernel
theorem dX4_greedyCause_25 : decode cX4_greedyCause 25 = .ok (.ireturn, 1) := by decide +kernel
theorem dX4_causeOf_0 : decode cX4_causeOf 0 = .ok (.iload_n 1, 1) := by decide +kernel
theorem dX4_causeOf_1 : decode cX4_causeOf 1 = .ok (.invokestatic 37, 3) := by decide +kernel
theorem dX4_causeOf_4 : decode cX4_causeOf 4 = .ok (.aload_n 0, 1) := by decide +kernel
theorem dX4_causeOf_5 : decode cX4_causeOf 5 = .ok (.getfield 30, 3) := by decide +kernel
theorem dX4_causeOf_8 : decode cX4_causeOf 8 = .ok (.iload_n 1, 1) := by decide +kernel
theorem dX4_causeOf_9 : decode cX4_causeOf 9 = .ok (.invokestatic 45, 3) := by decide +kernel
theorem dX4_causeOf_12 : decode cX4_causeOf 12 = .ok (.ifCond .ne 5, 3) := by decide +kernel
theorem dX4_causeOf_15 : decode cX4_causeOf 15 = .ok (.iconst (-1), 1) := by decide +kernel
theorem dX4_causeOf_16 : decode cX4_causeOf 16 = .ok (.ireturn, 1) := by decide +kernel
theorem dX4_causeOf_17 : decode cX4_causeOf 17 = .ok (.aload_n 0, 1) := by decide +kernel
theorem dX4_causeOf_18 : decode cX4_causeOf 18 = .ok (.invokevirtual 137, 3) := by decide +kernel
theorem dX4_causeOf_21 : decode cX4_causeOf 21 = .ok (.invokevirtual 146, 3) := by decide +kernel
theorem dX4_causeOf_24 : decode cX4_causeOf 24 = .ok (.aload_n 0, 1) := by decide +kernel
theorem dX4_causeOf_25 : decode cX4_causeOf 25 = .ok (.getfield 10, 3) := by decide +kernel
theorem dX4_causeOf_28 : decode cX4_causeOf 28 = .ok (.iload_n 1, 1) := by decide +kernel
theorem dX4_causeOf_29 : decode cX4_causeOf 29 = .ok (.invokevirtual 171, 3) := by decide +kernel
theorem dX4_causeOf_32 : decode cX4_causeOf 32 = .ok (.iand, 1) := by decide +kernel
theorem dX4_causeOf_33 : decode cX4_causeOf 33 = .ok (.iconst 0, 1) := by decide +kernel
theorem dX4_causeOf_34 : decode cX4_causeOf 34 = .ok (.invokestatic 174, 3) := by decide +kernel
theorem dX4_causeOf_37 : decode cX4_causeOf 37 = .ok (.ireturn, 1) := by decide +kernel
theorem dX4_diagnoser_0 : decode cX4_diagnoser 0 = .ok (.new 142, 3) := by decide +kernel
theorem dX4_diagnoser_3 : decode cX4_diagnoser 3 = .ok (.dup, 1) := by decide +kernel
theorem dX4_diagnoser_4 : decode cX4_diagnoser 4 = .ok (.aload_n 0, 1) := by decide +kernel
theorem dX4_diagnoser_5 : decode cX4_diagnoser 5 = .ok (.getfield 10, 3) := by decide +kernel
theorem dX4_diagnoser_8 : decode cX4_diagnoser 8 = .ok (.aload_n 0, 1) := by decide +kernel
theorem dX4_diagnoser_9 : decode cX4_diagnoser 9 = .ok (.getfield 30, 3) := by decide +kernel
theorem dX4_diagnoser_12 : decode cX4_diagnoser 12 = .ok (.invokespecial 177, 3) := by decide +kernel
theorem dX4_diagnoser_15 : decode cX4_diagnoser 15 = .ok (.areturn, 1) := by decide +kernel
theorem dX4_checkNode_0 : decode cX4_checkNode 0 = .ok (.iload_n 0, 1) := by decide +kernel
theorem dX4_checkNode_1 : decode cX4_checkNode 1 = .ok (.ifCond .lt 9, 3) := by decide +kernel
theorem dX4_checkNode_4 : decode cX4_checkNode 4 = .ok (.iload_n 0, 1) := by decide +kernel
theorem dX4_checkNode_5 : decode cX4_checkNode 5 = .ok (.bipush 14, 2) := by decide +kernel
theorem dX4_checkNode_7 : decode cX4_checkNode 7 = .ok (.if_icmp .lt 13, 3) := by decide +kernel
theorem dX4_checkNode_10 : decode cX4_checkNode 10 = .ok (.new 166, 3) := by decide +kernel
theorem dX4_checkNode_13 : decode cX4_checkNode 13 = .ok (.dup, 1) := by decide +kernel
theorem dX4_checkNode_14 : decode cX4_checkNode 14 = .ok (.ldc 180, 2) := by decide +kernel
theorem dX4_checkNode_16 : decode cX4_checkNode 16 = .ok (.invokespecial 170, 3) := by decide +kernel
theorem dX4_checkNode_19 : decode cX4_checkNode 19 = .ok (.athrow, 1) := by decide +kernel
theorem dX4_checkNode_20 : decode cX4_checkNode 20 = .ok (.return_, 1) := by decide +kernel
theorem dX4_checkTicks_0 : decode cX4_checkTicks 0 = .ok (.iload_n 0, 1) := by decide +kernel
theorem dX4_checkTicks_1 : decode cX4_checkTicks 1 = .ok (.iconst 1, 1) := by decide +kernel
theorem dX4_checkTicks_2 : decode cX4_checkTicks 2 = .ok (.if_icmp .lt 8, 3) := by decide +kernel
theorem dX4_checkTicks_5 : decode cX4_checkTicks 5 = .ok (.iload_n 0, 1) := by decide +kernel
theorem dX4_checkTicks_6 : decode cX4_checkTicks 6 = .ok (.iload_n 1, 1) := by decide +kernel
theorem dX4_checkTicks_7 : decode cX4_checkTicks 7 = .ok (.if_icmp .le 13, 3) := by decide +kernel
theorem dX4_checkTicks_10 : decode cX4_checkTicks 10 = .ok (.new 49, 3) := by decide +kernel
theorem dX4_checkTicks_13 : decode cX4_checkTicks 13 = .ok (.dup, 1) := by decide +kernel
theorem dX4_checkTicks_14 : decode cX4_checkTicks 14 = .ok (.ldc 182, 2) := by decide +kernel
theorem dX4_checkTicks_16 : decode cX4_checkTicks 16 = .ok (.invokespecial 53, 3) := by decide +kernel
theorem dX4_checkTicks_19 : decode cX4_checkTicks 19 = .ok (.athrow, 1) := by decide +kernel
theorem dX4_checkTicks_20 : decode cX4_checkTicks 20 = .ok (.return_, 1) := by decide +kernel
theorem dX4_checkChange_0 : decode cX4_checkChange 0 = .ok (.iload_n 1, 1) := by decide +kernel
theorem dX4_checkChange_1 : decode cX4_checkChange 1 = .ok (.ifCond .eq 13, 3) := by decide +kernel
theorem dX4_checkChange_4 : decode cX4_checkChange 4 = .ok (.aload_n 0, 1) := by decide +kernel
theorem dX4_checkChange_5 : decode cX4_checkChange 5 = .ok (.getfield 19, 3) := by decide +kernel
theorem dX4_checkChange_8 : decode cX4_checkChange 8 = .ok (.invokevirtual 184, 3) := by decide +kernel
theorem dX4_checkChange_11 : decode cX4_checkChange 11 = .ok (.ifCond .eq 13, 3) := by decide +kernel
theorem dX4_checkChange_14 : decode cX4_checkChange 14 = .ok (.new 188, 3) := by decide +kernel
theorem dX4_checkChange_17 : decode cX4_checkChange 17 = .ok (.dup, 1) := by decide +kernel
theorem dX4_checkChange_18 : decode cX4_checkChange 18 = .ok (.ldc 190, 2) := by decide +kernel
theorem dX4_checkChange_20 : decode cX4_checkChange 20 = .ok (.invokespecial 192, 3) := by decide +kernel
theorem dX4_checkChange_23 : decode cX4_checkChange 23 = .ok (.athrow, 1) := by decide +kernel
theorem dX4_checkChange_24 : decode cX4_checkChange 24 = .ok (.return_, 1) := by decide +kernel
theorem dX4_checkEvent_0 : decode cX4_checkEvent 0 = .ok (.iload_n 1, 1) := by decide +kernel
theorem dX4_checkEvent_1 : decode cX4_checkEvent 1 = .ok (.ifCond .lt 14, 3) := by decide +kernel
theorem dX4_checkEvent_4 : decode cX4_checkEvent 4 = .ok (.iload_n 1, 1) := by decide +kernel
theorem dX4_checkEvent_5 : decode cX4_checkEvent 5 = .ok (.aload_n 0, 1) := by decide +kernel
theorem dX4_checkEvent_6 : decode cX4_checkEvent 6 = .ok (.getfield 19, 3) := by decide +kernel
theorem dX4_checkEvent_9 : decode cX4_checkEvent 9 = .ok (.invokevirtual 103, 3) := by decide +kernel
theorem dX4_checkEvent_12 : decode cX4_checkEvent 12 = .ok (.if_icmp .lt 13, 3) := by decide +kernel
theorem dX4_checkEvent_15 : decode cX4_checkEvent 15 = .ok (.new 166, 3) := by decide +kernel
theorem dX4_checkEvent_18 : decode cX4_checkEvent 18 = .ok (.dup, 1) := by decide +kernel
theorem dX4_checkEvent_19 : decode cX4_checkEvent 19 = .ok (.ldc 193, 2) := by decide +kernel
theorem dX4_checkEvent_21 : decode cX4_checkEvent 21 = .ok (.invokespecial 170, 3) := by decide +kernel
theorem dX4_checkEvent_24 : decode cX4_checkEvent 24 = .ok (.athrow, 1) := by decide +kernel
theorem dX4_checkEvent_25 : decode cX4_checkEvent 25 = .ok (.return_, 1) := by decide +kernel
theorem dX4_nodeThere_0 : decode cX4_nodeThere 0 = .ok (.iload_n 0, 1) := by decide +kernel
theorem dX4_nodeThere_1 : decode cX4_nodeThere 1 = .ok (.iload_n 1, 1) := by decide +kernel
theorem dX4_nodeThere_2 : decode cX4_nodeThere 2 = .ok (.invokestatic 174, 3) := by decide +kernel
theorem dX4_nodeThere_5 : decode cX4_nodeThere 5 = .ok (.istore_n 2, 1) := by decide +kernel
theorem dX4_nodeThere_6 : decode cX4_nodeThere 6 = .ok (.iload_n 2, 1) := by decide +kernel
theorem dX4_nodeThere_7 : decode cX4_nodeThere 7 = .ok (.iconst (-1), 1) := by decide +kernel
theorem dX4_nodeThere_8 : decode cX4_nodeThere 8 = .ok (.if_icmp .ne 13, 3) := by decide +kernel
theorem dX4_nodeThere_11 : decode cX4_nodeThere 11 = .ok (.new 166, 3) := by decide +kernel
theorem dX4_nodeThere_14 : decode cX4_nodeThere 14 = .ok (.dup, 1) := by decide +kernel
theorem dX4_nodeThere_15 : decode cX4_nodeThere 15 = .ok (.ldc 168, 2) := by decide +kernel
theorem dX4_nodeThere_17 : decode cX4_nodeThere 17 = .ok (.invokespecial 170, 3) := by decide +kernel
theorem dX4_nodeThere_20 : decode cX4_nodeThere 20 = .ok (.athrow, 1) := by decide +kernel
theorem dX4_nodeThere_21 : decode cX4_nodeThere 21 = .ok (.iload_n 2, 1) := by decide +kernel
theorem dX4_nodeThere_22 : decode cX4_nodeThere 22 = .ok (.ireturn, 1) := by decide +kernel
theorem dX4_only_0 : decode cX4_only 0 = .ok (.iconst 1, 1) := by decide +kernel
theorem dX4_only_1 : decode cX4_only 1 = .ok (.iload_n 0, 1) := by decide +kernel
theorem dX4_only_2 : decode cX4_only 2 = .ok (.ishl, 1) := by decide +kernel
theorem dX4_only_3 : decode cX4_only 3 = .ok (.ireturn, 1) := by decide +kernel
theorem dX4_has_0 : decode cX4_has 0 = .ok (.iload_n 0, 1) := by decide +kernel
theorem dX4_has_1 : decode cX4_has 1 = .ok (.iload_n 1, 1) := by decide +kernel
theorem dX4_has_2 : decode cX4_has 2 = .ok (.invokestatic 82, 3) := by decide +kernel
theorem dX4_has_5 : decode cX4_has 5 = .ok (.iand, 1) := by decide +kernel
theorem dX4_has_6 : decode cX4_has 6 = .ok (.ifCond .eq 7, 3) := by decide +kernel
theorem dX4_has_9 : decode cX4_has 9 = .ok (.iconst 1, 1) := by decide +kernel
theorem dX4_has_10 : decode cX4_has 10 = .ok (.goto 4, 3) := by decide +kernel
theorem dX4_has_13 : decode cX4_has 13 = .ok (.iconst 0, 1) := by decide +kernel
theorem dX4_has_14 : decode cX4_has 14 = .ok (.ireturn, 1) := by decide +kernel
theorem dX4_nodeAtPlace_0 : decode cX4_nodeAtPlace 0 = .ok (.iconst 0, 1) := by decide +kernel
theorem dX4_nodeAtPlace_1 : decode cX4_nodeAtPlace 1 = .ok (.istore_n 2, 1) := by decide +kernel
theorem dX4_nodeAtPlace_2 : decode cX4_nodeAtPlace 2 = .ok (.iconst 0, 1) := by decide +kernel
theorem dX4_nodeAtPlace_3 : decode cX4_nodeAtPlace 3 = .ok (.istore_n 3, 1) := by decide +kernel
theorem dX4_nodeAtPlace_4 : decode cX4_nodeAtPlace 4 = .ok (.iload_n 3, 1) := by decide +kernel
theorem dX4_nodeAtPlace_5 : decode cX4_nodeAtPlace 5 = .ok (.bipush 14, 2) := by decide +kernel
theorem dX4_nodeAtPlace_7 : decode cX4_nodeAtPlace 7 = .ok (.if_icmp .ge 27, 3) := by decide +kernel
theorem dX4_nodeAtPlace_10 : decode cX4_nodeAtPlace 10 = .ok (.iload_n 0, 1) := by decide +kernel
theorem dX4_nodeAtPlace_11 : decode cX4_nodeAtPlace 11 = .ok (.iload_n 3, 1) := by decide +kernel
theorem dX4_nodeAtPlace_12 : decode cX4_nodeAtPlace 12 = .ok (.invokestatic 45, 3) := by decide +kernel
theorem dX4_nodeAtPlace_15 : decode cX4_nodeAtPlace 15 = .ok (.ifCond .eq 13, 3) := by decide +kernel
theorem dX4_nodeAtPlace_18 : decode cX4_nodeAtPlace 18 = .ok (.iload_n 2, 1) := by decide +kernel
theorem dX4_nodeAtPlace_19 : decode cX4_nodeAtPlace 19 = .ok (.iload_n 1, 1) := by decide +kernel
theorem dX4_nodeAtPlace_20 : decode cX4_nodeAtPlace 20 = .ok (.if_icmp .ne 5, 3) := by decide +kernel
theorem dX4_nodeAtPlace_23 : decode cX4_nodeAtPlace 23 = .ok (.iload_n 3, 1) := by decide +kernel
theorem dX4_nodeAtPlace_24 : decode cX4_nodeAtPlace 24 = .ok (.ireturn, 1) := by decide +kernel
theorem dX4_nodeAtPlace_25 : decode cX4_nodeAtPlace 25 = .ok (.iinc 2 1, 3) := by decide +kernel
theorem dX4_nodeAtPlace_28 : decode cX4_nodeAtPlace 28 = .ok (.iinc 3 1, 3) := by decide +kernel
theorem dX4_nodeAtPlace_31 : decode cX4_nodeAtPlace 31 = .ok (.goto (-27), 3) := by decide +kernel
theorem dX4_nodeAtPlace_34 : decode cX4_nodeAtPlace 34 = .ok (.iconst (-1), 1) := by decide +kernel
theorem dX4_nodeAtPlace_35 : decode cX4_nodeAtPlace 35 = .ok (.ireturn, 1) := by decide +kernel
theorem dX5_init_0 : decode cX5_init 0 = .ok (.aload_n 0, 1) := by decide +kernel
theorem dX5_init_1 : decode cX5_init 1 = .ok (.invokespecial 1, 3) := by decide +kernel
theorem dX5_init_4 : decode cX5_init 4 = .ok (.aload_n 0, 1) := by decide +kernel
theorem dX5_init_5 : decode cX5_init 5 = .ok (.bipush 14, 2) := by decide +kernel
theorem dX5_init_7 : decode cX5_init 7 = .ok (.newarray .int, 2) := by decide +kernel
theorem dX5_init_9 : decode cX5_init 9 = .ok (.putfield 7, 3) := by decide +kernel
theorem dX5_init_12 : decode cX5_init 12 = .ok (.aload_n 0, 1) := by decide +kernel
theorem dX5_init_13 : decode cX5_init 13 = .ok (.bipush 14, 2) := by decide +kernel
theorem dX5_init_15 : decode cX5_init 15 = .ok (.newarray .int, 2) := by decide +kernel
theorem dX5_init_17 : decode cX5_init 17 = .ok (.putfield 13, 3) := by decide +kernel
theorem dX5_init_20 : decode cX5_init 20 = .ok (.aload_n 0, 1) := by decide +kernel
theorem dX5_init_21 : decode cX5_init 21 = .ok (.bipush 14, 2) := by decide +kernel
theorem dX5_init_23 : decode cX5_init 23 = .ok (.newarray .int, 2) := by decide +kernel
theorem dX5_init_25 : decode cX5_init 25 = .ok (.putfield 16, 3) := by decide +kernel
theorem dX5_init_28 : decode cX5_init 28 = .ok (.aload_n 0, 1) := by decide +kernel
theorem dX5_init_29 : decode cX5_init 29 = .ok (.bipush 14, 2) := by decide +kernel
theorem dX5_init_31 : decode cX5_init 31 = .ok (.newarray .int, 2) := by decide +kernel
theorem dX5_init_33 : decode cX5_init 33 = .ok (.putfield 19, 3) := by decide +kernel
theorem dX5_init_36 : decode cX5_init 36 = .ok (.aload_n 0, 1) := by decide +kernel
theorem dX5_init_37 : decode cX5_init 37 = .ok (.sipush 302, 3) := by decide +kernel
theorem dX5_init_40 : decode cX5_init 40 = .ok (.newarray .int, 2) := by decide +kernel
theorem dX5_init_42 : decode cX5_init 42 = .ok (.putfield 22, 3) := by decide +kernel
theorem dX5_init_45 : decode cX5_init 45 = .ok (.aload_n 0, 1) := by decide +kernel
theorem dX5_init_46 : decode cX5_init 46 = .ok (.sipush 302, 3) := by decide +kernel
theorem dX5_init_49 : decode cX5_init 49 = .ok (.newarray .int, 2) := by decide +kernel
theorem dX5_init_51 : decode cX5_init 51 = .ok (.putfield 25, 3) := by decide +kernel
theorem dX5_init_54 : decode cX5_init 54 = .ok (.aload_n 0, 1) := by decide +kernel
theorem dX5_init_55 : decode cX5_init 55 = .ok (.sipush 302, 3) := by decide +kernel
theorem dX5_init_58 : decode cX5_init 58 = .ok (.newarray .int, 2) := by decide +kernel
theorem dX5_init_60 : decode cX5_init 60 = .ok (.putfield 28, 3) := by decide +kernel
theorem dX5_init_63 : decode cX5_init 63 = .ok (.aload_n 0, 1) := by decide +kernel
theorem dX5_init_64 : decode cX5_init 64 = .ok (.sipush 300, 3) := by decide +kernel
theorem dX5_init_67 : decode cX5_init 67 = .ok (.newarray .int, 2) := by decide +kernel
theorem dX5_init_69 : decode cX5_init 69 = .ok (.putfield 31, 3) := by decide +kernel
theorem dX5_init_72 : decode cX5_init 72 = .ok (.aload_n 0, 1) := by decide +kernel
theorem dX5_init_73 : decode cX5_init 73 = .ok (.sipush 300, 3) := by decide +kernel
theorem dX5_init_76 : decode cX5_init 76 = .ok (.newarray .int, 2) := by decide +kernel
theorem dX5_init_78 : decode cX5_init 78 = .ok (.putfield 34, 3) := by decide +kernel
theorem dX5_init_81 : decode cX5_init 81 = .ok (.aload_n 0, 1) := by decide +kernel
theorem dX5_init_82 : decode cX5_init 82 = .ok (.sipush 300, 3) := by decide +kernel
theorem dX5_init_85 : decode cX5_init 85 = .ok (.newarray .int, 2) := by decide +kernel
theorem dX5_init_87 : decode cX5_init 87 = .ok (.putfield 37, 3) := by decide +kernel
theorem dX5_init_90 : decode cX5_init 90 = .ok (.aload_n 0, 1) := by decide +kernel
theorem dX5_init_91 : decode cX5_init 91 = .ok (.sipush 300, 3) := by decide +kernel
theorem dX5_init_94 : decode cX5_init 94 = .ok (.newarray .int, 2) := by decide +kernel
theorem dX5_init_96 : decode cX5_init 96 = .ok (.putfield 40, 3) := by decide +kernel
theorem dX5_init_99 : decode cX5_init 99 = .ok (.return_, 1) := by decide +kernel
theorem dX5_thrown_0 : decode cX5_thrown 0 = .ok (.aload_n 0, 1) := by decide +kernel
theorem dX5_thrown_1 : decode cX5_thrown 1 = .ok (.getfield 43, 3) := by decide +kernel
theorem dX5_thrown_4 : decode cX5_thrown 4 = .ok (.ireturn, 1) := by decide +kernel
theorem dX5_goes_0 : decode cX5_goes 0 = .ok (.aload_n 0, 1) := by decide +kernel
theorem dX5_goes_1 : decode cX5_goes 1 = .ok (.iload_n 1, 1) := by decide +kernel
theorem dX5_goes_2 : decode cX5_goes 2 = .ok (.ifCond .ne 7, 3) := by decide +kernel
theorem dX5_goes_5 : decode cX5_goes 5 = .ok (.iconst 1, 1) := by decide +kernel
theorem dX5_goes_6 : decode cX5_goes 6 = .ok (.goto 12, 3) := by decide +kernel
theorem dX5_goes_9 : decode cX5_goes 9 = .ok (.iload_n 2, 1) := by decide +kernel
theorem dX5_goes_10 : decode cX5_goes 10 = .ok (.ifCond .ne 7, 3) := by decide +kernel
theorem dX5_goes_13 : decode cX5_goes 13 = .ok (.iconst 2, 1) := by decide +kernel
theorem dX5_goes_14 : decode cX5_goes 14 = .ok (.goto 4, 3) := by decide +kernel
theorem dX5_goes_17 : decode cX5_goes 17 = .ok (.iconst 0, 1) := by decide +kernel
theorem dX5_goes_18 : decode cX5_goes 18 = .ok (.putfield 43, 3) := by decide +kernel
theorem dX5_goes_21 : decode cX5_goes 21 = .ok (.aload_n 0, 1) := by decide +kernel
theorem dX5_goes_22 : decode cX5_goes 22 = .ok (.getfield 43, 3) := by decide +kernel
theorem dX5_goes_25 : decode cX5_goes 25 = .ok (.ifCond .ne 7, 3) := by decide +kernel
theorem dX5_goes_28 : decode cX5_goes 28 = .ok (.iconst 1, 1) := by decide +kernel
theorem dX5_goes_29 : decode cX5_goes 29 = .ok (.goto 4, 3) := by decide +kernel
theorem dX5_goes_32 : decode cX5_goes 32 = .ok (.iconst 0, 1) := by decide +kernel
theorem dX5_goes_33 : decode cX5_goes 33 = .ok (.ireturn, 1) := by decide +kernel
theorem dX5_isNode_0 : decode cX5_isNode 0 = .ok (.iload_n 0, 1) := by decide +kernel
theorem dX5_isNode_1 : decode cX5_isNode 1 = .ok (.ifCond .lt 13, 3) := by decide +kernel
theorem dX5_isNode_4 : decode cX5_isNode 4 = .ok (.iload_n 0, 1) := by decide +kernel
theorem dX5_isNode_5 : decode cX5_isNode 5 = .ok (.bipush 14, 2) := by decide +kernel
theorem dX5_isNode_7 : decode cX5_isNode 7 = .ok (.if_icmp .ge 7, 3) := by decide +kernel
theorem dX5_isNode_10 : decode cX5_isNode 10 = .ok (.iconst 1, 1) := by decide +kernel
theorem dX5_isNode_11 : decode cX5_isNode 11 = .ok (.goto 4, 3) := by decide +kernel
theorem dX5_isNode_14 : decode cX5_isNode 14 = .ok (.iconst 0, 1) := by decide +kernel
theorem dX5_isNode_15 : decode cX5_isNode 15 = .ok (.ireturn, 1) := by decide +kernel
theorem dX5_has_0 : decode cX5_has 0 = .ok (.iload_n 0, 1) := by decide +kernel
theorem dX5_has_1 : decode cX5_has 1 = .ok (.iload_n 1, 1) := by decide +kernel
theorem dX5_has_2 : decode cX5_has 2 = .ok (.ishr, 1) := by decide +kernel
theorem dX5_has_3 : decode cX5_has 3 = .ok (.iconst 1, 1) := by decide +kernel
theorem dX5_has_4 : decode cX5_has 4 = .ok (.iand, 1) := by decide +kernel
theorem dX5_has_5 : decode cX5_has 5 = .ok (.iconst 1, 1) := by decide +kernel
theorem dX5_has_6 : decode cX5_has 6 = .ok (.if_icmp .ne 7, 3) := by decide +kernel
theorem dX5_has_9 : decode cX5_has 9 = .ok (.iconst 1, 1) := by decide +kernel
theorem dX5_has_10 : decode cX5_has 10 = .ok (.goto 4, 3) := by decide +kernel
theorem dX5_has_13 : decode cX5_has 13 = .ok (.iconst 0, 1) := by decide +kernel
theorem dX5_has_14 : decode cX5_has 14 = .ok (.ireturn, 1) := by decide +kernel
theorem dX5_count_0 : decode cX5_count 0 = .ok (.iconst 0, 1) := by decide +kernel
theorem dX5_count_1 : decode cX5_count 1 = .ok (.istore_n 1, 1) := by decide +kernel
theorem dX5_count_2 : decode cX5_count 2 = .ok (.iconst 0, 1) := by decide +kernel
theorem dX5_count_3 : decode cX5_count 3 = .ok (.istore_n 2, 1) := by decide +kernel
theorem dX5_count_4 : decode cX5_count 4 = .ok (.iload_n 2, 1) := by decide +kernel
theorem dX5_count_5 : decode cX5_count 5 = .ok (.bipush 14, 2) := by decide +kernel
theorem dX5_count_7 : decode cX5_count 7 = .ok (.if_icmp .ge 17, 3) := by decide +kernel
theorem dX5_count_10 : decode cX5_count 10 = .ok (.iload_n 1, 1) := by decide +kernel
theorem dX5_count_11 : decode cX5_count 11 = .ok (.iload_n 0, 1) := by decide +kernel
theorem dX5_count_12 : decode cX5_count 12 = .ok (.iload_n 2, 1) := by decide +kernel
theorem dX5_count_13 : decode cX5_count 13 = .ok (.ishr, 1) := by decide +kernel
theorem dX5_count_14 : decode cX5_count 14 = .ok (.iconst 1, 1) := by decide +kernel
theorem dX5_count_15 : decode cX5_count 15 = .ok (.iand, 1) := by decide +kernel
theorem dX5_count_16 : decode cX5_count 16 = .ok (.iadd, 1) := by decide +kernel
theorem dX5_count_17 : decode cX5_count 17 = .ok (.istore_n 1, 1) := by decide +kernel
theorem dX5_count_18 : decode cX5_count 18 = .ok (.iinc 2 1, 3) := by decide +kernel
theorem dX5_count_21 : decode cX5_count 21 = .ok (.goto (-17), 3) := by decide +kernel
theorem dX5_count_24 : decode cX5_count 24 = .ok (.iload_n 1, 1) := by decide +kernel
theorem dX5_count_25 : decode cX5_count 25 = .ok (.ireturn, 1) := by decide +kernel
theorem dX5_at_0 : decode cX5_at 0 = .ok (.iload_n 1, 1) := by decide +kernel
theorem dX5_at_1 : decode cX5_at 1 = .ok (.istore_n 2, 1) := by decide +kernel
theorem dX5_at_2 : decode cX5_at 2 = .ok (.iconst (-1), 1) := by decide +kernel
theorem dX5_at_3 : decode cX5_at 3 = .ok (.istore_n 3, 1) := by decide +kernel
theorem dX5_at_4 : decode cX5_at 4 = .ok (.iconst 0, 1) := by decide +kernel
theorem dX5_at_5 : decode cX5_at 5 = .ok (.istore 4, 2) := by decide +kernel
theorem dX5_at_7 : decode cX5_at 7 = .ok (.iload 4, 2) := by decide +kernel
theorem dX5_at_9 : decode cX5_at 9 = .ok (.bipush 14, 2) := by decide +kernel
theorem dX5_at_11 : decode cX5_at 11 = .ok (.if_icmp .ge 46, 3) := by decide +kernel
theorem dX5_at_14 : decode cX5_at 14 = .ok (.iload_n 0, 1) := by decide +kernel
theorem dX5_at_15 : decode cX5_at 15 = .ok (.iload 4, 2) := by decide +kernel
theorem dX5_at_17 : decode cX5_at 17 = .ok (.invokestatic 47, 3) := by decide +kernel
theorem dX5_at_20 : decode cX5_at 20 = .ok (.ifCond .eq 12, 3) := by decide +kernel
theorem dX5_at_23 : decode cX5_at 23 = .ok (.iload_n 2, 1) := by decide +kernel
theorem dX5_at_24 : decode cX5_at 24 = .ok (.ifCond .ne 8, 3) := by decide +kernel
theorem dX5_at_27 : decode cX5_at 27 = .ok (.iload 4, 2) := by decide +kernel
theorem dX5_at_29 : decode cX5_at 29 = .ok (.goto 4, 3) := by decide +kernel
theorem dX5_at_32 : decode cX5_at 32 = .ok (.iload_n 3, 1) := by decide +kernel
theorem dX5_at_33 : decode cX5_at 33 = .ok (.istore_n 3, 1) := by decide +kernel
theorem dX5_at_34 : decode cX5_at 34 = .ok (.iload_n 2, 1) := by decide +kernel
theorem dX5_at_35 : decode cX5_at 35 = .ok (.iload_n 0, 1) := by decide +kernel
theorem dX5_at_36 : decode cX5_at 36 = .ok (.iload 4, 2) := by decide +kernel
theorem dX5_at_38 : decode cX5_at 38 = .ok (.invokestatic 47, 3) := by decide +kernel
theorem dX5_at_41 : decode cX5_at 41 = .ok (.ifCond .eq 7, 3) := by decide +kernel
theorem dX5_at_44 : decode cX5_at 44 = .ok (.iconst 1, 1) := by decide +kernel
theorem dX5_at_45 : decode cX5_at 45 = .ok (.goto 4, 3) := by decide +kernel
theorem dX5_at_48 : decode cX5_at 48 = .ok (.iconst 0, 1) := by decide +kernel
theorem dX5_at_49 : decode cX5_at 49 = .ok (.isub, 1) := by decide +kernel
theorem dX5_at_50 : decode cX5_at 50 = .ok (.istore_n 2, 1) := by decide +kernel
theorem dX5_at_51 : decode cX5_at 51 = .ok (.iinc 4 1, 3) := by decide +kernel
theorem dX5_at_54 : decode cX5_at 54 = .ok (.goto (-47), 3) := by decide +kernel
theorem dX5_at_57 : decode cX5_at 57 = .ok (.iload_n 3, 1) := by decide +kernel
theorem dX5_at_58 : decode cX5_at 58 = .ok (.ireturn, 1) := by decide +kernel
theorem dX5_closes_0 : decode cX5_closes 0 = .ok (.iconst 0, 1) := by decide +kernel
theorem dX5_closes_1 : decode cX5_closes 1 = .ok (.istore_n 1, 1) := by decide +kernel
theorem dX5_closes_2 : decode cX5_closes 2 = .ok (.iload_n 1, 1) := by decide +kernel
theorem dX5_closes_3 : decode cX5_closes 3 = .ok (.bipush 14, 2) := by decide +kernel
theorem dX5_closes_5 : decode cX5_closes 5 = .ok (.if_icmp .ge 21, 3) := by decide +kernel
theorem dX5_closes_8 : decode cX5_closes 8 = .ok (.aload_n 0, 1) := by decide +kernel
theorem dX5_closes_9 : decode cX5_closes 9 = .ok (.getfield 13, 3) := by decide +kernel
theorem dX5_closes_12 : decode cX5_closes 12 = .ok (.iload_n 1, 1) := by decide +kernel
theorem dX5_closes_13 : decode cX5_closes 13 = .ok (.aload_n 0, 1) := by decide +kernel
theorem dX5_closes_14 : decode cX5_closes 14 = .ok (.getfield 7, 3) := by decide +kernel
theorem dX5_closes_17 : decode cX5_closes 17 = .ok (.iload_n 1, 1) := by decide +kernel
theorem dX5_closes_18 : decode cX5_closes 18 = .ok (.iaload, 1) := by decide +kernel
theorem dX5_closes_19 : decode cX5_closes 19 = .ok (.iastore, 1) := by decide +kernel
theorem dX5_closes_20 : decode cX5_closes 20 = .ok (.iinc 1 1, 3) := by decide +kernel
theorem dX5_closes_23 : decode cX5_closes 23 = .ok (.goto (-21), 3) := by decide +kernel
theorem dX5_closes_26 : decode cX5_closes 26 = .ok (.iconst 0, 1) := by decide +kernel
theorem dX5_closes_27 : decode cX5_closes 27 = .ok (.istore_n 1, 1) := by decide +kernel
theorem dX5_closes_28 : decode cX5_closes 28 = .ok (.iload_n 1, 1) := by decide +kernel
theorem dX5_closes_29 : decode cX5_closes 29 = .ok (.bipush 14, 2) := by decide +kernel
theorem dX5_closes_31 : decode cX5_closes 31 = .ok (.if_icmp .ge 69, 3) := by decide +kernel
theorem dX5_closes_34 : decode cX5_closes 34 = .ok (.iconst 0, 1) := by decide +kernel
theorem dX5_closes_35 : decode cX5_closes 35 = .ok (.istore_n 2, 1) := by decide +kernel
theorem dX5_closes_36 : decode cX5_closes 36 = .ok (.iload_n 2, 1) := by decide +kernel
theorem dX5_closes_37 : decode cX5_closes 37 = .ok (.bipush 14, 2) := by decide +kernel
theorem dX5_closes_39 : decode cX5_closes 39 = .ok (.if_icmp .ge 55, 3) := by decide +kernel
theorem dX5_closes_42 : decode cX5_closes 42 = .ok (.iconst 0, 1) := by decide +kernel
theorem dX5_closes_43 : decode cX5_closes 43 = .ok (.istore_n 3, 1) := by decide +kernel
theorem dX5_closes_44 : decode cX5_closes 44 = .ok (.iload_n 3, 1) := by decide +kernel
theorem dX5_closes_45 : decode cX5_closes 45 = .ok (.bipush 14, 2) := by decide +kernel
theorem dX5_closes_47 : decode cX5_closes 47 = .ok (.if_icmp .ge 41, 3) := by decide +kernel
theorem dX5_closes_50 : decode cX5_closes 50 = .ok (.aload_n 0, 1) := by decide +kernel
theorem dX5_closes_51 : decode cX5_closes 51 = .ok (.getfield 13, 3) := by decide +kernel
theorem dX5_closes_54 : decode cX5_closes 54 = .ok (.iload_n 2, 1) := by decide +kernel
theorem dX5_closes_55 : decode cX5_closes 55 = .ok (.dup2, 1) := by decide +kernel
theorem dX5_closes_56 : decode cX5_closes 56 = .ok (.iaload, 1) := by decide +kernel
theorem dX5_closes_57 : decode cX5_closes 57 = .ok (.aload_n 0, 1) := by decide +kernel
theorem dX5_closes_58 : decode cX5_closes 58 = .ok (.getfield 13, 3) := by decide +kernel
theorem dX5_closes_61 : decode cX5_closes 61 = .ok (.iload_n 2, 1) := by decide +kernel
theorem dX5_closes_62 : decode cX5_closes 62 = .ok (.iaload, 1) := by decide +kernel
theorem dX5_closes_63 : decode cX5_closes 63 = .ok (.iload_n 3, 1) := by decide +kernel
theorem dX5_closes_64 : decode cX5_closes 64 = .ok (.invokestatic 47, 3) := by decide +kernel
theorem dX5_closes_67 : decode cX5_closes 67 = .ok (.ifCond .eq 12, 3) := by decide +kernel
theorem dX5_closes_70 : decode cX5_closes 70 = .ok (.aload_n 0, 1) := by decide +kernel
theorem dX5_closes_71 : decode cX5_closes 71 = .ok (.getfield 13, 3) := by decide +kernel
theorem dX5_closes_74 : decode cX5_closes 74 = .ok (.iload_n 3, 1) := by decide +kernel
theorem dX5_closes_75 : decode cX5_closes 75 = .ok (.iaload, 1) := by decide +kernel
theorem dX5_closes_76 : decode cX5_closes 76 = .ok (.goto 4, 3) := by decide +kernel
theorem dX5_closes_79 : decode cX5_closes 79 = .ok (.iconst 0, 1) := by decide +kernel
theorem dX5_closes_80 : decode cX5_closes 80 = .ok (.ior, 1) := by decide +kernel
theorem dX5_closes_81 : decode cX5_closes 81 = .ok (.iastore, 1) := by decide +kernel
theorem dX5_closes_82 : decode cX5_closes 82 = .ok (.iinc 3 1, 3) := by decide +kernel
theorem dX5_closes_85 : decode cX5_closes 85 = .ok (.goto (-41), 3) := by decide +kernel
theorem dX5_closes_88 : decode cX5_closes 88 = .ok (.iinc 2 1, 3) := by decide +kernel
theorem dX5_closes_91 : decode cX5_closes 91 = .ok (.goto (-55), 3) := by decide +kernel
theorem dX5_closes_94 : decode cX5_closes 94 = .ok (.iinc 1 1, 3) := by decide +kernel
theorem dX5_closes_97 : decode cX5_closes 97 = .ok (.goto (-69), 3) := by decide +kernel
theorem dX5_closes_100 : decode cX5_closes 100 = .ok (.return_, 1) := by decide +kernel
theorem dX5_need_0 : decode cX5_need 0 = .ok (.iload_n 1, 1) := by decide +kernel
theorem dX5_need_1 : decode cX5_need 1 = .ok (.invokestatic 51, 3) := by decide +kernel
theorem dX5_need_4 : decode cX5_need 4 = .ok (.ifCond .eq 14, 3) := by decide +kernel
theorem dX5_need_7 : decode cX5_need 7 = .ok (.iload_n 2, 1) := by decide +kernel
theorem dX5_need_8 : decode cX5_need 8 = .ok (.invokestatic 51, 3) := by decide +kernel
theorem dX5_need_11 : decode cX5_need 11 = .ok (.ifCond .eq 7, 3) := by decide +kernel
theorem dX5_need_14 : decode cX5_need 14 = .ok (.iconst 1, 1) := by decide +kernel
theorem dX5_need_15 : decode cX5_need 15 = .ok (.goto 4, 3) := by decide +kernel
theorem dX5_need_18 : decode cX5_need 18 = .ok (.iconst 0, 1) := by decide +kernel
theorem dX5_need_19 : decode cX5_need 19 = .ok (.istore_n 3, 1) := by decide +kernel
theorem dX5_need_20 : decode cX5_need 20 = .ok (.aload_n 0, 1) := by decide +kernel
theorem dX5_need_21 : decode cX5_need 21 = .ok (.iload_n 3, 1) := by decide +kernel
theorem dX5_need_22 : decode cX5_need 22 = .ok (.iload_n 3, 1) := by decide +kernel
theorem dX5_need_23 : decode cX5_need 23 = .ok (.ifCond .eq 25, 3) := by decide +kernel
theorem dX5_need_26 : decode cX5_need 26 = .ok (.iload_n 1, 1) := by decide +kernel
theorem dX5_need_27 : decode cX5_need 27 = .ok (.iload_n 2, 1) := by decide +kernel
theorem dX5_need_28 : decode cX5_need 28 = .ok (.if_icmp .eq 20, 3) := by decide +kernel
theorem dX5_need_31 : decode cX5_need 31 = .ok (.aload_n 0, 1) := by decide +kernel
theorem dX5_need_32 : decode cX5_need 32 = .ok (.getfield 13, 3) := by decide +kernel
theorem dX5_need_35 : decode cX5_need 35 = .ok (.iload_n 2, 1) := by decide +kernel
theorem dX5_need_36 : decode cX5_need 36 = .ok (.iaload, 1) := by decide +kernel
theorem dX5_need_37 : decode cX5_need 37 = .ok (.iload_n 1, 1) := by decide +kernel
theorem dX5_need_38 : decode cX5_need 38 = .ok (.invokestatic 47, 3) := by decide +kernel
theorem dX5_need_41 : decode cX5_need 41 = .ok (.ifCond .ne 7, 3) := by decide +kernel
theorem dX5_need_44 : decode cX5_need 44 = .ok (.iconst 1, 1) := by decide +kernel
theorem dX5_need_45 : decode cX5_need 45 = .ok (.goto 4, 3) := by decide +kernel
theorem dX5_need_48 : decode cX5_need 48 = .ok (.iconst 0, 1) := by decide +kernel
theorem dX5_need_49 : decode cX5_need 49 = .ok (.invokevirtual 55, 3) := by decide +kernel
theorem dX5_need_52 : decode cX5_need 52 = .ok (.ifCond .ne 5, 3) := by decide +kernel
theorem dX5_need_55 : decode cX5_need 55 = .ok (.iconst 0, 1) := by decide +kernel
theorem dX5_need_56 : decode cX5_need 56 = .ok (.ireturn, 1) := by decide +kernel
theorem dX5_need_57 : decode cX5_need 57 = .ok (.aload_n 0, 1) := by decide +kernel
theorem dX5_need_58 : decode cX5_need 58 = .ok (.getfield 7, 3) := by decide +kernel
theorem dX5_need_61 : decode cX5_need 61 = .ok (.iload_n 1, 1) := by decide +kernel
theorem dX5_need_62 : decode cX5_need 62 = .ok (.iaload, 1) := by decide +kernel
theorem dX5_need_63 : decode cX5_need 63 = .ok (.iload_n 2, 1) := by decide +kernel
theorem dX5_need_64 : decode cX5_need 64 = .ok (.invokestatic 47, 3) := by decide +kernel
theorem dX5_need_67 : decode cX5_need 67 = .ok (.ifCond .ne 7, 3) := by decide +kernel
theorem dX5_need_70 : decode cX5_need 70 = .ok (.iconst 1, 1) := by decide +kernel
theorem dX5_need_71 : decode cX5_need 71 = .ok (.goto 4, 3) := by decide +kernel
theorem dX5_need_74 : decode cX5_need 74 = .ok (.iconst 0, 1) := by decide +kernel
theorem dX5_need_75 : decode cX5_need 75 = .ok (.istore 4, 2) := by decide +kernel
theorem dX5_need_77 : decode cX5_need 77 = .ok (.aload_n 0, 1) := by decide +kernel
theorem dX5_need_78 : decode cX5_need 78 = .ok (.getfield 7, 3) := by decide +kernel
theorem dX5_need_81 : decode cX5_need 81 = .ok (.iload_n 1, 1) := by decide +kernel
theorem dX5_need_82 : decode cX5_need 82 = .ok (.dup2, 1) := by decide +kernel
theorem dX5_need_83 : decode cX5_need 83 = .ok (.iaload, 1) := by decide +kernel
theorem dX5_need_84 : decode cX5_need 84 = .ok (.iconst 1, 1) := by decide +kernel
theorem dX5_need_85 : decode cX5_need 85 = .ok (.iload_n 2, 1) := by decide +kernel
theorem dX5_need_86 : decode cX5_need 86 = .ok (.ishl, 1) := by decide +kernel
theorem dX5_need_87 : decode cX5_need 87 = .ok (.ior, 1) := by decide +kernel
theorem dX5_need_88 : decode cX5_need 88 = .ok (.iastore, 1) := by decide +kernel
theorem dX5_need_89 : decode cX5_need 89 = .ok (.aload_n 0, 1) := by decide +kernel
theorem dX5_need_90 : decode cX5_need 90 = .ok (.invokevirtual 59, 3) := by decide +kernel
theorem dX5_need_93 : decode cX5_need 93 = .ok (.iload 4, 2) := by decide +kernel
theorem dX5_need_95 : decode cX5_need 95 = .ok (.ireturn, 1) := by decide +kernel
theorem dX5_release_0 : decode cX5_release 0 = .ok (.aload_n 0, 1) := by decide +kernel
theorem dX5_release_1 : decode cX5_release 1 = .ok (.iload_n 1, 1) := by decide +kernel
theorem dX5_release_2 : decode cX5_release 2 = .ok (.invokestatic 51, 3) := by decide +kernel
theorem dX5_release_5 : decode cX5_release 5 = .ok (.ifCond .eq 14, 3) := by decide +kernel
theorem dX5_release_8 : decode cX5_release 8 = .ok (.iload_n 2, 1) := by decide +kernel
theorem dX5_release_9 : decode cX5_release 9 = .ok (.invokestatic 51, 3) := by decide +kernel
theorem dX5_release_12 : decode cX5_release 12 = .ok (.ifCond .eq 7, 3) := by decide +kernel
theorem dX5_release_15 : decode cX5_release 15 = .ok (.iconst 1, 1) := by decide +kernel
theorem dX5_release_16 : decode cX5_release 16 = .ok (.goto 4, 3) := by decide +kernel
theorem dX5_release_19 : decode cX5_release 19 = .ok (.iconst 0, 1) := by decide +kernel
theorem dX5_release_20 : decode cX5_release 20 = .ok (.iconst 1, 1) := by decide +kernel
theorem dX5_release_21 : decode cX5_release 21 = .ok (.invokevirtual 55, 3) := by decide +kernel
theorem dX5_release_24 : decode cX5_release 24 = .ok (.ifCond .ne 5, 3) := by decide +kernel
theorem dX5_release_27 : decode cX5_release 27 = .ok (.iconst 0, 1) := by decide +kernel
theorem dX5_release_28 : decode cX5_release 28 = .ok (.ireturn, 1) := by decide +kernel
theorem dX5_release_29 : decode cX5_release 29 = .ok (.aload_n 0, 1) := by decide +kernel
theorem dX5_release_30 : decode cX5_release 30 = .ok (.getfield 7, 3) := by decide +kernel
theorem dX5_release_33 : decode cX5_release 33 = .ok (.iload_n 1, 1) := by decide +kernel
theorem dX5_release_34 : decode cX5_release 34 = .ok (.iaload, 1) := by decide +kernel
theorem dX5_release_35 : decode cX5_release 35 = .ok (.iload_n 2, 1) := by decide +kernel
theorem dX5_release_36 : decode cX5_release 36 = .ok (.invokestatic 47, 3) := by decide +kernel
theorem dX5_release_39 : decode cX5_release 39 = .ok (.istore_n 3, 1) := by decide +kernel
theorem dX5_release_40 : decode cX5_release 40 = .ok (.aload_n 0, 1) := by decide +kernel
theorem dX5_release_41 : decode cX5_release 41 = .ok (.getfield 7, 3) := by decide +kernel
theorem dX5_release_44 : decode cX5_release 44 = .ok (.iload_n 1, 1) := by decide +kernel
theorem dX5_release_45 : decode cX5_release 45 = .ok (.dup2, 1) := by decide +kernel
theorem dX5_release_46 : decode cX5_release 46 = .ok (.iaload, 1) := by decide +kernel
theorem dX5_release_47 : decode cX5_release 47 = .ok (.iconst 1, 1) := by decide +kernel
theorem dX5_release_48 : decode cX5_release 48 = .ok (.iload_n 2, 1) := by decide +kernel
theorem dX5_release_49 : decode cX5_release 49 = .ok (.ishl, 1) := by decide +kernel
theorem dX5_release_50 : decode cX5_release 50 = .ok (.iconst (-1), 1) := by decide +kernel
theorem dX5_release_51 : decode cX5_release 51 = .ok (.ixor, 1) := by decide +kernel
theorem dX5_release_52 : decode cX5_release 52 = .ok (.iand, 1) := by decide +kernel
theorem dX5_release_53 : decode cX5_release 53 = .ok (.iastore, 1) := by decide +kernel
theorem dX5_release_54 : decode cX5_release 54 = .ok (.aload_n 0, 1) := by decide +kernel
theorem dX5_release_55 : decode cX5_release 55 = .ok (.invokevirtual 59, 3) := by decide +kernel
theorem dX5_release_58 : decode cX5_release 58 = .ok (.iload_n 3, 1) := by decide +kernel
theorem dX5_release_59 : decode cX5_release 59 = .ok (.ireturn, 1) := by decide +kernel
theorem dX5_needs_0 : decode cX5_needs 0 = .ok (.aload_n 0, 1) := by decide +kernel
theorem dX5_needs_1 : decode cX5_needs 1 = .ok (.iload_n 1, 1) := by decide +kernel
theorem dX5_needs_2 : decode cX5_needs 2 = .ok (.invokestatic 51, 3) := by decide +kernel
theorem dX5_needs_5 : decode cX5_needs 5 = .ok (.ifCond .eq 14, 3) := by decide +kernel
theorem dX5_needs_8 : decode cX5_needs 8 = .ok (.iload_n 2, 1) := by decide +kernel
theorem dX5_needs_9 : decode cX5_needs 9 = .ok (.invokestatic 51, 3) := by decide +kernel
theorem dX5_needs_12 : decode cX5_needs 12 = .ok (.ifCond .eq 7, 3) := by decide +kernel
theorem dX5_needs_15 : decode cX5_needs 15 = .ok (.iconst 1, 1) := by decide +kernel
theorem dX5_needs_16 : decode cX5_needs 16 = .ok (.goto 4, 3) := by decide +kernel
theorem dX5_needs_19 : decode cX5_needs 19 = .ok (.iconst 0, 1) := by decide +kernel
theorem dX5_needs_20 : decode cX5_needs 20 = .ok (.iconst 1, 1) := by decide +kernel
theorem dX5_needs_21 : decode cX5_needs 21 = .ok (.invokevirtual 55, 3) := by decide +kernel
theorem dX5_needs_24 : decode cX5_needs 24 = .ok (.ifCond .eq 20, 3) := by decide +kernel
theorem dX5_needs_27 : decode cX5_needs 27 = .ok (.aload_n 0, 1) := by decide +kernel
theorem dX5_needs_28 : decode cX5_needs 28 = .ok (.getfield 7, 3) := by decide +kernel
theorem dX5_needs_31 : decode cX5_needs 31 = .ok (.iload_n 1, 1) := by decide +kernel
theorem dX5_needs_32 : decode cX5_needs 32 = .ok (.iaload, 1) := by decide +kernel
theorem dX5_needs_33 : decode cX5_needs 33 = .ok (.iload_n 2, 1) := by decide +kernel
theorem dX5_needs_34 : decode cX5_needs 34 = .ok (.invokestatic 47, 3) := by decide +kernel
theorem dX5_needs_37 : decode cX5_needs 37 = .ok (.ifCond .eq 7, 3) := by decide +kernel
theorem dX5_needs_40 : decode cX5_needs 40 = .ok (.iconst 1, 1) := by decide +kernel
theorem dX5_needs_41 : decode cX5_needs 41 = .ok (.goto 4, 3) := by decide +kernel
theorem dX5_needs_44 : decode cX5_needs 44 = .ok (.iconst 0, 1) := by decide +kernel
theorem dX5_needs_45 : decode cX5_needs 45 = .ok (.ireturn, 1) := by decide +kernel
theorem dX5_dependsOn_0 : decode cX5_dependsOn 0 = .ok (.aload_n 0, 1) := by decide +kernel
theorem dX5_dependsOn_1 : decode cX5_dependsOn 1 = .ok (.iload_n 1, 1) := by decide +kernel
theorem dX5_dependsOn_2 : decode cX5_dependsOn 2 = .ok (.invokestatic 51, 3) := by decide +kernel
theorem dX5_dependsOn_5 : decode cX5_dependsOn 5 = .ok (.ifCond .eq 14, 3) := by decide +kernel
theorem dX5_dependsOn_8 : decode cX5_dependsOn 8 = .ok (.iload_n 2, 1) := by decide +kernel
theorem dX5_dependsOn_9 : decode cX5_dependsOn 9 = .ok (.invokestatic 51, 3) := by decide +kernel
theorem dX5_dependsOn_12 : decode cX5_dependsOn 12 = .ok (.ifCond .eq 7, 3) := by decide +kernel
theorem dX5_dependsOn_15 : decode cX5_dependsOn 15 = .ok (.iconst 1, 1) := by decide +kernel
theorem dX5_dependsOn_16 : decode cX5_dependsOn 16 = .ok (.goto 4, 3) := by decide +kernel
theorem dX5_dependsOn_19 : decode cX5_dependsOn 19 = .ok (.iconst 0, 1) := by decide +kernel
theorem dX5_dependsOn_20 : decode cX5_dependsOn 20 = .ok (.iconst 1, 1) := by decide +kernel
theorem dX5_dependsOn_21 : decode cX5_dependsOn 21 = .ok (.invokevirtual 55, 3) := by decide +kernel
theorem dX5_dependsOn_24 : decode cX5_dependsOn 24 = .ok (.ifCond .eq 20, 3) := by decide +kernel
theorem dX5_dependsOn_27 : decode cX5_dependsOn 27 = .ok (.aload_n 0, 1) := by decide +kernel
theorem dX5_dependsOn_28 : decode cX5_dependsOn 28 = .ok (.getfield 13, 3) := by decide +kernel
theorem dX5_dependsOn_31 : decode cX5_dependsOn 31 = .ok (.iload_n 1, 1) := by decide +kernel
theorem dX5_dependsOn_32 : decode cX5_dependsOn 32 = .ok (.iaload, 1) := by decide +kernel
theorem dX5_dependsOn_33 : decode cX5_dependsOn 33 = .ok (.iload_n 2, 1) := by decide +kernel
theorem dX5_dependsOn_34 : decode cX5_dependsOn 34 = .ok (.invokestatic 47, 3) := by decide +kernel
theorem dX5_dependsOn_37 : decode cX5_dependsOn 37 = .ok (.ifCond .eq 7, 3) := by decide +kernel
theorem dX5_dependsOn_40 : decode cX5_dependsOn 40 = .ok (.iconst 1, 1) := by decide +kernel
theorem dX5_dependsOn_41 : decode cX5_dependsOn 41 = .ok (.goto 4, 3) := by decide +kernel
theorem dX5_dependsOn_44 : decode cX5_dependsOn 44 = .ok (.iconst 0, 1) := by decide +kernel
theorem dX5_dependsOn_45 : decode cX5_dependsOn 45 = .ok (.ireturn, 1) := by decide +kernel
theorem dX5_height_0 : decode cX5_height 0 = .ok (.aload_n 0, 1) := by decide +kernel
theorem dX5_height_1 : decode cX5_height 1 = .ok (.iload_n 1, 1) := by decide +kernel
theorem dX5_height_2 : decode cX5_height 2 = .ok (.invokestatic 51, 3) := by decide +kernel
theorem dX5_height_5 : decode cX5_height 5 = .ok (.iconst 1, 1) := by decide +kernel
theorem dX5_height_6 : decode cX5_height 6 = .ok (.invokevirtual 55, 3) := by decide +kernel
theorem dX5_height_9 : decode cX5_height 9 = .ok (.ifCond .ne 5, 3) := by decide +kernel
theorem dX5_height_12 : decode cX5_height 12 = .ok (.iconst 0, 1) := by decide +kernel
theorem dX5_height_13 : decode cX5_height 13 = .ok (.ireturn, 1) := by decide +kernel
theorem dX5_height_14 : decode cX5_height 14 = .ok (.iconst 1, 1) := by decide +kernel
theorem dX5_height_15 : decode cX5_height 15 = .ok (.iload_n 1, 1) := by decide +kernel
theorem dX5_height_16 : decode cX5_height 16 = .ok (.ishl, 1) := by decide +kernel
theorem dX5_height_17 : decode cX5_height 17 = .ok (.istore_n 2, 1) := by decide +kernel
theorem dX5_height_18 : decode cX5_height 18 = .ok (.iconst (-1), 1) := by decide +kernel
theorem dX5_height_19 : decode cX5_height 19 = .ok (.istore_n 3, 1) := by decide +kernel
theorem dX5_height_20 : decode cX5_height 20 = .ok (.iload_n 2, 1) := by decide +kernel
theorem dX5_height_21 : decode cX5_height 21 = .ok (.ifCond .eq 56, 3) := by decide +kernel
theorem dX5_height_24 : decode cX5_height 24 = .ok (.iconst 0, 1) := by decide +kernel
theorem dX5_height_25 : decode cX5_height 25 = .ok (.istore 4, 2) := by decide +kernel
theorem dX5_height_27 : decode cX5_height 27 = .ok (.iconst 0, 1) := by decide +kernel
theorem dX5_height_28 : decode cX5_height 28 = .ok (.istore 5, 2) := by decide +kernel
theorem dX5_height_30 : decode cX5_height 30 = .ok (.iload 5, 2) := by decide +kernel
theorem dX5_height_32 : decode cX5_height 32 = .ok (.bipush 14, 2) := by decide +kernel
theorem dX5_height_34 : decode cX5_height 34 = .ok (.if_icmp .ge 34, 3) := by decide +kernel
theorem dX5_height_37 : decode cX5_height 37 = .ok (.iload 4, 2) := by decide +kernel
theorem dX5_height_39 : decode cX5_height 39 = .ok (.iload_n 2, 1) := by decide +kernel
theorem dX5_height_40 : decode cX5_height 40 = .ok (.iload 5, 2) := by decide +kernel
theorem dX5_height_42 : decode cX5_height 42 = .ok (.invokestatic 47, 3) := by decide +kernel
theorem dX5_height_45 : decode cX5_height 45 = .ok (.ifCond .eq 13, 3) := by decide +kernel
theorem dX5_height_48 : decode cX5_height 48 = .ok (.aload_n 0, 1) := by decide +kernel
theorem dX5_height_49 : decode cX5_height 49 = .ok (.getfield 7, 3) := by decide +kernel
theorem dX5_height_52 : decode cX5_height 52 = .ok (.iload 5, 2) := by decide +kernel
theorem dX5_height_54 : decode cX5_height 54 = .ok (.iaload, 1) := by decide +kernel
theorem dX5_height_55 : decode cX5_height 55 = .ok (.goto 4, 3) := by decide +kernel
theorem dX5_height_58 : decode cX5_height 58 = .ok (.iconst 0, 1) := by decide +kernel
theorem dX5_height_59 : decode cX5_height 59 = .ok (.ior, 1) := by decide +kernel
theorem dX5_height_60 : decode cX5_height 60 = .ok (.istore 4, 2) := by decide +kernel
theorem dX5_height_62 : decode cX5_height 62 = .ok (.iinc 5 1, 3) := by decide +kernel
theorem dX5_height_65 : decode cX5_height 65 = .ok (.goto (-35), 3) := by decide +kernel
theorem dX5_height_68 : decode cX5_height 68 = .ok (.iload 4, 2) := by decide +kernel
theorem dX5_height_70 : decode cX5_height 70 = .ok (.istore_n 2, 1) := by decide +kernel
theorem dX5_height_71 : decode cX5_height 71 = .ok (.iinc 3 1, 3) := by decide +kernel
theorem dX5_height_74 : decode cX5_height 74 = .ok (.goto (-54), 3) := by decide +kernel
theorem dX5_height_77 : decode cX5_height 77 = .ok (.iload_n 3, 1) := by decide +kernel
theorem dX5_height_78 : decode cX5_height 78 = .ok (.ireturn, 1) := by decide +kernel
theorem dX5_tick_0 : decode cX5_tick 0 = .ok (.aload_n 0, 1) := by decide +kernel
theorem dX5_tick_1 : decode cX5_tick 1 = .ok (.iload_n 1, 1) := by decide +kernel
theorem dX5_tick_2 : decode cX5_tick 2 = .ok (.iconst 1, 1) := by decide +kernel
theorem dX5_tick_3 : decode cX5_tick 3 = .ok (.if_icmp .lt 13, 3) := by decide +kernel
theorem dX5_tick_6 : decode cX5_tick 6 = .ok (.iload_n 1, 1) := by decide +kernel
theorem dX5_tick_7 : decode cX5_tick 7 = .ok (.bipush 100, 2) := by decide +kernel
theorem dX5_tick_9 : decode cX5_tick 9 = .ok (.if_icmp .gt 7, 3) := by decide +kernel
theorem dX5_tick_12 : decode cX5_tick 12 = .ok (.iconst 1, 1) := by decide +kernel
theorem dX5_tick_13 : decode cX5_tick 13 = .ok (.goto 4, 3) := by decide +kernel
theorem dX5_tick_16 : decode cX5_tick 16 = .ok (.iconst 0, 1) := by decide +kernel
theorem dX5_tick_17 : decode cX5_tick 17 = .ok (.iconst 1, 1) := by decide +kernel
theorem dX5_tick_18 : decode cX5_tick 18 = .ok (.invokevirtual 55, 3) := by decide +kernel
theorem dX5_tick_21 : decode cX5_tick 21 = .ok (.ifCond .ne 5, 3) := by decide +kernel
theorem dX5_tick_24 : decode cX5_tick 24 = .ok (.iconst 0, 1) := by decide +kernel
theorem dX5_tick_25 : decode cX5_tick 25 = .ok (.ireturn, 1) := by decide +kernel
theorem dX5_tick_26 : decode cX5_tick 26 = .ok (.aload_n 0, 1) := by decide +kernel
theorem dX5_tick_27 : decode cX5_tick 27 = .ok (.dup, 1) := by decide +kernel
theorem dX5_tick_28 : decode cX5_tick 28 = .ok (.getfield 62, 3) := by decide +kernel
theorem dX5_tick_31 : decode cX5_tick 31 = .ok (.iload_n 1, 1) := by decide +kernel
theorem dX5_tick_32 : decode cX5_tick 32 = .ok (.iadd, 1) := by decide +kernel
theorem dX5_tick_33 : decode cX5_tick 33 = .ok (.putfield 62, 3) := by decide +kernel
theorem dX5_tick_36 : decode cX5_tick 36 = .ok (.aload_n 0, 1) := by decide +kernel
theorem dX5_tick_37 : decode cX5_tick 37 = .ok (.getfield 62, 3) := by decide +kernel
theorem dX5_tick_40 : decode cX5_tick 40 = .ok (.ireturn, 1) := by decide +kernel
theorem dX5_now_0 : decode cX5_now 0 = .ok (.aload_n 0, 1) := by decide +kernel
theorem dX5_now_1 : decode cX5_now 1 = .ok (.iconst 0, 1) := by decide +kernel
theorem dX5_now_2 : decode cX5_now 2 = .ok (.putfield 43, 3) := by decide +kernel
theorem dX5_now_5 : decode cX5_now 5 = .ok (.aload_n 0, 1) := by decide +kernel
theorem dX5_now_6 : decode cX5_now 6 = .ok (.getfield 62, 3) := by decide +kernel
theorem dX5_now_9 : decode cX5_now 9 = .ok (.ireturn, 1) := by decide +kernel
theorem dX5_notes_0 : decode cX5_notes 0 = .ok (.aload_n 0, 1) := by decide +kernel
theorem dX5_notes_1 : decode cX5_notes 1 = .ok (.getfield 31, 3) := by decide +kernel
theorem dX5_notes_4 : decode cX5_notes 4 = .ok (.aload_n 0, 1) := by decide +kernel
theorem dX5_notes_5 : decode cX5_notes 5 = .ok (.getfield 65, 3) := by decide +kernel
theorem dX5_notes_8 : decode cX5_notes 8 = .ok (.iload_n 1, 1) := by decide +kernel
theorem dX5_notes_9 : decode cX5_notes 9 = .ok (.iastore, 1) := by decide +kernel
theorem dX5_notes_10 : decode cX5_notes 10 = .ok (.aload_n 0, 1) := by decide +kernel
theorem dX5_notes_11 : decode cX5_notes 11 = .ok (.getfield 34, 3) := by decide +kernel
theorem dX5_notes_14 : decode cX5_notes 14 = .ok (.aload_n 0, 1) := by decide +kernel
theorem dX5_notes_15 : decode cX5_notes 15 = .ok (.getfield 65, 3) := by decide +kernel
theorem dX5_notes_18 : decode cX5_notes 18 = .ok (.iload_n 2, 1) := by decide +kernel
theorem dX5_notes_19 : decode cX5_notes 19 = .ok (.iastore, 1) := by decide +kernel
theorem dX5_notes_20 : decode cX5_notes 20 = .ok (.aload_n 0, 1) := by decide +kernel
theorem dX5_notes_21 : decode cX5_notes 21 = .ok (.getfield 37, 3) := by decide +kernel
theorem dX5_notes_24 : decode cX5_notes 24 = .ok (.aload_n 0, 1) := by decide +kernel
theorem dX5_notes_25 : decode cX5_notes 25 = .ok (.getfield 65, 3) := by decide +kernel
theorem dX5_notes_28 : decode cX5_notes 28 = .ok (.aload_n 0, 1) := by decide +kernel
theorem dX5_notes_29 : decode cX5_notes 29 = .ok (.getfield 62, 3) := by decide +kernel
theorem dX5_notes_32 : decode cX5_notes 32 = .ok (.iastore, 1) := by decide +kernel
theorem dX5_notes_33 : decode cX5_notes 33 = .ok (.aload_n 0, 1) := by decide +kernel
theorem dX5_notes_34 : decode cX5_notes 34 = .ok (.getfield 40, 3) := by decide +kernel
theorem dX5_notes_37 : decode cX5_notes 37 = .ok (.aload_n 0, 1) := by decide +kernel
theorem dX5_notes_38 : decode cX5_notes 38 = .ok (.getfield 65, 3) := by decide +kernel
theorem dX5_notes_41 : decode cX5_notes 41 = .ok (.iload_n 3, 1) := by decide +kernel
theorem dX5_notes_42 : decode cX5_notes 42 = .ok (.iastore, 1) := by decide +kernel
theorem dX5_notes_43 : decode cX5_notes 43 = .ok (.aload_n 0, 1) := by decide +kernel
theorem dX5_notes_44 : decode cX5_notes 44 = .ok (.dup, 1) := by decide +kernel
theorem dX5_notes_45 : decode cX5_notes 45 = .ok (.getfield 65, 3) := by decide +kernel
theorem dX5_notes_48 : decode cX5_notes 48 = .ok (.iconst 1, 1) := by decide +kernel
theorem dX5_notes_49 : decode cX5_notes 49 = .ok (.iadd, 1) := by decide +kernel
theorem dX5_notes_50 : decode cX5_notes 50 = .ok (.putfield 65, 3) := by decide +kernel
theorem dX5_notes_53 : decode cX5_notes 53 = .ok (.return_, 1) := by decide +kernel
theorem dX5_kin_0 : decode cX5_kin 0 = .ok (.aload_n 0, 1) := by decide +kernel
theorem dX5_kin_1 : decode cX5_kin 1 = .ok (.getfield 13, 3) := by decide +kernel
theorem dX5_kin_4 : decode cX5_kin 4 = .ok (.iload_n 1, 1) := by decide +kernel
theorem dX5_kin_5 : decode cX5_kin 5 = .ok (.iaload, 1) := by decide +kernel
theorem dX5_kin_6 : decode cX5_kin 6 = .ok (.istore_n 2, 1) := by decide +kernel
theorem dX5_kin_7 : decode cX5_kin 7 = .ok (.iconst 0, 1) := by decide +kernel
theorem dX5_kin_8 : decode cX5_kin 8 = .ok (.istore_n 3, 1) := by decide +kernel
theorem dX5_kin_9 : decode cX5_kin 9 = .ok (.iload_n 3, 1) := by decide +kernel
theorem dX5_kin_10 : decode cX5_kin 10 = .ok (.bipush 14, 2) := by decide +kernel
theorem dX5_kin_12 : decode cX5_kin 12 = .ok (.if_icmp .ge 32, 3) := by decide +kernel
theorem dX5_kin_15 : decode cX5_kin 15 = .ok (.iload_n 2, 1) := by decide +kernel
theorem dX5_kin_16 : decode cX5_kin 16 = .ok (.aload_n 0, 1) := by decide +kernel
theorem dX5_kin_17 : decode cX5_kin 17 = .ok (.getfield 13, 3) := by decide +kernel
theorem dX5_kin_20 : decode cX5_kin 20 = .ok (.iload_n 3, 1) := by decide +kernel
theorem dX5_kin_21 : decode cX5_kin 21 = .ok (.iaload, 1) := by decide +kernel
theorem dX5_kin_22 : decode cX5_kin 22 = .ok (.iload_n 1, 1) := by decide +kernel
theorem dX5_kin_23 : decode cX5_kin 23 = .ok (.invokestatic 47, 3) := by decide +kernel
theorem dX5_kin_26 : decode cX5_kin 26 = .ok (.ifCond .eq 9, 3) := by decide +kernel
theorem dX5_kin_29 : decode cX5_kin 29 = .ok (.iconst 1, 1) := by decide +kernel
theorem dX5_kin_30 : decode cX5_kin 30 = .ok (.iload_n 3, 1) := by decide +kernel
theorem dX5_kin_31 : decode cX5_kin 31 = .ok (.ishl, 1) := by decide +kernel
theorem dX5_kin_32 : decode cX5_kin 32 = .ok (.goto 4, 3) := by decide +kernel
theorem dX5_kin_35 : decode cX5_kin 35 = .ok (.iconst 0, 1) := by decide +kernel
theorem dX5_kin_36 : decode cX5_kin 36 = .ok (.ior, 1) := by decide +kernel
theorem dX5_kin_37 : decode cX5_kin 37 = .ok (.istore_n 2, 1) := by decide +kernel
theorem dX5_kin_38 : decode cX5_kin 38 = .ok (.iinc 3 1, 3) := by decide +kernel
theorem dX5_kin_41 : decode cX5_kin 41 = .ok (.goto (-32), 3) := by decide +kernel
theorem dX5_kin_44 : decode cX5_kin 44 = .ok (.iload_n 2, 1) := by decide +kernel
theorem dX5_kin_45 : decode cX5_kin 45 = .ok (.ireturn, 1) := by decide +kernel
theorem dX5_raise_0 : decode cX5_raise 0 = .ok (.iload_n 1, 1) := by decide +kernel
theorem dX5_raise_1 : decode cX5_raise 1 = .ok (.invokestatic 51, 3) := by decide +kernel
theorem dX5_raise_4 : decode cX5_raise 4 = .ok (.istore_n 2, 1) := by decide +kernel
theorem dX5_raise_5 : decode cX5_raise 5 = .ok (.aload_n 0, 1) := by decide +kernel
theorem dX5_raise_6 : decode cX5_raise 6 = .ok (.iload_n 2, 1) := by decide +kernel
theorem dX5_raise_7 : decode cX5_raise 7 = .ok (.iload_n 2, 1) := by decide +kernel
theorem dX5_raise_8 : decode cX5_raise 8 = .ok (.ifCond .eq 28, 3) := by decide +kernel
theorem dX5_raise_11 : decode cX5_raise 11 = .ok (.aload_n 0, 1) := by decide +kernel
theorem dX5_raise_12 : decode cX5_raise 12 = .ok (.getfield 68, 3) := by decide +kernel
theorem dX5_raise_15 : decode cX5_raise 15 = .ok (.iload_n 1, 1) := by decide +kernel
theorem dX5_raise_16 : decode cX5_raise 16 = .ok (.invokestatic 47, 3) := by decide +kernel
theorem dX5_raise_19 : decode cX5_raise 19 = .ok (.ifCond .ne 17, 3) := by decide +kernel
theorem dX5_raise_22 : decode cX5_raise 22 = .ok (.aload_n 0, 1) := by decide +kernel
theorem dX5_raise_23 : decode cX5_raise 23 = .ok (.getfield 65, 3) := by decide +kernel
theorem dX5_raise_26 : decode cX5_raise 26 = .ok (.sipush 300, 3) := by decide +kernel
theorem dX5_raise_29 : decode cX5_raise 29 = .ok (.if_icmp .ge 7, 3) := by decide +kernel
theorem dX5_raise_32 : decode cX5_raise 32 = .ok (.iconst 1, 1) := by decide +kernel
theorem dX5_raise_33 : decode cX5_raise 33 = .ok (.goto 4, 3) := by decide +kernel
theorem dX5_raise_36 : decode cX5_raise 36 = .ok (.iconst 0, 1) := by decide +kernel
theorem dX5_raise_37 : decode cX5_raise 37 = .ok (.invokevirtual 55, 3) := by decide +kernel
theorem dX5_raise_40 : decode cX5_raise 40 = .ok (.ifCond .ne 5, 3) := by decide +kernel
theorem dX5_raise_43 : decode cX5_raise 43 = .ok (.iconst 0, 1) := by decide +kernel
theorem dX5_raise_44 : decode cX5_raise 44 = .ok (.ireturn, 1) := by decide +kernel
theorem dX5_raise_45 : decode cX5_raise 45 = .ok (.aload_n 0, 1) := by decide +kernel
theorem dX5_raise_46 : decode cX5_raise 46 = .ok (.iload_n 1, 1) := by decide +kernel
theorem dX5_raise_47 : decode cX5_raise 47 = .ok (.invokevirtual 71, 3) := by decide +kernel
theorem dX5_raise_50 : decode cX5_raise 50 = .ok (.aload_n 0, 1) := by decide +kernel
theorem dX5_raise_51 : decode cX5_raise 51 = .ok (.getfield 68, 3) := by decide +kernel
theorem dX5_raise_54 : decode cX5_raise 54 = .ok (.iand, 1) := by decide +kernel
theorem dX5_raise_55 : decode cX5_raise 55 = .ok (.istore_n 3, 1) := by decide +kernel
theorem dX5_raise_56 : decode cX5_raise 56 = .ok (.iconst (-1), 1) := by decide +kernel
theorem dX5_raise_57 : decode cX5_raise 57 = .ok (.istore 4, 2) := by decide +kernel
theorem dX5_raise_59 : decode cX5_raise 59 = .ok (.iconst 0, 1) := by decide +kernel
theorem dX5_raise_60 : decode cX5_raise 60 = .ok (.istore 5, 2) := by decide +kernel
theorem dX5_raise_62 : decode cX5_raise 62 = .ok (.iload 5, 2) := by decide +kernel
theorem dX5_raise_64 : decode cX5_raise 64 = .ok (.bipush 14, 2) := by decide +kernel
theorem dX5_raise_66 : decode cX5_raise 66 = .ok (.if_icmp .ge 49, 3) := by decide +kernel
theorem dX5_raise_69 : decode cX5_raise 69 = .ok (.iload_n 3, 1) := by decide +kernel
theorem dX5_raise_70 : decode cX5_raise 70 = .ok (.iload 5, 2) := by decide +kernel
theorem dX5_raise_72 : decode cX5_raise 72 = .ok (.invokestatic 47, 3) := by decide +kernel
theorem dX5_raise_75 : decode cX5_raise 75 = .ok (.ifCond .eq 30, 3) := by decide +kernel
theorem dX5_raise_78 : decode cX5_raise 78 = .ok (.iload 4, 2) := by decide +kernel
theorem dX5_raise_80 : decode cX5_raise 80 = .ok (.ifCond .lt 15, 3) := by decide +kernel
theorem dX5_raise_83 : decode cX5_raise 83 = .ok (.aload_n 0, 1) := by decide +kernel
theorem dX5_raise_84 : decode cX5_raise 84 = .ok (.getfield 19, 3) := by decide +kernel
theorem dX5_raise_87 : decode cX5_raise 87 = .ok (.iload 5, 2) := by decide +kernel
theorem dX5_raise_89 : decode cX5_raise 89 = .ok (.iaload, 1) := by decide +kernel
theorem dX5_raise_90 : decode cX5_raise 90 = .ok (.iload 4, 2) := by decide +kernel
theorem dX5_raise_92 : decode cX5_raise 92 = .ok (.if_icmp .ge 13, 3) := by decide +kernel
theorem dX5_raise_95 : decode cX5_raise 95 = .ok (.aload_n 0, 1) := by decide +kernel
theorem dX5_raise_96 : decode cX5_raise 96 = .ok (.getfield 19, 3) := by decide +kernel
theorem dX5_raise_99 : decode cX5_raise 99 = .ok (.iload 5, 2) := by decide +kernel
theorem dX5_raise_101 : decode cX5_raise 101 = .ok (.iaload, 1) := by decide +kernel
theorem dX5_raise_102 : decode cX5_raise 102 = .ok (.goto 5, 3) := by decide +kernel
theorem dX5_raise_105 : decode cX5_raise 105 = .ok (.iload 4, 2) := by decide +kernel
theorem dX5_raise_107 : decode cX5_raise 107 = .ok (.istore 4, 2) := by decide +kernel
theorem dX5_raise_109 : decode cX5_raise 109 = .ok (.iinc 5 1, 3) := by decide +kernel
theorem dX5_raise_112 : decode cX5_raise 112 = .ok (.goto (-50), 3) := by decide +kernel
theorem dX5_raise_115 : decode cX5_raise 115 = .ok (.iload 4, 2) := by decide +kernel
theorem dX5_raise_117 : decode cX5_raise 117 = .ok (.ifCond .ge 35, 3) := by decide +kernel
theorem dX5_raise_120 : decode cX5_raise 120 = .ok (.aload_n 0, 1) := by decide +kernel
theorem dX5_raise_121 : decode cX5_raise 121 = .ok (.dup, 1) := by decide +kernel
theorem dX5_raise_122 : decode cX5_raise 122 = .ok (.getfield 75, 3) := by decide +kernel
theorem dX5_raise_125 : decode cX5_raise 125 = .ok (.iconst 1, 1) := by decide +kernel
theorem dX5_raise_126 : decode cX5_raise 126 = .ok (.iadd, 1) := by decide +kernel
theorem dX5_raise_127 : decode cX5_raise 127 = .ok (.putfield 75, 3) := by decide +kernel
theorem dX5_raise_130 : decode cX5_raise 130 = .ok (.aload_n 0, 1) := by decide +kernel
theorem dX5_raise_131 : decode cX5_raise 131 = .ok (.getfield 75, 3) := by decide +kernel
theorem dX5_raise_134 : decode cX5_raise 134 = .ok (.istore 4, 2) := by decide +kernel
theorem dX5_raise_136 : decode cX5_raise 136 = .ok (.aload_n 0, 1) := by decide +kernel
theorem dX5_raise_137 : decode cX5_raise 137 = .ok (.getfield 25, 3) := by decide +kernel
theorem dX5_raise_140 : decode cX5_raise 140 = .ok (.iload 4, 2) := by decide +kernel
theorem dX5_raise_142 : decode cX5_raise 142 = .ok (.iconst 1, 1) := by decide +kernel
theorem dX5_raise_143 : decode cX5_raise 143 = .ok (.iastore, 1) := by decide +kernel
theorem dX5_raise_144 : decode cX5_raise 144 = .ok (.aload_n 0, 1) := by decide +kernel
theorem dX5_raise_145 : decode cX5_raise 145 = .ok (.getfield 22, 3) := by decide +kernel
theorem dX5_raise_148 : decode cX5_raise 148 = .ok (.iload 4, 2) := by decide +kernel
theorem dX5_raise_150 : decode cX5_raise 150 = .ok (.iconst 0, 1) := by decide +kernel
theorem dX5_raise_151 : decode cX5_raise 151 = .ok (.iastore, 1) := by decide +kernel
theorem dX5_raise_152 : decode cX5_raise 152 = .ok (.iload 4, 2) := by decide +kernel
theorem dX5_raise_154 : decode cX5_raise 154 = .ok (.iconst 1, 1) := by decide +kernel
theorem dX5_raise_155 : decode cX5_raise 155 = .ok (.iadd, 1) := by decide +kernel
theorem dX5_raise_156 : decode cX5_raise 156 = .ok (.istore 5, 2) := by decide +kernel
theorem dX5_raise_158 : decode cX5_raise 158 = .ok (.iload 5, 2) := by decide +kernel
theorem dX5_raise_160 : decode cX5_raise 160 = .ok (.aload_n 0, 1) := by decide +kernel
theorem dX5_raise_161 : decode cX5_raise 161 = .ok (.getfield 75, 3) := by decide +kernel
theorem dX5_raise_164 : decode cX5_raise 164 = .ok (.if_icmp .gt 74, 3) := by decide +kernel
theorem dX5_raise_167 : decode cX5_raise 167 = .ok (.aload_n 0, 1) := by decide +kernel
theorem dX5_raise_168 : decode cX5_raise 168 = .ok (.getfield 25, 3) := by decide +kernel
theorem dX5_raise_171 : decode cX5_raise 171 = .ok (.iload 5, 2) := by decide +kernel
theorem dX5_raise_173 : decode cX5_raise 173 = .ok (.iaload, 1) := by decide +kernel
theorem dX5_raise_174 : decode cX5_raise 174 = .ok (.iconst 1, 1) := by decide +kernel
theorem dX5_raise_175 : decode cX5_raise 175 = .ok (.if_icmp .ne 57, 3) := by decide +kernel
theorem dX5_raise_178 : decode cX5_raise 178 = .ok (.aload_n 0, 1) := by decide +kernel
theorem dX5_raise_179 : decode cX5_raise 179 = .ok (.getfield 22, 3) := by decide +kernel
theorem dX5_raise_182 : decode cX5_raise 182 = .ok (.iload 5, 2) := by decide +kernel
theorem dX5_raise_184 : decode cX5_raise 184 = .ok (.iaload, 1) := by decide +kernel
theorem dX5_raise_185 : decode cX5_raise 185 = .ok (.iload_n 3, 1) := by decide +kernel
theorem dX5_raise_186 : decode cX5_raise 186 = .ok (.iand, 1) := by decide +kernel
theorem dX5_raise_187 : decode cX5_raise 187 = .ok (.ifCond .eq 45, 3) := by decide +kernel
theorem dX5_raise_190 : decode cX5_raise 190 = .ok (.aload_n 0, 1) := by decide +kernel
theorem dX5_raise_191 : decode cX5_raise 191 = .ok (.getfield 22, 3) := by decide +kernel
theorem dX5_raise_194 : decode cX5_raise 194 = .ok (.iload 4, 2) := by decide +kernel
theorem dX5_raise_196 : decode cX5_raise 196 = .ok (.dup2, 1) := by decide +kernel
theorem dX5_raise_197 : decode cX5_raise 197 = .ok (.iaload, 1) := by decide +kernel
theorem dX5_raise_198 : decode cX5_raise 198 = .ok (.aload_n 0, 1) := by decide +kernel
theorem dX5_raise_199 : decode cX5_raise 199 = .ok (.getfield 22, 3) := by decide +kernel
theorem dX5_raise_202 : decode cX5_raise 202 = .ok (.iload 5, 2) := by decide +kernel
theorem dX5_raise_204 : decode cX5_raise 204 = .ok (.iaload, 1) := by decide +kernel
theorem dX5_raise_205 : decode cX5_raise 205 = .ok (.ior, 1) := by decide +kernel
theorem dX5_raise_206 : decode cX5_raise 206 = .ok (.iastore, 1) := by decide +kernel
theorem dX5_raise_207 : decode cX5_raise 207 = .ok (.aload_n 0, 1) := by decide +kernel
theorem dX5_raise_208 : decode cX5_raise 208 = .ok (.getfield 22, 3) := by decide +kernel
theorem dX5_raise_211 : decode cX5_raise 211 = .ok (.iload 5, 2) := by decide +kernel
theorem dX5_raise_213 : decode cX5_raise 213 = .ok (.iconst 0, 1) := by decide +kernel
theorem dX5_raise_214 : decode cX5_raise 214 = .ok (.iastore, 1) := by decide +kernel
theorem dX5_raise_215 : decode cX5_raise 215 = .ok (.aload_n 0, 1) := by decide +kernel
theorem dX5_raise_216 : decode cX5_raise 216 = .ok (.getfield 25, 3) := by decide +kernel
theorem dX5_raise_219 : decode cX5_raise 219 = .ok (.iload 5, 2) := by decide +kernel
theorem dX5_raise_221 : decode cX5_raise 221 = .ok (.iconst 3, 1) := by decide +kernel
theorem dX5_raise_222 : decode cX5_raise 222 = .ok (.iastore, 1) := by decide +kernel
theorem dX5_raise_223 : decode cX5_raise 223 = .ok (.aload_n 0, 1) := by decide +kernel
theorem dX5_raise_224 : decode cX5_raise 224 = .ok (.getfield 28, 3) := by decide +kernel
theorem dX5_raise_227 : decode cX5_raise 227 = .ok (.iload 5, 2) := by decide +kernel
theorem dX5_raise_229 : decode cX5_raise 229 = .ok (.iload 4, 2) := by decide +kernel
theorem dX5_raise_231 : decode cX5_raise 231 = .ok (.iastore, 1) := by decide +kernel
theorem dX5_raise_232 : decode cX5_raise 232 = .ok (.iinc 5 1, 3) := by decide +kernel
theorem dX5_raise_235 : decode cX5_raise 235 = .ok (.goto (-77), 3) := by decide +kernel
theorem dX5_raise_238 : decode cX5_raise 238 = .ok (.aload_n 0, 1) := by decide +kernel
theorem dX5_raise_239 : decode cX5_raise 239 = .ok (.getfield 22, 3) := by decide +kernel
theorem dX5_raise_242 : decode cX5_raise 242 = .ok (.iload 4, 2) := by decide +kernel
theorem dX5_raise_244 : decode cX5_raise 244 = .ok (.dup2, 1) := by decide +kernel
theorem dX5_raise_245 : decode cX5_raise 245 = .ok (.iaload, 1) := by decide +kernel
theorem dX5_raise_246 : decode cX5_raise 246 = .ok (.iconst 1, 1) := by decide +kernel
theorem dX5_raise_247 : decode cX5_raise 247 = .ok (.iload_n 1, 1) := by decide +kernel
theorem dX5_raise_248 : decode cX5_raise 248 = .ok (.ishl, 1) := by decide +kernel
theorem dX5_raise_249 : decode cX5_raise 249 = .ok (.ior, 1) := by decide +kernel
theorem dX5_raise_250 : decode cX5_raise 250 = .ok (.iastore, 1) := by decide +kernel
theorem dX5_raise_251 : decode cX5_raise 251 = .ok (.iconst 0, 1) := by decide +kernel
theorem dX5_raise_252 : decode cX5_raise 252 = .ok (.istore 5, 2) := by decide +kernel
theorem dX5_raise_254 : decode cX5_raise 254 = .ok (.iload 5, 2) := by decide +kernel
theorem dX5_raise_256 : decode cX5_raise 256 = .ok (.bipush 14, 2) := by decide +kernel
theorem dX5_raise_258 : decode cX5_raise 258 = .ok (.if_icmp .ge 43, 3) := by decide +kernel
theorem dX5_raise_261 : decode cX5_raise 261 = .ok (.aload_n 0, 1) := by decide +kernel
theorem dX5_raise_262 : decode cX5_raise 262 = .ok (.getfield 19, 3) := by decide +kernel
theorem dX5_raise_265 : decode cX5_raise 265 = .ok (.iload 5, 2) := by decide +kernel
theorem dX5_raise_267 : decode cX5_raise 267 = .ok (.aload_n 0, 1) := by decide +kernel
theorem dX5_raise_268 : decode cX5_raise 268 = .ok (.getfield 22, 3) := by decide +kernel
theorem dX5_raise_271 : decode cX5_raise 271 = .ok (.iload 4, 2) := by decide +kernel
theorem dX5_raise_273 : decode cX5_raise 273 = .ok (.iaload, 1) := by decide +kernel
theorem dX5_raise_274 : decode cX5_raise 274 = .ok (.iload 5, 2) := by decide +kernel
theorem dX5_raise_276 : decode cX5_raise 276 = .ok (.invokestatic 47, 3) := by decide +kernel
theorem dX5_raise_279 : decode cX5_raise 279 = .ok (.ifCond .eq 8, 3) := by decide +kernel
theorem dX5_raise_282 : decode cX5_raise 282 = .ok (.iload 4, 2) := by decide +kernel
theorem dX5_raise_284 : decode cX5_raise 284 = .ok (.goto 10, 3) := by decide +kernel
theorem dX5_raise_287 : decode cX5_raise 287 = .ok (.aload_n 0, 1) := by decide +kernel
theorem dX5_raise_288 : decode cX5_raise 288 = .ok (.getfield 19, 3) := by decide +kernel
theorem dX5_raise_291 : decode cX5_raise 291 = .ok (.iload 5, 2) := by decide +kernel
theorem dX5_raise_293 : decode cX5_raise 293 = .ok (.iaload, 1) := by decide +kernel
theorem dX5_raise_294 : decode cX5_raise 294 = .ok (.iastore, 1) := by decide +kernel
theorem dX5_raise_295 : decode cX5_raise 295 = .ok (.iinc 5 1, 3) := by decide +kernel
theorem dX5_raise_298 : decode cX5_raise 298 = .ok (.goto (-44), 3) := by decide +kernel
theorem dX5_raise_301 : decode cX5_raise 301 = .ok (.aload_n 0, 1) := by decide +kernel
theorem dX5_raise_302 : decode cX5_raise 302 = .ok (.dup, 1) := by decide +kernel
theorem dX5_raise_303 : decode cX5_raise 303 = .ok (.getfield 68, 3) := by decide +kernel
theorem dX5_raise_306 : decode cX5_raise 306 = .ok (.iconst 1, 1) := by decide +kernel
theorem dX5_raise_307 : decode cX5_raise 307 = .ok (.iload_n 1, 1) := by decide +kernel
theorem dX5_raise_308 : decode cX5_raise 308 = .ok (.ishl, 1) := by decide +kernel
theorem dX5_raise_309 : decode cX5_raise 309 = .ok (.ior, 1) := by decide +kernel
theorem dX5_raise_310 : decode cX5_raise 310 = .ok (.putfield 68, 3) := by decide +kernel
theorem dX5_raise_313 : decode cX5_raise 313 = .ok (.aload_n 0, 1) := by decide +kernel
