theorem dX5_raise_314 : decode cX5_raise 314 = .ok (.getfield 16, 3) := by decide +kernel
theorem dX5_raise_317 : decode cX5_raise 317 = .ok (.iload_n 1, 1) := by decide +kernel
theorem dX5_raise_318 : decode cX5_raise 318 = .ok (.aload_n 0, 1) := by decide +kernel
theorem dX5_raise_319 : decode cX5_raise 319 = .ok (.getfield 62, 3) := by decide +kernel
theorem dX5_raise_322 : decode cX5_raise 322 = .ok (.iastore, 1) := by decide +kernel
theorem dX5_raise_323 : decode cX5_raise 323 = .ok (.aload_n 0, 1) := by decide +kernel
theorem dX5_raise_324 : decode cX5_raise 324 = .ok (.iconst 0, 1) := by decide +kernel
theorem dX5_raise_325 : decode cX5_raise 325 = .ok (.iload_n 1, 1) := by decide +kernel
theorem dX5_raise_326 : decode cX5_raise 326 = .ok (.iconst (-1), 1) := by decide +kernel
theorem dX5_raise_327 : decode cX5_raise 327 = .ok (.invokevirtual 78, 3) := by decide +kernel
theorem dX5_raise_330 : decode cX5_raise 330 = .ok (.iload 4, 2) := by decide +kernel
theorem dX5_raise_332 : decode cX5_raise 332 = .ok (.ireturn, 1) := by decide +kernel
theorem dX5_clear_0 : decode cX5_clear 0 = .ok (.iload_n 1, 1) := by decide +kernel
theorem dX5_clear_1 : decode cX5_clear 1 = .ok (.invokestatic 51, 3) := by decide +kernel
theorem dX5_clear_4 : decode cX5_clear 4 = .ok (.istore_n 2, 1) := by decide +kernel
theorem dX5_clear_5 : decode cX5_clear 5 = .ok (.aload_n 0, 1) := by decide +kernel
theorem dX5_clear_6 : decode cX5_clear 6 = .ok (.iload_n 2, 1) := by decide +kernel
theorem dX5_clear_7 : decode cX5_clear 7 = .ok (.iload_n 2, 1) := by decide +kernel
theorem dX5_clear_8 : decode cX5_clear 8 = .ok (.ifCond .eq 28, 3) := by decide +kernel
theorem dX5_clear_11 : decode cX5_clear 11 = .ok (.aload_n 0, 1) := by decide +kernel
theorem dX5_clear_12 : decode cX5_clear 12 = .ok (.getfield 68, 3) := by decide +kernel
theorem dX5_clear_15 : decode cX5_clear 15 = .ok (.iload_n 1, 1) := by decide +kernel
theorem dX5_clear_16 : decode cX5_clear 16 = .ok (.invokestatic 47, 3) := by decide +kernel
theorem dX5_clear_19 : decode cX5_clear 19 = .ok (.ifCond .eq 17, 3) := by decide +kernel
theorem dX5_clear_22 : decode cX5_clear 22 = .ok (.aload_n 0, 1) := by decide +kernel
theorem dX5_clear_23 : decode cX5_clear 23 = .ok (.getfield 65, 3) := by decide +kernel
theorem dX5_clear_26 : decode cX5_clear 26 = .ok (.sipush 300, 3) := by decide +kernel
theorem dX5_clear_29 : decode cX5_clear 29 = .ok (.if_icmp .ge 7, 3) := by decide +kernel
theorem dX5_clear_32 : decode cX5_clear 32 = .ok (.iconst 1, 1) := by decide +kernel
theorem dX5_clear_33 : decode cX5_clear 33 = .ok (.goto 4, 3) := by decide +kernel
theorem dX5_clear_36 : decode cX5_clear 36 = .ok (.iconst 0, 1) := by decide +kernel
theorem dX5_clear_37 : decode cX5_clear 37 = .ok (.invokevirtual 55, 3) := by decide +kernel
theorem dX5_clear_40 : decode cX5_clear 40 = .ok (.ifCond .ne 5, 3) := by decide +kernel
theorem dX5_clear_43 : decode cX5_clear 43 = .ok (.iconst 0, 1) := by decide +kernel
theorem dX5_clear_44 : decode cX5_clear 44 = .ok (.ireturn, 1) := by decide +kernel
theorem dX5_clear_45 : decode cX5_clear 45 = .ok (.aload_n 0, 1) := by decide +kernel
theorem dX5_clear_46 : decode cX5_clear 46 = .ok (.getfield 19, 3) := by decide +kernel
theorem dX5_clear_49 : decode cX5_clear 49 = .ok (.iload_n 1, 1) := by decide +kernel
theorem dX5_clear_50 : decode cX5_clear 50 = .ok (.iaload, 1) := by decide +kernel
theorem dX5_clear_51 : decode cX5_clear 51 = .ok (.istore_n 3, 1) := by decide +kernel
theorem dX5_clear_52 : decode cX5_clear 52 = .ok (.aload_n 0, 1) := by decide +kernel
theorem dX5_clear_53 : decode cX5_clear 53 = .ok (.getfield 22, 3) := by decide +kernel
theorem dX5_clear_56 : decode cX5_clear 56 = .ok (.iload_n 3, 1) := by decide +kernel
theorem dX5_clear_57 : decode cX5_clear 57 = .ok (.dup2, 1) := by decide +kernel
theorem dX5_clear_58 : decode cX5_clear 58 = .ok (.iaload, 1) := by decide +kernel
theorem dX5_clear_59 : decode cX5_clear 59 = .ok (.iconst 1, 1) := by decide +kernel
theorem dX5_clear_60 : decode cX5_clear 60 = .ok (.iload_n 1, 1) := by decide +kernel
theorem dX5_clear_61 : decode cX5_clear 61 = .ok (.ishl, 1) := by decide +kernel
theorem dX5_clear_62 : decode cX5_clear 62 = .ok (.iconst (-1), 1) := by decide +kernel
theorem dX5_clear_63 : decode cX5_clear 63 = .ok (.ixor, 1) := by decide +kernel
theorem dX5_clear_64 : decode cX5_clear 64 = .ok (.iand, 1) := by decide +kernel
theorem dX5_clear_65 : decode cX5_clear 65 = .ok (.iastore, 1) := by decide +kernel
theorem dX5_clear_66 : decode cX5_clear 66 = .ok (.aload_n 0, 1) := by decide +kernel
theorem dX5_clear_67 : decode cX5_clear 67 = .ok (.getfield 25, 3) := by decide +kernel
theorem dX5_clear_70 : decode cX5_clear 70 = .ok (.iload_n 3, 1) := by decide +kernel
theorem dX5_clear_71 : decode cX5_clear 71 = .ok (.aload_n 0, 1) := by decide +kernel
theorem dX5_clear_72 : decode cX5_clear 72 = .ok (.getfield 22, 3) := by decide +kernel
theorem dX5_clear_75 : decode cX5_clear 75 = .ok (.iload_n 3, 1) := by decide +kernel
theorem dX5_clear_76 : decode cX5_clear 76 = .ok (.iaload, 1) := by decide +kernel
theorem dX5_clear_77 : decode cX5_clear 77 = .ok (.ifCond .ne 7, 3) := by decide +kernel
theorem dX5_clear_80 : decode cX5_clear 80 = .ok (.iconst 2, 1) := by decide +kernel
theorem dX5_clear_81 : decode cX5_clear 81 = .ok (.goto 4, 3) := by decide +kernel
theorem dX5_clear_84 : decode cX5_clear 84 = .ok (.iconst 1, 1) := by decide +kernel
theorem dX5_clear_85 : decode cX5_clear 85 = .ok (.iastore, 1) := by decide +kernel
theorem dX5_clear_86 : decode cX5_clear 86 = .ok (.aload_n 0, 1) := by decide +kernel
theorem dX5_clear_87 : decode cX5_clear 87 = .ok (.dup, 1) := by decide +kernel
theorem dX5_clear_88 : decode cX5_clear 88 = .ok (.getfield 68, 3) := by decide +kernel
theorem dX5_clear_91 : decode cX5_clear 91 = .ok (.iconst 1, 1) := by decide +kernel
theorem dX5_clear_92 : decode cX5_clear 92 = .ok (.iload_n 1, 1) := by decide +kernel
theorem dX5_clear_93 : decode cX5_clear 93 = .ok (.ishl, 1) := by decide +kernel
theorem dX5_clear_94 : decode cX5_clear 94 = .ok (.iconst (-1), 1) := by decide +kernel
theorem dX5_clear_95 : decode cX5_clear 95 = .ok (.ixor, 1) := by decide +kernel
theorem dX5_clear_96 : decode cX5_clear 96 = .ok (.iand, 1) := by decide +kernel
theorem dX5_clear_97 : decode cX5_clear 97 = .ok (.putfield 68, 3) := by decide +kernel
theorem dX5_clear_100 : decode cX5_clear 100 = .ok (.aload_n 0, 1) := by decide +kernel
theorem dX5_clear_101 : decode cX5_clear 101 = .ok (.iconst 1, 1) := by decide +kernel
theorem dX5_clear_102 : decode cX5_clear 102 = .ok (.iload_n 1, 1) := by decide +kernel
theorem dX5_clear_103 : decode cX5_clear 103 = .ok (.aload_n 0, 1) := by decide +kernel
theorem dX5_clear_104 : decode cX5_clear 104 = .ok (.getfield 62, 3) := by decide +kernel
theorem dX5_clear_107 : decode cX5_clear 107 = .ok (.aload_n 0, 1) := by decide +kernel
theorem dX5_clear_108 : decode cX5_clear 108 = .ok (.getfield 16, 3) := by decide +kernel
theorem dX5_clear_111 : decode cX5_clear 111 = .ok (.iload_n 1, 1) := by decide +kernel
theorem dX5_clear_112 : decode cX5_clear 112 = .ok (.iaload, 1) := by decide +kernel
theorem dX5_clear_113 : decode cX5_clear 113 = .ok (.isub, 1) := by decide +kernel
theorem dX5_clear_114 : decode cX5_clear 114 = .ok (.invokevirtual 78, 3) := by decide +kernel
theorem dX5_clear_117 : decode cX5_clear 117 = .ok (.aload_n 0, 1) := by decide +kernel
theorem dX5_clear_118 : decode cX5_clear 118 = .ok (.getfield 22, 3) := by decide +kernel
theorem dX5_clear_121 : decode cX5_clear 121 = .ok (.iload_n 3, 1) := by decide +kernel
theorem dX5_clear_122 : decode cX5_clear 122 = .ok (.iaload, 1) := by decide +kernel
theorem dX5_clear_123 : decode cX5_clear 123 = .ok (.invokestatic 82, 3) := by decide +kernel
theorem dX5_clear_126 : decode cX5_clear 126 = .ok (.ireturn, 1) := by decide +kernel
theorem dX5_raisesOf_0 : decode cX5_raisesOf 0 = .ok (.iconst 0, 1) := by decide +kernel
theorem dX5_raisesOf_1 : decode cX5_raisesOf 1 = .ok (.istore_n 3, 1) := by decide +kernel
theorem dX5_raisesOf_2 : decode cX5_raisesOf 2 = .ok (.iconst 0, 1) := by decide +kernel
theorem dX5_raisesOf_3 : decode cX5_raisesOf 3 = .ok (.istore 4, 2) := by decide +kernel
theorem dX5_raisesOf_5 : decode cX5_raisesOf 5 = .ok (.iload 4, 2) := by decide +kernel
theorem dX5_raisesOf_7 : decode cX5_raisesOf 7 = .ok (.aload_n 0, 1) := by decide +kernel
theorem dX5_raisesOf_8 : decode cX5_raisesOf 8 = .ok (.getfield 65, 3) := by decide +kernel
theorem dX5_raisesOf_11 : decode cX5_raisesOf 11 = .ok (.if_icmp .ge 54, 3) := by decide +kernel
theorem dX5_raisesOf_14 : decode cX5_raisesOf 14 = .ok (.iload_n 3, 1) := by decide +kernel
theorem dX5_raisesOf_15 : decode cX5_raisesOf 15 = .ok (.aload_n 0, 1) := by decide +kernel
theorem dX5_raisesOf_16 : decode cX5_raisesOf 16 = .ok (.getfield 31, 3) := by decide +kernel
theorem dX5_raisesOf_19 : decode cX5_raisesOf 19 = .ok (.iload 4, 2) := by decide +kernel
theorem dX5_raisesOf_21 : decode cX5_raisesOf 21 = .ok (.iaload, 1) := by decide +kernel
theorem dX5_raisesOf_22 : decode cX5_raisesOf 22 = .ok (.ifCond .ne 34, 3) := by decide +kernel
theorem dX5_raisesOf_25 : decode cX5_raisesOf 25 = .ok (.aload_n 0, 1) := by decide +kernel
theorem dX5_raisesOf_26 : decode cX5_raisesOf 26 = .ok (.getfield 34, 3) := by decide +kernel
theorem dX5_raisesOf_29 : decode cX5_raisesOf 29 = .ok (.iload 4, 2) := by decide +kernel
theorem dX5_raisesOf_31 : decode cX5_raisesOf 31 = .ok (.iaload, 1) := by decide +kernel
theorem dX5_raisesOf_32 : decode cX5_raisesOf 32 = .ok (.iload_n 1, 1) := by decide +kernel
theorem dX5_raisesOf_33 : decode cX5_raisesOf 33 = .ok (.if_icmp .ne 23, 3) := by decide +kernel
theorem dX5_raisesOf_36 : decode cX5_raisesOf 36 = .ok (.aload_n 0, 1) := by decide +kernel
theorem dX5_raisesOf_37 : decode cX5_raisesOf 37 = .ok (.getfield 37, 3) := by decide +kernel
theorem dX5_raisesOf_40 : decode cX5_raisesOf 40 = .ok (.iload 4, 2) := by decide +kernel
theorem dX5_raisesOf_42 : decode cX5_raisesOf 42 = .ok (.iaload, 1) := by decide +kernel
theorem dX5_raisesOf_43 : decode cX5_raisesOf 43 = .ok (.aload_n 0, 1) := by decide +kernel
theorem dX5_raisesOf_44 : decode cX5_raisesOf 44 = .ok (.getfield 62, 3) := by decide +kernel
theorem dX5_raisesOf_47 : decode cX5_raisesOf 47 = .ok (.iload_n 2, 1) := by decide +kernel
theorem dX5_raisesOf_48 : decode cX5_raisesOf 48 = .ok (.isub, 1) := by decide +kernel
theorem dX5_raisesOf_49 : decode cX5_raisesOf 49 = .ok (.if_icmp .le 7, 3) := by decide +kernel
theorem dX5_raisesOf_52 : decode cX5_raisesOf 52 = .ok (.iconst 1, 1) := by decide +kernel
theorem dX5_raisesOf_53 : decode cX5_raisesOf 53 = .ok (.goto 4, 3) := by decide +kernel
theorem dX5_raisesOf_56 : decode cX5_raisesOf 56 = .ok (.iconst 0, 1) := by decide +kernel
theorem dX5_raisesOf_57 : decode cX5_raisesOf 57 = .ok (.iadd, 1) := by decide +kernel
theorem dX5_raisesOf_58 : decode cX5_raisesOf 58 = .ok (.istore_n 3, 1) := by decide +kernel
theorem dX5_raisesOf_59 : decode cX5_raisesOf 59 = .ok (.iinc 4 1, 3) := by decide +kernel
theorem dX5_raisesOf_62 : decode cX5_raisesOf 62 = .ok (.goto (-57), 3) := by decide +kernel
theorem dX5_raisesOf_65 : decode cX5_raisesOf 65 = .ok (.iload_n 3, 1) := by decide +kernel
theorem dX5_raisesOf_66 : decode cX5_raisesOf 66 = .ok (.ireturn, 1) := by decide +kernel
theorem dX5_stateOf_0 : decode cX5_stateOf 0 = .ok (.aload_n 0, 1) := by decide +kernel
theorem dX5_stateOf_1 : decode cX5_stateOf 1 = .ok (.getfield 68, 3) := by decide +kernel
theorem dX5_stateOf_4 : decode cX5_stateOf 4 = .ok (.iload_n 1, 1) := by decide +kernel
theorem dX5_stateOf_5 : decode cX5_stateOf 5 = .ok (.invokestatic 47, 3) := by decide +kernel
theorem dX5_stateOf_8 : decode cX5_stateOf 8 = .ok (.ifCond .ne 5, 3) := by decide +kernel
theorem dX5_stateOf_11 : decode cX5_stateOf 11 = .ok (.iconst 0, 1) := by decide +kernel
theorem dX5_stateOf_12 : decode cX5_stateOf 12 = .ok (.ireturn, 1) := by decide +kernel
theorem dX5_stateOf_13 : decode cX5_stateOf 13 = .ok (.aload_n 0, 1) := by decide +kernel
theorem dX5_stateOf_14 : decode cX5_stateOf 14 = .ok (.iload_n 1, 1) := by decide +kernel
theorem dX5_stateOf_15 : decode cX5_stateOf 15 = .ok (.bipush 10, 2) := by decide +kernel
theorem dX5_stateOf_17 : decode cX5_stateOf 17 = .ok (.invokevirtual 85, 3) := by decide +kernel
theorem dX5_stateOf_20 : decode cX5_stateOf 20 = .ok (.iconst 3, 1) := by decide +kernel
theorem dX5_stateOf_21 : decode cX5_stateOf 21 = .ok (.if_icmp .lt 7, 3) := by decide +kernel
theorem dX5_stateOf_24 : decode cX5_stateOf 24 = .ok (.iconst 2, 1) := by decide +kernel
theorem dX5_stateOf_25 : decode cX5_stateOf 25 = .ok (.goto 22, 3) := by decide +kernel
theorem dX5_stateOf_28 : decode cX5_stateOf 28 = .ok (.aload_n 0, 1) := by decide +kernel
theorem dX5_stateOf_29 : decode cX5_stateOf 29 = .ok (.getfield 13, 3) := by decide +kernel
theorem dX5_stateOf_32 : decode cX5_stateOf 32 = .ok (.iload_n 1, 1) := by decide +kernel
theorem dX5_stateOf_33 : decode cX5_stateOf 33 = .ok (.iaload, 1) := by decide +kernel
theorem dX5_stateOf_34 : decode cX5_stateOf 34 = .ok (.aload_n 0, 1) := by decide +kernel
theorem dX5_stateOf_35 : decode cX5_stateOf 35 = .ok (.getfield 68, 3) := by decide +kernel
theorem dX5_stateOf_38 : decode cX5_stateOf 38 = .ok (.iand, 1) := by decide +kernel
theorem dX5_stateOf_39 : decode cX5_stateOf 39 = .ok (.ifCond .eq 7, 3) := by decide +kernel
theorem dX5_stateOf_42 : decode cX5_stateOf 42 = .ok (.iconst 3, 1) := by decide +kernel
theorem dX5_stateOf_43 : decode cX5_stateOf 43 = .ok (.goto 4, 3) := by decide +kernel
theorem dX5_stateOf_46 : decode cX5_stateOf 46 = .ok (.iconst 1, 1) := by decide +kernel
theorem dX5_stateOf_47 : decode cX5_stateOf 47 = .ok (.ireturn, 1) := by decide +kernel
theorem dX5_state_0 : decode cX5_state 0 = .ok (.aload_n 0, 1) := by decide +kernel
theorem dX5_state_1 : decode cX5_state 1 = .ok (.iload_n 1, 1) := by decide +kernel
theorem dX5_state_2 : decode cX5_state 2 = .ok (.invokestatic 51, 3) := by decide +kernel
theorem dX5_state_5 : decode cX5_state 5 = .ok (.iconst 1, 1) := by decide +kernel
theorem dX5_state_6 : decode cX5_state 6 = .ok (.invokevirtual 55, 3) := by decide +kernel
theorem dX5_state_9 : decode cX5_state 9 = .ok (.ifCond .eq 11, 3) := by decide +kernel
theorem dX5_state_12 : decode cX5_state 12 = .ok (.aload_n 0, 1) := by decide +kernel
theorem dX5_state_13 : decode cX5_state 13 = .ok (.iload_n 1, 1) := by decide +kernel
theorem dX5_state_14 : decode cX5_state 14 = .ok (.invokevirtual 89, 3) := by decide +kernel
theorem dX5_state_17 : decode cX5_state 17 = .ok (.goto 4, 3) := by decide +kernel
theorem dX5_state_20 : decode cX5_state 20 = .ok (.iconst 0, 1) := by decide +kernel
theorem dX5_state_21 : decode cX5_state 21 = .ok (.ireturn, 1) := by decide +kernel
theorem dX5_nodesThatAre_0 : decode cX5_nodesThatAre 0 = .ok (.aload_n 0, 1) := by decide +kernel
theorem dX5_nodesThatAre_1 : decode cX5_nodesThatAre 1 = .ok (.iload_n 1, 1) := by decide +kernel
theorem dX5_nodesThatAre_2 : decode cX5_nodesThatAre 2 = .ok (.ifCond .lt 12, 3) := by decide +kernel
theorem dX5_nodesThatAre_5 : decode cX5_nodesThatAre 5 = .ok (.iload_n 1, 1) := by decide +kernel
theorem dX5_nodesThatAre_6 : decode cX5_nodesThatAre 6 = .ok (.iconst 3, 1) := by decide +kernel
theorem dX5_nodesThatAre_7 : decode cX5_nodesThatAre 7 = .ok (.if_icmp .gt 7, 3) := by decide +kernel
theorem dX5_nodesThatAre_10 : decode cX5_nodesThatAre 10 = .ok (.iconst 1, 1) := by decide +kernel
theorem dX5_nodesThatAre_11 : decode cX5_nodesThatAre 11 = .ok (.goto 4, 3) := by decide +kernel
theorem dX5_nodesThatAre_14 : decode cX5_nodesThatAre 14 = .ok (.iconst 0, 1) := by decide +kernel
theorem dX5_nodesThatAre_15 : decode cX5_nodesThatAre 15 = .ok (.iconst 1, 1) := by decide +kernel
theorem dX5_nodesThatAre_16 : decode cX5_nodesThatAre 16 = .ok (.invokevirtual 55, 3) := by decide +kernel
theorem dX5_nodesThatAre_19 : decode cX5_nodesThatAre 19 = .ok (.ifCond .ne 5, 3) := by decide +kernel
theorem dX5_nodesThatAre_22 : decode cX5_nodesThatAre 22 = .ok (.iconst 0, 1) := by decide +kernel
theorem dX5_nodesThatAre_23 : decode cX5_nodesThatAre 23 = .ok (.ireturn, 1) := by decide +kernel
theorem dX5_nodesThatAre_24 : decode cX5_nodesThatAre 24 = .ok (.iconst 0, 1) := by decide +kernel
theorem dX5_nodesThatAre_25 : decode cX5_nodesThatAre 25 = .ok (.istore_n 2, 1) := by decide +kernel
theorem dX5_nodesThatAre_26 : decode cX5_nodesThatAre 26 = .ok (.iconst 0, 1) := by decide +kernel
theorem dX5_nodesThatAre_27 : decode cX5_nodesThatAre 27 = .ok (.istore_n 3, 1) := by decide +kernel
theorem dX5_nodesThatAre_28 : decode cX5_nodesThatAre 28 = .ok (.iload_n 3, 1) := by decide +kernel
theorem dX5_nodesThatAre_29 : decode cX5_nodesThatAre 29 = .ok (.bipush 14, 2) := by decide +kernel
theorem dX5_nodesThatAre_31 : decode cX5_nodesThatAre 31 = .ok (.if_icmp .ge 26, 3) := by decide +kernel
theorem dX5_nodesThatAre_34 : decode cX5_nodesThatAre 34 = .ok (.iload_n 2, 1) := by decide +kernel
theorem dX5_nodesThatAre_35 : decode cX5_nodesThatAre 35 = .ok (.aload_n 0, 1) := by decide +kernel
theorem dX5_nodesThatAre_36 : decode cX5_nodesThatAre 36 = .ok (.iload_n 3, 1) := by decide +kernel
theorem dX5_nodesThatAre_37 : decode cX5_nodesThatAre 37 = .ok (.invokevirtual 89, 3) := by decide +kernel
theorem dX5_nodesThatAre_40 : decode cX5_nodesThatAre 40 = .ok (.iload_n 1, 1) := by decide +kernel
theorem dX5_nodesThatAre_41 : decode cX5_nodesThatAre 41 = .ok (.if_icmp .ne 7, 3) := by decide +kernel
theorem dX5_nodesThatAre_44 : decode cX5_nodesThatAre 44 = .ok (.iconst 1, 1) := by decide +kernel
theorem dX5_nodesThatAre_45 : decode cX5_nodesThatAre 45 = .ok (.goto 4, 3) := by decide +kernel
theorem dX5_nodesThatAre_48 : decode cX5_nodesThatAre 48 = .ok (.iconst 0, 1) := by decide +kernel
theorem dX5_nodesThatAre_49 : decode cX5_nodesThatAre 49 = .ok (.iadd, 1) := by decide +kernel
theorem dX5_nodesThatAre_50 : decode cX5_nodesThatAre 50 = .ok (.istore_n 2, 1) := by decide +kernel
theorem dX5_nodesThatAre_51 : decode cX5_nodesThatAre 51 = .ok (.iinc 3 1, 3) := by decide +kernel
theorem dX5_nodesThatAre_54 : decode cX5_nodesThatAre 54 = .ok (.goto (-26), 3) := by decide +kernel
theorem dX5_nodesThatAre_57 : decode cX5_nodesThatAre 57 = .ok (.iload_n 2, 1) := by decide +kernel
theorem dX5_nodesThatAre_58 : decode cX5_nodesThatAre 58 = .ok (.ireturn, 1) := by decide +kernel
theorem dX5_raises_0 : decode cX5_raises 0 = .ok (.aload_n 0, 1) := by decide +kernel
theorem dX5_raises_1 : decode cX5_raises 1 = .ok (.iload_n 1, 1) := by decide +kernel
theorem dX5_raises_2 : decode cX5_raises 2 = .ok (.invokestatic 51, 3) := by decide +kernel
theorem dX5_raises_5 : decode cX5_raises 5 = .ok (.iload_n 2, 1) := by decide +kernel
theorem dX5_raises_6 : decode cX5_raises 6 = .ok (.iconst 1, 1) := by decide +kernel
theorem dX5_raises_7 : decode cX5_raises 7 = .ok (.if_icmp .lt 14, 3) := by decide +kernel
theorem dX5_raises_10 : decode cX5_raises 10 = .ok (.iload_n 2, 1) := by decide +kernel
theorem dX5_raises_11 : decode cX5_raises 11 = .ok (.sipush 1000, 3) := by decide +kernel
theorem dX5_raises_14 : decode cX5_raises 14 = .ok (.if_icmp .gt 7, 3) := by decide +kernel
theorem dX5_raises_17 : decode cX5_raises 17 = .ok (.iconst 1, 1) := by decide +kernel
theorem dX5_raises_18 : decode cX5_raises 18 = .ok (.goto 4, 3) := by decide +kernel
theorem dX5_raises_21 : decode cX5_raises 21 = .ok (.iconst 0, 1) := by decide +kernel
theorem dX5_raises_22 : decode cX5_raises 22 = .ok (.invokevirtual 55, 3) := by decide +kernel
theorem dX5_raises_25 : decode cX5_raises 25 = .ok (.ifCond .eq 12, 3) := by decide +kernel
theorem dX5_raises_28 : decode cX5_raises 28 = .ok (.aload_n 0, 1) := by decide +kernel
theorem dX5_raises_29 : decode cX5_raises 29 = .ok (.iload_n 1, 1) := by decide +kernel
theorem dX5_raises_30 : decode cX5_raises 30 = .ok (.iload_n 2, 1) := by decide +kernel
theorem dX5_raises_31 : decode cX5_raises 31 = .ok (.invokevirtual 85, 3) := by decide +kernel
theorem dX5_raises_34 : decode cX5_raises 34 = .ok (.goto 4, 3) := by decide +kernel
theorem dX5_raises_37 : decode cX5_raises 37 = .ok (.iconst 0, 1) := by decide +kernel
theorem dX5_raises_38 : decode cX5_raises 38 = .ok (.ireturn, 1) := by decide +kernel
theorem dX5_isEvent_0 : decode cX5_isEvent 0 = .ok (.aload_n 0, 1) := by decide +kernel
theorem dX5_isEvent_1 : decode cX5_isEvent 1 = .ok (.iload_n 1, 1) := by decide +kernel
theorem dX5_isEvent_2 : decode cX5_isEvent 2 = .ok (.ifCond .lt 15, 3) := by decide +kernel
theorem dX5_isEvent_5 : decode cX5_isEvent 5 = .ok (.iload_n 1, 1) := by decide +kernel
theorem dX5_isEvent_6 : decode cX5_isEvent 6 = .ok (.aload_n 0, 1) := by decide +kernel
theorem dX5_isEvent_7 : decode cX5_isEvent 7 = .ok (.getfield 65, 3) := by decide +kernel
theorem dX5_isEvent_10 : decode cX5_isEvent 10 = .ok (.if_icmp .ge 7, 3) := by decide +kernel
theorem dX5_isEvent_13 : decode cX5_isEvent 13 = .ok (.iconst 1, 1) := by decide +kernel
theorem dX5_isEvent_14 : decode cX5_isEvent 14 = .ok (.goto 4, 3) := by decide +kernel
theorem dX5_isEvent_17 : decode cX5_isEvent 17 = .ok (.iconst 0, 1) := by decide +kernel
theorem dX5_isEvent_18 : decode cX5_isEvent 18 = .ok (.iconst 1, 1) := by decide +kernel
theorem dX5_isEvent_19 : decode cX5_isEvent 19 = .ok (.invokevirtual 55, 3) := by decide +kernel
theorem dX5_isEvent_22 : decode cX5_isEvent 22 = .ok (.ireturn, 1) := by decide +kernel
theorem dX5_events_0 : decode cX5_events 0 = .ok (.aload_n 0, 1) := by decide +kernel
theorem dX5_events_1 : decode cX5_events 1 = .ok (.iconst 0, 1) := by decide +kernel
theorem dX5_events_2 : decode cX5_events 2 = .ok (.putfield 43, 3) := by decide +kernel
theorem dX5_events_5 : decode cX5_events 5 = .ok (.aload_n 0, 1) := by decide +kernel
theorem dX5_events_6 : decode cX5_events 6 = .ok (.getfield 65, 3) := by decide +kernel
theorem dX5_events_9 : decode cX5_events 9 = .ok (.ireturn, 1) := by decide +kernel
theorem dX5_eventKind_0 : decode cX5_eventKind 0 = .ok (.aload_n 0, 1) := by decide +kernel
theorem dX5_eventKind_1 : decode cX5_eventKind 1 = .ok (.iload_n 1, 1) := by decide +kernel
theorem dX5_eventKind_2 : decode cX5_eventKind 2 = .ok (.invokevirtual 92, 3) := by decide +kernel
theorem dX5_eventKind_5 : decode cX5_eventKind 5 = .ok (.ifCond .eq 12, 3) := by decide +kernel
theorem dX5_eventKind_8 : decode cX5_eventKind 8 = .ok (.aload_n 0, 1) := by decide +kernel
theorem dX5_eventKind_9 : decode cX5_eventKind 9 = .ok (.getfield 31, 3) := by decide +kernel
theorem dX5_eventKind_12 : decode cX5_eventKind 12 = .ok (.iload_n 1, 1) := by decide +kernel
theorem dX5_eventKind_13 : decode cX5_eventKind 13 = .ok (.iaload, 1) := by decide +kernel
theorem dX5_eventKind_14 : decode cX5_eventKind 14 = .ok (.goto 4, 3) := by decide +kernel
theorem dX5_eventKind_17 : decode cX5_eventKind 17 = .ok (.iconst 0, 1) := by decide +kernel
theorem dX5_eventKind_18 : decode cX5_eventKind 18 = .ok (.ireturn, 1) := by decide +kernel
theorem dX5_eventNode_0 : decode cX5_eventNode 0 = .ok (.aload_n 0, 1) := by decide +kernel
theorem dX5_eventNode_1 : decode cX5_eventNode 1 = .ok (.iload_n 1, 1) := by decide +kernel
theorem dX5_eventNode_2 : decode cX5_eventNode 2 = .ok (.invokevirtual 92, 3) := by decide +kernel
theorem dX5_eventNode_5 : decode cX5_eventNode 5 = .ok (.ifCond .eq 12, 3) := by decide +kernel
theorem dX5_eventNode_8 : decode cX5_eventNode 8 = .ok (.aload_n 0, 1) := by decide +kernel
theorem dX5_eventNode_9 : decode cX5_eventNode 9 = .ok (.getfield 34, 3) := by decide +kernel
theorem dX5_eventNode_12 : decode cX5_eventNode 12 = .ok (.iload_n 1, 1) := by decide +kernel
theorem dX5_eventNode_13 : decode cX5_eventNode 13 = .ok (.iaload, 1) := by decide +kernel
theorem dX5_eventNode_14 : decode cX5_eventNode 14 = .ok (.goto 4, 3) := by decide +kernel
theorem dX5_eventNode_17 : decode cX5_eventNode 17 = .ok (.iconst 0, 1) := by decide +kernel
theorem dX5_eventNode_18 : decode cX5_eventNode 18 = .ok (.ireturn, 1) := by decide +kernel
theorem dX5_eventTime_0 : decode cX5_eventTime 0 = .ok (.aload_n 0, 1) := by decide +kernel
theorem dX5_eventTime_1 : decode cX5_eventTime 1 = .ok (.iload_n 1, 1) := by decide +kernel
theorem dX5_eventTime_2 : decode cX5_eventTime 2 = .ok (.invokevirtual 92, 3) := by decide +kernel
theorem dX5_eventTime_5 : decode cX5_eventTime 5 = .ok (.ifCond .eq 12, 3) := by decide +kernel
theorem dX5_eventTime_8 : decode cX5_eventTime 8 = .ok (.aload_n 0, 1) := by decide +kernel
theorem dX5_eventTime_9 : decode cX5_eventTime 9 = .ok (.getfield 37, 3) := by decide +kernel
theorem dX5_eventTime_12 : decode cX5_eventTime 12 = .ok (.iload_n 1, 1) := by decide +kernel
theorem dX5_eventTime_13 : decode cX5_eventTime 13 = .ok (.iaload, 1) := by decide +kernel
theorem dX5_eventTime_14 : decode cX5_eventTime 14 = .ok (.goto 4, 3) := by decide +kernel
theorem dX5_eventTime_17 : decode cX5_eventTime 17 = .ok (.iconst 0, 1) := by decide +kernel
theorem dX5_eventTime_18 : decode cX5_eventTime 18 = .ok (.ireturn, 1) := by decide +kernel
theorem dX5_eventLength_0 : decode cX5_eventLength 0 = .ok (.aload_n 0, 1) := by decide +kernel
theorem dX5_eventLength_1 : decode cX5_eventLength 1 = .ok (.iload_n 1, 1) := by decide +kernel
theorem dX5_eventLength_2 : decode cX5_eventLength 2 = .ok (.invokevirtual 92, 3) := by decide +kernel
theorem dX5_eventLength_5 : decode cX5_eventLength 5 = .ok (.ifCond .eq 12, 3) := by decide +kernel
theorem dX5_eventLength_8 : decode cX5_eventLength 8 = .ok (.aload_n 0, 1) := by decide +kernel
theorem dX5_eventLength_9 : decode cX5_eventLength 9 = .ok (.getfield 40, 3) := by decide +kernel
theorem dX5_eventLength_12 : decode cX5_eventLength 12 = .ok (.iload_n 1, 1) := by decide +kernel
theorem dX5_eventLength_13 : decode cX5_eventLength 13 = .ok (.iaload, 1) := by decide +kernel
theorem dX5_eventLength_14 : decode cX5_eventLength 14 = .ok (.goto 4, 3) := by decide +kernel
theorem dX5_eventLength_17 : decode cX5_eventLength 17 = .ok (.iconst 0, 1) := by decide +kernel
theorem dX5_eventLength_18 : decode cX5_eventLength 18 = .ok (.ireturn, 1) := by decide +kernel
theorem dX5_openTickets_0 : decode cX5_openTickets 0 = .ok (.aload_n 0, 1) := by decide +kernel
theorem dX5_openTickets_1 : decode cX5_openTickets 1 = .ok (.iconst 0, 1) := by decide +kernel
theorem dX5_openTickets_2 : decode cX5_openTickets 2 = .ok (.putfield 43, 3) := by decide +kernel
theorem dX5_openTickets_5 : decode cX5_openTickets 5 = .ok (.iconst 0, 1) := by decide +kernel
theorem dX5_openTickets_6 : decode cX5_openTickets 6 = .ok (.istore_n 1, 1) := by decide +kernel
theorem dX5_openTickets_7 : decode cX5_openTickets 7 = .ok (.iconst 1, 1) := by decide +kernel
theorem dX5_openTickets_8 : decode cX5_openTickets 8 = .ok (.istore_n 2, 1) := by decide +kernel
theorem dX5_openTickets_9 : decode cX5_openTickets 9 = .ok (.iload_n 2, 1) := by decide +kernel
theorem dX5_openTickets_10 : decode cX5_openTickets 10 = .ok (.aload_n 0, 1) := by decide +kernel
theorem dX5_openTickets_11 : decode cX5_openTickets 11 = .ok (.getfield 75, 3) := by decide +kernel
theorem dX5_openTickets_14 : decode cX5_openTickets 14 = .ok (.if_icmp .gt 27, 3) := by decide +kernel
theorem dX5_openTickets_17 : decode cX5_openTickets 17 = .ok (.iload_n 1, 1) := by decide +kernel
theorem dX5_openTickets_18 : decode cX5_openTickets 18 = .ok (.aload_n 0, 1) := by decide +kernel
theorem dX5_openTickets_19 : decode cX5_openTickets 19 = .ok (.getfield 25, 3) := by decide +kernel
theorem dX5_openTickets_22 : decode cX5_openTickets 22 = .ok (.iload_n 2, 1) := by decide +kernel
theorem dX5_openTickets_23 : decode cX5_openTickets 23 = .ok (.iaload, 1) := by decide +kernel
theorem dX5_openTickets_24 : decode cX5_openTickets 24 = .ok (.iconst 1, 1) := by decide +kernel
theorem dX5_openTickets_25 : decode cX5_openTickets 25 = .ok (.if_icmp .ne 7, 3) := by decide +kernel
theorem dX5_openTickets_28 : decode cX5_openTickets 28 = .ok (.iconst 1, 1) := by decide +kernel
theorem dX5_openTickets_29 : decode cX5_openTickets 29 = .ok (.goto 4, 3) := by decide +kernel
theorem dX5_openTickets_32 : decode cX5_openTickets 32 = .ok (.iconst 0, 1) := by decide +kernel
theorem dX5_openTickets_33 : decode cX5_openTickets 33 = .ok (.iadd, 1) := by decide +kernel
theorem dX5_openTickets_34 : decode cX5_openTickets 34 = .ok (.istore_n 1, 1) := by decide +kernel
theorem dX5_openTickets_35 : decode cX5_openTickets 35 = .ok (.iinc 2 1, 3) := by decide +kernel
theorem dX5_openTickets_38 : decode cX5_openTickets 38 = .ok (.goto (-29), 3) := by decide +kernel
theorem dX5_openTickets_41 : decode cX5_openTickets 41 = .ok (.iload_n 1, 1) := by decide +kernel
theorem dX5_openTickets_42 : decode cX5_openTickets 42 = .ok (.ireturn, 1) := by decide +kernel
theorem dX5_ticketOf_0 : decode cX5_ticketOf 0 = .ok (.aload_n 0, 1) := by decide +kernel
theorem dX5_ticketOf_1 : decode cX5_ticketOf 1 = .ok (.iload_n 1, 1) := by decide +kernel
theorem dX5_ticketOf_2 : decode cX5_ticketOf 2 = .ok (.invokestatic 51, 3) := by decide +kernel
theorem dX5_ticketOf_5 : decode cX5_ticketOf 5 = .ok (.iconst 1, 1) := by decide +kernel
theorem dX5_ticketOf_6 : decode cX5_ticketOf 6 = .ok (.invokevirtual 55, 3) := by decide +kernel
theorem dX5_ticketOf_9 : decode cX5_ticketOf 9 = .ok (.istore_n 2, 1) := by decide +kernel
theorem dX5_ticketOf_10 : decode cX5_ticketOf 10 = .ok (.iload_n 2, 1) := by decide +kernel
theorem dX5_ticketOf_11 : decode cX5_ticketOf 11 = .ok (.ifCond .eq 27, 3) := by decide +kernel
theorem dX5_ticketOf_14 : decode cX5_ticketOf 14 = .ok (.aload_n 0, 1) := by decide +kernel
theorem dX5_ticketOf_15 : decode cX5_ticketOf 15 = .ok (.getfield 68, 3) := by decide +kernel
theorem dX5_ticketOf_18 : decode cX5_ticketOf 18 = .ok (.iload_n 1, 1) := by decide +kernel
theorem dX5_ticketOf_19 : decode cX5_ticketOf 19 = .ok (.invokestatic 47, 3) := by decide +kernel
theorem dX5_ticketOf_22 : decode cX5_ticketOf 22 = .ok (.ifCond .eq 12, 3) := by decide +kernel
theorem dX5_ticketOf_25 : decode cX5_ticketOf 25 = .ok (.aload_n 0, 1) := by decide +kernel
theorem dX5_ticketOf_26 : decode cX5_ticketOf 26 = .ok (.getfield 19, 3) := by decide +kernel
theorem dX5_ticketOf_29 : decode cX5_ticketOf 29 = .ok (.iload_n 1, 1) := by decide +kernel
theorem dX5_ticketOf_30 : decode cX5_ticketOf 30 = .ok (.iaload, 1) := by decide +kernel
theorem dX5_ticketOf_31 : decode cX5_ticketOf 31 = .ok (.goto 8, 3) := by decide +kernel
theorem dX5_ticketOf_34 : decode cX5_ticketOf 34 = .ok (.iconst (-1), 1) := by decide +kernel
theorem dX5_ticketOf_35 : decode cX5_ticketOf 35 = .ok (.goto 4, 3) := by decide +kernel
theorem dX5_ticketOf_38 : decode cX5_ticketOf 38 = .ok (.iconst 0, 1) := by decide +kernel
theorem dX5_ticketOf_39 : decode cX5_ticketOf 39 = .ok (.ireturn, 1) := by decide +kernel
theorem dX5_isTicket_0 : decode cX5_isTicket 0 = .ok (.iload_n 1, 1) := by decide +kernel
theorem dX5_isTicket_1 : decode cX5_isTicket 1 = .ok (.iconst 1, 1) := by decide +kernel
theorem dX5_isTicket_2 : decode cX5_isTicket 2 = .ok (.if_icmp .lt 15, 3) := by decide +kernel
theorem dX5_isTicket_5 : decode cX5_isTicket 5 = .ok (.iload_n 1, 1) := by decide +kernel
theorem dX5_isTicket_6 : decode cX5_isTicket 6 = .ok (.aload_n 0, 1) := by decide +kernel
theorem dX5_isTicket_7 : decode cX5_isTicket 7 = .ok (.getfield 75, 3) := by decide +kernel
theorem dX5_isTicket_10 : decode cX5_isTicket 10 = .ok (.if_icmp .gt 7, 3) := by decide +kernel
theorem dX5_isTicket_13 : decode cX5_isTicket 13 = .ok (.iconst 1, 1) := by decide +kernel
theorem dX5_isTicket_14 : decode cX5_isTicket 14 = .ok (.goto 4, 3) := by decide +kernel
theorem dX5_isTicket_17 : decode cX5_isTicket 17 = .ok (.iconst 0, 1) := by decide +kernel
theorem dX5_isTicket_18 : decode cX5_isTicket 18 = .ok (.ireturn, 1) := by decide +kernel
theorem dX5_ticketState_0 : decode cX5_ticketState 0 = .ok (.aload_n 0, 1) := by decide +kernel
theorem dX5_ticketState_1 : decode cX5_ticketState 1 = .ok (.iconst 0, 1) := by decide +kernel
theorem dX5_ticketState_2 : decode cX5_ticketState 2 = .ok (.putfield 43, 3) := by decide +kernel
theorem dX5_ticketState_5 : decode cX5_ticketState 5 = .ok (.aload_n 0, 1) := by decide +kernel
theorem dX5_ticketState_6 : decode cX5_ticketState 6 = .ok (.iload_n 1, 1) := by decide +kernel
theorem dX5_ticketState_7 : decode cX5_ticketState 7 = .ok (.invokevirtual 95, 3) := by decide +kernel
theorem dX5_ticketState_10 : decode cX5_ticketState 10 = .ok (.ifCond .eq 12, 3) := by decide +kernel
theorem dX5_ticketState_13 : decode cX5_ticketState 13 = .ok (.aload_n 0, 1) := by decide +kernel
theorem dX5_ticketState_14 : decode cX5_ticketState 14 = .ok (.getfield 25, 3) := by decide +kernel
theorem dX5_ticketState_17 : decode cX5_ticketState 17 = .ok (.iload_n 1, 1) := by decide +kernel
theorem dX5_ticketState_18 : decode cX5_ticketState 18 = .ok (.iaload, 1) := by decide +kernel
theorem dX5_ticketState_19 : decode cX5_ticketState 19 = .ok (.goto 4, 3) := by decide +kernel
theorem dX5_ticketState_22 : decode cX5_ticketState 22 = .ok (.iconst 0, 1) := by decide +kernel
theorem dX5_ticketState_23 : decode cX5_ticketState 23 = .ok (.ireturn, 1) := by decide +kernel
theorem dX5_ticketSize_0 : decode cX5_ticketSize 0 = .ok (.aload_n 0, 1) := by decide +kernel
theorem dX5_ticketSize_1 : decode cX5_ticketSize 1 = .ok (.iconst 0, 1) := by decide +kernel
theorem dX5_ticketSize_2 : decode cX5_ticketSize 2 = .ok (.putfield 43, 3) := by decide +kernel
theorem dX5_ticketSize_5 : decode cX5_ticketSize 5 = .ok (.aload_n 0, 1) := by decide +kernel
theorem dX5_ticketSize_6 : decode cX5_ticketSize 6 = .ok (.iload_n 1, 1) := by decide +kernel
theorem dX5_ticketSize_7 : decode cX5_ticketSize 7 = .ok (.invokevirtual 95, 3) := by decide +kernel
theorem dX5_ticketSize_10 : decode cX5_ticketSize 10 = .ok (.ifCond .eq 15, 3) := by decide +kernel
theorem dX5_ticketSize_13 : decode cX5_ticketSize 13 = .ok (.aload_n 0, 1) := by decide +kernel
theorem dX5_ticketSize_14 : decode cX5_ticketSize 14 = .ok (.getfield 22, 3) := by decide +kernel
theorem dX5_ticketSize_17 : decode cX5_ticketSize 17 = .ok (.iload_n 1, 1) := by decide +kernel
theorem dX5_ticketSize_18 : decode cX5_ticketSize 18 = .ok (.iaload, 1) := by decide +kernel
theorem dX5_ticketSize_19 : decode cX5_ticketSize 19 = .ok (.invokestatic 82, 3) := by decide +kernel
theorem dX5_ticketSize_22 : decode cX5_ticketSize 22 = .ok (.goto 4, 3) := by decide +kernel
theorem dX5_ticketSize_25 : decode cX5_ticketSize 25 = .ok (.iconst 0, 1) := by decide +kernel
theorem dX5_ticketSize_26 : decode cX5_ticketSize 26 = .ok (.ireturn, 1) := by decide +kernel
theorem dX5_mergedInto_0 : decode cX5_mergedInto 0 = .ok (.aload_n 0, 1) := by decide +kernel
theorem dX5_mergedInto_1 : decode cX5_mergedInto 1 = .ok (.iconst 0, 1) := by decide +kernel
theorem dX5_mergedInto_2 : decode cX5_mergedInto 2 = .ok (.putfield 43, 3) := by decide +kernel
theorem dX5_mergedInto_5 : decode cX5_mergedInto 5 = .ok (.aload_n 0, 1) := by decide +kernel
theorem dX5_mergedInto_6 : decode cX5_mergedInto 6 = .ok (.iload_n 1, 1) := by decide +kernel
theorem dX5_mergedInto_7 : decode cX5_mergedInto 7 = .ok (.invokevirtual 95, 3) := by decide +kernel
theorem dX5_mergedInto_10 : decode cX5_mergedInto 10 = .ok (.ifCond .eq 22, 3) := by decide +kernel
theorem dX5_mergedInto_13 : decode cX5_mergedInto 13 = .ok (.aload_n 0, 1) := by decide +kernel
theorem dX5_mergedInto_14 : decode cX5_mergedInto 14 = .ok (.getfield 25, 3) := by decide +kernel
theorem dX5_mergedInto_17 : decode cX5_mergedInto 17 = .ok (.iload_n 1, 1) := by decide +kernel
theorem dX5_mergedInto_18 : decode cX5_mergedInto 18 = .ok (.iaload, 1) := by decide +kernel
theorem dX5_mergedInto_19 : decode cX5_mergedInto 19 = .ok (.iconst 3, 1) := by decide +kernel
theorem dX5_mergedInto_20 : decode cX5_mergedInto 20 = .ok (.if_icmp .ne 12, 3) := by decide +kernel
theorem dX5_mergedInto_23 : decode cX5_mergedInto 23 = .ok (.aload_n 0, 1) := by decide +kernel
theorem dX5_mergedInto_24 : decode cX5_mergedInto 24 = .ok (.getfield 28, 3) := by decide +kernel
theorem dX5_mergedInto_27 : decode cX5_mergedInto 27 = .ok (.iload_n 1, 1) := by decide +kernel
theorem dX5_mergedInto_28 : decode cX5_mergedInto 28 = .ok (.iaload, 1) := by decide +kernel
theorem dX5_mergedInto_29 : decode cX5_mergedInto 29 = .ok (.goto 4, 3) := by decide +kernel
theorem dX5_mergedInto_32 : decode cX5_mergedInto 32 = .ok (.iconst (-1), 1) := by decide +kernel
theorem dX5_mergedInto_33 : decode cX5_mergedInto 33 = .ok (.ireturn, 1) := by decide +kernel
theorem dX5_plausible_0 : decode cX5_plausible 0 = .ok (.iconst 0, 1) := by decide +kernel
theorem dX5_plausible_1 : decode cX5_plausible 1 = .ok (.istore_n 2, 1) := by decide +kernel
theorem dX5_plausible_2 : decode cX5_plausible 2 = .ok (.iconst 0, 1) := by decide +kernel
theorem dX5_plausible_3 : decode cX5_plausible 3 = .ok (.istore_n 3, 1) := by decide +kernel
theorem dX5_plausible_4 : decode cX5_plausible 4 = .ok (.iload_n 3, 1) := by decide +kernel
theorem dX5_plausible_5 : decode cX5_plausible 5 = .ok (.bipush 14, 2) := by decide +kernel
theorem dX5_plausible_7 : decode cX5_plausible 7 = .ok (.if_icmp .ge 32, 3) := by decide +kernel
theorem dX5_plausible_10 : decode cX5_plausible 10 = .ok (.iload_n 2, 1) := by decide +kernel
theorem dX5_plausible_11 : decode cX5_plausible 11 = .ok (.aload_n 0, 1) := by decide +kernel
theorem dX5_plausible_12 : decode cX5_plausible 12 = .ok (.getfield 7, 3) := by decide +kernel
theorem dX5_plausible_15 : decode cX5_plausible 15 = .ok (.iload_n 3, 1) := by decide +kernel
theorem dX5_plausible_16 : decode cX5_plausible 16 = .ok (.iaload, 1) := by decide +kernel
theorem dX5_plausible_17 : decode cX5_plausible 17 = .ok (.iload_n 1, 1) := by decide +kernel
theorem dX5_plausible_18 : decode cX5_plausible 18 = .ok (.invokestatic 47, 3) := by decide +kernel
theorem dX5_plausible_21 : decode cX5_plausible 21 = .ok (.ifCond .eq 9, 3) := by decide +kernel
theorem dX5_plausible_24 : decode cX5_plausible 24 = .ok (.iconst 1, 1) := by decide +kernel
theorem dX5_plausible_25 : decode cX5_plausible 25 = .ok (.iload_n 3, 1) := by decide +kernel
theorem dX5_plausible_26 : decode cX5_plausible 26 = .ok (.ishl, 1) := by decide +kernel
theorem dX5_plausible_27 : decode cX5_plausible 27 = .ok (.goto 4, 3) := by decide +kernel
theorem dX5_plausible_30 : decode cX5_plausible 30 = .ok (.iconst 0, 1) := by decide +kernel
theorem dX5_plausible_31 : decode cX5_plausible 31 = .ok (.ior, 1) := by decide +kernel
theorem dX5_plausible_32 : decode cX5_plausible 32 = .ok (.istore_n 2, 1) := by decide +kernel
theorem dX5_plausible_33 : decode cX5_plausible 33 = .ok (.iinc 3 1, 3) := by decide +kernel
theorem dX5_plausible_36 : decode cX5_plausible 36 = .ok (.goto (-32), 3) := by decide +kernel
theorem dX5_plausible_39 : decode cX5_plausible 39 = .ok (.aload_n 0, 1) := by decide +kernel
theorem dX5_plausible_40 : decode cX5_plausible 40 = .ok (.getfield 68, 3) := by decide +kernel
theorem dX5_plausible_43 : decode cX5_plausible 43 = .ok (.iload_n 1, 1) := by decide +kernel
theorem dX5_plausible_44 : decode cX5_plausible 44 = .ok (.invokestatic 47, 3) := by decide +kernel
theorem dX5_plausible_47 : decode cX5_plausible 47 = .ok (.ifCond .ne 17, 3) := by decide +kernel
theorem dX5_plausible_50 : decode cX5_plausible 50 = .ok (.iload_n 2, 1) := by decide +kernel
theorem dX5_plausible_51 : decode cX5_plausible 51 = .ok (.ifCond .eq 17, 3) := by decide +kernel
theorem dX5_plausible_54 : decode cX5_plausible 54 = .ok (.iload_n 2, 1) := by decide +kernel
theorem dX5_plausible_55 : decode cX5_plausible 55 = .ok (.aload_n 0, 1) := by decide +kernel
theorem dX5_plausible_56 : decode cX5_plausible 56 = .ok (.getfield 68, 3) := by decide +kernel
theorem dX5_plausible_59 : decode cX5_plausible 59 = .ok (.iand, 1) := by decide +kernel
theorem dX5_plausible_60 : decode cX5_plausible 60 = .ok (.iload_n 2, 1) := by decide +kernel
theorem dX5_plausible_61 : decode cX5_plausible 61 = .ok (.if_icmp .ne 7, 3) := by decide +kernel
theorem dX5_plausible_64 : decode cX5_plausible 64 = .ok (.iconst 1, 1) := by decide +kernel
theorem dX5_plausible_65 : decode cX5_plausible 65 = .ok (.goto 4, 3) := by decide +kernel
theorem dX5_plausible_68 : decode cX5_plausible 68 = .ok (.iconst 0, 1) := by decide +kernel
theorem dX5_plausible_69 : decode cX5_plausible 69 = .ok (.ireturn, 1) := by decide +kernel
theorem dX5_isPlausible_0 : decode cX5_isPlausible 0 = .ok (.aload_n 0, 1) := by decide +kernel
theorem dX5_isPlausible_1 : decode cX5_isPlausible 1 = .ok (.iload_n 1, 1) := by decide +kernel
theorem dX5_isPlausible_2 : decode cX5_isPlausible 2 = .ok (.invokestatic 51, 3) := by decide +kernel
theorem dX5_isPlausible_5 : decode cX5_isPlausible 5 = .ok (.iconst 1, 1) := by decide +kernel
theorem dX5_isPlausible_6 : decode cX5_isPlausible 6 = .ok (.invokevirtual 55, 3) := by decide +kernel
theorem dX5_isPlausible_9 : decode cX5_isPlausible 9 = .ok (.ifCond .eq 15, 3) := by decide +kernel
theorem dX5_isPlausible_12 : decode cX5_isPlausible 12 = .ok (.aload_n 0, 1) := by decide +kernel
theorem dX5_isPlausible_13 : decode cX5_isPlausible 13 = .ok (.iload_n 1, 1) := by decide +kernel
theorem dX5_isPlausible_14 : decode cX5_isPlausible 14 = .ok (.invokevirtual 98, 3) := by decide +kernel
theorem dX5_isPlausible_17 : decode cX5_isPlausible 17 = .ok (.ifCond .eq 7, 3) := by decide +kernel
theorem dX5_isPlausible_20 : decode cX5_isPlausible 20 = .ok (.iconst 1, 1) := by decide +kernel
theorem dX5_isPlausible_21 : decode cX5_isPlausible 21 = .ok (.goto 4, 3) := by decide +kernel
theorem dX5_isPlausible_24 : decode cX5_isPlausible 24 = .ok (.iconst 0, 1) := by decide +kernel
theorem dX5_isPlausible_25 : decode cX5_isPlausible 25 = .ok (.ireturn, 1) := by decide +kernel
theorem dX5_explains_0 : decode cX5_explains 0 = .ok (.iconst 1, 1) := by decide +kernel
theorem dX5_explains_1 : decode cX5_explains 1 = .ok (.iload_n 1, 1) := by decide +kernel
theorem dX5_explains_2 : decode cX5_explains 2 = .ok (.ishl, 1) := by decide +kernel
theorem dX5_explains_3 : decode cX5_explains 3 = .ok (.istore_n 2, 1) := by decide +kernel
theorem dX5_explains_4 : decode cX5_explains 4 = .ok (.iconst 0, 1) := by decide +kernel
theorem dX5_explains_5 : decode cX5_explains 5 = .ok (.istore_n 3, 1) := by decide +kernel
theorem dX5_explains_6 : decode cX5_explains 6 = .ok (.iload_n 3, 1) := by decide +kernel
theorem dX5_explains_7 : decode cX5_explains 7 = .ok (.bipush 14, 2) := by decide +kernel
theorem dX5_explains_9 : decode cX5_explains 9 = .ok (.if_icmp .ge 32, 3) := by decide +kernel
theorem dX5_explains_12 : decode cX5_explains 12 = .ok (.iload_n 2, 1) := by decide +kernel
theorem dX5_explains_13 : decode cX5_explains 13 = .ok (.aload_n 0, 1) := by decide +kernel
theorem dX5_explains_14 : decode cX5_explains 14 = .ok (.getfield 13, 3) := by decide +kernel
theorem dX5_explains_17 : decode cX5_explains 17 = .ok (.iload_n 3, 1) := by decide +kernel
theorem dX5_explains_18 : decode cX5_explains 18 = .ok (.iaload, 1) := by decide +kernel
theorem dX5_explains_19 : decode cX5_explains 19 = .ok (.iload_n 1, 1) := by decide +kernel
theorem dX5_explains_20 : decode cX5_explains 20 = .ok (.invokestatic 47, 3) := by decide +kernel
theorem dX5_explains_23 : decode cX5_explains 23 = .ok (.ifCond .eq 9, 3) := by decide +kernel
theorem dX5_explains_26 : decode cX5_explains 26 = .ok (.iconst 1, 1) := by decide +kernel
theorem dX5_explains_27 : decode cX5_explains 27 = .ok (.iload_n 3, 1) := by decide +kernel
theorem dX5_explains_28 : decode cX5_explains 28 = .ok (.ishl, 1) := by decide +kernel
theorem dX5_explains_29 : decode cX5_explains 29 = .ok (.goto 4, 3) := by decide +kernel
theorem dX5_explains_32 : decode cX5_explains 32 = .ok (.iconst 0, 1) := by decide +kernel
theorem dX5_explains_33 : decode cX5_explains 33 = .ok (.ior, 1) := by decide +kernel
theorem dX5_explains_34 : decode cX5_explains 34 = .ok (.istore_n 2, 1) := by decide +kernel
theorem dX5_explains_35 : decode cX5_explains 35 = .ok (.iinc 3 1, 3) := by decide +kernel
theorem dX5_explains_38 : decode cX5_explains 38 = .ok (.goto (-32), 3) := by decide +kernel
theorem dX5_explains_41 : decode cX5_explains 41 = .ok (.iload_n 2, 1) := by decide +kernel
theorem dX5_explains_42 : decode cX5_explains 42 = .ok (.ireturn, 1) := by decide +kernel
theorem dX5_explained_0 : decode cX5_explained 0 = .ok (.iconst 0, 1) := by decide +kernel
theorem dX5_explained_1 : decode cX5_explained 1 = .ok (.istore_n 2, 1) := by decide +kernel
theorem dX5_explained_2 : decode cX5_explained 2 = .ok (.iconst 0, 1) := by decide +kernel
theorem dX5_explained_3 : decode cX5_explained 3 = .ok (.istore_n 3, 1) := by decide +kernel
theorem dX5_explained_4 : decode cX5_explained 4 = .ok (.iload_n 3, 1) := by decide +kernel
theorem dX5_explained_5 : decode cX5_explained 5 = .ok (.bipush 14, 2) := by decide +kernel
theorem dX5_explained_7 : decode cX5_explained 7 = .ok (.if_icmp .ge 64, 3) := by decide +kernel
theorem dX5_explained_10 : decode cX5_explained 10 = .ok (.iconst 0, 1) := by decide +kernel
theorem dX5_explained_11 : decode cX5_explained 11 = .ok (.istore 4, 2) := by decide +kernel
theorem dX5_explained_13 : decode cX5_explained 13 = .ok (.iload 4, 2) := by decide +kernel
theorem dX5_explained_15 : decode cX5_explained 15 = .ok (.bipush 14, 2) := by decide +kernel
theorem dX5_explained_17 : decode cX5_explained 17 = .ok (.if_icmp .ge 48, 3) := by decide +kernel
theorem dX5_explained_20 : decode cX5_explained 20 = .ok (.iload_n 2, 1) := by decide +kernel
theorem dX5_explained_21 : decode cX5_explained 21 = .ok (.iload_n 1, 1) := by decide +kernel
theorem dX5_explained_22 : decode cX5_explained 22 = .ok (.iload 4, 2) := by decide +kernel
theorem dX5_explained_24 : decode cX5_explained 24 = .ok (.invokestatic 47, 3) := by decide +kernel
theorem dX5_explained_27 : decode cX5_explained 27 = .ok (.ifCond .eq 29, 3) := by decide +kernel
theorem dX5_explained_30 : decode cX5_explained 30 = .ok (.iload_n 3, 1) := by decide +kernel
theorem dX5_explained_31 : decode cX5_explained 31 = .ok (.iload 4, 2) := by decide +kernel
theorem dX5_explained_33 : decode cX5_explained 33 = .ok (.if_icmp .eq 17, 3) := by decide +kernel
theorem dX5_explained_36 : decode cX5_explained 36 = .ok (.aload_n 0, 1) := by decide +kernel
theorem dX5_explained_37 : decode cX5_explained 37 = .ok (.getfield 13, 3) := by decide +kernel
theorem dX5_explained_40 : decode cX5_explained 40 = .ok (.iload_n 3, 1) := by decide +kernel
theorem dX5_explained_41 : decode cX5_explained 41 = .ok (.iaload, 1) := by decide +kernel
theorem dX5_explained_42 : decode cX5_explained 42 = .ok (.iload 4, 2) := by decide +kernel
theorem dX5_explained_44 : decode cX5_explained 44 = .ok (.invokestatic 47, 3) := by decide +kernel
theorem dX5_explained_47 : decode cX5_explained 47 = .ok (.ifCond .eq 9, 3) := by decide +kernel
theorem dX5_explained_50 : decode cX5_explained 50 = .ok (.iconst 1, 1) := by decide +kernel
theorem dX5_explained_51 : decode cX5_explained 51 = .ok (.iload_n 3, 1) := by decide +kernel
theorem dX5_explained_52 : decode cX5_explained 52 = .ok (.ishl, 1) := by decide +kernel
theorem dX5_explained_53 : decode cX5_explained 53 = .ok (.goto 4, 3) := by decide +kernel
theorem dX5_explained_56 : decode cX5_explained 56 = .ok (.iconst 0, 1) := by decide +kernel
theorem dX5_explained_57 : decode cX5_explained 57 = .ok (.ior, 1) := by decide +kernel
theorem dX5_explained_58 : decode cX5_explained 58 = .ok (.istore_n 2, 1) := by decide +kernel
theorem dX5_explained_59 : decode cX5_explained 59 = .ok (.iinc 4 1, 3) := by decide +kernel
theorem dX5_explained_62 : decode cX5_explained 62 = .ok (.goto (-49), 3) := by decide +kernel
theorem dX5_explained_65 : decode cX5_explained 65 = .ok (.iinc 3 1, 3) := by decide +kernel
theorem dX5_explained_68 : decode cX5_explained 68 = .ok (.goto (-64), 3) := by decide +kernel
theorem dX5_explained_71 : decode cX5_explained 71 = .ok (.iload_n 2, 1) := by decide +kernel
theorem dX5_explained_72 : decode cX5_explained 72 = .ok (.ireturn, 1) := by decide +kernel
theorem dX5_isBetter_0 : decode cX5_isBetter 0 = .ok (.iload_n 1, 1) := by decide +kernel
theorem dX5_isBetter_1 : decode cX5_isBetter 1 = .ok (.iload_n 2, 1) := by decide +kernel
theorem dX5_isBetter_2 : decode cX5_isBetter 2 = .ok (.ixor, 1) := by decide +kernel
theorem dX5_isBetter_3 : decode cX5_isBetter 3 = .ok (.istore_n 3, 1) := by decide +kernel
theorem dX5_isBetter_4 : decode cX5_isBetter 4 = .ok (.iload_n 3, 1) := by decide +kernel
theorem dX5_isBetter_5 : decode cX5_isBetter 5 = .ok (.iload_n 3, 1) := by decide +kernel
theorem dX5_isBetter_6 : decode cX5_isBetter 6 = .ok (.ineg, 1) := by decide +kernel
theorem dX5_isBetter_7 : decode cX5_isBetter 7 = .ok (.iand, 1) := by decide +kernel
theorem dX5_isBetter_8 : decode cX5_isBetter 8 = .ok (.istore 4, 2) := by decide +kernel
theorem dX5_isBetter_10 : decode cX5_isBetter 10 = .ok (.iload_n 1, 1) := by decide +kernel
theorem dX5_isBetter_11 : decode cX5_isBetter 11 = .ok (.invokestatic 82, 3) := by decide +kernel
theorem dX5_isBetter_14 : decode cX5_isBetter 14 = .ok (.iload_n 2, 1) := by decide +kernel
theorem dX5_isBetter_15 : decode cX5_isBetter 15 = .ok (.invokestatic 82, 3) := by decide +kernel
theorem dX5_isBetter_18 : decode cX5_isBetter 18 = .ok (.if_icmp .eq 20, 3) := by decide +kernel
theorem dX5_isBetter_21 : decode cX5_isBetter 21 = .ok (.iload_n 1, 1) := by decide +kernel
theorem dX5_isBetter_22 : decode cX5_isBetter 22 = .ok (.invokestatic 82, 3) := by decide +kernel
theorem dX5_isBetter_25 : decode cX5_isBetter 25 = .ok (.iload_n 2, 1) := by decide +kernel
theorem dX5_isBetter_26 : decode cX5_isBetter 26 = .ok (.invokestatic 82, 3) := by decide +kernel
theorem dX5_isBetter_29 : decode cX5_isBetter 29 = .ok (.if_icmp .ge 7, 3) := by decide +kernel
theorem dX5_isBetter_32 : decode cX5_isBetter 32 = .ok (.iconst 1, 1) := by decide +kernel
theorem dX5_isBetter_33 : decode cX5_isBetter 33 = .ok (.goto 4, 3) := by decide +kernel
theorem dX5_isBetter_36 : decode cX5_isBetter 36 = .ok (.iconst 0, 1) := by decide +kernel
theorem dX5_isBetter_37 : decode cX5_isBetter 37 = .ok (.ireturn, 1) := by decide +kernel
theorem dX5_isBetter_38 : decode cX5_isBetter 38 = .ok (.iload_n 1, 1) := by decide +kernel
theorem dX5_isBetter_39 : decode cX5_isBetter 39 = .ok (.aload_n 0, 1) := by decide +kernel
theorem dX5_isBetter_40 : decode cX5_isBetter 40 = .ok (.getfield 68, 3) := by decide +kernel
theorem dX5_isBetter_43 : decode cX5_isBetter 43 = .ok (.iand, 1) := by decide +kernel
theorem dX5_isBetter_44 : decode cX5_isBetter 44 = .ok (.invokestatic 82, 3) := by decide +kernel
theorem dX5_isBetter_47 : decode cX5_isBetter 47 = .ok (.iload_n 2, 1) := by decide +kernel
theorem dX5_isBetter_48 : decode cX5_isBetter 48 = .ok (.aload_n 0, 1) := by decide +kernel
theorem dX5_isBetter_49 : decode cX5_isBetter 49 = .ok (.getfield 68, 3) := by decide +kernel
theorem dX5_isBetter_52 : decode cX5_isBetter 52 = .ok (.iand, 1) := by decide +kernel
theorem dX5_isBetter_53 : decode cX5_isBetter 53 = .ok (.invokestatic 82, 3) := by decide +kernel
theorem dX5_isBetter_56 : decode cX5_isBetter 56 = .ok (.if_icmp .eq 32, 3) := by decide +kernel
theorem dX5_isBetter_59 : decode cX5_isBetter 59 = .ok (.iload_n 1, 1) := by decide +kernel
theorem dX5_isBetter_60 : decode cX5_isBetter 60 = .ok (.aload_n 0, 1) := by decide +kernel
theorem dX5_isBetter_61 : decode cX5_isBetter 61 = .ok (.getfield 68, 3) := by decide +kernel
theorem dX5_isBetter_64 : decode cX5_isBetter 64 = .ok (.iand, 1) := by decide +kernel
theorem dX5_isBetter_65 : decode cX5_isBetter 65 = .ok (.invokestatic 82, 3) := by decide +kernel
theorem dX5_isBetter_68 : decode cX5_isBetter 68 = .ok (.iload_n 2, 1) := by decide +kernel
theorem dX5_isBetter_69 : decode cX5_isBetter 69 = .ok (.aload_n 0, 1) := by decide +kernel
theorem dX5_isBetter_70 : decode cX5_isBetter 70 = .ok (.getfield 68, 3) := by decide +kernel
theorem dX5_isBetter_73 : decode cX5_isBetter 73 = .ok (.iand, 1) := by decide +kernel
theorem dX5_isBetter_74 : decode cX5_isBetter 74 = .ok (.invokestatic 82, 3) := by decide +kernel
theorem dX5_isBetter_77 : decode cX5_isBetter 77 = .ok (.if_icmp .le 7, 3) := by decide +kernel
theorem dX5_isBetter_80 : decode cX5_isBetter 80 = .ok (.iconst 1, 1) := by decide +kernel
theorem dX5_isBetter_81 : decode cX5_isBetter 81 = .ok (.goto 19, 3) := by decide +kernel
theorem dX5_isBetter_84 : decode cX5_isBetter 84 = .ok (.iconst 0, 1) := by decide +kernel
theorem dX5_isBetter_85 : decode cX5_isBetter 85 = .ok (.goto 15, 3) := by decide +kernel
theorem dX5_isBetter_88 : decode cX5_isBetter 88 = .ok (.iload_n 1, 1) := by decide +kernel
theorem dX5_isBetter_89 : decode cX5_isBetter 89 = .ok (.iload 4, 2) := by decide +kernel
theorem dX5_isBetter_91 : decode cX5_isBetter 91 = .ok (.iand, 1) := by decide +kernel
theorem dX5_isBetter_92 : decode cX5_isBetter 92 = .ok (.ifCond .eq 7, 3) := by decide +kernel
theorem dX5_isBetter_95 : decode cX5_isBetter 95 = .ok (.iconst 1, 1) := by decide +kernel
theorem dX5_isBetter_96 : decode cX5_isBetter 96 = .ok (.goto 4, 3) := by decide +kernel
theorem dX5_isBetter_99 : decode cX5_isBetter 99 = .ok (.iconst 0, 1) := by decide +kernel
theorem dX5_isBetter_100 : decode cX5_isBetter 100 = .ok (.ireturn, 1) := by decide +kernel
theorem dX5_best_0 : decode cX5_best 0 = .ok (.iconst 0, 1) := by decide +kernel
theorem dX5_best_1 : decode cX5_best 1 = .ok (.istore_n 1, 1) := by decide +kernel
theorem dX5_best_2 : decode cX5_best 2 = .ok (.iconst 0, 1) := by decide +kernel
theorem dX5_best_3 : decode cX5_best 3 = .ok (.istore_n 2, 1) := by decide +kernel
theorem dX5_best_4 : decode cX5_best 4 = .ok (.iload_n 2, 1) := by decide +kernel
theorem dX5_best_5 : decode cX5_best 5 = .ok (.bipush 14, 2) := by decide +kernel
theorem dX5_best_7 : decode cX5_best 7 = .ok (.if_icmp .ge 27, 3) := by decide +kernel
theorem dX5_best_10 : decode cX5_best 10 = .ok (.iload_n 1, 1) := by decide +kernel
theorem dX5_best_11 : decode cX5_best 11 = .ok (.aload_n 0, 1) := by decide +kernel
theorem dX5_best_12 : decode cX5_best 12 = .ok (.iload_n 2, 1) := by decide +kernel
theorem dX5_best_13 : decode cX5_best 13 = .ok (.invokevirtual 98, 3) := by decide +kernel
theorem dX5_best_16 : decode cX5_best 16 = .ok (.ifCond .eq 9, 3) := by decide +kernel
theorem dX5_best_19 : decode cX5_best 19 = .ok (.iconst 1, 1) := by decide +kernel
theorem dX5_best_20 : decode cX5_best 20 = .ok (.iload_n 2, 1) := by decide +kernel
theorem dX5_best_21 : decode cX5_best 21 = .ok (.ishl, 1) := by decide +kernel
theorem dX5_best_22 : decode cX5_best 22 = .ok (.goto 4, 3) := by decide +kernel
theorem dX5_best_25 : decode cX5_best 25 = .ok (.iconst 0, 1) := by decide +kernel
theorem dX5_best_26 : decode cX5_best 26 = .ok (.ior, 1) := by decide +kernel
theorem dX5_best_27 : decode cX5_best 27 = .ok (.istore_n 1, 1) := by decide +kernel
theorem dX5_best_28 : decode cX5_best 28 = .ok (.iinc 2 1, 3) := by decide +kernel
theorem dX5_best_31 : decode cX5_best 31 = .ok (.goto (-27), 3) := by decide +kernel
theorem dX5_best_34 : decode cX5_best 34 = .ok (.aload_n 0, 1) := by decide +kernel
theorem dX5_best_35 : decode cX5_best 35 = .ok (.getfield 68, 3) := by decide +kernel
theorem dX5_best_38 : decode cX5_best 38 = .ok (.istore_n 2, 1) := by decide +kernel
theorem dX5_best_39 : decode cX5_best 39 = .ok (.iload_n 1, 1) := by decide +kernel
theorem dX5_best_40 : decode cX5_best 40 = .ok (.istore_n 3, 1) := by decide +kernel
theorem dX5_best_41 : decode cX5_best 41 = .ok (.iload_n 3, 1) := by decide +kernel
theorem dX5_best_42 : decode cX5_best 42 = .ok (.ifCond .le 45, 3) := by decide +kernel
theorem dX5_best_45 : decode cX5_best 45 = .ok (.iload_n 3, 1) := by decide +kernel
theorem dX5_best_46 : decode cX5_best 46 = .ok (.iload_n 2, 1) := by decide +kernel
theorem dX5_best_47 : decode cX5_best 47 = .ok (.if_icmp .eq 31, 3) := by decide +kernel
theorem dX5_best_50 : decode cX5_best 50 = .ok (.aload_n 0, 1) := by decide +kernel
theorem dX5_best_51 : decode cX5_best 51 = .ok (.iload_n 3, 1) := by decide +kernel
theorem dX5_best_52 : decode cX5_best 52 = .ok (.iload_n 2, 1) := by decide +kernel
theorem dX5_best_53 : decode cX5_best 53 = .ok (.invokevirtual 101, 3) := by decide +kernel
theorem dX5_best_56 : decode cX5_best 56 = .ok (.ifCond .eq 22, 3) := by decide +kernel
theorem dX5_best_59 : decode cX5_best 59 = .ok (.aload_n 0, 1) := by decide +kernel
theorem dX5_best_60 : decode cX5_best 60 = .ok (.iload_n 3, 1) := by decide +kernel
theorem dX5_best_61 : decode cX5_best 61 = .ok (.invokevirtual 104, 3) := by decide +kernel
theorem dX5_best_64 : decode cX5_best 64 = .ok (.aload_n 0, 1) := by decide +kernel
theorem dX5_best_65 : decode cX5_best 65 = .ok (.getfield 68, 3) := by decide +kernel
theorem dX5_best_68 : decode cX5_best 68 = .ok (.iand, 1) := by decide +kernel
theorem dX5_best_69 : decode cX5_best 69 = .ok (.aload_n 0, 1) := by decide +kernel
theorem dX5_best_70 : decode cX5_best 70 = .ok (.getfield 68, 3) := by decide +kernel
theorem dX5_best_73 : decode cX5_best 73 = .ok (.if_icmp .ne 5, 3) := by decide +kernel
theorem dX5_best_76 : decode cX5_best 76 = .ok (.iload_n 3, 1) := by decide +kernel
theorem dX5_best_77 : decode cX5_best 77 = .ok (.istore_n 2, 1) := by decide +kernel
theorem dX5_best_78 : decode cX5_best 78 = .ok (.iload_n 3, 1) := by decide +kernel
theorem dX5_best_79 : decode cX5_best 79 = .ok (.iconst 1, 1) := by decide +kernel
theorem dX5_best_80 : decode cX5_best 80 = .ok (.isub, 1) := by decide +kernel
theorem dX5_best_81 : decode cX5_best 81 = .ok (.iload_n 1, 1) := by decide +kernel
theorem dX5_best_82 : decode cX5_best 82 = .ok (.iand, 1) := by decide +kernel
theorem dX5_best_83 : decode cX5_best 83 = .ok (.istore_n 3, 1) := by decide +kernel
theorem dX5_best_84 : decode cX5_best 84 = .ok (.goto (-43), 3) := by decide +kernel
theorem dX5_best_87 : decode cX5_best 87 = .ok (.aload_n 0, 1) := by decide +kernel
theorem dX5_best_88 : decode cX5_best 88 = .ok (.getfield 68, 3) := by decide +kernel
theorem dX5_best_91 : decode cX5_best 91 = .ok (.ifCond .ne 7, 3) := by decide +kernel
theorem dX5_best_94 : decode cX5_best 94 = .ok (.iconst 0, 1) := by decide +kernel
theorem dX5_best_95 : decode cX5_best 95 = .ok (.goto 4, 3) := by decide +kernel
theorem dX5_best_98 : decode cX5_best 98 = .ok (.iload_n 2, 1) := by decide +kernel
theorem dX5_best_99 : decode cX5_best 99 = .ok (.ireturn, 1) := by decide +kernel
theorem dX5_causes_0 : decode cX5_causes 0 = .ok (.aload_n 0, 1) := by decide +kernel
theorem dX5_causes_1 : decode cX5_causes 1 = .ok (.iconst 0, 1) := by decide +kernel
theorem dX5_causes_2 : decode cX5_causes 2 = .ok (.putfield 43, 3) := by decide +kernel
theorem dX5_causes_5 : decode cX5_causes 5 = .ok (.aload_n 0, 1) := by decide +kernel
theorem dX5_causes_6 : decode cX5_causes 6 = .ok (.invokevirtual 107, 3) := by decide +kernel
theorem dX5_causes_9 : decode cX5_causes 9 = .ok (.invokestatic 82, 3) := by decide +kernel
theorem dX5_causes_12 : decode cX5_causes 12 = .ok (.ireturn, 1) := by decide +kernel
theorem dX5_cause_0 : decode cX5_cause 0 = .ok (.aload_n 0, 1) := by decide +kernel
theorem dX5_cause_1 : decode cX5_cause 1 = .ok (.invokevirtual 107, 3) := by decide +kernel
theorem dX5_cause_4 : decode cX5_cause 4 = .ok (.istore_n 2, 1) := by decide +kernel
theorem dX5_cause_5 : decode cX5_cause 5 = .ok (.aload_n 0, 1) := by decide +kernel
theorem dX5_cause_6 : decode cX5_cause 6 = .ok (.iload_n 1, 1) := by decide +kernel
theorem dX5_cause_7 : decode cX5_cause 7 = .ok (.ifCond .lt 15, 3) := by decide +kernel
theorem dX5_cause_10 : decode cX5_cause 10 = .ok (.iload_n 1, 1) := by decide +kernel
theorem dX5_cause_11 : decode cX5_cause 11 = .ok (.iload_n 2, 1) := by decide +kernel
theorem dX5_cause_12 : decode cX5_cause 12 = .ok (.invokestatic 82, 3) := by decide +kernel
theorem dX5_cause_15 : decode cX5_cause 15 = .ok (.if_icmp .ge 7, 3) := by decide +kernel
theorem dX5_cause_18 : decode cX5_cause 18 = .ok (.iconst 1, 1) := by decide +kernel
theorem dX5_cause_19 : decode cX5_cause 19 = .ok (.goto 4, 3) := by decide +kernel
theorem dX5_cause_22 : decode cX5_cause 22 = .ok (.iconst 0, 1) := by decide +kernel
theorem dX5_cause_23 : decode cX5_cause 23 = .ok (.iconst 1, 1) := by decide +kernel
theorem dX5_cause_24 : decode cX5_cause 24 = .ok (.invokevirtual 55, 3) := by decide +kernel
theorem dX5_cause_27 : decode cX5_cause 27 = .ok (.ifCond .eq 11, 3) := by decide +kernel
theorem dX5_cause_30 : decode cX5_cause 30 = .ok (.iload_n 2, 1) := by decide +kernel
theorem dX5_cause_31 : decode cX5_cause 31 = .ok (.iload_n 1, 1) := by decide +kernel
theorem dX5_cause_32 : decode cX5_cause 32 = .ok (.invokestatic 111, 3) := by decide +kernel
theorem dX5_cause_35 : decode cX5_cause 35 = .ok (.goto 4, 3) := by decide +kernel
theorem dX5_cause_38 : decode cX5_cause 38 = .ok (.iconst 0, 1) := by decide +kernel
theorem dX5_cause_39 : decode cX5_cause 39 = .ok (.ireturn, 1) := by decide +kernel
theorem dX5_causeByTrying_0 : decode cX5_causeByTrying 0 = .ok (.aload_n 0, 1) := by decide +kernel
theorem dX5_causeByTrying_1 : decode cX5_causeByTrying 1 = .ok (.iload_n 1, 1) := by decide +kernel
theorem dX5_causeByTrying_2 : decode cX5_causeByTrying 2 = .ok (.invokevirtual 114, 3) := by decide +kernel
theorem dX5_causeByTrying_5 : decode cX5_causeByTrying 5 = .ok (.ireturn, 1) := by decide +kernel
theorem dX5_joins_0 : decode cX5_joins 0 = .ok (.iconst (-1), 1) := by decide +kernel
theorem dX5_joins_1 : decode cX5_joins 1 = .ok (.istore_n 2, 1) := by decide +kernel
theorem dX5_joins_2 : decode cX5_joins 2 = .ok (.iconst 0, 1) := by decide +kernel
theorem dX5_joins_3 : decode cX5_joins 3 = .ok (.istore_n 3, 1) := by decide +kernel
theorem dX5_joins_4 : decode cX5_joins 4 = .ok (.iconst 0, 1) := by decide +kernel
theorem dX5_joins_5 : decode cX5_joins 5 = .ok (.istore 4, 2) := by decide +kernel
theorem dX5_joins_7 : decode cX5_joins 7 = .ok (.iload 4, 2) := by decide +kernel
theorem dX5_joins_9 : decode cX5_joins 9 = .ok (.bipush 14, 2) := by decide +kernel
theorem dX5_joins_11 : decode cX5_joins 11 = .ok (.if_icmp .ge 106, 3) := by decide +kernel
theorem dX5_joins_14 : decode cX5_joins 14 = .ok (.aload_n 0, 1) := by decide +kernel
theorem dX5_joins_15 : decode cX5_joins 15 = .ok (.iload 4, 2) := by decide +kernel
theorem dX5_joins_17 : decode cX5_joins 17 = .ok (.invokevirtual 98, 3) := by decide +kernel
theorem dX5_joins_20 : decode cX5_joins 20 = .ok (.ifCond .eq 17, 3) := by decide +kernel
theorem dX5_joins_23 : decode cX5_joins 23 = .ok (.aload_n 0, 1) := by decide +kernel
theorem dX5_joins_24 : decode cX5_joins 24 = .ok (.iload 4, 2) := by decide +kernel
theorem dX5_joins_26 : decode cX5_joins 26 = .ok (.invokevirtual 117, 3) := by decide +kernel
theorem dX5_joins_29 : decode cX5_joins 29 = .ok (.iload_n 1, 1) := by decide +kernel
theorem dX5_joins_30 : decode cX5_joins 30 = .ok (.iand, 1) := by decide +kernel
theorem dX5_joins_31 : decode cX5_joins 31 = .ok (.invokestatic 82, 3) := by decide +kernel
theorem dX5_joins_34 : decode cX5_joins 34 = .ok (.goto 4, 3) := by decide +kernel
theorem dX5_joins_37 : decode cX5_joins 37 = .ok (.iconst 0, 1) := by decide +kernel
theorem dX5_joins_38 : decode cX5_joins 38 = .ok (.istore 5, 2) := by decide +kernel
theorem dX5_joins_40 : decode cX5_joins 40 = .ok (.iload 5, 2) := by decide +kernel
theorem dX5_joins_42 : decode cX5_joins 42 = .ok (.iload_n 3, 1) := by decide +kernel
theorem dX5_joins_43 : decode cX5_joins 43 = .ok (.if_icmp .gt 37, 3) := by decide +kernel
theorem dX5_joins_46 : decode cX5_joins 46 = .ok (.iload 5, 2) := by decide +kernel
theorem dX5_joins_48 : decode cX5_joins 48 = .ok (.iload_n 3, 1) := by decide +kernel
theorem dX5_joins_49 : decode cX5_joins 49 = .ok (.if_icmp .ne 35, 3) := by decide +kernel
theorem dX5_joins_52 : decode cX5_joins 52 = .ok (.iload 5, 2) := by decide +kernel
theorem dX5_joins_54 : decode cX5_joins 54 = .ok (.ifCond .le 30, 3) := by decide +kernel
theorem dX5_joins_57 : decode cX5_joins 57 = .ok (.aload_n 0, 1) := by decide +kernel
theorem dX5_joins_58 : decode cX5_joins 58 = .ok (.getfield 68, 3) := by decide +kernel
theorem dX5_joins_61 : decode cX5_joins 61 = .ok (.iload 4, 2) := by decide +kernel
theorem dX5_joins_63 : decode cX5_joins 63 = .ok (.invokestatic 47, 3) := by decide +kernel
theorem dX5_joins_66 : decode cX5_joins 66 = .ok (.ifCond .eq 18, 3) := by decide +kernel
theorem dX5_joins_69 : decode cX5_joins 69 = .ok (.aload_n 0, 1) := by decide +kernel
theorem dX5_joins_70 : decode cX5_joins 70 = .ok (.getfield 68, 3) := by decide +kernel
theorem dX5_joins_73 : decode cX5_joins 73 = .ok (.iload_n 2, 1) := by decide +kernel
theorem dX5_joins_74 : decode cX5_joins 74 = .ok (.invokestatic 47, 3) := by decide +kernel
theorem dX5_joins_77 : decode cX5_joins 77 = .ok (.ifCond .ne 7, 3) := by decide +kernel
theorem dX5_joins_80 : decode cX5_joins 80 = .ok (.iconst 1, 1) := by decide +kernel
theorem dX5_joins_81 : decode cX5_joins 81 = .ok (.goto 4, 3) := by decide +kernel
theorem dX5_joins_84 : decode cX5_joins 84 = .ok (.iconst 0, 1) := by decide +kernel
theorem dX5_joins_85 : decode cX5_joins 85 = .ok (.istore 6, 2) := by decide +kernel
theorem dX5_joins_87 : decode cX5_joins 87 = .ok (.iload 6, 2) := by decide +kernel
theorem dX5_joins_89 : decode cX5_joins 89 = .ok (.ifCond .eq 8, 3) := by decide +kernel
theorem dX5_joins_92 : decode cX5_joins 92 = .ok (.iload 4, 2) := by decide +kernel
theorem dX5_joins_94 : decode cX5_joins 94 = .ok (.goto 4, 3) := by decide +kernel
theorem dX5_joins_97 : decode cX5_joins 97 = .ok (.iload_n 2, 1) := by decide +kernel
theorem dX5_joins_98 : decode cX5_joins 98 = .ok (.istore_n 2, 1) := by decide +kernel
theorem dX5_joins_99 : decode cX5_joins 99 = .ok (.iload 6, 2) := by decide +kernel
theorem dX5_joins_101 : decode cX5_joins 101 = .ok (.ifCond .eq 8, 3) := by decide +kernel
theorem dX5_joins_104 : decode cX5_joins 104 = .ok (.iload 5, 2) := by decide +kernel
theorem dX5_joins_106 : decode cX5_joins 106 = .ok (.goto 4, 3) := by decide +kernel
theorem dX5_joins_109 : decode cX5_joins 109 = .ok (.iload_n 3, 1) := by decide +kernel
theorem dX5_joins_110 : decode cX5_joins 110 = .ok (.istore_n 3, 1) := by decide +kernel
theorem dX5_joins_111 : decode cX5_joins 111 = .ok (.iinc 4 1, 3) := by decide +kernel
theorem dX5_joins_114 : decode cX5_joins 114 = .ok (.goto (-107), 3) := by decide +kernel
theorem dX5_joins_117 : decode cX5_joins 117 = .ok (.iload_n 2, 1) := by decide +kernel
theorem dX5_joins_118 : decode cX5_joins 118 = .ok (.ireturn, 1) := by decide +kernel
theorem dX5_greedyCauses_0 : decode cX5_greedyCauses 0 = .ok (.aload_n 0, 1) := by decide +kernel
theorem dX5_greedyCauses_1 : decode cX5_greedyCauses 1 = .ok (.iconst 0, 1) := by decide +kernel
theorem dX5_greedyCauses_2 : decode cX5_greedyCauses 2 = .ok (.putfield 43, 3) := by decide +kernel
theorem dX5_greedyCauses_5 : decode cX5_greedyCauses 5 = .ok (.aload_n 0, 1) := by decide +kernel
theorem dX5_greedyCauses_6 : decode cX5_greedyCauses 6 = .ok (.getfield 68, 3) := by decide +kernel
theorem dX5_greedyCauses_9 : decode cX5_greedyCauses 9 = .ok (.istore_n 1, 1) := by decide +kernel
theorem dX5_greedyCauses_10 : decode cX5_greedyCauses 10 = .ok (.iconst 0, 1) := by decide +kernel
theorem dX5_greedyCauses_11 : decode cX5_greedyCauses 11 = .ok (.istore_n 2, 1) := by decide +kernel
theorem dX5_greedyCauses_12 : decode cX5_greedyCauses 12 = .ok (.iload_n 1, 1) := by decide +kernel
theorem dX5_greedyCauses_13 : decode cX5_greedyCauses 13 = .ok (.ifCond .eq 23, 3) := by decide +kernel
theorem dX5_greedyCauses_16 : decode cX5_greedyCauses 16 = .ok (.iload_n 1, 1) := by decide +kernel
theorem dX5_greedyCauses_17 : decode cX5_greedyCauses 17 = .ok (.aload_n 0, 1) := by decide +kernel
theorem dX5_greedyCauses_18 : decode cX5_greedyCauses 18 = .ok (.aload_n 0, 1) := by decide +kernel
theorem dX5_greedyCauses_19 : decode cX5_greedyCauses 19 = .ok (.iload_n 1, 1) := by decide +kernel
theorem dX5_greedyCauses_20 : decode cX5_greedyCauses 20 = .ok (.invokevirtual 120, 3) := by decide +kernel
theorem dX5_greedyCauses_23 : decode cX5_greedyCauses 23 = .ok (.invokevirtual 117, 3) := by decide +kernel
theorem dX5_greedyCauses_26 : decode cX5_greedyCauses 26 = .ok (.iconst (-1), 1) := by decide +kernel
theorem dX5_greedyCauses_27 : decode cX5_greedyCauses 27 = .ok (.ixor, 1) := by decide +kernel
theorem dX5_greedyCauses_28 : decode cX5_greedyCauses 28 = .ok (.iand, 1) := by decide +kernel
theorem dX5_greedyCauses_29 : decode cX5_greedyCauses 29 = .ok (.istore_n 1, 1) := by decide +kernel
theorem dX5_greedyCauses_30 : decode cX5_greedyCauses 30 = .ok (.iinc 2 1, 3) := by decide +kernel
theorem dX5_greedyCauses_33 : decode cX5_greedyCauses 33 = .ok (.goto (-21), 3) := by decide +kernel
theorem dX5_greedyCauses_36 : decode cX5_greedyCauses 36 = .ok (.iload_n 2, 1) := by decide +kernel
theorem dX5_greedyCauses_37 : decode cX5_greedyCauses 37 = .ok (.ireturn, 1) := by decide +kernel
theorem dX5_greedyCause_0 : decode cX5_greedyCause 0 = .ok (.aload_n 0, 1) := by decide +kernel
theorem dX5_greedyCause_1 : decode cX5_greedyCause 1 = .ok (.getfield 68, 3) := by decide +kernel
theorem dX5_greedyCause_4 : decode cX5_greedyCause 4 = .ok (.istore_n 2, 1) := by decide +kernel
theorem dX5_greedyCause_5 : decode cX5_greedyCause 5 = .ok (.iconst (-1), 1) := by decide +kernel
theorem dX5_greedyCause_6 : decode cX5_greedyCause 6 = .ok (.istore_n 3, 1) := by decide +kernel
theorem dX5_greedyCause_7 : decode cX5_greedyCause 7 = .ok (.iconst 0, 1) := by decide +kernel
theorem dX5_greedyCause_8 : decode cX5_greedyCause 8 = .ok (.istore 4, 2) := by decide +kernel
theorem dX5_greedyCause_10 : decode cX5_greedyCause 10 = .ok (.iload 4, 2) := by decide +kernel
theorem dX5_greedyCause_12 : decode cX5_greedyCause 12 = .ok (.iload_n 1, 1) := by decide +kernel
theorem dX5_greedyCause_13 : decode cX5_greedyCause 13 = .ok (.if_icmp .gt 47, 3) := by decide +kernel
theorem dX5_greedyCause_16 : decode cX5_greedyCause 16 = .ok (.iload_n 1, 1) := by decide +kernel
theorem dX5_greedyCause_17 : decode cX5_greedyCause 17 = .ok (.bipush 14, 2) := by decide +kernel
theorem dX5_greedyCause_19 : decode cX5_greedyCause 19 = .ok (.if_icmp .ge 41, 3) := by decide +kernel
theorem dX5_greedyCause_22 : decode cX5_greedyCause 22 = .ok (.iload_n 2, 1) := by decide +kernel
theorem dX5_greedyCause_23 : decode cX5_greedyCause 23 = .ok (.ifCond .ne 7, 3) := by decide +kernel
theorem dX5_greedyCause_26 : decode cX5_greedyCause 26 = .ok (.iconst (-1), 1) := by decide +kernel
theorem dX5_greedyCause_27 : decode cX5_greedyCause 27 = .ok (.goto 8, 3) := by decide +kernel
theorem dX5_greedyCause_30 : decode cX5_greedyCause 30 = .ok (.aload_n 0, 1) := by decide +kernel
theorem dX5_greedyCause_31 : decode cX5_greedyCause 31 = .ok (.iload_n 2, 1) := by decide +kernel
theorem dX5_greedyCause_32 : decode cX5_greedyCause 32 = .ok (.invokevirtual 120, 3) := by decide +kernel
theorem dX5_greedyCause_35 : decode cX5_greedyCause 35 = .ok (.istore_n 3, 1) := by decide +kernel
theorem dX5_greedyCause_36 : decode cX5_greedyCause 36 = .ok (.iload_n 2, 1) := by decide +kernel
theorem dX5_greedyCause_37 : decode cX5_greedyCause 37 = .ok (.iload_n 3, 1) := by decide +kernel
theorem dX5_greedyCause_38 : decode cX5_greedyCause 38 = .ok (.ifCond .ge 7, 3) := by decide +kernel
theorem dX5_greedyCause_41 : decode cX5_greedyCause 41 = .ok (.iconst 0, 1) := by decide +kernel
theorem dX5_greedyCause_42 : decode cX5_greedyCause 42 = .ok (.goto 10, 3) := by decide +kernel
theorem dX5_greedyCause_45 : decode cX5_greedyCause 45 = .ok (.aload_n 0, 1) := by decide +kernel
theorem dX5_greedyCause_46 : decode cX5_greedyCause 46 = .ok (.iload_n 3, 1) := by decide +kernel
theorem dX5_greedyCause_47 : decode cX5_greedyCause 47 = .ok (.invokevirtual 117, 3) := by decide +kernel
theorem dX5_greedyCause_50 : decode cX5_greedyCause 50 = .ok (.iconst (-1), 1) := by decide +kernel
theorem dX5_greedyCause_51 : decode cX5_greedyCause 51 = .ok (.ixor, 1) := by decide +kernel
theorem dX5_greedyCause_52 : decode cX5_greedyCause 52 = .ok (.iand, 1) := by decide +kernel
theorem dX5_greedyCause_53 : decode cX5_greedyCause 53 = .ok (.istore_n 2, 1) := by decide +kernel
theorem dX5_greedyCause_54 : decode cX5_greedyCause 54 = .ok (.iinc 4 1, 3) := by decide +kernel
theorem dX5_greedyCause_57 : decode cX5_greedyCause 57 = .ok (.goto (-47), 3) := by decide +kernel
theorem dX5_greedyCause_60 : decode cX5_greedyCause 60 = .ok (.aload_n 0, 1) := by decide +kernel
theorem dX5_greedyCause_61 : decode cX5_greedyCause 61 = .ok (.iload_n 1, 1) := by decide +kernel
theorem dX5_greedyCause_62 : decode cX5_greedyCause 62 = .ok (.ifCond .lt 11, 3) := by decide +kernel
theorem dX5_greedyCause_65 : decode cX5_greedyCause 65 = .ok (.iload_n 3, 1) := by decide +kernel
theorem dX5_greedyCause_66 : decode cX5_greedyCause 66 = .ok (.ifCond .lt 7, 3) := by decide +kernel
theorem dX5_greedyCause_69 : decode cX5_greedyCause 69 = .ok (.iconst 1, 1) := by decide +kernel
theorem dX5_greedyCause_70 : decode cX5_greedyCause 70 = .ok (.goto 4, 3) := by decide +kernel
theorem dX5_greedyCause_73 : decode cX5_greedyCause 73 = .ok (.iconst 0, 1) := by decide +kernel
theorem dX5_greedyCause_74 : decode cX5_greedyCause 74 = .ok (.iconst 1, 1) := by decide +kernel
theorem dX5_greedyCause_75 : decode cX5_greedyCause 75 = .ok (.invokevirtual 55, 3) := by decide +kernel
theorem dX5_greedyCause_78 : decode cX5_greedyCause 78 = .ok (.ifCond .eq 7, 3) := by decide +kernel
theorem dX5_greedyCause_81 : decode cX5_greedyCause 81 = .ok (.iload_n 3, 1) := by decide +kernel
theorem dX5_greedyCause_82 : decode cX5_greedyCause 82 = .ok (.goto 4, 3) := by decide +kernel
theorem dX5_greedyCause_85 : decode cX5_greedyCause 85 = .ok (.iconst 0, 1) := by decide +kernel
theorem dX5_greedyCause_86 : decode cX5_greedyCause 86 = .ok (.ireturn, 1) := by decide +kernel
theorem dX5_causeOf_0 : decode cX5_causeOf 0 = .ok (.aload_n 0, 1) := by decide +kernel
theorem dX5_causeOf_1 : decode cX5_causeOf 1 = .ok (.iload_n 1, 1) := by decide +kernel
theorem dX5_causeOf_2 : decode cX5_causeOf 2 = .ok (.invokestatic 51, 3) := by decide +kernel
theorem dX5_causeOf_5 : decode cX5_causeOf 5 = .ok (.iconst 1, 1) := by decide +kernel
theorem dX5_causeOf_6 : decode cX5_causeOf 6 = .ok (.invokevirtual 55, 3) := by decide +kernel
theorem dX5_causeOf_9 : decode cX5_causeOf 9 = .ok (.ifCond .ne 5, 3) := by decide +kernel
theorem dX5_causeOf_12 : decode cX5_causeOf 12 = .ok (.iconst 0, 1) := by decide +kernel
theorem dX5_causeOf_13 : decode cX5_causeOf 13 = .ok (.ireturn, 1) := by decide +kernel
theorem dX5_causeOf_14 : decode cX5_causeOf 14 = .ok (.aload_n 0, 1) := by decide +kernel
theorem dX5_causeOf_15 : decode cX5_causeOf 15 = .ok (.invokevirtual 107, 3) := by decide +kernel
theorem dX5_causeOf_18 : decode cX5_causeOf 18 = .ok (.istore_n 2, 1) := by decide +kernel
theorem dX5_causeOf_19 : decode cX5_causeOf 19 = .ok (.iconst (-1), 1) := by decide +kernel
theorem dX5_causeOf_20 : decode cX5_causeOf 20 = .ok (.istore_n 3, 1) := by decide +kernel
theorem dX5_causeOf_21 : decode cX5_causeOf 21 = .ok (.bipush 13, 2) := by decide +kernel
theorem dX5_causeOf_23 : decode cX5_causeOf 23 = .ok (.istore 4, 2) := by decide +kernel
theorem dX5_causeOf_25 : decode cX5_causeOf 25 = .ok (.iload 4, 2) := by decide +kernel
theorem dX5_causeOf_27 : decode cX5_causeOf 27 = .ok (.ifCond .lt 38, 3) := by decide +kernel
theorem dX5_causeOf_30 : decode cX5_causeOf 30 = .ok (.iload_n 2, 1) := by decide +kernel
theorem dX5_causeOf_31 : decode cX5_causeOf 31 = .ok (.iload 4, 2) := by decide +kernel
theorem dX5_causeOf_33 : decode cX5_causeOf 33 = .ok (.invokestatic 47, 3) := by decide +kernel
theorem dX5_causeOf_36 : decode cX5_causeOf 36 = .ok (.ifCond .eq 21, 3) := by decide +kernel
theorem dX5_causeOf_39 : decode cX5_causeOf 39 = .ok (.aload_n 0, 1) := by decide +kernel
theorem dX5_causeOf_40 : decode cX5_causeOf 40 = .ok (.iload 4, 2) := by decide +kernel
theorem dX5_causeOf_42 : decode cX5_causeOf 42 = .ok (.invokevirtual 117, 3) := by decide +kernel
theorem dX5_causeOf_45 : decode cX5_causeOf 45 = .ok (.iload_n 1, 1) := by decide +kernel
theorem dX5_causeOf_46 : decode cX5_causeOf 46 = .ok (.invokestatic 47, 3) := by decide +kernel
theorem dX5_causeOf_49 : decode cX5_causeOf 49 = .ok (.ifCond .eq 8, 3) := by decide +kernel
theorem dX5_causeOf_52 : decode cX5_causeOf 52 = .ok (.iload 4, 2) := by decide +kernel
theorem dX5_causeOf_54 : decode cX5_causeOf 54 = .ok (.goto 4, 3) := by decide +kernel
theorem dX5_causeOf_57 : decode cX5_causeOf 57 = .ok (.iload_n 3, 1) := by decide +kernel
theorem dX5_causeOf_58 : decode cX5_causeOf 58 = .ok (.istore_n 3, 1) := by decide +kernel
theorem dX5_causeOf_59 : decode cX5_causeOf 59 = .ok (.iinc 4 (-1), 3) := by decide +kernel
theorem dX5_causeOf_62 : decode cX5_causeOf 62 = .ok (.goto (-37), 3) := by decide +kernel
theorem dX5_causeOf_65 : decode cX5_causeOf 65 = .ok (.aload_n 0, 1) := by decide +kernel
theorem dX5_causeOf_66 : decode cX5_causeOf 66 = .ok (.getfield 68, 3) := by decide +kernel
theorem dX5_causeOf_69 : decode cX5_causeOf 69 = .ok (.iload_n 1, 1) := by decide +kernel
theorem dX5_causeOf_70 : decode cX5_causeOf 70 = .ok (.invokestatic 47, 3) := by decide +kernel
theorem dX5_causeOf_73 : decode cX5_causeOf 73 = .ok (.ifCond .eq 7, 3) := by decide +kernel
theorem dX5_causeOf_76 : decode cX5_causeOf 76 = .ok (.iload_n 3, 1) := by decide +kernel
theorem dX5_causeOf_77 : decode cX5_causeOf 77 = .ok (.goto 4, 3) := by decide +kernel
theorem dX5_causeOf_80 : decode cX5_causeOf 80 = .ok (.iconst (-1), 1) := by decide +kernel
theorem dX5_causeOf_81 : decode cX5_causeOf 81 = .ok (.ireturn, 1) := by decide +kernel
theorem dJ6_bitCount_0f7a4_0 : decode cJ6_bitCount_0f7a4 0 = .ok (.iload_n 0, 1) := by decide +kernel
theorem dJ6_bitCount_0f7a4_1 : decode cJ6_bitCount_0f7a4 1 = .ok (.iload_n 0, 1) := by decide +kernel
theorem dJ6_bitCount_0f7a4_2 : decode cJ6_bitCount_0f7a4 2 = .ok (.iconst 1, 1) := by decide +kernel
theorem dJ6_bitCount_0f7a4_3 : decode cJ6_bitCount_0f7a4 3 = .ok (.iushr, 1) := by decide +kernel
theorem dJ6_bitCount_0f7a4_4 : decode cJ6_bitCount_0f7a4 4 = .ok (.ldc_w 265, 3) := by decide +kernel
theorem dJ6_bitCount_0f7a4_7 : decode cJ6_bitCount_0f7a4 7 = .ok (.iand, 1) := by decide +kernel
theorem dJ6_bitCount_0f7a4_8 : decode cJ6_bitCount_0f7a4 8 = .ok (.isub, 1) := by decide +kernel
theorem dJ6_bitCount_0f7a4_9 : decode cJ6_bitCount_0f7a4 9 = .ok (.istore_n 0, 1) := by decide +kernel
theorem dJ6_bitCount_0f7a4_10 : decode cJ6_bitCount_0f7a4 10 = .ok (.iload_n 0, 1) := by decide +kernel
theorem dJ6_bitCount_0f7a4_11 : decode cJ6_bitCount_0f7a4 11 = .ok (.ldc_w 266, 3) := by decide +kernel
theorem dJ6_bitCount_0f7a4_14 : decode cJ6_bitCount_0f7a4 14 = .ok (.iand, 1) := by decide +kernel
theorem dJ6_bitCount_0f7a4_15 : decode cJ6_bitCount_0f7a4 15 = .ok (.iload_n 0, 1) := by decide +kernel
theorem dJ6_bitCount_0f7a4_16 : decode cJ6_bitCount_0f7a4 16 = .ok (.iconst 2, 1) := by decide +kernel
theorem dJ6_bitCount_0f7a4_17 : decode cJ6_bitCount_0f7a4 17 = .ok (.iushr, 1) := by decide +kernel
theorem dJ6_bitCount_0f7a4_18 : decode cJ6_bitCount_0f7a4 18 = .ok (.ldc_w 266, 3) := by decide +kernel
theorem dJ6_bitCount_0f7a4_21 : decode cJ6_bitCount_0f7a4 21 = .ok (.iand, 1) := by decide +kernel
theorem dJ6_bitCount_0f7a4_22 : decode cJ6_bitCount_0f7a4 22 = .ok (.iadd, 1) := by decide +kernel
theorem dJ6_bitCount_0f7a4_23 : decode cJ6_bitCount_0f7a4 23 = .ok (.istore_n 0, 1) := by decide +kernel
theorem dJ6_bitCount_0f7a4_24 : decode cJ6_bitCount_0f7a4 24 = .ok (.iload_n 0, 1) := by decide +kernel
theorem dJ6_bitCount_0f7a4_25 : decode cJ6_bitCount_0f7a4 25 = .ok (.iload_n 0, 1) := by decide +kernel
theorem dJ6_bitCount_0f7a4_26 : decode cJ6_bitCount_0f7a4 26 = .ok (.iconst 4, 1) := by decide +kernel
theorem dJ6_bitCount_0f7a4_27 : decode cJ6_bitCount_0f7a4 27 = .ok (.iushr, 1) := by decide +kernel
theorem dJ6_bitCount_0f7a4_28 : decode cJ6_bitCount_0f7a4 28 = .ok (.iadd, 1) := by decide +kernel
theorem dJ6_bitCount_0f7a4_29 : decode cJ6_bitCount_0f7a4 29 = .ok (.ldc_w 267, 3) := by decide +kernel
theorem dJ6_bitCount_0f7a4_32 : decode cJ6_bitCount_0f7a4 32 = .ok (.iand, 1) := by decide +kernel
theorem dJ6_bitCount_0f7a4_33 : decode cJ6_bitCount_0f7a4 33 = .ok (.istore_n 0, 1) := by decide +kernel
theorem dJ6_bitCount_0f7a4_34 : decode cJ6_bitCount_0f7a4 34 = .ok (.iload_n 0, 1) := by decide +kernel
theorem dJ6_bitCount_0f7a4_35 : decode cJ6_bitCount_0f7a4 35 = .ok (.iload_n 0, 1) := by decide +kernel
theorem dJ6_bitCount_0f7a4_36 : decode cJ6_bitCount_0f7a4 36 = .ok (.bipush 8, 2) := by decide +kernel
theorem dJ6_bitCount_0f7a4_38 : decode cJ6_bitCount_0f7a4 38 = .ok (.iushr, 1) := by decide +kernel
theorem dJ6_bitCount_0f7a4_39 : decode cJ6_bitCount_0f7a4 39 = .ok (.iadd, 1) := by decide +kernel
theorem dJ6_bitCount_0f7a4_40 : decode cJ6_bitCount_0f7a4 40 = .ok (.istore_n 0, 1) := by decide +kernel
theorem dJ6_bitCount_0f7a4_41 : decode cJ6_bitCount_0f7a4 41 = .ok (.iload_n 0, 1) := by decide +kernel
theorem dJ6_bitCount_0f7a4_42 : decode cJ6_bitCount_0f7a4 42 = .ok (.iload_n 0, 1) := by decide +kernel
theorem dJ6_bitCount_0f7a4_43 : decode cJ6_bitCount_0f7a4 43 = .ok (.bipush 16, 2) := by decide +kernel
theorem dJ6_bitCount_0f7a4_45 : decode cJ6_bitCount_0f7a4 45 = .ok (.iushr, 1) := by decide +kernel
theorem dJ6_bitCount_0f7a4_46 : decode cJ6_bitCount_0f7a4 46 = .ok (.iadd, 1) := by decide +kernel
theorem dJ6_bitCount_0f7a4_47 : decode cJ6_bitCount_0f7a4 47 = .ok (.istore_n 0, 1) := by decide +kernel
theorem dJ6_bitCount_0f7a4_48 : decode cJ6_bitCount_0f7a4 48 = .ok (.iload_n 0, 1) := by decide +kernel
theorem dJ6_bitCount_0f7a4_49 : decode cJ6_bitCount_0f7a4 49 = .ok (.bipush 63, 2) := by decide +kernel
theorem dJ6_bitCount_0f7a4_51 : decode cJ6_bitCount_0f7a4 51 = .ok (.iand, 1) := by decide +kernel
theorem dJ6_bitCount_0f7a4_52 : decode cJ6_bitCount_0f7a4 52 = .ok (.ireturn, 1) := by decide +kernel
theorem dJ9_min_7cf53_0 : decode cJ9_min_7cf53 0 = .ok (.iload_n 0, 1) := by decide +kernel
theorem dJ9_min_7cf53_1 : decode cJ9_min_7cf53 1 = .ok (.iload_n 1, 1) := by decide +kernel
theorem dJ9_min_7cf53_2 : decode cJ9_min_7cf53 2 = .ok (.if_icmp .gt 7, 3) := by decide +kernel
theorem dJ9_min_7cf53_5 : decode cJ9_min_7cf53 5 = .ok (.iload_n 0, 1) := by decide +kernel
theorem dJ9_min_7cf53_6 : decode cJ9_min_7cf53 6 = .ok (.goto 4, 3) := by decide +kernel
theorem dJ9_min_7cf53_9 : decode cJ9_min_7cf53 9 = .ok (.iload_n 1, 1) := by decide +kernel
theorem dJ9_min_7cf53_10 : decode cJ9_min_7cf53 10 = .ok (.ireturn, 1) := by decide +kernel
theorem dL_need_0 : decode cL_need 0 = .ok (.aload_n 3, 1) := by decide +kernel
theorem dL_need_1 : decode cL_need 1 = .ok (.iconst 0, 1) := by decide +kernel
theorem dL_need_2 : decode cL_need 2 = .ok (.aload_n 0, 1) := by decide +kernel
theorem dL_need_3 : decode cL_need 3 = .ok (.iload_n 1, 1) := by decide +kernel
theorem dL_need_4 : decode cL_need 4 = .ok (.iload_n 2, 1) := by decide +kernel
theorem dL_need_5 : decode cL_need 5 = .ok (.invokevirtual 7, 3) := by decide +kernel
theorem dL_need_8 : decode cL_need 8 = .ok (.ifCond .eq 7, 3) := by decide +kernel
theorem dL_need_11 : decode cL_need 11 = .ok (.lconst 1, 1) := by decide +kernel
theorem dL_need_12 : decode cL_need 12 = .ok (.goto 4, 3) := by decide +kernel
theorem dL_need_15 : decode cL_need 15 = .ok (.lconst 0, 1) := by decide +kernel
theorem dL_need_16 : decode cL_need 16 = .ok (.lastore, 1) := by decide +kernel
theorem dL_need_17 : decode cL_need 17 = .ok (.goto 11, 3) := by decide +kernel
theorem dL_need_20 : decode cL_need 20 = .ok (.astore 4, 2) := by decide +kernel
theorem dL_need_22 : decode cL_need 22 = .ok (.iconst 1, 1) := by decide +kernel
theorem dL_need_23 : decode cL_need 23 = .ok (.ireturn, 1) := by decide +kernel
theorem dL_need_24 : decode cL_need 24 = .ok (.astore 4, 2) := by decide +kernel
theorem dL_need_26 : decode cL_need 26 = .ok (.iconst 2, 1) := by decide +kernel
theorem dL_need_27 : decode cL_need 27 = .ok (.ireturn, 1) := by decide +kernel
theorem dL_need_28 : decode cL_need 28 = .ok (.iconst 0, 1) := by decide +kernel
theorem dL_need_29 : decode cL_need 29 = .ok (.ireturn, 1) := by decide +kernel
theorem dL_release_0 : decode cL_release 0 = .ok (.aload_n 3, 1) := by decide +kernel
theorem dL_release_1 : decode cL_release 1 = .ok (.iconst 0, 1) := by decide +kernel
theorem dL_release_2 : decode cL_release 2 = .ok (.aload_n 0, 1) := by decide +kernel
theorem dL_release_3 : decode cL_release 3 = .ok (.iload_n 1, 1) := by decide +kernel
theorem dL_release_4 : decode cL_release 4 = .ok (.iload_n 2, 1) := by decide +kernel
theorem dL_release_5 : decode cL_release 5 = .ok (.invokevirtual 17, 3) := by decide +kernel
theorem dL_release_8 : decode cL_release 8 = .ok (.ifCond .eq 7, 3) := by decide +kernel
theorem dL_release_11 : decode cL_release 11 = .ok (.lconst 1, 1) := by decide +kernel
theorem dL_release_12 : decode cL_release 12 = .ok (.goto 4, 3) := by decide +kernel
theorem dL_release_15 : decode cL_release 15 = .ok (.lconst 0, 1) := by decide +kernel
theorem dL_release_16 : decode cL_release 16 = .ok (.lastore, 1) := by decide +kernel
theorem dL_release_17 : decode cL_release 17 = .ok (.goto 7, 3) := by decide +kernel
theorem dL_release_20 : decode cL_release 20 = .ok (.astore 4, 2) := by decide +kernel
theorem dL_release_22 : decode cL_release 22 = .ok (.iconst 1, 1) := by decide +kernel
theorem dL_release_23 : decode cL_release 23 = .ok (.ireturn, 1) := by decide +kernel
theorem dL_release_24 : decode cL_release 24 = .ok (.iconst 0, 1) := by decide +kernel
theorem dL_release_25 : decode cL_release 25 = .ok (.ireturn, 1) := by decide +kernel
theorem dL_needs_0 : decode cL_needs 0 = .ok (.aload_n 3, 1) := by decide +kernel
theorem dL_needs_1 : decode cL_needs 1 = .ok (.iconst 0, 1) := by decide +kernel
theorem dL_needs_2 : decode cL_needs 2 = .ok (.aload_n 0, 1) := by decide +kernel
theorem dL_needs_3 : decode cL_needs 3 = .ok (.iload_n 1, 1) := by decide +kernel
theorem dL_needs_4 : decode cL_needs 4 = .ok (.iload_n 2, 1) := by decide +kernel
theorem dL_needs_5 : decode cL_needs 5 = .ok (.invokevirtual 20, 3) := by decide +kernel
theorem dL_needs_8 : decode cL_needs 8 = .ok (.ifCond .eq 7, 3) := by decide +kernel
theorem dL_needs_11 : decode cL_needs 11 = .ok (.lconst 1, 1) := by decide +kernel
theorem dL_needs_12 : decode cL_needs 12 = .ok (.goto 4, 3) := by decide +kernel
theorem dL_needs_15 : decode cL_needs 15 = .ok (.lconst 0, 1) := by decide +kernel
theorem dL_needs_16 : decode cL_needs 16 = .ok (.lastore, 1) := by decide +kernel
theorem dL_needs_17 : decode cL_needs 17 = .ok (.goto 7, 3) := by decide +kernel
theorem dL_needs_20 : decode cL_needs 20 = .ok (.astore 4, 2) := by decide +kernel
theorem dL_needs_22 : decode cL_needs 22 = .ok (.iconst 1, 1) := by decide +kernel
theorem dL_needs_23 : decode cL_needs 23 = .ok (.ireturn, 1) := by decide +kernel
theorem dL_needs_24 : decode cL_needs 24 = .ok (.iconst 0, 1) := by decide +kernel
theorem dL_needs_25 : decode cL_needs 25 = .ok (.ireturn, 1) := by decide +kernel
theorem dL_dependsOn_0 : decode cL_dependsOn 0 = .ok (.aload_n 3, 1) := by decide +kernel
theorem dL_dependsOn_1 : decode cL_dependsOn 1 = .ok (.iconst 0, 1) := by decide +kernel
theorem dL_dependsOn_2 : decode cL_dependsOn 2 = .ok (.aload_n 0, 1) := by decide +kernel
theorem dL_dependsOn_3 : decode cL_dependsOn 3 = .ok (.iload_n 1, 1) := by decide +kernel
theorem dL_dependsOn_4 : decode cL_dependsOn 4 = .ok (.iload_n 2, 1) := by decide +kernel
theorem dL_dependsOn_5 : decode cL_dependsOn 5 = .ok (.invokevirtual 23, 3) := by decide +kernel
theorem dL_dependsOn_8 : decode cL_dependsOn 8 = .ok (.ifCond .eq 7, 3) := by decide +kernel
theorem dL_dependsOn_11 : decode cL_dependsOn 11 = .ok (.lconst 1, 1) := by decide +kernel
theorem dL_dependsOn_12 : decode cL_dependsOn 12 = .ok (.goto 4, 3) := by decide +kernel
theorem dL_dependsOn_15 : decode cL_dependsOn 15 = .ok (.lconst 0, 1) := by decide +kernel
theorem dL_dependsOn_16 : decode cL_dependsOn 16 = .ok (.lastore, 1) := by decide +kernel
theorem dL_dependsOn_17 : decode cL_dependsOn 17 = .ok (.goto 7, 3) := by decide +kernel
theorem dL_dependsOn_20 : decode cL_dependsOn 20 = .ok (.astore 4, 2) := by decide +kernel
theorem dL_dependsOn_22 : decode cL_dependsOn 22 = .ok (.iconst 1, 1) := by decide +kernel
theorem dL_dependsOn_23 : decode cL_dependsOn 23 = .ok (.ireturn, 1) := by decide +kernel
theorem dL_dependsOn_24 : decode cL_dependsOn 24 = .ok (.iconst 0, 1) := by decide +kernel
theorem dL_dependsOn_25 : decode cL_dependsOn 25 = .ok (.ireturn, 1) := by decide +kernel
theorem dL_height_0 : decode cL_height 0 = .ok (.aload_n 2, 1) := by decide +kernel
theorem dL_height_1 : decode cL_height 1 = .ok (.iconst 0, 1) := by decide +kernel
theorem dL_height_2 : decode cL_height 2 = .ok (.aload_n 0, 1) := by decide +kernel
theorem dL_height_3 : decode cL_height 3 = .ok (.iload_n 1, 1) := by decide +kernel
theorem dL_height_4 : decode cL_height 4 = .ok (.invokevirtual 26, 3) := by decide +kernel
theorem dL_height_7 : decode cL_height 7 = .ok (.i2l, 1) := by decide +kernel
theorem dL_height_8 : decode cL_height 8 = .ok (.lastore, 1) := by decide +kernel
theorem dL_height_9 : decode cL_height 9 = .ok (.goto 6, 3) := by decide +kernel
theorem dL_height_12 : decode cL_height 12 = .ok (.astore_n 3, 1) := by decide +kernel
theorem dL_height_13 : decode cL_height 13 = .ok (.iconst 1, 1) := by decide +kernel
theorem dL_height_14 : decode cL_height 14 = .ok (.ireturn, 1) := by decide +kernel
theorem dL_height_15 : decode cL_height 15 = .ok (.iconst 0, 1) := by decide +kernel
theorem dL_height_16 : decode cL_height 16 = .ok (.ireturn, 1) := by decide +kernel
theorem dL_tick_0 : decode cL_tick 0 = .ok (.aload_n 2, 1) := by decide +kernel
theorem dL_tick_1 : decode cL_tick 1 = .ok (.iconst 0, 1) := by decide +kernel
theorem dL_tick_2 : decode cL_tick 2 = .ok (.aload_n 0, 1) := by decide +kernel
theorem dL_tick_3 : decode cL_tick 3 = .ok (.iload_n 1, 1) := by decide +kernel
theorem dL_tick_4 : decode cL_tick 4 = .ok (.invokevirtual 30, 3) := by decide +kernel
theorem dL_tick_7 : decode cL_tick 7 = .ok (.i2l, 1) := by decide +kernel
theorem dL_tick_8 : decode cL_tick 8 = .ok (.lastore, 1) := by decide +kernel
theorem dL_tick_9 : decode cL_tick 9 = .ok (.goto 6, 3) := by decide +kernel
theorem dL_tick_12 : decode cL_tick 12 = .ok (.astore_n 3, 1) := by decide +kernel
theorem dL_tick_13 : decode cL_tick 13 = .ok (.iconst 1, 1) := by decide +kernel
theorem dL_tick_14 : decode cL_tick 14 = .ok (.ireturn, 1) := by decide +kernel
theorem dL_tick_15 : decode cL_tick 15 = .ok (.iconst 0, 1) := by decide +kernel
theorem dL_tick_16 : decode cL_tick 16 = .ok (.ireturn, 1) := by decide +kernel
theorem dL_raise_0 : decode cL_raise 0 = .ok (.aload_n 2, 1) := by decide +kernel
theorem dL_raise_1 : decode cL_raise 1 = .ok (.iconst 0, 1) := by decide +kernel
theorem dL_raise_2 : decode cL_raise 2 = .ok (.aload_n 0, 1) := by decide +kernel
theorem dL_raise_3 : decode cL_raise 3 = .ok (.iload_n 1, 1) := by decide +kernel
theorem dL_raise_4 : decode cL_raise 4 = .ok (.invokevirtual 33, 3) := by decide +kernel
theorem dL_raise_7 : decode cL_raise 7 = .ok (.i2l, 1) := by decide +kernel
theorem dL_raise_8 : decode cL_raise 8 = .ok (.lastore, 1) := by decide +kernel
theorem dL_raise_9 : decode cL_raise 9 = .ok (.goto 9, 3) := by decide +kernel
theorem dL_raise_12 : decode cL_raise 12 = .ok (.astore_n 3, 1) := by decide +kernel
theorem dL_raise_13 : decode cL_raise 13 = .ok (.iconst 1, 1) := by decide +kernel
theorem dL_raise_14 : decode cL_raise 14 = .ok (.ireturn, 1) := by decide +kernel
theorem dL_raise_15 : decode cL_raise 15 = .ok (.astore_n 3, 1) := by decide +kernel
theorem dL_raise_16 : decode cL_raise 16 = .ok (.iconst 2, 1) := by decide +kernel
theorem dL_raise_17 : decode cL_raise 17 = .ok (.ireturn, 1) := by decide +kernel
theorem dL_raise_18 : decode cL_raise 18 = .ok (.iconst 0, 1) := by decide +kernel
theorem dL_raise_19 : decode cL_raise 19 = .ok (.ireturn, 1) := by decide +kernel
theorem dL_clear_0 : decode cL_clear 0 = .ok (.aload_n 2, 1) := by decide +kernel
theorem dL_clear_1 : decode cL_clear 1 = .ok (.iconst 0, 1) := by decide +kernel
theorem dL_clear_2 : decode cL_clear 2 = .ok (.aload_n 0, 1) := by decide +kernel
theorem dL_clear_3 : decode cL_clear 3 = .ok (.iload_n 1, 1) := by decide +kernel
theorem dL_clear_4 : decode cL_clear 4 = .ok (.invokevirtual 38, 3) := by decide +kernel
theorem dL_clear_7 : decode cL_clear 7 = .ok (.i2l, 1) := by decide +kernel
theorem dL_clear_8 : decode cL_clear 8 = .ok (.lastore, 1) := by decide +kernel
theorem dL_clear_9 : decode cL_clear 9 = .ok (.goto 9, 3) := by decide +kernel
theorem dL_clear_12 : decode cL_clear 12 = .ok (.astore_n 3, 1) := by decide +kernel
theorem dL_clear_13 : decode cL_clear 13 = .ok (.iconst 1, 1) := by decide +kernel
theorem dL_clear_14 : decode cL_clear 14 = .ok (.ireturn, 1) := by decide +kernel
theorem dL_clear_15 : decode cL_clear 15 = .ok (.astore_n 3, 1) := by decide +kernel
theorem dL_clear_16 : decode cL_clear 16 = .ok (.iconst 2, 1) := by decide +kernel
theorem dL_clear_17 : decode cL_clear 17 = .ok (.ireturn, 1) := by decide +kernel
theorem dL_clear_18 : decode cL_clear 18 = .ok (.iconst 0, 1) := by decide +kernel
theorem dL_clear_19 : decode cL_clear 19 = .ok (.ireturn, 1) := by decide +kernel
theorem dL_state_0 : decode cL_state 0 = .ok (.aload_n 2, 1) := by decide +kernel
theorem dL_state_1 : decode cL_state 1 = .ok (.iconst 0, 1) := by decide +kernel
theorem dL_state_2 : decode cL_state 2 = .ok (.aload_n 0, 1) := by decide +kernel
theorem dL_state_3 : decode cL_state 3 = .ok (.iload_n 1, 1) := by decide +kernel
theorem dL_state_4 : decode cL_state 4 = .ok (.invokevirtual 41, 3) := by decide +kernel
theorem dL_state_7 : decode cL_state 7 = .ok (.i2l, 1) := by decide +kernel
theorem dL_state_8 : decode cL_state 8 = .ok (.lastore, 1) := by decide +kernel
theorem dL_state_9 : decode cL_state 9 = .ok (.goto 6, 3) := by decide +kernel
theorem dL_state_12 : decode cL_state 12 = .ok (.astore_n 3, 1) := by decide +kernel
theorem dL_state_13 : decode cL_state 13 = .ok (.iconst 1, 1) := by decide +kernel
theorem dL_state_14 : decode cL_state 14 = .ok (.ireturn, 1) := by decide +kernel
theorem dL_state_15 : decode cL_state 15 = .ok (.iconst 0, 1) := by decide +kernel
theorem dL_state_16 : decode cL_state 16 = .ok (.ireturn, 1) := by decide +kernel
theorem dL_nodesThatAre_0 : decode cL_nodesThatAre 0 = .ok (.aload_n 2, 1) := by decide +kernel
theorem dL_nodesThatAre_1 : decode cL_nodesThatAre 1 = .ok (.iconst 0, 1) := by decide +kernel
theorem dL_nodesThatAre_2 : decode cL_nodesThatAre 2 = .ok (.aload_n 0, 1) := by decide +kernel
theorem dL_nodesThatAre_3 : decode cL_nodesThatAre 3 = .ok (.iload_n 1, 1) := by decide +kernel
theorem dL_nodesThatAre_4 : decode cL_nodesThatAre 4 = .ok (.invokevirtual 44, 3) := by decide +kernel
theorem dL_nodesThatAre_7 : decode cL_nodesThatAre 7 = .ok (.i2l, 1) := by decide +kernel
theorem dL_nodesThatAre_8 : decode cL_nodesThatAre 8 = .ok (.lastore, 1) := by decide +kernel
theorem dL_nodesThatAre_9 : decode cL_nodesThatAre 9 = .ok (.goto 6, 3) := by decide +kernel
theorem dL_nodesThatAre_12 : decode cL_nodesThatAre 12 = .ok (.astore_n 3, 1) := by decide +kernel
theorem dL_nodesThatAre_13 : decode cL_nodesThatAre 13 = .ok (.iconst 1, 1) := by decide +kernel
theorem dL_nodesThatAre_14 : decode cL_nodesThatAre 14 = .ok (.ireturn, 1) := by decide +kernel
theorem dL_nodesThatAre_15 : decode cL_nodesThatAre 15 = .ok (.iconst 0, 1) := by decide +kernel
theorem dL_nodesThatAre_16 : decode cL_nodesThatAre 16 = .ok (.ireturn, 1) := by decide +kernel
theorem dL_raises_0 : decode cL_raises 0 = .ok (.aload_n 3, 1) := by decide +kernel
theorem dL_raises_1 : decode cL_raises 1 = .ok (.iconst 0, 1) := by decide +kernel
theorem dL_raises_2 : decode cL_raises 2 = .ok (.aload_n 0, 1) := by decide +kernel
theorem dL_raises_3 : decode cL_raises 3 = .ok (.iload_n 1, 1) := by decide +kernel
theorem dL_raises_4 : decode cL_raises 4 = .ok (.iload_n 2, 1) := by decide +kernel
theorem dL_raises_5 : decode cL_raises 5 = .ok (.invokevirtual 47, 3) := by decide +kernel
theorem dL_raises_8 : decode cL_raises 8 = .ok (.i2l, 1) := by decide +kernel
