theorem inlX0 : ∀ w ∈ wsX00, w ∈ wsL_law := fun _ h => List.mem_append_left _ (List.mem_append_left _ (List.mem_append_left _ (List.mem_append_left _ (List.mem_append_right _ h))))
theorem inX0 : ∀ w ∈ wsX00, w ∈ lw_tbl := fun w h => wsL_law_in w (inlX0 w h)
theorem inlX1 : ∀ w ∈ wsX10, w ∈ wsL_law := fun _ h => List.mem_append_left _ (List.mem_append_left _ (List.mem_append_left _ (List.mem_append_left _ (List.mem_append_left _ (List.mem_append_left _ (List.mem_append_left _ (List.mem_append_right _ h)))))))
theorem inX1 : ∀ w ∈ wsX10, w ∈ lw_tbl := fun w h => wsL_law_in w (inlX1 w h)
theorem inlX2 : ∀ w ∈ wsX20, w ∈ wsL_law := fun _ h => List.mem_append_left _ (List.mem_append_left _ (List.mem_append_left _ (List.mem_append_left _ (List.mem_append_left _ (List.mem_append_left _ (List.mem_append_right _ h))))))
theorem inX2 : ∀ w ∈ wsX20, w ∈ lw_tbl := fun w h => wsL_law_in w (inlX2 w h)
theorem inlX3 : ∀ w ∈ wsX30, w ∈ wsL_law := fun _ h => List.mem_append_left _ (List.mem_append_left _ (List.mem_append_left _ (List.mem_append_left _ (List.mem_append_left _ (List.mem_append_right _ h)))))
theorem inX3 : ∀ w ∈ wsX30, w ∈ lw_tbl := fun w h => wsL_law_in w (inlX3 w h)
theorem inlX4 : ∀ w ∈ wsX40, w ∈ wsL_law := fun _ h => List.mem_append_left _ (List.mem_append_left _ (List.mem_append_left _ (List.mem_append_left _ (List.mem_append_left _ (List.mem_append_left _ (List.mem_append_left _ (List.mem_append_left _ (List.mem_append_right _ h))))))))
theorem inX4 : ∀ w ∈ wsX40, w ∈ lw_tbl := fun w h => wsL_law_in w (inlX4 w h)
theorem inX5 : ∀ w ∈ wsX50, w ∈ lw_tbl := by decide +kernel
theorem inJ6 : ∀ w ∈ wsJ60, w ∈ lw_tbl := by decide +kernel
theorem inJ9 : ∀ w ∈ wsJ90, w ∈ lw_tbl := by decide +kernel
theorem inJ0 : ∀ w ∈ wsJ00, w ∈ lw_tbl := by decide +kernel
theorem dX0_init_0 : decode cX0_init 0 = .ok (.aload_n 0, 1) := by decide +kernel
theorem dX0_init_1 : decode cX0_init 1 = .ok (.invokespecial 3, 3) := by decide +kernel
theorem dX0_init_4 : decode cX0_init 4 = .ok (.aload_n 0, 1) := by decide +kernel
theorem dX0_init_5 : decode cX0_init 5 = .ok (.aload_n 1, 1) := by decide +kernel
theorem dX0_init_6 : decode cX0_init 6 = .ok (.putfield 9, 3) := by decide +kernel
theorem dX0_init_9 : decode cX0_init 9 = .ok (.aload_n 0, 1) := by decide +kernel
theorem dX0_init_10 : decode cX0_init 10 = .ok (.iload_n 2, 1) := by decide +kernel
theorem dX0_init_11 : decode cX0_init 11 = .ok (.putfield 15, 3) := by decide +kernel
theorem dX0_init_14 : decode cX0_init 14 = .ok (.aload_n 0, 1) := by decide +kernel
theorem dX0_init_15 : decode cX0_init 15 = .ok (.aload_n 1, 1) := by decide +kernel
theorem dX0_init_16 : decode cX0_init 16 = .ok (.iload_n 2, 1) := by decide +kernel
theorem dX0_init_17 : decode cX0_init 17 = .ok (.invokestatic 19, 3) := by decide +kernel
theorem dX0_init_20 : decode cX0_init 20 = .ok (.putfield 23, 3) := by decide +kernel
theorem dX0_init_23 : decode cX0_init 23 = .ok (.return_, 1) := by decide +kernel
theorem dX0_plausibleNodes_0 : decode cX0_plausibleNodes 0 = .ok (.aload_n 0, 1) := by decide +kernel
theorem dX0_plausibleNodes_1 : decode cX0_plausibleNodes 1 = .ok (.getfield 23, 3) := by decide +kernel
theorem dX0_plausibleNodes_4 : decode cX0_plausibleNodes 4 = .ok (.ireturn, 1) := by decide +kernel
theorem dX0_bestBySearch_0 : decode cX0_bestBySearch 0 = .ok (.aload_n 0, 1) := by decide +kernel
theorem dX0_bestBySearch_1 : decode cX0_bestBySearch 1 = .ok (.iconst 0, 1) := by decide +kernel
theorem dX0_bestBySearch_2 : decode cX0_bestBySearch 2 = .ok (.iconst 0, 1) := by decide +kernel
theorem dX0_bestBySearch_3 : decode cX0_bestBySearch 3 = .ok (.aload_n 0, 1) := by decide +kernel
theorem dX0_bestBySearch_4 : decode cX0_bestBySearch 4 = .ok (.getfield 15, 3) := by decide +kernel
theorem dX0_bestBySearch_7 : decode cX0_bestBySearch 7 = .ok (.aload_n 0, 1) := by decide +kernel
theorem dX0_bestBySearch_8 : decode cX0_bestBySearch 8 = .ok (.getfield 23, 3) := by decide +kernel
theorem dX0_bestBySearch_11 : decode cX0_bestBySearch 11 = .ok (.aload_n 0, 1) := by decide +kernel
theorem dX0_bestBySearch_12 : decode cX0_bestBySearch 12 = .ok (.getfield 15, 3) := by decide +kernel
theorem dX0_bestBySearch_15 : decode cX0_bestBySearch 15 = .ok (.invokestatic 26, 3) := by decide +kernel
theorem dX0_bestBySearch_18 : decode cX0_bestBySearch 18 = .ok (.ireturn, 1) := by decide +kernel
theorem dX0_bestByTrying_0 : decode cX0_bestByTrying 0 = .ok (.aload_n 0, 1) := by decide +kernel
theorem dX0_bestByTrying_1 : decode cX0_bestByTrying 1 = .ok (.getfield 15, 3) := by decide +kernel
theorem dX0_bestByTrying_4 : decode cX0_bestByTrying 4 = .ok (.istore_n 1, 1) := by decide +kernel
theorem dX0_bestByTrying_5 : decode cX0_bestByTrying 5 = .ok (.iconst 1, 1) := by decide +kernel
theorem dX0_bestByTrying_6 : decode cX0_bestByTrying 6 = .ok (.aload_n 0, 1) := by decide +kernel
theorem dX0_bestByTrying_7 : decode cX0_bestByTrying 7 = .ok (.getfield 23, 3) := by decide +kernel
theorem dX0_bestByTrying_10 : decode cX0_bestByTrying 10 = .ok (.invokestatic 30, 3) := by decide +kernel
theorem dX0_bestByTrying_13 : decode cX0_bestByTrying 13 = .ok (.ishl, 1) := by decide +kernel
theorem dX0_bestByTrying_14 : decode cX0_bestByTrying 14 = .ok (.istore_n 2, 1) := by decide +kernel
theorem dX0_bestByTrying_15 : decode cX0_bestByTrying 15 = .ok (.iconst 0, 1) := by decide +kernel
theorem dX0_bestByTrying_16 : decode cX0_bestByTrying 16 = .ok (.istore_n 3, 1) := by decide +kernel
theorem dX0_bestByTrying_17 : decode cX0_bestByTrying 17 = .ok (.iconst 0, 1) := by decide +kernel
theorem dX0_bestByTrying_18 : decode cX0_bestByTrying 18 = .ok (.istore 4, 2) := by decide +kernel
theorem dX0_bestByTrying_20 : decode cX0_bestByTrying 20 = .ok (.iload 4, 2) := by decide +kernel
theorem dX0_bestByTrying_22 : decode cX0_bestByTrying 22 = .ok (.iload_n 2, 1) := by decide +kernel
theorem dX0_bestByTrying_23 : decode cX0_bestByTrying 23 = .ok (.if_icmp .ge 40, 3) := by decide +kernel
theorem dX0_bestByTrying_26 : decode cX0_bestByTrying 26 = .ok (.aload_n 0, 1) := by decide +kernel
theorem dX0_bestByTrying_27 : decode cX0_bestByTrying 27 = .ok (.iload_n 3, 1) := by decide +kernel
theorem dX0_bestByTrying_28 : decode cX0_bestByTrying 28 = .ok (.iload_n 1, 1) := by decide +kernel
theorem dX0_bestByTrying_29 : decode cX0_bestByTrying 29 = .ok (.invokevirtual 36, 3) := by decide +kernel
theorem dX0_bestByTrying_32 : decode cX0_bestByTrying 32 = .ok (.ifCond .eq 13, 3) := by decide +kernel
theorem dX0_bestByTrying_35 : decode cX0_bestByTrying 35 = .ok (.aload_n 0, 1) := by decide +kernel
theorem dX0_bestByTrying_36 : decode cX0_bestByTrying 36 = .ok (.iload_n 3, 1) := by decide +kernel
theorem dX0_bestByTrying_37 : decode cX0_bestByTrying 37 = .ok (.invokevirtual 40, 3) := by decide +kernel
theorem dX0_bestByTrying_40 : decode cX0_bestByTrying 40 = .ok (.ifCond .eq 5, 3) := by decide +kernel
theorem dX0_bestByTrying_43 : decode cX0_bestByTrying 43 = .ok (.iload_n 3, 1) := by decide +kernel
theorem dX0_bestByTrying_44 : decode cX0_bestByTrying 44 = .ok (.istore_n 1, 1) := by decide +kernel
theorem dX0_bestByTrying_45 : decode cX0_bestByTrying 45 = .ok (.iload_n 3, 1) := by decide +kernel
theorem dX0_bestByTrying_46 : decode cX0_bestByTrying 46 = .ok (.aload_n 0, 1) := by decide +kernel
theorem dX0_bestByTrying_47 : decode cX0_bestByTrying 47 = .ok (.getfield 23, 3) := by decide +kernel
theorem dX0_bestByTrying_50 : decode cX0_bestByTrying 50 = .ok (.isub, 1) := by decide +kernel
theorem dX0_bestByTrying_51 : decode cX0_bestByTrying 51 = .ok (.aload_n 0, 1) := by decide +kernel
theorem dX0_bestByTrying_52 : decode cX0_bestByTrying 52 = .ok (.getfield 23, 3) := by decide +kernel
theorem dX0_bestByTrying_55 : decode cX0_bestByTrying 55 = .ok (.iand, 1) := by decide +kernel
theorem dX0_bestByTrying_56 : decode cX0_bestByTrying 56 = .ok (.istore_n 3, 1) := by decide +kernel
theorem dX0_bestByTrying_57 : decode cX0_bestByTrying 57 = .ok (.iinc 4 1, 3) := by decide +kernel
theorem dX0_bestByTrying_60 : decode cX0_bestByTrying 60 = .ok (.goto (-40), 3) := by decide +kernel
theorem dX0_bestByTrying_63 : decode cX0_bestByTrying 63 = .ok (.iload_n 1, 1) := by decide +kernel
theorem dX0_bestByTrying_64 : decode cX0_bestByTrying 64 = .ok (.ireturn, 1) := by decide +kernel
theorem dX0_greedyCount_0 : decode cX0_greedyCount 0 = .ok (.aload_n 0, 1) := by decide +kernel
theorem dX0_greedyCount_1 : decode cX0_greedyCount 1 = .ok (.getfield 15, 3) := by decide +kernel
theorem dX0_greedyCount_4 : decode cX0_greedyCount 4 = .ok (.istore_n 1, 1) := by decide +kernel
theorem dX0_greedyCount_5 : decode cX0_greedyCount 5 = .ok (.iconst 0, 1) := by decide +kernel
theorem dX0_greedyCount_6 : decode cX0_greedyCount 6 = .ok (.istore_n 2, 1) := by decide +kernel
theorem dX0_greedyCount_7 : decode cX0_greedyCount 7 = .ok (.iload_n 1, 1) := by decide +kernel
theorem dX0_greedyCount_8 : decode cX0_greedyCount 8 = .ok (.ifCond .eq 32, 3) := by decide +kernel
theorem dX0_greedyCount_11 : decode cX0_greedyCount 11 = .ok (.iload_n 2, 1) := by decide +kernel
theorem dX0_greedyCount_12 : decode cX0_greedyCount 12 = .ok (.bipush 14, 2) := by decide +kernel
theorem dX0_greedyCount_14 : decode cX0_greedyCount 14 = .ok (.if_icmp .ge 26, 3) := by decide +kernel
theorem dX0_greedyCount_17 : decode cX0_greedyCount 17 = .ok (.iload_n 1, 1) := by decide +kernel
theorem dX0_greedyCount_18 : decode cX0_greedyCount 18 = .ok (.aload_n 0, 1) := by decide +kernel
theorem dX0_greedyCount_19 : decode cX0_greedyCount 19 = .ok (.getfield 9, 3) := by decide +kernel
theorem dX0_greedyCount_22 : decode cX0_greedyCount 22 = .ok (.aload_n 0, 1) := by decide +kernel
theorem dX0_greedyCount_23 : decode cX0_greedyCount 23 = .ok (.iload_n 1, 1) := by decide +kernel
theorem dX0_greedyCount_24 : decode cX0_greedyCount 24 = .ok (.invokevirtual 44, 3) := by decide +kernel
theorem dX0_greedyCount_27 : decode cX0_greedyCount 27 = .ok (.invokevirtual 47, 3) := by decide +kernel
theorem dX0_greedyCount_30 : decode cX0_greedyCount 30 = .ok (.iconst (-1), 1) := by decide +kernel
theorem dX0_greedyCount_31 : decode cX0_greedyCount 31 = .ok (.ixor, 1) := by decide +kernel
theorem dX0_greedyCount_32 : decode cX0_greedyCount 32 = .ok (.iand, 1) := by decide +kernel
theorem dX0_greedyCount_33 : decode cX0_greedyCount 33 = .ok (.istore_n 1, 1) := by decide +kernel
theorem dX0_greedyCount_34 : decode cX0_greedyCount 34 = .ok (.iinc 2 1, 3) := by decide +kernel
theorem dX0_greedyCount_37 : decode cX0_greedyCount 37 = .ok (.goto (-30), 3) := by decide +kernel
theorem dX0_greedyCount_40 : decode cX0_greedyCount 40 = .ok (.iload_n 2, 1) := by decide +kernel
theorem dX0_greedyCount_41 : decode cX0_greedyCount 41 = .ok (.ireturn, 1) := by decide +kernel
theorem dX0_greedyAt_0 : decode cX0_greedyAt 0 = .ok (.aload_n 0, 1) := by decide +kernel
theorem dX0_greedyAt_1 : decode cX0_greedyAt 1 = .ok (.getfield 15, 3) := by decide +kernel
theorem dX0_greedyAt_4 : decode cX0_greedyAt 4 = .ok (.istore_n 2, 1) := by decide +kernel
theorem dX0_greedyAt_5 : decode cX0_greedyAt 5 = .ok (.iconst 0, 1) := by decide +kernel
theorem dX0_greedyAt_6 : decode cX0_greedyAt 6 = .ok (.istore_n 3, 1) := by decide +kernel
theorem dX0_greedyAt_7 : decode cX0_greedyAt 7 = .ok (.iload_n 3, 1) := by decide +kernel
theorem dX0_greedyAt_8 : decode cX0_greedyAt 8 = .ok (.bipush 14, 2) := by decide +kernel
theorem dX0_greedyAt_10 : decode cX0_greedyAt 10 = .ok (.if_icmp .ge 42, 3) := by decide +kernel
theorem dX0_greedyAt_13 : decode cX0_greedyAt 13 = .ok (.iload_n 2, 1) := by decide +kernel
theorem dX0_greedyAt_14 : decode cX0_greedyAt 14 = .ok (.ifCond .eq 38, 3) := by decide +kernel
theorem dX0_greedyAt_17 : decode cX0_greedyAt 17 = .ok (.aload_n 0, 1) := by decide +kernel
theorem dX0_greedyAt_18 : decode cX0_greedyAt 18 = .ok (.iload_n 2, 1) := by decide +kernel
theorem dX0_greedyAt_19 : decode cX0_greedyAt 19 = .ok (.invokevirtual 44, 3) := by decide +kernel
theorem dX0_greedyAt_22 : decode cX0_greedyAt 22 = .ok (.istore 4, 2) := by decide +kernel
theorem dX0_greedyAt_24 : decode cX0_greedyAt 24 = .ok (.iload_n 3, 1) := by decide +kernel
theorem dX0_greedyAt_25 : decode cX0_greedyAt 25 = .ok (.iload_n 1, 1) := by decide +kernel
theorem dX0_greedyAt_26 : decode cX0_greedyAt 26 = .ok (.if_icmp .ne 6, 3) := by decide +kernel
theorem dX0_greedyAt_29 : decode cX0_greedyAt 29 = .ok (.iload 4, 2) := by decide +kernel
theorem dX0_greedyAt_31 : decode cX0_greedyAt 31 = .ok (.ireturn, 1) := by decide +kernel
theorem dX0_greedyAt_32 : decode cX0_greedyAt 32 = .ok (.iload_n 2, 1) := by decide +kernel
theorem dX0_greedyAt_33 : decode cX0_greedyAt 33 = .ok (.aload_n 0, 1) := by decide +kernel
theorem dX0_greedyAt_34 : decode cX0_greedyAt 34 = .ok (.getfield 9, 3) := by decide +kernel
theorem dX0_greedyAt_37 : decode cX0_greedyAt 37 = .ok (.iload 4, 2) := by decide +kernel
theorem dX0_greedyAt_39 : decode cX0_greedyAt 39 = .ok (.invokevirtual 47, 3) := by decide +kernel
theorem dX0_greedyAt_42 : decode cX0_greedyAt 42 = .ok (.iconst (-1), 1) := by decide +kernel
theorem dX0_greedyAt_43 : decode cX0_greedyAt 43 = .ok (.ixor, 1) := by decide +kernel
theorem dX0_greedyAt_44 : decode cX0_greedyAt 44 = .ok (.iand, 1) := by decide +kernel
theorem dX0_greedyAt_45 : decode cX0_greedyAt 45 = .ok (.istore_n 2, 1) := by decide +kernel
theorem dX0_greedyAt_46 : decode cX0_greedyAt 46 = .ok (.iinc 3 1, 3) := by decide +kernel
theorem dX0_greedyAt_49 : decode cX0_greedyAt 49 = .ok (.goto (-42), 3) := by decide +kernel
theorem dX0_greedyAt_52 : decode cX0_greedyAt 52 = .ok (.iconst (-1), 1) := by decide +kernel
theorem dX0_greedyAt_53 : decode cX0_greedyAt 53 = .ok (.ireturn, 1) := by decide +kernel
theorem dX0_greedyNext_0 : decode cX0_greedyNext 0 = .ok (.iconst 0, 1) := by decide +kernel
theorem dX0_greedyNext_1 : decode cX0_greedyNext 1 = .ok (.istore_n 2, 1) := by decide +kernel
theorem dX0_greedyNext_2 : decode cX0_greedyNext 2 = .ok (.iconst 0, 1) := by decide +kernel
theorem dX0_greedyNext_3 : decode cX0_greedyNext 3 = .ok (.istore_n 3, 1) := by decide +kernel
theorem dX0_greedyNext_4 : decode cX0_greedyNext 4 = .ok (.iconst 0, 1) := by decide +kernel
theorem dX0_greedyNext_5 : decode cX0_greedyNext 5 = .ok (.istore 4, 2) := by decide +kernel
theorem dX0_greedyNext_7 : decode cX0_greedyNext 7 = .ok (.iload 4, 2) := by decide +kernel
theorem dX0_greedyNext_9 : decode cX0_greedyNext 9 = .ok (.bipush 14, 2) := by decide +kernel
theorem dX0_greedyNext_11 : decode cX0_greedyNext 11 = .ok (.if_icmp .ge 99, 3) := by decide +kernel
theorem dX0_greedyNext_14 : decode cX0_greedyNext 14 = .ok (.aload_n 0, 1) := by decide +kernel
theorem dX0_greedyNext_15 : decode cX0_greedyNext 15 = .ok (.getfield 23, 3) := by decide +kernel
theorem dX0_greedyNext_18 : decode cX0_greedyNext 18 = .ok (.iload 4, 2) := by decide +kernel
theorem dX0_greedyNext_20 : decode cX0_greedyNext 20 = .ok (.invokestatic 52, 3) := by decide +kernel
theorem dX0_greedyNext_23 : decode cX0_greedyNext 23 = .ok (.ifCond .eq 20, 3) := by decide +kernel
theorem dX0_greedyNext_26 : decode cX0_greedyNext 26 = .ok (.aload_n 0, 1) := by decide +kernel
theorem dX0_greedyNext_27 : decode cX0_greedyNext 27 = .ok (.getfield 9, 3) := by decide +kernel
theorem dX0_greedyNext_30 : decode cX0_greedyNext 30 = .ok (.iload 4, 2) := by decide +kernel
theorem dX0_greedyNext_32 : decode cX0_greedyNext 32 = .ok (.invokevirtual 47, 3) := by decide +kernel
theorem dX0_greedyNext_35 : decode cX0_greedyNext 35 = .ok (.iload_n 1, 1) := by decide +kernel
theorem dX0_greedyNext_36 : decode cX0_greedyNext 36 = .ok (.iand, 1) := by decide +kernel
theorem dX0_greedyNext_37 : decode cX0_greedyNext 37 = .ok (.invokestatic 30, 3) := by decide +kernel
theorem dX0_greedyNext_40 : decode cX0_greedyNext 40 = .ok (.goto 4, 3) := by decide +kernel
theorem dX0_greedyNext_43 : decode cX0_greedyNext 43 = .ok (.iconst 0, 1) := by decide +kernel
theorem dX0_greedyNext_44 : decode cX0_greedyNext 44 = .ok (.istore 5, 2) := by decide +kernel
theorem dX0_greedyNext_46 : decode cX0_greedyNext 46 = .ok (.iload 5, 2) := by decide +kernel
theorem dX0_greedyNext_48 : decode cX0_greedyNext 48 = .ok (.iload_n 3, 1) := by decide +kernel
theorem dX0_greedyNext_49 : decode cX0_greedyNext 49 = .ok (.if_icmp .ne 30, 3) := by decide +kernel
theorem dX0_greedyNext_52 : decode cX0_greedyNext 52 = .ok (.aload_n 0, 1) := by decide +kernel
theorem dX0_greedyNext_53 : decode cX0_greedyNext 53 = .ok (.getfield 15, 3) := by decide +kernel
theorem dX0_greedyNext_56 : decode cX0_greedyNext 56 = .ok (.iload 4, 2) := by decide +kernel
theorem dX0_greedyNext_58 : decode cX0_greedyNext 58 = .ok (.invokestatic 52, 3) := by decide +kernel
theorem dX0_greedyNext_61 : decode cX0_greedyNext 61 = .ok (.ifCond .eq 18, 3) := by decide +kernel
theorem dX0_greedyNext_64 : decode cX0_greedyNext 64 = .ok (.aload_n 0, 1) := by decide +kernel
theorem dX0_greedyNext_65 : decode cX0_greedyNext 65 = .ok (.getfield 15, 3) := by decide +kernel
theorem dX0_greedyNext_68 : decode cX0_greedyNext 68 = .ok (.iload_n 2, 1) := by decide +kernel
theorem dX0_greedyNext_69 : decode cX0_greedyNext 69 = .ok (.invokestatic 52, 3) := by decide +kernel
theorem dX0_greedyNext_72 : decode cX0_greedyNext 72 = .ok (.ifCond .ne 7, 3) := by decide +kernel
theorem dX0_greedyNext_75 : decode cX0_greedyNext 75 = .ok (.iconst 1, 1) := by decide +kernel
theorem dX0_greedyNext_76 : decode cX0_greedyNext 76 = .ok (.goto 4, 3) := by decide +kernel
theorem dX0_greedyNext_79 : decode cX0_greedyNext 79 = .ok (.iconst 0, 1) := by decide +kernel
theorem dX0_greedyNext_80 : decode cX0_greedyNext 80 = .ok (.istore 6, 2) := by decide +kernel
theorem dX0_greedyNext_82 : decode cX0_greedyNext 82 = .ok (.iload 5, 2) := by decide +kernel
theorem dX0_greedyNext_84 : decode cX0_greedyNext 84 = .ok (.iload_n 3, 1) := by decide +kernel
theorem dX0_greedyNext_85 : decode cX0_greedyNext 85 = .ok (.if_icmp .gt 13, 3) := by decide +kernel
theorem dX0_greedyNext_88 : decode cX0_greedyNext 88 = .ok (.iload 5, 2) := by decide +kernel
theorem dX0_greedyNext_90 : decode cX0_greedyNext 90 = .ok (.ifCond .le 14, 3) := by decide +kernel
theorem dX0_greedyNext_93 : decode cX0_greedyNext 93 = .ok (.iload 6, 2) := by decide +kernel
theorem dX0_greedyNext_95 : decode cX0_greedyNext 95 = .ok (.ifCond .eq 9, 3) := by decide +kernel
theorem dX0_greedyNext_98 : decode cX0_greedyNext 98 = .ok (.iload 4, 2) := by decide +kernel
theorem dX0_greedyNext_100 : decode cX0_greedyNext 100 = .ok (.istore_n 2, 1) := by decide +kernel
theorem dX0_greedyNext_101 : decode cX0_greedyNext 101 = .ok (.iload 5, 2) := by decide +kernel
theorem dX0_greedyNext_103 : decode cX0_greedyNext 103 = .ok (.istore_n 3, 1) := by decide +kernel
theorem dX0_greedyNext_104 : decode cX0_greedyNext 104 = .ok (.iinc 4 1, 3) := by decide +kernel
theorem dX0_greedyNext_107 : decode cX0_greedyNext 107 = .ok (.goto (-100), 3) := by decide +kernel
theorem dX0_greedyNext_110 : decode cX0_greedyNext 110 = .ok (.iload_n 2, 1) := by decide +kernel
theorem dX0_greedyNext_111 : decode cX0_greedyNext 111 = .ok (.ireturn, 1) := by decide +kernel
theorem dX0_search_0 : decode cX0_search 0 = .ok (.iload_n 3, 1) := by decide +kernel
theorem dX0_search_1 : decode cX0_search 1 = .ok (.iconst 0, 1) := by decide +kernel
theorem dX0_search_2 : decode cX0_search 2 = .ok (.invokestatic 55, 3) := by decide +kernel
theorem dX0_search_5 : decode cX0_search 5 = .ok (.istore 6, 2) := by decide +kernel
theorem dX0_search_7 : decode cX0_search 7 = .ok (.iload 6, 2) := by decide +kernel
theorem dX0_search_9 : decode cX0_search 9 = .ok (.iconst (-1), 1) := by decide +kernel
theorem dX0_search_10 : decode cX0_search 10 = .ok (.if_icmp .ne 20, 3) := by decide +kernel
theorem dX0_search_13 : decode cX0_search 13 = .ok (.aload_n 0, 1) := by decide +kernel
theorem dX0_search_14 : decode cX0_search 14 = .ok (.iload_n 2, 1) := by decide +kernel
theorem dX0_search_15 : decode cX0_search 15 = .ok (.iload 5, 2) := by decide +kernel
theorem dX0_search_17 : decode cX0_search 17 = .ok (.invokevirtual 36, 3) := by decide +kernel
theorem dX0_search_20 : decode cX0_search 20 = .ok (.ifCond .eq 7, 3) := by decide +kernel
theorem dX0_search_23 : decode cX0_search 23 = .ok (.iload_n 2, 1) := by decide +kernel
theorem dX0_search_24 : decode cX0_search 24 = .ok (.goto 5, 3) := by decide +kernel
theorem dX0_search_27 : decode cX0_search 27 = .ok (.iload 5, 2) := by decide +kernel
theorem dX0_search_29 : decode cX0_search 29 = .ok (.ireturn, 1) := by decide +kernel
theorem dX0_search_30 : decode cX0_search 30 = .ok (.iload 5, 2) := by decide +kernel
theorem dX0_search_32 : decode cX0_search 32 = .ok (.istore 7, 2) := by decide +kernel
theorem dX0_search_34 : decode cX0_search 34 = .ok (.iload 4, 2) := by decide +kernel
theorem dX0_search_36 : decode cX0_search 36 = .ok (.istore 8, 2) := by decide +kernel
theorem dX0_search_38 : decode cX0_search 38 = .ok (.aload_n 0, 1) := by decide +kernel
theorem dX0_search_39 : decode cX0_search 39 = .ok (.getfield 9, 3) := by decide +kernel
theorem dX0_search_42 : decode cX0_search 42 = .ok (.iload 6, 2) := by decide +kernel
theorem dX0_search_44 : decode cX0_search 44 = .ok (.invokevirtual 59, 3) := by decide +kernel
theorem dX0_search_47 : decode cX0_search 47 = .ok (.iload 4, 2) := by decide +kernel
theorem dX0_search_49 : decode cX0_search 49 = .ok (.iand, 1) := by decide +kernel
theorem dX0_search_50 : decode cX0_search 50 = .ok (.istore 9, 2) := by decide +kernel
theorem dX0_search_52 : decode cX0_search 52 = .ok (.iconst 0, 1) := by decide +kernel
theorem dX0_search_53 : decode cX0_search 53 = .ok (.istore 10, 2) := by decide +kernel
theorem dX0_search_55 : decode cX0_search 55 = .ok (.iload 10, 2) := by decide +kernel
theorem dX0_search_57 : decode cX0_search 57 = .ok (.bipush 14, 2) := by decide +kernel
theorem dX0_search_59 : decode cX0_search 59 = .ok (.if_icmp .ge 95, 3) := by decide +kernel
theorem dX0_search_62 : decode cX0_search 62 = .ok (.iload_n 1, 1) := by decide +kernel
theorem dX0_search_63 : decode cX0_search 63 = .ok (.bipush 14, 2) := by decide +kernel
theorem dX0_search_65 : decode cX0_search 65 = .ok (.if_icmp .ge 16, 3) := by decide +kernel
theorem dX0_search_68 : decode cX0_search 68 = .ok (.iload_n 1, 1) := by decide +kernel
theorem dX0_search_69 : decode cX0_search 69 = .ok (.iload 7, 2) := by decide +kernel
theorem dX0_search_71 : decode cX0_search 71 = .ok (.invokestatic 30, 3) := by decide +kernel
theorem dX0_search_74 : decode cX0_search 74 = .ok (.if_icmp .ge 7, 3) := by decide +kernel
theorem dX0_search_77 : decode cX0_search 77 = .ok (.iconst 1, 1) := by decide +kernel
theorem dX0_search_78 : decode cX0_search 78 = .ok (.goto 4, 3) := by decide +kernel
theorem dX0_search_81 : decode cX0_search 81 = .ok (.iconst 0, 1) := by decide +kernel
theorem dX0_search_82 : decode cX0_search 82 = .ok (.istore 11, 2) := by decide +kernel
theorem dX0_search_84 : decode cX0_search 84 = .ok (.iload 9, 2) := by decide +kernel
theorem dX0_search_86 : decode cX0_search 86 = .ok (.iload 10, 2) := by decide +kernel
theorem dX0_search_88 : decode cX0_search 88 = .ok (.invokestatic 52, 3) := by decide +kernel
theorem dX0_search_91 : decode cX0_search 91 = .ok (.ifCond .eq 57, 3) := by decide +kernel
theorem dX0_search_94 : decode cX0_search 94 = .ok (.iload 11, 2) := by decide +kernel
theorem dX0_search_96 : decode cX0_search 96 = .ok (.ifCond .eq 52, 3) := by decide +kernel
theorem dX0_search_99 : decode cX0_search 99 = .ok (.iload 8, 2) := by decide +kernel
theorem dX0_search_101 : decode cX0_search 101 = .ok (.iload 10, 2) := by decide +kernel
theorem dX0_search_103 : decode cX0_search 103 = .ok (.invokestatic 62, 3) := by decide +kernel
theorem dX0_search_106 : decode cX0_search 106 = .ok (.iconst (-1), 1) := by decide +kernel
theorem dX0_search_107 : decode cX0_search 107 = .ok (.ixor, 1) := by decide +kernel
theorem dX0_search_108 : decode cX0_search 108 = .ok (.iand, 1) := by decide +kernel
theorem dX0_search_109 : decode cX0_search 109 = .ok (.istore 8, 2) := by decide +kernel
theorem dX0_search_111 : decode cX0_search 111 = .ok (.iload_n 3, 1) := by decide +kernel
theorem dX0_search_112 : decode cX0_search 112 = .ok (.aload_n 0, 1) := by decide +kernel
theorem dX0_search_113 : decode cX0_search 113 = .ok (.getfield 9, 3) := by decide +kernel
theorem dX0_search_116 : decode cX0_search 116 = .ok (.iload 10, 2) := by decide +kernel
theorem dX0_search_118 : decode cX0_search 118 = .ok (.invokevirtual 47, 3) := by decide +kernel
theorem dX0_search_121 : decode cX0_search 121 = .ok (.iconst (-1), 1) := by decide +kernel
theorem dX0_search_122 : decode cX0_search 122 = .ok (.ixor, 1) := by decide +kernel
theorem dX0_search_123 : decode cX0_search 123 = .ok (.iand, 1) := by decide +kernel
theorem dX0_search_124 : decode cX0_search 124 = .ok (.istore 12, 2) := by decide +kernel
theorem dX0_search_126 : decode cX0_search 126 = .ok (.aload_n 0, 1) := by decide +kernel
theorem dX0_search_127 : decode cX0_search 127 = .ok (.iload_n 1, 1) := by decide +kernel
theorem dX0_search_128 : decode cX0_search 128 = .ok (.iconst 1, 1) := by decide +kernel
theorem dX0_search_129 : decode cX0_search 129 = .ok (.iadd, 1) := by decide +kernel
theorem dX0_search_130 : decode cX0_search 130 = .ok (.iload_n 2, 1) := by decide +kernel
theorem dX0_search_131 : decode cX0_search 131 = .ok (.iload 10, 2) := by decide +kernel
theorem dX0_search_133 : decode cX0_search 133 = .ok (.invokestatic 62, 3) := by decide +kernel
theorem dX0_search_136 : decode cX0_search 136 = .ok (.ior, 1) := by decide +kernel
theorem dX0_search_137 : decode cX0_search 137 = .ok (.iload 12, 2) := by decide +kernel
theorem dX0_search_139 : decode cX0_search 139 = .ok (.iload 8, 2) := by decide +kernel
theorem dX0_search_141 : decode cX0_search 141 = .ok (.iload 7, 2) := by decide +kernel
theorem dX0_search_143 : decode cX0_search 143 = .ok (.invokestatic 26, 3) := by decide +kernel
theorem dX0_search_146 : decode cX0_search 146 = .ok (.istore 7, 2) := by decide +kernel
theorem dX0_search_148 : decode cX0_search 148 = .ok (.iinc 10 1, 3) := by decide +kernel
theorem dX0_search_151 : decode cX0_search 151 = .ok (.goto (-96), 3) := by decide +kernel
theorem dX0_search_154 : decode cX0_search 154 = .ok (.iload 7, 2) := by decide +kernel
theorem dX0_search_156 : decode cX0_search 156 = .ok (.ireturn, 1) := by decide +kernel
theorem dX0_isBetter_0 : decode cX0_isBetter 0 = .ok (.iload_n 1, 1) := by decide +kernel
theorem dX0_isBetter_1 : decode cX0_isBetter 1 = .ok (.invokestatic 30, 3) := by decide +kernel
theorem dX0_isBetter_4 : decode cX0_isBetter 4 = .ok (.istore_n 3, 1) := by decide +kernel
theorem dX0_isBetter_5 : decode cX0_isBetter 5 = .ok (.iload_n 2, 1) := by decide +kernel
theorem dX0_isBetter_6 : decode cX0_isBetter 6 = .ok (.invokestatic 30, 3) := by decide +kernel
theorem dX0_isBetter_9 : decode cX0_isBetter 9 = .ok (.istore 4, 2) := by decide +kernel
theorem dX0_isBetter_11 : decode cX0_isBetter 11 = .ok (.iload_n 3, 1) := by decide +kernel
theorem dX0_isBetter_12 : decode cX0_isBetter 12 = .ok (.iload 4, 2) := by decide +kernel
theorem dX0_isBetter_14 : decode cX0_isBetter 14 = .ok (.if_icmp .eq 15, 3) := by decide +kernel
theorem dX0_isBetter_17 : decode cX0_isBetter 17 = .ok (.iload_n 3, 1) := by decide +kernel
theorem dX0_isBetter_18 : decode cX0_isBetter 18 = .ok (.iload 4, 2) := by decide +kernel
theorem dX0_isBetter_20 : decode cX0_isBetter 20 = .ok (.if_icmp .ge 7, 3) := by decide +kernel
theorem dX0_isBetter_23 : decode cX0_isBetter 23 = .ok (.iconst 1, 1) := by decide +kernel
theorem dX0_isBetter_24 : decode cX0_isBetter 24 = .ok (.goto 4, 3) := by decide +kernel
theorem dX0_isBetter_27 : decode cX0_isBetter 27 = .ok (.iconst 0, 1) := by decide +kernel
theorem dX0_isBetter_28 : decode cX0_isBetter 28 = .ok (.ireturn, 1) := by decide +kernel
theorem dX0_isBetter_29 : decode cX0_isBetter 29 = .ok (.iload_n 1, 1) := by decide +kernel
theorem dX0_isBetter_30 : decode cX0_isBetter 30 = .ok (.aload_n 0, 1) := by decide +kernel
theorem dX0_isBetter_31 : decode cX0_isBetter 31 = .ok (.getfield 15, 3) := by decide +kernel
theorem dX0_isBetter_34 : decode cX0_isBetter 34 = .ok (.iand, 1) := by decide +kernel
theorem dX0_isBetter_35 : decode cX0_isBetter 35 = .ok (.invokestatic 30, 3) := by decide +kernel
theorem dX0_isBetter_38 : decode cX0_isBetter 38 = .ok (.istore 5, 2) := by decide +kernel
theorem dX0_isBetter_40 : decode cX0_isBetter 40 = .ok (.iload_n 2, 1) := by decide +kernel
theorem dX0_isBetter_41 : decode cX0_isBetter 41 = .ok (.aload_n 0, 1) := by decide +kernel
theorem dX0_isBetter_42 : decode cX0_isBetter 42 = .ok (.getfield 15, 3) := by decide +kernel
theorem dX0_isBetter_45 : decode cX0_isBetter 45 = .ok (.iand, 1) := by decide +kernel
theorem dX0_isBetter_46 : decode cX0_isBetter 46 = .ok (.invokestatic 30, 3) := by decide +kernel
theorem dX0_isBetter_49 : decode cX0_isBetter 49 = .ok (.istore 6, 2) := by decide +kernel
theorem dX0_isBetter_51 : decode cX0_isBetter 51 = .ok (.iload 5, 2) := by decide +kernel
theorem dX0_isBetter_53 : decode cX0_isBetter 53 = .ok (.iload 6, 2) := by decide +kernel
theorem dX0_isBetter_55 : decode cX0_isBetter 55 = .ok (.if_icmp .eq 16, 3) := by decide +kernel
theorem dX0_isBetter_58 : decode cX0_isBetter 58 = .ok (.iload 5, 2) := by decide +kernel
theorem dX0_isBetter_60 : decode cX0_isBetter 60 = .ok (.iload 6, 2) := by decide +kernel
theorem dX0_isBetter_62 : decode cX0_isBetter 62 = .ok (.if_icmp .le 7, 3) := by decide +kernel
theorem dX0_isBetter_65 : decode cX0_isBetter 65 = .ok (.iconst 1, 1) := by decide +kernel
theorem dX0_isBetter_66 : decode cX0_isBetter 66 = .ok (.goto 4, 3) := by decide +kernel
theorem dX0_isBetter_69 : decode cX0_isBetter 69 = .ok (.iconst 0, 1) := by decide +kernel
theorem dX0_isBetter_70 : decode cX0_isBetter 70 = .ok (.ireturn, 1) := by decide +kernel
theorem dX0_isBetter_71 : decode cX0_isBetter 71 = .ok (.iload_n 1, 1) := by decide +kernel
theorem dX0_isBetter_72 : decode cX0_isBetter 72 = .ok (.iload_n 2, 1) := by decide +kernel
theorem dX0_isBetter_73 : decode cX0_isBetter 73 = .ok (.ixor, 1) := by decide +kernel
theorem dX0_isBetter_74 : decode cX0_isBetter 74 = .ok (.iconst 0, 1) := by decide +kernel
theorem dX0_isBetter_75 : decode cX0_isBetter 75 = .ok (.invokestatic 55, 3) := by decide +kernel
theorem dX0_isBetter_78 : decode cX0_isBetter 78 = .ok (.istore 7, 2) := by decide +kernel
theorem dX0_isBetter_80 : decode cX0_isBetter 80 = .ok (.iload 7, 2) := by decide +kernel
theorem dX0_isBetter_82 : decode cX0_isBetter 82 = .ok (.iconst (-1), 1) := by decide +kernel
theorem dX0_isBetter_83 : decode cX0_isBetter 83 = .ok (.if_icmp .eq 16, 3) := by decide +kernel
theorem dX0_isBetter_86 : decode cX0_isBetter 86 = .ok (.iload_n 1, 1) := by decide +kernel
theorem dX0_isBetter_87 : decode cX0_isBetter 87 = .ok (.iload 7, 2) := by decide +kernel
theorem dX0_isBetter_89 : decode cX0_isBetter 89 = .ok (.invokestatic 52, 3) := by decide +kernel
theorem dX0_isBetter_92 : decode cX0_isBetter 92 = .ok (.ifCond .eq 7, 3) := by decide +kernel
theorem dX0_isBetter_95 : decode cX0_isBetter 95 = .ok (.iconst 1, 1) := by decide +kernel
theorem dX0_isBetter_96 : decode cX0_isBetter 96 = .ok (.goto 4, 3) := by decide +kernel
theorem dX0_isBetter_99 : decode cX0_isBetter 99 = .ok (.iconst 0, 1) := by decide +kernel
theorem dX0_isBetter_100 : decode cX0_isBetter 100 = .ok (.ireturn, 1) := by decide +kernel
theorem dX0_explainsAll_0 : decode cX0_explainsAll 0 = .ok (.iconst 0, 1) := by decide +kernel
theorem dX0_explainsAll_1 : decode cX0_explainsAll 1 = .ok (.istore_n 2, 1) := by decide +kernel
theorem dX0_explainsAll_2 : decode cX0_explainsAll 2 = .ok (.iload_n 2, 1) := by decide +kernel
theorem dX0_explainsAll_3 : decode cX0_explainsAll 3 = .ok (.bipush 14, 2) := by decide +kernel
theorem dX0_explainsAll_5 : decode cX0_explainsAll 5 = .ok (.if_icmp .ge 35, 3) := by decide +kernel
theorem dX0_explainsAll_8 : decode cX0_explainsAll 8 = .ok (.aload_n 0, 1) := by decide +kernel
theorem dX0_explainsAll_9 : decode cX0_explainsAll 9 = .ok (.getfield 15, 3) := by decide +kernel
theorem dX0_explainsAll_12 : decode cX0_explainsAll 12 = .ok (.iload_n 2, 1) := by decide +kernel
theorem dX0_explainsAll_13 : decode cX0_explainsAll 13 = .ok (.invokestatic 52, 3) := by decide +kernel
theorem dX0_explainsAll_16 : decode cX0_explainsAll 16 = .ok (.ifCond .eq 18, 3) := by decide +kernel
theorem dX0_explainsAll_19 : decode cX0_explainsAll 19 = .ok (.aload_n 0, 1) := by decide +kernel
theorem dX0_explainsAll_20 : decode cX0_explainsAll 20 = .ok (.getfield 9, 3) := by decide +kernel
theorem dX0_explainsAll_23 : decode cX0_explainsAll 23 = .ok (.iload_n 2, 1) := by decide +kernel
theorem dX0_explainsAll_24 : decode cX0_explainsAll 24 = .ok (.invokevirtual 59, 3) := by decide +kernel
theorem dX0_explainsAll_27 : decode cX0_explainsAll 27 = .ok (.iload_n 1, 1) := by decide +kernel
theorem dX0_explainsAll_28 : decode cX0_explainsAll 28 = .ok (.iand, 1) := by decide +kernel
theorem dX0_explainsAll_29 : decode cX0_explainsAll 29 = .ok (.ifCond .ne 5, 3) := by decide +kernel
theorem dX0_explainsAll_32 : decode cX0_explainsAll 32 = .ok (.iconst 0, 1) := by decide +kernel
theorem dX0_explainsAll_33 : decode cX0_explainsAll 33 = .ok (.ireturn, 1) := by decide +kernel
theorem dX0_explainsAll_34 : decode cX0_explainsAll 34 = .ok (.iinc 2 1, 3) := by decide +kernel
theorem dX0_explainsAll_37 : decode cX0_explainsAll 37 = .ok (.goto (-35), 3) := by decide +kernel
theorem dX0_explainsAll_40 : decode cX0_explainsAll 40 = .ok (.iconst 1, 1) := by decide +kernel
theorem dX0_explainsAll_41 : decode cX0_explainsAll 41 = .ok (.ireturn, 1) := by decide +kernel
theorem dX0_plausibleOf_0 : decode cX0_plausibleOf 0 = .ok (.iload_n 1, 1) := by decide +kernel
theorem dX0_plausibleOf_1 : decode cX0_plausibleOf 1 = .ok (.istore_n 2, 1) := by decide +kernel
theorem dX0_plausibleOf_2 : decode cX0_plausibleOf 2 = .ok (.iconst 0, 1) := by decide +kernel
theorem dX0_plausibleOf_3 : decode cX0_plausibleOf 3 = .ok (.istore_n 3, 1) := by decide +kernel
theorem dX0_plausibleOf_4 : decode cX0_plausibleOf 4 = .ok (.iload_n 3, 1) := by decide +kernel
theorem dX0_plausibleOf_5 : decode cX0_plausibleOf 5 = .ok (.bipush 14, 2) := by decide +kernel
theorem dX0_plausibleOf_7 : decode cX0_plausibleOf 7 = .ok (.if_icmp .ge 37, 3) := by decide +kernel
theorem dX0_plausibleOf_10 : decode cX0_plausibleOf 10 = .ok (.aload_n 0, 1) := by decide +kernel
theorem dX0_plausibleOf_11 : decode cX0_plausibleOf 11 = .ok (.iload_n 3, 1) := by decide +kernel
theorem dX0_plausibleOf_12 : decode cX0_plausibleOf 12 = .ok (.invokevirtual 65, 3) := by decide +kernel
theorem dX0_plausibleOf_15 : decode cX0_plausibleOf 15 = .ok (.istore 4, 2) := by decide +kernel
theorem dX0_plausibleOf_17 : decode cX0_plausibleOf 17 = .ok (.iload 4, 2) := by decide +kernel
theorem dX0_plausibleOf_19 : decode cX0_plausibleOf 19 = .ok (.ifCond .eq 19, 3) := by decide +kernel
theorem dX0_plausibleOf_22 : decode cX0_plausibleOf 22 = .ok (.iload 4, 2) := by decide +kernel
theorem dX0_plausibleOf_24 : decode cX0_plausibleOf 24 = .ok (.iload_n 1, 1) := by decide +kernel
theorem dX0_plausibleOf_25 : decode cX0_plausibleOf 25 = .ok (.iconst (-1), 1) := by decide +kernel
theorem dX0_plausibleOf_26 : decode cX0_plausibleOf 26 = .ok (.ixor, 1) := by decide +kernel
theorem dX0_plausibleOf_27 : decode cX0_plausibleOf 27 = .ok (.iand, 1) := by decide +kernel
theorem dX0_plausibleOf_28 : decode cX0_plausibleOf 28 = .ok (.ifCond .ne 10, 3) := by decide +kernel
theorem dX0_plausibleOf_31 : decode cX0_plausibleOf 31 = .ok (.iload_n 2, 1) := by decide +kernel
theorem dX0_plausibleOf_32 : decode cX0_plausibleOf 32 = .ok (.iload_n 3, 1) := by decide +kernel
theorem dX0_plausibleOf_33 : decode cX0_plausibleOf 33 = .ok (.invokestatic 62, 3) := by decide +kernel
theorem dX0_plausibleOf_36 : decode cX0_plausibleOf 36 = .ok (.ior, 1) := by decide +kernel
theorem dX0_plausibleOf_37 : decode cX0_plausibleOf 37 = .ok (.istore_n 2, 1) := by decide +kernel
theorem dX0_plausibleOf_38 : decode cX0_plausibleOf 38 = .ok (.iinc 3 1, 3) := by decide +kernel
theorem dX0_plausibleOf_41 : decode cX0_plausibleOf 41 = .ok (.goto (-37), 3) := by decide +kernel
theorem dX0_plausibleOf_44 : decode cX0_plausibleOf 44 = .ok (.iload_n 2, 1) := by decide +kernel
theorem dX0_plausibleOf_45 : decode cX0_plausibleOf 45 = .ok (.ireturn, 1) := by decide +kernel
theorem dX1_init_0 : decode cX1_init 0 = .ok (.aload_n 0, 1) := by decide +kernel
theorem dX1_init_1 : decode cX1_init 1 = .ok (.invokespecial 3, 3) := by decide +kernel
theorem dX1_init_4 : decode cX1_init 4 = .ok (.aload_n 0, 1) := by decide +kernel
theorem dX1_init_5 : decode cX1_init 5 = .ok (.bipush 14, 2) := by decide +kernel
theorem dX1_init_7 : decode cX1_init 7 = .ok (.newarray .int, 2) := by decide +kernel
theorem dX1_init_9 : decode cX1_init 9 = .ok (.putfield 9, 3) := by decide +kernel
theorem dX1_init_12 : decode cX1_init 12 = .ok (.aload_n 0, 1) := by decide +kernel
theorem dX1_init_13 : decode cX1_init 13 = .ok (.bipush 14, 2) := by decide +kernel
theorem dX1_init_15 : decode cX1_init 15 = .ok (.newarray .int, 2) := by decide +kernel
theorem dX1_init_17 : decode cX1_init 17 = .ok (.putfield 15, 3) := by decide +kernel
theorem dX1_init_20 : decode cX1_init 20 = .ok (.aload_n 0, 1) := by decide +kernel
theorem dX1_init_21 : decode cX1_init 21 = .ok (.bipush 14, 2) := by decide +kernel
theorem dX1_init_23 : decode cX1_init 23 = .ok (.newarray .int, 2) := by decide +kernel
theorem dX1_init_25 : decode cX1_init 25 = .ok (.putfield 18, 3) := by decide +kernel
theorem dX1_init_28 : decode cX1_init 28 = .ok (.aload_n 0, 1) := by decide +kernel
theorem dX1_init_29 : decode cX1_init 29 = .ok (.bipush 14, 2) := by decide +kernel
theorem dX1_init_31 : decode cX1_init 31 = .ok (.newarray .int, 2) := by decide +kernel
theorem dX1_init_33 : decode cX1_init 33 = .ok (.putfield 21, 3) := by decide +kernel
theorem dX1_init_36 : decode cX1_init 36 = .ok (.return_, 1) := by decide +kernel
theorem dX1_needed_0 : decode cX1_needed 0 = .ok (.aload_n 0, 1) := by decide +kernel
theorem dX1_needed_1 : decode cX1_needed 1 = .ok (.getfield 9, 3) := by decide +kernel
theorem dX1_needed_4 : decode cX1_needed 4 = .ok (.iload_n 1, 1) := by decide +kernel
theorem dX1_needed_5 : decode cX1_needed 5 = .ok (.iaload, 1) := by decide +kernel
theorem dX1_needed_6 : decode cX1_needed 6 = .ok (.ireturn, 1) := by decide +kernel
theorem dX1_users_0 : decode cX1_users 0 = .ok (.aload_n 0, 1) := by decide +kernel
theorem dX1_users_1 : decode cX1_users 1 = .ok (.getfield 15, 3) := by decide +kernel
theorem dX1_users_4 : decode cX1_users 4 = .ok (.iload_n 1, 1) := by decide +kernel
theorem dX1_users_5 : decode cX1_users 5 = .ok (.iaload, 1) := by decide +kernel
theorem dX1_users_6 : decode cX1_users 6 = .ok (.ireturn, 1) := by decide +kernel
theorem dX1_below_0 : decode cX1_below 0 = .ok (.aload_n 0, 1) := by decide +kernel
theorem dX1_below_1 : decode cX1_below 1 = .ok (.getfield 18, 3) := by decide +kernel
theorem dX1_below_4 : decode cX1_below 4 = .ok (.iload_n 1, 1) := by decide +kernel
theorem dX1_below_5 : decode cX1_below 5 = .ok (.iaload, 1) := by decide +kernel
theorem dX1_below_6 : decode cX1_below 6 = .ok (.ireturn, 1) := by decide +kernel
theorem dX1_above_0 : decode cX1_above 0 = .ok (.aload_n 0, 1) := by decide +kernel
theorem dX1_above_1 : decode cX1_above 1 = .ok (.getfield 21, 3) := by decide +kernel
theorem dX1_above_4 : decode cX1_above 4 = .ok (.iload_n 1, 1) := by decide +kernel
theorem dX1_above_5 : decode cX1_above 5 = .ok (.iaload, 1) := by decide +kernel
theorem dX1_above_6 : decode cX1_above 6 = .ok (.ireturn, 1) := by decide +kernel
theorem dX1_explainersOf_0 : decode cX1_explainersOf 0 = .ok (.iload_n 1, 1) := by decide +kernel
theorem dX1_explainersOf_1 : decode cX1_explainersOf 1 = .ok (.invokestatic 24, 3) := by decide +kernel
theorem dX1_explainersOf_4 : decode cX1_explainersOf 4 = .ok (.aload_n 0, 1) := by decide +kernel
theorem dX1_explainersOf_5 : decode cX1_explainersOf 5 = .ok (.getfield 18, 3) := by decide +kernel
theorem dX1_explainersOf_8 : decode cX1_explainersOf 8 = .ok (.iload_n 1, 1) := by decide +kernel
theorem dX1_explainersOf_9 : decode cX1_explainersOf 9 = .ok (.iaload, 1) := by decide +kernel
theorem dX1_explainersOf_10 : decode cX1_explainersOf 10 = .ok (.ior, 1) := by decide +kernel
theorem dX1_explainersOf_11 : decode cX1_explainersOf 11 = .ok (.ireturn, 1) := by decide +kernel
theorem dX1_explainedBy_0 : decode cX1_explainedBy 0 = .ok (.iload_n 1, 1) := by decide +kernel
theorem dX1_explainedBy_1 : decode cX1_explainedBy 1 = .ok (.invokestatic 24, 3) := by decide +kernel
theorem dX1_explainedBy_4 : decode cX1_explainedBy 4 = .ok (.aload_n 0, 1) := by decide +kernel
theorem dX1_explainedBy_5 : decode cX1_explainedBy 5 = .ok (.getfield 21, 3) := by decide +kernel
theorem dX1_explainedBy_8 : decode cX1_explainedBy 8 = .ok (.iload_n 1, 1) := by decide +kernel
theorem dX1_explainedBy_9 : decode cX1_explainedBy 9 = .ok (.iaload, 1) := by decide +kernel
theorem dX1_explainedBy_10 : decode cX1_explainedBy 10 = .ok (.ior, 1) := by decide +kernel
theorem dX1_explainedBy_11 : decode cX1_explainedBy 11 = .ok (.ireturn, 1) := by decide +kernel
theorem dX1_link_0 : decode cX1_link 0 = .ok (.aload_n 0, 1) := by decide +kernel
theorem dX1_link_1 : decode cX1_link 1 = .ok (.getfield 9, 3) := by decide +kernel
theorem dX1_link_4 : decode cX1_link 4 = .ok (.iload_n 1, 1) := by decide +kernel
theorem dX1_link_5 : decode cX1_link 5 = .ok (.iaload, 1) := by decide +kernel
theorem dX1_link_6 : decode cX1_link 6 = .ok (.iload_n 2, 1) := by decide +kernel
theorem dX1_link_7 : decode cX1_link 7 = .ok (.invokestatic 28, 3) := by decide +kernel
theorem dX1_link_10 : decode cX1_link 10 = .ok (.ifCond .eq 5, 3) := by decide +kernel
theorem dX1_link_13 : decode cX1_link 13 = .ok (.iconst 0, 1) := by decide +kernel
theorem dX1_link_14 : decode cX1_link 14 = .ok (.ireturn, 1) := by decide +kernel
theorem dX1_link_15 : decode cX1_link 15 = .ok (.aload_n 0, 1) := by decide +kernel
theorem dX1_link_16 : decode cX1_link 16 = .ok (.getfield 9, 3) := by decide +kernel
theorem dX1_link_19 : decode cX1_link 19 = .ok (.iload_n 1, 1) := by decide +kernel
theorem dX1_link_20 : decode cX1_link 20 = .ok (.dup2, 1) := by decide +kernel
theorem dX1_link_21 : decode cX1_link 21 = .ok (.iaload, 1) := by decide +kernel
theorem dX1_link_22 : decode cX1_link 22 = .ok (.iload_n 2, 1) := by decide +kernel
theorem dX1_link_23 : decode cX1_link 23 = .ok (.invokestatic 24, 3) := by decide +kernel
theorem dX1_link_26 : decode cX1_link 26 = .ok (.ior, 1) := by decide +kernel
theorem dX1_link_27 : decode cX1_link 27 = .ok (.iastore, 1) := by decide +kernel
theorem dX1_link_28 : decode cX1_link 28 = .ok (.aload_n 0, 1) := by decide +kernel
theorem dX1_link_29 : decode cX1_link 29 = .ok (.getfield 15, 3) := by decide +kernel
theorem dX1_link_32 : decode cX1_link 32 = .ok (.iload_n 2, 1) := by decide +kernel
theorem dX1_link_33 : decode cX1_link 33 = .ok (.dup2, 1) := by decide +kernel
theorem dX1_link_34 : decode cX1_link 34 = .ok (.iaload, 1) := by decide +kernel
theorem dX1_link_35 : decode cX1_link 35 = .ok (.iload_n 1, 1) := by decide +kernel
theorem dX1_link_36 : decode cX1_link 36 = .ok (.invokestatic 24, 3) := by decide +kernel
theorem dX1_link_39 : decode cX1_link 39 = .ok (.ior, 1) := by decide +kernel
theorem dX1_link_40 : decode cX1_link 40 = .ok (.iastore, 1) := by decide +kernel
theorem dX1_link_41 : decode cX1_link 41 = .ok (.aload_n 0, 1) := by decide +kernel
theorem dX1_link_42 : decode cX1_link 42 = .ok (.invokevirtual 32, 3) := by decide +kernel
theorem dX1_link_45 : decode cX1_link 45 = .ok (.iconst 1, 1) := by decide +kernel
theorem dX1_link_46 : decode cX1_link 46 = .ok (.ireturn, 1) := by decide +kernel
theorem dX1_unlink_0 : decode cX1_unlink 0 = .ok (.aload_n 0, 1) := by decide +kernel
theorem dX1_unlink_1 : decode cX1_unlink 1 = .ok (.getfield 9, 3) := by decide +kernel
theorem dX1_unlink_4 : decode cX1_unlink 4 = .ok (.iload_n 1, 1) := by decide +kernel
theorem dX1_unlink_5 : decode cX1_unlink 5 = .ok (.iaload, 1) := by decide +kernel
theorem dX1_unlink_6 : decode cX1_unlink 6 = .ok (.iload_n 2, 1) := by decide +kernel
theorem dX1_unlink_7 : decode cX1_unlink 7 = .ok (.invokestatic 28, 3) := by decide +kernel
theorem dX1_unlink_10 : decode cX1_unlink 10 = .ok (.ifCond .ne 5, 3) := by decide +kernel
theorem dX1_unlink_13 : decode cX1_unlink 13 = .ok (.iconst 0, 1) := by decide +kernel
theorem dX1_unlink_14 : decode cX1_unlink 14 = .ok (.ireturn, 1) := by decide +kernel
theorem dX1_unlink_15 : decode cX1_unlink 15 = .ok (.aload_n 0, 1) := by decide +kernel
theorem dX1_unlink_16 : decode cX1_unlink 16 = .ok (.getfield 9, 3) := by decide +kernel
theorem dX1_unlink_19 : decode cX1_unlink 19 = .ok (.iload_n 1, 1) := by decide +kernel
theorem dX1_unlink_20 : decode cX1_unlink 20 = .ok (.dup2, 1) := by decide +kernel
theorem dX1_unlink_21 : decode cX1_unlink 21 = .ok (.iaload, 1) := by decide +kernel
theorem dX1_unlink_22 : decode cX1_unlink 22 = .ok (.iload_n 2, 1) := by decide +kernel
theorem dX1_unlink_23 : decode cX1_unlink 23 = .ok (.invokestatic 24, 3) := by decide +kernel
theorem dX1_unlink_26 : decode cX1_unlink 26 = .ok (.iconst (-1), 1) := by decide +kernel
theorem dX1_unlink_27 : decode cX1_unlink 27 = .ok (.ixor, 1) := by decide +kernel
theorem dX1_unlink_28 : decode cX1_unlink 28 = .ok (.iand, 1) := by decide +kernel
theorem dX1_unlink_29 : decode cX1_unlink 29 = .ok (.iastore, 1) := by decide +kernel
theorem dX1_unlink_30 : decode cX1_unlink 30 = .ok (.aload_n 0, 1) := by decide +kernel
theorem dX1_unlink_31 : decode cX1_unlink 31 = .ok (.getfield 15, 3) := by decide +kernel
theorem dX1_unlink_34 : decode cX1_unlink 34 = .ok (.iload_n 2, 1) := by decide +kernel
theorem dX1_unlink_35 : decode cX1_unlink 35 = .ok (.dup2, 1) := by decide +kernel
theorem dX1_unlink_36 : decode cX1_unlink 36 = .ok (.iaload, 1) := by decide +kernel
theorem dX1_unlink_37 : decode cX1_unlink 37 = .ok (.iload_n 1, 1) := by decide +kernel
theorem dX1_unlink_38 : decode cX1_unlink 38 = .ok (.invokestatic 24, 3) := by decide +kernel
theorem dX1_unlink_41 : decode cX1_unlink 41 = .ok (.iconst (-1), 1) := by decide +kernel
theorem dX1_unlink_42 : decode cX1_unlink 42 = .ok (.ixor, 1) := by decide +kernel
theorem dX1_unlink_43 : decode cX1_unlink 43 = .ok (.iand, 1) := by decide +kernel
theorem dX1_unlink_44 : decode cX1_unlink 44 = .ok (.iastore, 1) := by decide +kernel
theorem dX1_unlink_45 : decode cX1_unlink 45 = .ok (.aload_n 0, 1) := by decide +kernel
theorem dX1_unlink_46 : decode cX1_unlink 46 = .ok (.invokevirtual 32, 3) := by decide +kernel
theorem dX1_unlink_49 : decode cX1_unlink 49 = .ok (.iconst 1, 1) := by decide +kernel
theorem dX1_unlink_50 : decode cX1_unlink 50 = .ok (.ireturn, 1) := by decide +kernel
theorem dX1_longestWayDown_0 : decode cX1_longestWayDown 0 = .ok (.iconst 0, 1) := by decide +kernel
theorem dX1_longestWayDown_1 : decode cX1_longestWayDown 1 = .ok (.istore_n 2, 1) := by decide +kernel
theorem dX1_longestWayDown_2 : decode cX1_longestWayDown 2 = .ok (.aload_n 0, 1) := by decide +kernel
theorem dX1_longestWayDown_3 : decode cX1_longestWayDown 3 = .ok (.getfield 9, 3) := by decide +kernel
theorem dX1_longestWayDown_6 : decode cX1_longestWayDown 6 = .ok (.iload_n 1, 1) := by decide +kernel
theorem dX1_longestWayDown_7 : decode cX1_longestWayDown 7 = .ok (.invokestatic 24, 3) := by decide +kernel
theorem dX1_longestWayDown_10 : decode cX1_longestWayDown 10 = .ok (.invokestatic 35, 3) := by decide +kernel
theorem dX1_longestWayDown_13 : decode cX1_longestWayDown 13 = .ok (.istore_n 3, 1) := by decide +kernel
theorem dX1_longestWayDown_14 : decode cX1_longestWayDown 14 = .ok (.iload_n 3, 1) := by decide +kernel
theorem dX1_longestWayDown_15 : decode cX1_longestWayDown 15 = .ok (.ifCond .eq 24, 3) := by decide +kernel
theorem dX1_longestWayDown_18 : decode cX1_longestWayDown 18 = .ok (.iload_n 2, 1) := by decide +kernel
theorem dX1_longestWayDown_19 : decode cX1_longestWayDown 19 = .ok (.bipush 14, 2) := by decide +kernel
theorem dX1_longestWayDown_21 : decode cX1_longestWayDown 21 = .ok (.if_icmp .ge 18, 3) := by decide +kernel
theorem dX1_longestWayDown_24 : decode cX1_longestWayDown 24 = .ok (.iinc 2 1, 3) := by decide +kernel
theorem dX1_longestWayDown_27 : decode cX1_longestWayDown 27 = .ok (.aload_n 0, 1) := by decide +kernel
theorem dX1_longestWayDown_28 : decode cX1_longestWayDown 28 = .ok (.getfield 9, 3) := by decide +kernel
theorem dX1_longestWayDown_31 : decode cX1_longestWayDown 31 = .ok (.iload_n 3, 1) := by decide +kernel
theorem dX1_longestWayDown_32 : decode cX1_longestWayDown 32 = .ok (.invokestatic 35, 3) := by decide +kernel
theorem dX1_longestWayDown_35 : decode cX1_longestWayDown 35 = .ok (.istore_n 3, 1) := by decide +kernel
theorem dX1_longestWayDown_36 : decode cX1_longestWayDown 36 = .ok (.goto (-22), 3) := by decide +kernel
theorem dX1_longestWayDown_39 : decode cX1_longestWayDown 39 = .ok (.iload_n 2, 1) := by decide +kernel
theorem dX1_longestWayDown_40 : decode cX1_longestWayDown 40 = .ok (.ireturn, 1) := by decide +kernel
theorem dX1_followAll_0 : decode cX1_followAll 0 = .ok (.iconst 0, 1) := by decide +kernel
theorem dX1_followAll_1 : decode cX1_followAll 1 = .ok (.istore_n 1, 1) := by decide +kernel
theorem dX1_followAll_2 : decode cX1_followAll 2 = .ok (.iload_n 1, 1) := by decide +kernel
theorem dX1_followAll_3 : decode cX1_followAll 3 = .ok (.bipush 14, 2) := by decide +kernel
theorem dX1_followAll_5 : decode cX1_followAll 5 = .ok (.if_icmp .ge 37, 3) := by decide +kernel
theorem dX1_followAll_8 : decode cX1_followAll 8 = .ok (.aload_n 0, 1) := by decide +kernel
theorem dX1_followAll_9 : decode cX1_followAll 9 = .ok (.getfield 18, 3) := by decide +kernel
theorem dX1_followAll_12 : decode cX1_followAll 12 = .ok (.iload_n 1, 1) := by decide +kernel
theorem dX1_followAll_13 : decode cX1_followAll 13 = .ok (.aload_n 0, 1) := by decide +kernel
theorem dX1_followAll_14 : decode cX1_followAll 14 = .ok (.getfield 9, 3) := by decide +kernel
theorem dX1_followAll_17 : decode cX1_followAll 17 = .ok (.iload_n 1, 1) := by decide +kernel
theorem dX1_followAll_18 : decode cX1_followAll 18 = .ok (.invokestatic 39, 3) := by decide +kernel
theorem dX1_followAll_21 : decode cX1_followAll 21 = .ok (.iastore, 1) := by decide +kernel
theorem dX1_followAll_22 : decode cX1_followAll 22 = .ok (.aload_n 0, 1) := by decide +kernel
theorem dX1_followAll_23 : decode cX1_followAll 23 = .ok (.getfield 21, 3) := by decide +kernel
theorem dX1_followAll_26 : decode cX1_followAll 26 = .ok (.iload_n 1, 1) := by decide +kernel
theorem dX1_followAll_27 : decode cX1_followAll 27 = .ok (.aload_n 0, 1) := by decide +kernel
theorem dX1_followAll_28 : decode cX1_followAll 28 = .ok (.getfield 15, 3) := by decide +kernel
theorem dX1_followAll_31 : decode cX1_followAll 31 = .ok (.iload_n 1, 1) := by decide +kernel
theorem dX1_followAll_32 : decode cX1_followAll 32 = .ok (.invokestatic 39, 3) := by decide +kernel
theorem dX1_followAll_35 : decode cX1_followAll 35 = .ok (.iastore, 1) := by decide +kernel
theorem dX1_followAll_36 : decode cX1_followAll 36 = .ok (.iinc 1 1, 3) := by decide +kernel
theorem dX1_followAll_39 : decode cX1_followAll 39 = .ok (.goto (-37), 3) := by decide +kernel
theorem dX1_followAll_42 : decode cX1_followAll 42 = .ok (.return_, 1) := by decide +kernel
theorem dX1_follow_0 : decode cX1_follow 0 = .ok (.iconst 0, 1) := by decide +kernel
theorem dX1_follow_1 : decode cX1_follow 1 = .ok (.istore_n 2, 1) := by decide +kernel
theorem dX1_follow_2 : decode cX1_follow 2 = .ok (.iload_n 1, 1) := by decide +kernel
theorem dX1_follow_3 : decode cX1_follow 3 = .ok (.invokestatic 24, 3) := by decide +kernel
theorem dX1_follow_6 : decode cX1_follow 6 = .ok (.istore_n 3, 1) := by decide +kernel
theorem dX1_follow_7 : decode cX1_follow 7 = .ok (.iconst 0, 1) := by decide +kernel
theorem dX1_follow_8 : decode cX1_follow 8 = .ok (.istore 4, 2) := by decide +kernel
theorem dX1_follow_10 : decode cX1_follow 10 = .ok (.iload 4, 2) := by decide +kernel
theorem dX1_follow_12 : decode cX1_follow 12 = .ok (.bipush 14, 2) := by decide +kernel
theorem dX1_follow_14 : decode cX1_follow 14 = .ok (.if_icmp .ge 23, 3) := by decide +kernel
theorem dX1_follow_17 : decode cX1_follow 17 = .ok (.iload_n 3, 1) := by decide +kernel
theorem dX1_follow_18 : decode cX1_follow 18 = .ok (.ifCond .eq 19, 3) := by decide +kernel
theorem dX1_follow_21 : decode cX1_follow 21 = .ok (.aload_n 0, 1) := by decide +kernel
theorem dX1_follow_22 : decode cX1_follow 22 = .ok (.iload_n 3, 1) := by decide +kernel
theorem dX1_follow_23 : decode cX1_follow 23 = .ok (.invokestatic 35, 3) := by decide +kernel
theorem dX1_follow_26 : decode cX1_follow 26 = .ok (.istore_n 3, 1) := by decide +kernel
theorem dX1_follow_27 : decode cX1_follow 27 = .ok (.iload_n 2, 1) := by decide +kernel
theorem dX1_follow_28 : decode cX1_follow 28 = .ok (.iload_n 3, 1) := by decide +kernel
theorem dX1_follow_29 : decode cX1_follow 29 = .ok (.ior, 1) := by decide +kernel
theorem dX1_follow_30 : decode cX1_follow 30 = .ok (.istore_n 2, 1) := by decide +kernel
theorem dX1_follow_31 : decode cX1_follow 31 = .ok (.iinc 4 1, 3) := by decide +kernel
theorem dX1_follow_34 : decode cX1_follow 34 = .ok (.goto (-24), 3) := by decide +kernel
theorem dX1_follow_37 : decode cX1_follow 37 = .ok (.iload_n 2, 1) := by decide +kernel
theorem dX1_follow_38 : decode cX1_follow 38 = .ok (.ireturn, 1) := by decide +kernel
theorem dX1_step_0 : decode cX1_step 0 = .ok (.iconst 0, 1) := by decide +kernel
theorem dX1_step_1 : decode cX1_step 1 = .ok (.istore_n 2, 1) := by decide +kernel
theorem dX1_step_2 : decode cX1_step 2 = .ok (.iconst 0, 1) := by decide +kernel
theorem dX1_step_3 : decode cX1_step 3 = .ok (.istore_n 3, 1) := by decide +kernel
theorem dX1_step_4 : decode cX1_step 4 = .ok (.iload_n 3, 1) := by decide +kernel
theorem dX1_step_5 : decode cX1_step 5 = .ok (.bipush 14, 2) := by decide +kernel
theorem dX1_step_7 : decode cX1_step 7 = .ok (.if_icmp .ge 23, 3) := by decide +kernel
