theorem dX7_init_0 : decode cX7_init 0 = .ok (.aload_n 0, 1) := by decide +kernel
theorem dX7_init_1 : decode cX7_init 1 = .ok (.invokespecial 1, 3) := by decide +kernel
theorem dX7_init_4 : decode cX7_init 4 = .ok (.aload_n 0, 1) := by decide +kernel
theorem dX7_init_5 : decode cX7_init 5 = .ok (.sipush 439, 3) := by decide +kernel
theorem dX7_init_8 : decode cX7_init 8 = .ok (.newarray .int, 2) := by decide +kernel
theorem dX7_init_10 : decode cX7_init 10 = .ok (.putfield 7, 3) := by decide +kernel
theorem dX7_init_13 : decode cX7_init 13 = .ok (.aload_n 0, 1) := by decide +kernel
theorem dX7_init_14 : decode cX7_init 14 = .ok (.sipush 439, 3) := by decide +kernel
theorem dX7_init_17 : decode cX7_init 17 = .ok (.newarray .int, 2) := by decide +kernel
theorem dX7_init_19 : decode cX7_init 19 = .ok (.putfield 13, 3) := by decide +kernel
theorem dX7_init_22 : decode cX7_init 22 = .ok (.aload_n 0, 1) := by decide +kernel
theorem dX7_init_23 : decode cX7_init 23 = .ok (.sipush 439, 3) := by decide +kernel
theorem dX7_init_26 : decode cX7_init 26 = .ok (.newarray .int, 2) := by decide +kernel
theorem dX7_init_28 : decode cX7_init 28 = .ok (.putfield 16, 3) := by decide +kernel
theorem dX7_init_31 : decode cX7_init 31 = .ok (.aload_n 0, 1) := by decide +kernel
theorem dX7_init_32 : decode cX7_init 32 = .ok (.sipush 2195, 3) := by decide +kernel
theorem dX7_init_35 : decode cX7_init 35 = .ok (.newarray .int, 2) := by decide +kernel
theorem dX7_init_37 : decode cX7_init 37 = .ok (.putfield 19, 3) := by decide +kernel
theorem dX7_init_40 : decode cX7_init 40 = .ok (.aload_n 0, 1) := by decide +kernel
theorem dX7_init_41 : decode cX7_init 41 = .ok (.bipush 42, 2) := by decide +kernel
theorem dX7_init_43 : decode cX7_init 43 = .ok (.newarray .int, 2) := by decide +kernel
theorem dX7_init_45 : decode cX7_init 45 = .ok (.putfield 22, 3) := by decide +kernel
theorem dX7_init_48 : decode cX7_init 48 = .ok (.return_, 1) := by decide +kernel
theorem dX7_in_0 : decode cX7_in 0 = .ok (.iload_n 0, 1) := by decide +kernel
theorem dX7_in_1 : decode cX7_in 1 = .ok (.iload_n 1, 1) := by decide +kernel
theorem dX7_in_2 : decode cX7_in 2 = .ok (.if_icmp .lt 12, 3) := by decide +kernel
theorem dX7_in_5 : decode cX7_in 5 = .ok (.iload_n 0, 1) := by decide +kernel
theorem dX7_in_6 : decode cX7_in 6 = .ok (.iload_n 2, 1) := by decide +kernel
theorem dX7_in_7 : decode cX7_in 7 = .ok (.if_icmp .gt 7, 3) := by decide +kernel
theorem dX7_in_10 : decode cX7_in 10 = .ok (.iconst 1, 1) := by decide +kernel
theorem dX7_in_11 : decode cX7_in 11 = .ok (.goto 4, 3) := by decide +kernel
theorem dX7_in_14 : decode cX7_in 14 = .ok (.iconst 0, 1) := by decide +kernel
theorem dX7_in_15 : decode cX7_in 15 = .ok (.ireturn, 1) := by decide +kernel
theorem dX7_isPeer_0 : decode cX7_isPeer 0 = .ok (.iload_n 1, 1) := by decide +kernel
theorem dX7_isPeer_1 : decode cX7_isPeer 1 = .ok (.iconst 0, 1) := by decide +kernel
theorem dX7_isPeer_2 : decode cX7_isPeer 2 = .ok (.bipush 11, 2) := by decide +kernel
theorem dX7_isPeer_4 : decode cX7_isPeer 4 = .ok (.invokestatic 25, 3) := by decide +kernel
theorem dX7_isPeer_7 : decode cX7_isPeer 7 = .ok (.ifCond .eq 19, 3) := by decide +kernel
theorem dX7_isPeer_10 : decode cX7_isPeer 10 = .ok (.aload_n 0, 1) := by decide +kernel
theorem dX7_isPeer_11 : decode cX7_isPeer 11 = .ok (.getfield 7, 3) := by decide +kernel
theorem dX7_isPeer_14 : decode cX7_isPeer 14 = .ok (.iconst 4, 1) := by decide +kernel
theorem dX7_isPeer_15 : decode cX7_isPeer 15 = .ok (.iload_n 1, 1) := by decide +kernel
theorem dX7_isPeer_16 : decode cX7_isPeer 16 = .ok (.imul, 1) := by decide +kernel
theorem dX7_isPeer_17 : decode cX7_isPeer 17 = .ok (.iaload, 1) := by decide +kernel
theorem dX7_isPeer_18 : decode cX7_isPeer 18 = .ok (.iconst 1, 1) := by decide +kernel
theorem dX7_isPeer_19 : decode cX7_isPeer 19 = .ok (.if_icmp .ne 7, 3) := by decide +kernel
theorem dX7_isPeer_22 : decode cX7_isPeer 22 = .ok (.iconst 1, 1) := by decide +kernel
theorem dX7_isPeer_23 : decode cX7_isPeer 23 = .ok (.goto 4, 3) := by decide +kernel
theorem dX7_isPeer_26 : decode cX7_isPeer 26 = .ok (.iconst 0, 1) := by decide +kernel
theorem dX7_isPeer_27 : decode cX7_isPeer 27 = .ok (.ireturn, 1) := by decide +kernel
theorem dX7_isFile_0 : decode cX7_isFile 0 = .ok (.iload_n 1, 1) := by decide +kernel
theorem dX7_isFile_1 : decode cX7_isFile 1 = .ok (.iconst 0, 1) := by decide +kernel
theorem dX7_isFile_2 : decode cX7_isFile 2 = .ok (.bipush 7, 2) := by decide +kernel
theorem dX7_isFile_4 : decode cX7_isFile 4 = .ok (.invokestatic 25, 3) := by decide +kernel
theorem dX7_isFile_7 : decode cX7_isFile 7 = .ok (.ifCond .eq 17, 3) := by decide +kernel
theorem dX7_isFile_10 : decode cX7_isFile 10 = .ok (.aload_n 0, 1) := by decide +kernel
theorem dX7_isFile_11 : decode cX7_isFile 11 = .ok (.iload_n 1, 1) := by decide +kernel
theorem dX7_isFile_12 : decode cX7_isFile 12 = .ok (.iconst 0, 1) := by decide +kernel
theorem dX7_isFile_13 : decode cX7_isFile 13 = .ok (.invokevirtual 29, 3) := by decide +kernel
theorem dX7_isFile_16 : decode cX7_isFile 16 = .ok (.iconst 1, 1) := by decide +kernel
theorem dX7_isFile_17 : decode cX7_isFile 17 = .ok (.if_icmp .ne 7, 3) := by decide +kernel
theorem dX7_isFile_20 : decode cX7_isFile 20 = .ok (.iconst 1, 1) := by decide +kernel
theorem dX7_isFile_21 : decode cX7_isFile 21 = .ok (.goto 4, 3) := by decide +kernel
theorem dX7_isFile_24 : decode cX7_isFile 24 = .ok (.iconst 0, 1) := by decide +kernel
theorem dX7_isFile_25 : decode cX7_isFile 25 = .ok (.ireturn, 1) := by decide +kernel
theorem dX7_at_0 : decode cX7_at 0 = .ok (.sipush 192, 3) := by decide +kernel
theorem dX7_at_3 : decode cX7_at 3 = .ok (.bipush 30, 2) := by decide +kernel
theorem dX7_at_5 : decode cX7_at 5 = .ok (.iload_n 0, 1) := by decide +kernel
theorem dX7_at_6 : decode cX7_at 6 = .ok (.imul, 1) := by decide +kernel
theorem dX7_at_7 : decode cX7_at 7 = .ok (.iadd, 1) := by decide +kernel
theorem dX7_at_8 : decode cX7_at 8 = .ok (.iload_n 1, 1) := by decide +kernel
theorem dX7_at_9 : decode cX7_at 9 = .ok (.iadd, 1) := by decide +kernel
theorem dX7_at_10 : decode cX7_at 10 = .ok (.ireturn, 1) := by decide +kernel
theorem dX7_of_0 : decode cX7_of 0 = .ok (.aload_n 0, 1) := by decide +kernel
theorem dX7_of_1 : decode cX7_of 1 = .ok (.getfield 7, 3) := by decide +kernel
theorem dX7_of_4 : decode cX7_of 4 = .ok (.iload_n 1, 1) := by decide +kernel
theorem dX7_of_5 : decode cX7_of 5 = .ok (.iload_n 2, 1) := by decide +kernel
theorem dX7_of_6 : decode cX7_of 6 = .ok (.invokestatic 33, 3) := by decide +kernel
theorem dX7_of_9 : decode cX7_of 9 = .ok (.iaload, 1) := by decide +kernel
theorem dX7_of_10 : decode cX7_of 10 = .ok (.ireturn, 1) := by decide +kernel
theorem dX7_fragments_0 : decode cX7_fragments 0 = .ok (.aload_n 0, 1) := by decide +kernel
theorem dX7_fragments_1 : decode cX7_fragments 1 = .ok (.iload_n 1, 1) := by decide +kernel
theorem dX7_fragments_2 : decode cX7_fragments 2 = .ok (.iconst 2, 1) := by decide +kernel
theorem dX7_fragments_3 : decode cX7_fragments 3 = .ok (.invokevirtual 29, 3) := by decide +kernel
theorem dX7_fragments_6 : decode cX7_fragments 6 = .ok (.aload_n 0, 1) := by decide +kernel
theorem dX7_fragments_7 : decode cX7_fragments 7 = .ok (.iload_n 1, 1) := by decide +kernel
theorem dX7_fragments_8 : decode cX7_fragments 8 = .ok (.iconst 3, 1) := by decide +kernel
theorem dX7_fragments_9 : decode cX7_fragments 9 = .ok (.invokevirtual 29, 3) := by decide +kernel
theorem dX7_fragments_12 : decode cX7_fragments 12 = .ok (.iadd, 1) := by decide +kernel
theorem dX7_fragments_13 : decode cX7_fragments 13 = .ok (.ireturn, 1) := by decide +kernel
theorem dX7_isOnline_0 : decode cX7_isOnline 0 = .ok (.aload_n 0, 1) := by decide +kernel
theorem dX7_isOnline_1 : decode cX7_isOnline 1 = .ok (.getfield 7, 3) := by decide +kernel
theorem dX7_isOnline_4 : decode cX7_isOnline 4 = .ok (.iconst 4, 1) := by decide +kernel
theorem dX7_isOnline_5 : decode cX7_isOnline 5 = .ok (.iload_n 1, 1) := by decide +kernel
theorem dX7_isOnline_6 : decode cX7_isOnline 6 = .ok (.imul, 1) := by decide +kernel
theorem dX7_isOnline_7 : decode cX7_isOnline 7 = .ok (.iconst 2, 1) := by decide +kernel
theorem dX7_isOnline_8 : decode cX7_isOnline 8 = .ok (.iadd, 1) := by decide +kernel
theorem dX7_isOnline_9 : decode cX7_isOnline 9 = .ok (.iaload, 1) := by decide +kernel
theorem dX7_isOnline_10 : decode cX7_isOnline 10 = .ok (.iconst 1, 1) := by decide +kernel
theorem dX7_isOnline_11 : decode cX7_isOnline 11 = .ok (.if_icmp .ne 7, 3) := by decide +kernel
theorem dX7_isOnline_14 : decode cX7_isOnline 14 = .ok (.iconst 1, 1) := by decide +kernel
theorem dX7_isOnline_15 : decode cX7_isOnline 15 = .ok (.goto 4, 3) := by decide +kernel
theorem dX7_isOnline_18 : decode cX7_isOnline 18 = .ok (.iconst 0, 1) := by decide +kernel
theorem dX7_isOnline_19 : decode cX7_isOnline 19 = .ok (.ireturn, 1) := by decide +kernel
theorem dX7_keeps_0 : decode cX7_keeps 0 = .ok (.aload_n 0, 1) := by decide +kernel
theorem dX7_keeps_1 : decode cX7_keeps 1 = .ok (.getfield 36, 3) := by decide +kernel
theorem dX7_keeps_4 : decode cX7_keeps 4 = .ok (.iconst 5, 1) := by decide +kernel
theorem dX7_keeps_5 : decode cX7_keeps 5 = .ok (.if_icmp .ne 44, 3) := by decide +kernel
theorem dX7_keeps_8 : decode cX7_keeps 8 = .ok (.iconst 0, 1) := by decide +kernel
theorem dX7_keeps_9 : decode cX7_keeps 9 = .ok (.istore_n 1, 1) := by decide +kernel
theorem dX7_keeps_10 : decode cX7_keeps 10 = .ok (.iload_n 1, 1) := by decide +kernel
theorem dX7_keeps_11 : decode cX7_keeps 11 = .ok (.sipush 1756, 3) := by decide +kernel
theorem dX7_keeps_14 : decode cX7_keeps 14 = .ok (.if_icmp .ge 25, 3) := by decide +kernel
theorem dX7_keeps_17 : decode cX7_keeps 17 = .ok (.aload_n 0, 1) := by decide +kernel
theorem dX7_keeps_18 : decode cX7_keeps 18 = .ok (.getfield 19, 3) := by decide +kernel
theorem dX7_keeps_21 : decode cX7_keeps 21 = .ok (.iload_n 1, 1) := by decide +kernel
theorem dX7_keeps_22 : decode cX7_keeps 22 = .ok (.aload_n 0, 1) := by decide +kernel
theorem dX7_keeps_23 : decode cX7_keeps 23 = .ok (.getfield 19, 3) := by decide +kernel
theorem dX7_keeps_26 : decode cX7_keeps 26 = .ok (.sipush 439, 3) := by decide +kernel
theorem dX7_keeps_29 : decode cX7_keeps 29 = .ok (.iload_n 1, 1) := by decide +kernel
theorem dX7_keeps_30 : decode cX7_keeps 30 = .ok (.iadd, 1) := by decide +kernel
theorem dX7_keeps_31 : decode cX7_keeps 31 = .ok (.iaload, 1) := by decide +kernel
theorem dX7_keeps_32 : decode cX7_keeps 32 = .ok (.iastore, 1) := by decide +kernel
theorem dX7_keeps_33 : decode cX7_keeps 33 = .ok (.iinc 1 1, 3) := by decide +kernel
theorem dX7_keeps_36 : decode cX7_keeps 36 = .ok (.goto (-26), 3) := by decide +kernel
theorem dX7_keeps_39 : decode cX7_keeps 39 = .ok (.aload_n 0, 1) := by decide +kernel
theorem dX7_keeps_40 : decode cX7_keeps 40 = .ok (.dup, 1) := by decide +kernel
theorem dX7_keeps_41 : decode cX7_keeps 41 = .ok (.getfield 36, 3) := by decide +kernel
theorem dX7_keeps_44 : decode cX7_keeps 44 = .ok (.iconst 1, 1) := by decide +kernel
theorem dX7_keeps_45 : decode cX7_keeps 45 = .ok (.isub, 1) := by decide +kernel
theorem dX7_keeps_46 : decode cX7_keeps 46 = .ok (.putfield 36, 3) := by decide +kernel
theorem dX7_keeps_49 : decode cX7_keeps 49 = .ok (.iconst 0, 1) := by decide +kernel
theorem dX7_keeps_50 : decode cX7_keeps 50 = .ok (.istore_n 1, 1) := by decide +kernel
theorem dX7_keeps_51 : decode cX7_keeps 51 = .ok (.iload_n 1, 1) := by decide +kernel
theorem dX7_keeps_52 : decode cX7_keeps 52 = .ok (.sipush 439, 3) := by decide +kernel
theorem dX7_keeps_55 : decode cX7_keeps 55 = .ok (.if_icmp .ge 30, 3) := by decide +kernel
theorem dX7_keeps_58 : decode cX7_keeps 58 = .ok (.aload_n 0, 1) := by decide +kernel
theorem dX7_keeps_59 : decode cX7_keeps 59 = .ok (.getfield 19, 3) := by decide +kernel
theorem dX7_keeps_62 : decode cX7_keeps 62 = .ok (.sipush 439, 3) := by decide +kernel
theorem dX7_keeps_65 : decode cX7_keeps 65 = .ok (.aload_n 0, 1) := by decide +kernel
theorem dX7_keeps_66 : decode cX7_keeps 66 = .ok (.getfield 36, 3) := by decide +kernel
theorem dX7_keeps_69 : decode cX7_keeps 69 = .ok (.imul, 1) := by decide +kernel
theorem dX7_keeps_70 : decode cX7_keeps 70 = .ok (.iload_n 1, 1) := by decide +kernel
theorem dX7_keeps_71 : decode cX7_keeps 71 = .ok (.iadd, 1) := by decide +kernel
theorem dX7_keeps_72 : decode cX7_keeps 72 = .ok (.aload_n 0, 1) := by decide +kernel
theorem dX7_keeps_73 : decode cX7_keeps 73 = .ok (.getfield 7, 3) := by decide +kernel
theorem dX7_keeps_76 : decode cX7_keeps 76 = .ok (.iload_n 1, 1) := by decide +kernel
theorem dX7_keeps_77 : decode cX7_keeps 77 = .ok (.iaload, 1) := by decide +kernel
theorem dX7_keeps_78 : decode cX7_keeps 78 = .ok (.iastore, 1) := by decide +kernel
theorem dX7_keeps_79 : decode cX7_keeps 79 = .ok (.iinc 1 1, 3) := by decide +kernel
theorem dX7_keeps_82 : decode cX7_keeps 82 = .ok (.goto (-31), 3) := by decide +kernel
theorem dX7_keeps_85 : decode cX7_keeps 85 = .ok (.aload_n 0, 1) := by decide +kernel
theorem dX7_keeps_86 : decode cX7_keeps 86 = .ok (.dup, 1) := by decide +kernel
theorem dX7_keeps_87 : decode cX7_keeps 87 = .ok (.getfield 36, 3) := by decide +kernel
theorem dX7_keeps_90 : decode cX7_keeps 90 = .ok (.iconst 1, 1) := by decide +kernel
theorem dX7_keeps_91 : decode cX7_keeps 91 = .ok (.iadd, 1) := by decide +kernel
theorem dX7_keeps_92 : decode cX7_keeps 92 = .ok (.putfield 36, 3) := by decide +kernel
theorem dX7_keeps_95 : decode cX7_keeps 95 = .ok (.return_, 1) := by decide +kernel
theorem dX7_balanceAt_0 : decode cX7_balanceAt 0 = .ok (.bipush 48, 2) := by decide +kernel
theorem dX7_balanceAt_2 : decode cX7_balanceAt 2 = .ok (.bipush 12, 2) := by decide +kernel
theorem dX7_balanceAt_4 : decode cX7_balanceAt 4 = .ok (.iload_n 0, 1) := by decide +kernel
theorem dX7_balanceAt_5 : decode cX7_balanceAt 5 = .ok (.imul, 1) := by decide +kernel
theorem dX7_balanceAt_6 : decode cX7_balanceAt 6 = .ok (.iadd, 1) := by decide +kernel
theorem dX7_balanceAt_7 : decode cX7_balanceAt 7 = .ok (.iload_n 1, 1) := by decide +kernel
theorem dX7_balanceAt_8 : decode cX7_balanceAt 8 = .ok (.iadd, 1) := by decide +kernel
theorem dX7_balanceAt_9 : decode cX7_balanceAt 9 = .ok (.ireturn, 1) := by decide +kernel
theorem dX7_owes_0 : decode cX7_owes 0 = .ok (.iload_n 1, 1) := by decide +kernel
theorem dX7_owes_1 : decode cX7_owes 1 = .ok (.iload_n 2, 1) := by decide +kernel
theorem dX7_owes_2 : decode cX7_owes 2 = .ok (.if_icmp .eq 31, 3) := by decide +kernel
theorem dX7_owes_5 : decode cX7_owes 5 = .ok (.aload_n 0, 1) := by decide +kernel
theorem dX7_owes_6 : decode cX7_owes 6 = .ok (.getfield 7, 3) := by decide +kernel
theorem dX7_owes_9 : decode cX7_owes 9 = .ok (.iload_n 1, 1) := by decide +kernel
theorem dX7_owes_10 : decode cX7_owes 10 = .ok (.iload_n 2, 1) := by decide +kernel
theorem dX7_owes_11 : decode cX7_owes 11 = .ok (.invokestatic 40, 3) := by decide +kernel
theorem dX7_owes_14 : decode cX7_owes 14 = .ok (.dup2, 1) := by decide +kernel
theorem dX7_owes_15 : decode cX7_owes 15 = .ok (.iaload, 1) := by decide +kernel
theorem dX7_owes_16 : decode cX7_owes 16 = .ok (.iload_n 3, 1) := by decide +kernel
theorem dX7_owes_17 : decode cX7_owes 17 = .ok (.iadd, 1) := by decide +kernel
theorem dX7_owes_18 : decode cX7_owes 18 = .ok (.iastore, 1) := by decide +kernel
theorem dX7_owes_19 : decode cX7_owes 19 = .ok (.aload_n 0, 1) := by decide +kernel
theorem dX7_owes_20 : decode cX7_owes 20 = .ok (.getfield 7, 3) := by decide +kernel
theorem dX7_owes_23 : decode cX7_owes 23 = .ok (.iload_n 2, 1) := by decide +kernel
theorem dX7_owes_24 : decode cX7_owes 24 = .ok (.iload_n 1, 1) := by decide +kernel
theorem dX7_owes_25 : decode cX7_owes 25 = .ok (.invokestatic 40, 3) := by decide +kernel
theorem dX7_owes_28 : decode cX7_owes 28 = .ok (.dup2, 1) := by decide +kernel
theorem dX7_owes_29 : decode cX7_owes 29 = .ok (.iaload, 1) := by decide +kernel
theorem dX7_owes_30 : decode cX7_owes 30 = .ok (.iload_n 3, 1) := by decide +kernel
theorem dX7_owes_31 : decode cX7_owes 31 = .ok (.isub, 1) := by decide +kernel
theorem dX7_owes_32 : decode cX7_owes 32 = .ok (.iastore, 1) := by decide +kernel
theorem dX7_owes_33 : decode cX7_owes 33 = .ok (.return_, 1) := by decide +kernel
theorem dX7_free_0 : decode cX7_free 0 = .ok (.aload_n 0, 1) := by decide +kernel
theorem dX7_free_1 : decode cX7_free 1 = .ok (.getfield 7, 3) := by decide +kernel
theorem dX7_free_4 : decode cX7_free 4 = .ok (.iconst 4, 1) := by decide +kernel
theorem dX7_free_5 : decode cX7_free 5 = .ok (.iload_n 1, 1) := by decide +kernel
theorem dX7_free_6 : decode cX7_free 6 = .ok (.imul, 1) := by decide +kernel
theorem dX7_free_7 : decode cX7_free 7 = .ok (.iconst 1, 1) := by decide +kernel
theorem dX7_free_8 : decode cX7_free 8 = .ok (.iadd, 1) := by decide +kernel
theorem dX7_free_9 : decode cX7_free 9 = .ok (.iaload, 1) := by decide +kernel
theorem dX7_free_10 : decode cX7_free 10 = .ok (.istore_n 2, 1) := by decide +kernel
theorem dX7_free_11 : decode cX7_free 11 = .ok (.iconst 0, 1) := by decide +kernel
theorem dX7_free_12 : decode cX7_free 12 = .ok (.istore_n 3, 1) := by decide +kernel
theorem dX7_free_13 : decode cX7_free 13 = .ok (.iload_n 3, 1) := by decide +kernel
theorem dX7_free_14 : decode cX7_free 14 = .ok (.bipush 8, 2) := by decide +kernel
theorem dX7_free_16 : decode cX7_free 16 = .ok (.if_icmp .ge 58, 3) := by decide +kernel
theorem dX7_free_19 : decode cX7_free 19 = .ok (.iconst 0, 1) := by decide +kernel
theorem dX7_free_20 : decode cX7_free 20 = .ok (.istore 4, 2) := by decide +kernel
theorem dX7_free_22 : decode cX7_free 22 = .ok (.aload_n 0, 1) := by decide +kernel
theorem dX7_free_23 : decode cX7_free 23 = .ok (.iload_n 3, 1) := by decide +kernel
theorem dX7_free_24 : decode cX7_free 24 = .ok (.invokevirtual 43, 3) := by decide +kernel
theorem dX7_free_27 : decode cX7_free 27 = .ok (.ifCond .eq 41, 3) := by decide +kernel
theorem dX7_free_30 : decode cX7_free 30 = .ok (.iload 4, 2) := by decide +kernel
theorem dX7_free_32 : decode cX7_free 32 = .ok (.aload_n 0, 1) := by decide +kernel
theorem dX7_free_33 : decode cX7_free 33 = .ok (.iload_n 3, 1) := by decide +kernel
theorem dX7_free_34 : decode cX7_free 34 = .ok (.invokevirtual 47, 3) := by decide +kernel
theorem dX7_free_37 : decode cX7_free 37 = .ok (.if_icmp .ge 31, 3) := by decide +kernel
theorem dX7_free_40 : decode cX7_free 40 = .ok (.iload_n 2, 1) := by decide +kernel
theorem dX7_free_41 : decode cX7_free 41 = .ok (.aload_n 0, 1) := by decide +kernel
theorem dX7_free_42 : decode cX7_free 42 = .ok (.iload_n 3, 1) := by decide +kernel
theorem dX7_free_43 : decode cX7_free 43 = .ok (.bipush 10, 2) := by decide +kernel
theorem dX7_free_45 : decode cX7_free 45 = .ok (.iload 4, 2) := by decide +kernel
theorem dX7_free_47 : decode cX7_free 47 = .ok (.iadd, 1) := by decide +kernel
theorem dX7_free_48 : decode cX7_free 48 = .ok (.invokevirtual 29, 3) := by decide +kernel
theorem dX7_free_51 : decode cX7_free 51 = .ok (.iload_n 1, 1) := by decide +kernel
theorem dX7_free_52 : decode cX7_free 52 = .ok (.if_icmp .ne 7, 3) := by decide +kernel
theorem dX7_free_55 : decode cX7_free 55 = .ok (.iconst 1, 1) := by decide +kernel
theorem dX7_free_56 : decode cX7_free 56 = .ok (.goto 4, 3) := by decide +kernel
theorem dX7_free_59 : decode cX7_free 59 = .ok (.iconst 0, 1) := by decide +kernel
theorem dX7_free_60 : decode cX7_free 60 = .ok (.isub, 1) := by decide +kernel
theorem dX7_free_61 : decode cX7_free 61 = .ok (.istore_n 2, 1) := by decide +kernel
theorem dX7_free_62 : decode cX7_free 62 = .ok (.iinc 4 1, 3) := by decide +kernel
theorem dX7_free_65 : decode cX7_free 65 = .ok (.goto (-43), 3) := by decide +kernel
theorem dX7_free_68 : decode cX7_free 68 = .ok (.iinc 3 1, 3) := by decide +kernel
theorem dX7_free_71 : decode cX7_free 71 = .ok (.goto (-58), 3) := by decide +kernel
theorem dX7_free_74 : decode cX7_free 74 = .ok (.iload_n 2, 1) := by decide +kernel
theorem dX7_free_75 : decode cX7_free 75 = .ok (.ireturn, 1) := by decide +kernel
theorem dX7_stores_0 : decode cX7_stores 0 = .ok (.iconst 0, 1) := by decide +kernel
theorem dX7_stores_1 : decode cX7_stores 1 = .ok (.istore_n 3, 1) := by decide +kernel
theorem dX7_stores_2 : decode cX7_stores 2 = .ok (.iconst 0, 1) := by decide +kernel
theorem dX7_stores_3 : decode cX7_stores 3 = .ok (.istore 4, 2) := by decide +kernel
theorem dX7_stores_5 : decode cX7_stores 5 = .ok (.iload 4, 2) := by decide +kernel
theorem dX7_stores_7 : decode cX7_stores 7 = .ok (.aload_n 0, 1) := by decide +kernel
theorem dX7_stores_8 : decode cX7_stores 8 = .ok (.iload_n 2, 1) := by decide +kernel
theorem dX7_stores_9 : decode cX7_stores 9 = .ok (.invokevirtual 47, 3) := by decide +kernel
theorem dX7_stores_12 : decode cX7_stores 12 = .ok (.if_icmp .ge 33, 3) := by decide +kernel
theorem dX7_stores_15 : decode cX7_stores 15 = .ok (.iload_n 3, 1) := by decide +kernel
theorem dX7_stores_16 : decode cX7_stores 16 = .ok (.ifCond .ne 17, 3) := by decide +kernel
theorem dX7_stores_19 : decode cX7_stores 19 = .ok (.aload_n 0, 1) := by decide +kernel
theorem dX7_stores_20 : decode cX7_stores 20 = .ok (.iload_n 2, 1) := by decide +kernel
theorem dX7_stores_21 : decode cX7_stores 21 = .ok (.bipush 10, 2) := by decide +kernel
theorem dX7_stores_23 : decode cX7_stores 23 = .ok (.iload 4, 2) := by decide +kernel
theorem dX7_stores_25 : decode cX7_stores 25 = .ok (.iadd, 1) := by decide +kernel
theorem dX7_stores_26 : decode cX7_stores 26 = .ok (.invokevirtual 29, 3) := by decide +kernel
theorem dX7_stores_29 : decode cX7_stores 29 = .ok (.iload_n 1, 1) := by decide +kernel
theorem dX7_stores_30 : decode cX7_stores 30 = .ok (.if_icmp .ne 7, 3) := by decide +kernel
theorem dX7_stores_33 : decode cX7_stores 33 = .ok (.iconst 1, 1) := by decide +kernel
theorem dX7_stores_34 : decode cX7_stores 34 = .ok (.goto 4, 3) := by decide +kernel
theorem dX7_stores_37 : decode cX7_stores 37 = .ok (.iconst 0, 1) := by decide +kernel
theorem dX7_stores_38 : decode cX7_stores 38 = .ok (.istore_n 3, 1) := by decide +kernel
theorem dX7_stores_39 : decode cX7_stores 39 = .ok (.iinc 4 1, 3) := by decide +kernel
theorem dX7_stores_42 : decode cX7_stores 42 = .ok (.goto (-37), 3) := by decide +kernel
theorem dX7_stores_45 : decode cX7_stores 45 = .ok (.iload_n 3, 1) := by decide +kernel
theorem dX7_stores_46 : decode cX7_stores 46 = .ok (.ireturn, 1) := by decide +kernel
theorem dX7_isGood_0 : decode cX7_isGood 0 = .ok (.aload_n 0, 1) := by decide +kernel
theorem dX7_isGood_1 : decode cX7_isGood 1 = .ok (.iload_n 1, 1) := by decide +kernel
theorem dX7_isGood_2 : decode cX7_isGood 2 = .ok (.bipush 10, 2) := by decide +kernel
theorem dX7_isGood_4 : decode cX7_isGood 4 = .ok (.iload_n 2, 1) := by decide +kernel
theorem dX7_isGood_5 : decode cX7_isGood 5 = .ok (.iadd, 1) := by decide +kernel
theorem dX7_isGood_6 : decode cX7_isGood 6 = .ok (.invokevirtual 29, 3) := by decide +kernel
theorem dX7_isGood_9 : decode cX7_isGood 9 = .ok (.istore_n 3, 1) := by decide +kernel
theorem dX7_isGood_10 : decode cX7_isGood 10 = .ok (.iload_n 3, 1) := by decide +kernel
theorem dX7_isGood_11 : decode cX7_isGood 11 = .ok (.ifCond .lt 27, 3) := by decide +kernel
theorem dX7_isGood_14 : decode cX7_isGood 14 = .ok (.aload_n 0, 1) := by decide +kernel
theorem dX7_isGood_15 : decode cX7_isGood 15 = .ok (.iload_n 1, 1) := by decide +kernel
theorem dX7_isGood_16 : decode cX7_isGood 16 = .ok (.bipush 20, 2) := by decide +kernel
theorem dX7_isGood_18 : decode cX7_isGood 18 = .ok (.iload_n 2, 1) := by decide +kernel
theorem dX7_isGood_19 : decode cX7_isGood 19 = .ok (.iadd, 1) := by decide +kernel
theorem dX7_isGood_20 : decode cX7_isGood 20 = .ok (.invokevirtual 29, 3) := by decide +kernel
theorem dX7_isGood_23 : decode cX7_isGood 23 = .ok (.ifCond .ne 15, 3) := by decide +kernel
theorem dX7_isGood_26 : decode cX7_isGood 26 = .ok (.aload_n 0, 1) := by decide +kernel
theorem dX7_isGood_27 : decode cX7_isGood 27 = .ok (.iload_n 3, 1) := by decide +kernel
theorem dX7_isGood_28 : decode cX7_isGood 28 = .ok (.invokevirtual 51, 3) := by decide +kernel
theorem dX7_isGood_31 : decode cX7_isGood 31 = .ok (.ifCond .eq 7, 3) := by decide +kernel
theorem dX7_isGood_34 : decode cX7_isGood 34 = .ok (.iconst 1, 1) := by decide +kernel
theorem dX7_isGood_35 : decode cX7_isGood 35 = .ok (.goto 4, 3) := by decide +kernel
theorem dX7_isGood_38 : decode cX7_isGood 38 = .ok (.iconst 0, 1) := by decide +kernel
theorem dX7_isGood_39 : decode cX7_isGood 39 = .ok (.ireturn, 1) := by decide +kernel
theorem dX7_good_0 : decode cX7_good 0 = .ok (.iconst 0, 1) := by decide +kernel
theorem dX7_good_1 : decode cX7_good 1 = .ok (.istore_n 2, 1) := by decide +kernel
theorem dX7_good_2 : decode cX7_good 2 = .ok (.iconst 0, 1) := by decide +kernel
theorem dX7_good_3 : decode cX7_good 3 = .ok (.istore_n 3, 1) := by decide +kernel
theorem dX7_good_4 : decode cX7_good 4 = .ok (.iload_n 3, 1) := by decide +kernel
theorem dX7_good_5 : decode cX7_good 5 = .ok (.aload_n 0, 1) := by decide +kernel
theorem dX7_good_6 : decode cX7_good 6 = .ok (.iload_n 1, 1) := by decide +kernel
theorem dX7_good_7 : decode cX7_good 7 = .ok (.invokevirtual 47, 3) := by decide +kernel
theorem dX7_good_10 : decode cX7_good 10 = .ok (.if_icmp .ge 26, 3) := by decide +kernel
theorem dX7_good_13 : decode cX7_good 13 = .ok (.iload_n 2, 1) := by decide +kernel
theorem dX7_good_14 : decode cX7_good 14 = .ok (.aload_n 0, 1) := by decide +kernel
theorem dX7_good_15 : decode cX7_good 15 = .ok (.iload_n 1, 1) := by decide +kernel
theorem dX7_good_16 : decode cX7_good 16 = .ok (.iload_n 3, 1) := by decide +kernel
theorem dX7_good_17 : decode cX7_good 17 = .ok (.invokevirtual 54, 3) := by decide +kernel
theorem dX7_good_20 : decode cX7_good 20 = .ok (.ifCond .eq 7, 3) := by decide +kernel
theorem dX7_good_23 : decode cX7_good 23 = .ok (.iconst 1, 1) := by decide +kernel
theorem dX7_good_24 : decode cX7_good 24 = .ok (.goto 4, 3) := by decide +kernel
theorem dX7_good_27 : decode cX7_good 27 = .ok (.iconst 0, 1) := by decide +kernel
theorem dX7_good_28 : decode cX7_good 28 = .ok (.iadd, 1) := by decide +kernel
theorem dX7_good_29 : decode cX7_good 29 = .ok (.istore_n 2, 1) := by decide +kernel
theorem dX7_good_30 : decode cX7_good 30 = .ok (.iinc 3 1, 3) := by decide +kernel
theorem dX7_good_33 : decode cX7_good 33 = .ok (.goto (-29), 3) := by decide +kernel
theorem dX7_good_36 : decode cX7_good 36 = .ok (.iload_n 2, 1) := by decide +kernel
theorem dX7_good_37 : decode cX7_good 37 = .ok (.ireturn, 1) := by decide +kernel
theorem dX7_isSafe_0 : decode cX7_isSafe 0 = .ok (.aload_n 0, 1) := by decide +kernel
theorem dX7_isSafe_1 : decode cX7_isSafe 1 = .ok (.iload_n 1, 1) := by decide +kernel
theorem dX7_isSafe_2 : decode cX7_isSafe 2 = .ok (.invokevirtual 58, 3) := by decide +kernel
theorem dX7_isSafe_5 : decode cX7_isSafe 5 = .ok (.aload_n 0, 1) := by decide +kernel
theorem dX7_isSafe_6 : decode cX7_isSafe 6 = .ok (.iload_n 1, 1) := by decide +kernel
theorem dX7_isSafe_7 : decode cX7_isSafe 7 = .ok (.iconst 2, 1) := by decide +kernel
theorem dX7_isSafe_8 : decode cX7_isSafe 8 = .ok (.invokevirtual 29, 3) := by decide +kernel
theorem dX7_isSafe_11 : decode cX7_isSafe 11 = .ok (.if_icmp .lt 7, 3) := by decide +kernel
theorem dX7_isSafe_14 : decode cX7_isSafe 14 = .ok (.iconst 1, 1) := by decide +kernel
theorem dX7_isSafe_15 : decode cX7_isSafe 15 = .ok (.goto 4, 3) := by decide +kernel
theorem dX7_isSafe_18 : decode cX7_isSafe 18 = .ok (.iconst 0, 1) := by decide +kernel
theorem dX7_isSafe_19 : decode cX7_isSafe 19 = .ok (.ireturn, 1) := by decide +kernel
theorem dX7_power_0 : decode cX7_power 0 = .ok (.iconst 1, 1) := by decide +kernel
theorem dX7_power_1 : decode cX7_power 1 = .ok (.istore_n 2, 1) := by decide +kernel
theorem dX7_power_2 : decode cX7_power 2 = .ok (.iconst 0, 1) := by decide +kernel
theorem dX7_power_3 : decode cX7_power 3 = .ok (.istore_n 3, 1) := by decide +kernel
theorem dX7_power_4 : decode cX7_power 4 = .ok (.iload_n 3, 1) := by decide +kernel
theorem dX7_power_5 : decode cX7_power 5 = .ok (.iload_n 1, 1) := by decide +kernel
theorem dX7_power_6 : decode cX7_power 6 = .ok (.if_icmp .ge 17, 3) := by decide +kernel
theorem dX7_power_9 : decode cX7_power 9 = .ok (.iload_n 2, 1) := by decide +kernel
theorem dX7_power_10 : decode cX7_power 10 = .ok (.iload_n 0, 1) := by decide +kernel
theorem dX7_power_11 : decode cX7_power 11 = .ok (.imul, 1) := by decide +kernel
theorem dX7_power_12 : decode cX7_power 12 = .ok (.sipush 257, 3) := by decide +kernel
theorem dX7_power_15 : decode cX7_power 15 = .ok (.irem, 1) := by decide +kernel
theorem dX7_power_16 : decode cX7_power 16 = .ok (.istore_n 2, 1) := by decide +kernel
theorem dX7_power_17 : decode cX7_power 17 = .ok (.iinc 3 1, 3) := by decide +kernel
theorem dX7_power_20 : decode cX7_power 20 = .ok (.goto (-16), 3) := by decide +kernel
theorem dX7_power_23 : decode cX7_power 23 = .ok (.iload_n 2, 1) := by decide +kernel
theorem dX7_power_24 : decode cX7_power 24 = .ok (.ireturn, 1) := by decide +kernel
theorem dX7_correct_0 : decode cX7_correct 0 = .ok (.aload_n 0, 1) := by decide +kernel
theorem dX7_correct_1 : decode cX7_correct 1 = .ok (.iload_n 1, 1) := by decide +kernel
theorem dX7_correct_2 : decode cX7_correct 2 = .ok (.iconst 2, 1) := by decide +kernel
theorem dX7_correct_3 : decode cX7_correct 3 = .ok (.invokevirtual 29, 3) := by decide +kernel
theorem dX7_correct_6 : decode cX7_correct 6 = .ok (.istore_n 3, 1) := by decide +kernel
theorem dX7_correct_7 : decode cX7_correct 7 = .ok (.iload_n 2, 1) := by decide +kernel
theorem dX7_correct_8 : decode cX7_correct 8 = .ok (.iload_n 3, 1) := by decide +kernel
theorem dX7_correct_9 : decode cX7_correct 9 = .ok (.if_icmp .ge 12, 3) := by decide +kernel
theorem dX7_correct_12 : decode cX7_correct 12 = .ok (.aload_n 0, 1) := by decide +kernel
theorem dX7_correct_13 : decode cX7_correct 13 = .ok (.iload_n 1, 1) := by decide +kernel
theorem dX7_correct_14 : decode cX7_correct 14 = .ok (.iconst 4, 1) := by decide +kernel
theorem dX7_correct_15 : decode cX7_correct 15 = .ok (.iload_n 2, 1) := by decide +kernel
theorem dX7_correct_16 : decode cX7_correct 16 = .ok (.iadd, 1) := by decide +kernel
theorem dX7_correct_17 : decode cX7_correct 17 = .ok (.invokevirtual 29, 3) := by decide +kernel
theorem dX7_correct_20 : decode cX7_correct 20 = .ok (.ireturn, 1) := by decide +kernel
theorem dX7_correct_21 : decode cX7_correct 21 = .ok (.iconst 0, 1) := by decide +kernel
theorem dX7_correct_22 : decode cX7_correct 22 = .ok (.istore 4, 2) := by decide +kernel
theorem dX7_correct_24 : decode cX7_correct 24 = .ok (.iconst 0, 1) := by decide +kernel
theorem dX7_correct_25 : decode cX7_correct 25 = .ok (.istore 5, 2) := by decide +kernel
theorem dX7_correct_27 : decode cX7_correct 27 = .ok (.iload 5, 2) := by decide +kernel
theorem dX7_correct_29 : decode cX7_correct 29 = .ok (.iload_n 3, 1) := by decide +kernel
theorem dX7_correct_30 : decode cX7_correct 30 = .ok (.if_icmp .ge 34, 3) := by decide +kernel
theorem dX7_correct_33 : decode cX7_correct 33 = .ok (.iload 4, 2) := by decide +kernel
theorem dX7_correct_35 : decode cX7_correct 35 = .ok (.aload_n 0, 1) := by decide +kernel
theorem dX7_correct_36 : decode cX7_correct 36 = .ok (.iload_n 1, 1) := by decide +kernel
theorem dX7_correct_37 : decode cX7_correct 37 = .ok (.iconst 4, 1) := by decide +kernel
theorem dX7_correct_38 : decode cX7_correct 38 = .ok (.iload 5, 2) := by decide +kernel
theorem dX7_correct_40 : decode cX7_correct 40 = .ok (.iadd, 1) := by decide +kernel
theorem dX7_correct_41 : decode cX7_correct 41 = .ok (.invokevirtual 29, 3) := by decide +kernel
theorem dX7_correct_44 : decode cX7_correct 44 = .ok (.iload 5, 2) := by decide +kernel
theorem dX7_correct_46 : decode cX7_correct 46 = .ok (.iconst 1, 1) := by decide +kernel
theorem dX7_correct_47 : decode cX7_correct 47 = .ok (.iadd, 1) := by decide +kernel
theorem dX7_correct_48 : decode cX7_correct 48 = .ok (.iload_n 2, 1) := by decide +kernel
theorem dX7_correct_49 : decode cX7_correct 49 = .ok (.iload_n 3, 1) := by decide +kernel
theorem dX7_correct_50 : decode cX7_correct 50 = .ok (.isub, 1) := by decide +kernel
theorem dX7_correct_51 : decode cX7_correct 51 = .ok (.invokestatic 61, 3) := by decide +kernel
theorem dX7_correct_54 : decode cX7_correct 54 = .ok (.imul, 1) := by decide +kernel
theorem dX7_correct_55 : decode cX7_correct 55 = .ok (.iadd, 1) := by decide +kernel
theorem dX7_correct_56 : decode cX7_correct 56 = .ok (.istore 4, 2) := by decide +kernel
theorem dX7_correct_58 : decode cX7_correct 58 = .ok (.iinc 5 1, 3) := by decide +kernel
theorem dX7_correct_61 : decode cX7_correct 61 = .ok (.goto (-34), 3) := by decide +kernel
theorem dX7_correct_64 : decode cX7_correct 64 = .ok (.iload 4, 2) := by decide +kernel
theorem dX7_correct_66 : decode cX7_correct 66 = .ok (.sipush 257, 3) := by decide +kernel
theorem dX7_correct_69 : decode cX7_correct 69 = .ok (.irem, 1) := by decide +kernel
theorem dX7_correct_70 : decode cX7_correct 70 = .ok (.ireturn, 1) := by decide +kernel
theorem dX7_valueOf_0 : decode cX7_valueOf 0 = .ok (.aload_n 0, 1) := by decide +kernel
theorem dX7_valueOf_1 : decode cX7_valueOf 1 = .ok (.iload_n 1, 1) := by decide +kernel
theorem dX7_valueOf_2 : decode cX7_valueOf 2 = .ok (.iload_n 2, 1) := by decide +kernel
theorem dX7_valueOf_3 : decode cX7_valueOf 3 = .ok (.invokevirtual 64, 3) := by decide +kernel
theorem dX7_valueOf_6 : decode cX7_valueOf 6 = .ok (.aload_n 0, 1) := by decide +kernel
theorem dX7_valueOf_7 : decode cX7_valueOf 7 = .ok (.iload_n 1, 1) := by decide +kernel
theorem dX7_valueOf_8 : decode cX7_valueOf 8 = .ok (.bipush 20, 2) := by decide +kernel
theorem dX7_valueOf_10 : decode cX7_valueOf 10 = .ok (.iload_n 2, 1) := by decide +kernel
theorem dX7_valueOf_11 : decode cX7_valueOf 11 = .ok (.iadd, 1) := by decide +kernel
theorem dX7_valueOf_12 : decode cX7_valueOf 12 = .ok (.invokevirtual 29, 3) := by decide +kernel
theorem dX7_valueOf_15 : decode cX7_valueOf 15 = .ok (.iadd, 1) := by decide +kernel
theorem dX7_valueOf_16 : decode cX7_valueOf 16 = .ok (.sipush 257, 3) := by decide +kernel
theorem dX7_valueOf_19 : decode cX7_valueOf 19 = .ok (.irem, 1) := by decide +kernel
theorem dX7_valueOf_20 : decode cX7_valueOf 20 = .ok (.ireturn, 1) := by decide +kernel
theorem dX7_places_0 : decode cX7_places 0 = .ok (.iconst (-1), 1) := by decide +kernel
theorem dX7_places_1 : decode cX7_places 1 = .ok (.istore 4, 2) := by decide +kernel
theorem dX7_places_3 : decode cX7_places 3 = .ok (.iconst 0, 1) := by decide +kernel
theorem dX7_places_4 : decode cX7_places 4 = .ok (.istore 5, 2) := by decide +kernel
theorem dX7_places_6 : decode cX7_places 6 = .ok (.iload 5, 2) := by decide +kernel
theorem dX7_places_8 : decode cX7_places 8 = .ok (.bipush 12, 2) := by decide +kernel
theorem dX7_places_10 : decode cX7_places 10 = .ok (.if_icmp .ge 125, 3) := by decide +kernel
theorem dX7_places_13 : decode cX7_places 13 = .ok (.aload_n 0, 1) := by decide +kernel
theorem dX7_places_14 : decode cX7_places 14 = .ok (.iload 5, 2) := by decide +kernel
theorem dX7_places_16 : decode cX7_places 16 = .ok (.invokevirtual 67, 3) := by decide +kernel
theorem dX7_places_19 : decode cX7_places 19 = .ok (.ifCond .eq 110, 3) := by decide +kernel
theorem dX7_places_22 : decode cX7_places 22 = .ok (.iload 5, 2) := by decide +kernel
theorem dX7_places_24 : decode cX7_places 24 = .ok (.iload_n 3, 1) := by decide +kernel
theorem dX7_places_25 : decode cX7_places 25 = .ok (.if_icmp .eq 104, 3) := by decide +kernel
theorem dX7_places_28 : decode cX7_places 28 = .ok (.aload_n 0, 1) := by decide +kernel
theorem dX7_places_29 : decode cX7_places 29 = .ok (.iload 5, 2) := by decide +kernel
theorem dX7_places_31 : decode cX7_places 31 = .ok (.invokevirtual 51, 3) := by decide +kernel
theorem dX7_places_34 : decode cX7_places 34 = .ok (.ifCond .eq 95, 3) := by decide +kernel
theorem dX7_places_37 : decode cX7_places 37 = .ok (.aload_n 0, 1) := by decide +kernel
theorem dX7_places_38 : decode cX7_places 38 = .ok (.iload 5, 2) := by decide +kernel
theorem dX7_places_40 : decode cX7_places 40 = .ok (.invokevirtual 70, 3) := by decide +kernel
theorem dX7_places_43 : decode cX7_places 43 = .ok (.ifCond .le 86, 3) := by decide +kernel
theorem dX7_places_46 : decode cX7_places 46 = .ok (.aload_n 0, 1) := by decide +kernel
theorem dX7_places_47 : decode cX7_places 47 = .ok (.iload 5, 2) := by decide +kernel
theorem dX7_places_49 : decode cX7_places 49 = .ok (.iload_n 1, 1) := by decide +kernel
theorem dX7_places_50 : decode cX7_places 50 = .ok (.invokevirtual 73, 3) := by decide +kernel
theorem dX7_places_53 : decode cX7_places 53 = .ok (.ifCond .ne 76, 3) := by decide +kernel
theorem dX7_places_56 : decode cX7_places 56 = .ok (.iload 4, 2) := by decide +kernel
theorem dX7_places_58 : decode cX7_places 58 = .ok (.ifCond .ge 7, 3) := by decide +kernel
theorem dX7_places_61 : decode cX7_places 61 = .ok (.iconst 1, 1) := by decide +kernel
theorem dX7_places_62 : decode cX7_places 62 = .ok (.goto 26, 3) := by decide +kernel
theorem dX7_places_65 : decode cX7_places 65 = .ok (.aload_n 0, 1) := by decide +kernel
theorem dX7_places_66 : decode cX7_places 66 = .ok (.getfield 7, 3) := by decide +kernel
theorem dX7_places_69 : decode cX7_places 69 = .ok (.iconst 4, 1) := by decide +kernel
theorem dX7_places_70 : decode cX7_places 70 = .ok (.iload 5, 2) := by decide +kernel
theorem dX7_places_72 : decode cX7_places 72 = .ok (.imul, 1) := by decide +kernel
theorem dX7_places_73 : decode cX7_places 73 = .ok (.iconst 3, 1) := by decide +kernel
theorem dX7_places_74 : decode cX7_places 74 = .ok (.iadd, 1) := by decide +kernel
theorem dX7_places_75 : decode cX7_places 75 = .ok (.iaload, 1) := by decide +kernel
theorem dX7_places_76 : decode cX7_places 76 = .ok (.aload_n 0, 1) := by decide +kernel
theorem dX7_places_77 : decode cX7_places 77 = .ok (.getfield 7, 3) := by decide +kernel
theorem dX7_places_80 : decode cX7_places 80 = .ok (.iconst 4, 1) := by decide +kernel
theorem dX7_places_81 : decode cX7_places 81 = .ok (.iload 4, 2) := by decide +kernel
theorem dX7_places_83 : decode cX7_places 83 = .ok (.imul, 1) := by decide +kernel
theorem dX7_places_84 : decode cX7_places 84 = .ok (.iconst 3, 1) := by decide +kernel
theorem dX7_places_85 : decode cX7_places 85 = .ok (.iadd, 1) := by decide +kernel
theorem dX7_places_86 : decode cX7_places 86 = .ok (.iaload, 1) := by decide +kernel
theorem dX7_places_87 : decode cX7_places 87 = .ok (.isub, 1) := by decide +kernel
theorem dX7_places_88 : decode cX7_places 88 = .ok (.istore 6, 2) := by decide +kernel
theorem dX7_places_90 : decode cX7_places 90 = .ok (.iload 6, 2) := by decide +kernel
theorem dX7_places_92 : decode cX7_places 92 = .ok (.ifCond .ne 19, 3) := by decide +kernel
theorem dX7_places_95 : decode cX7_places 95 = .ok (.aload_n 0, 1) := by decide +kernel
theorem dX7_places_96 : decode cX7_places 96 = .ok (.iload 5, 2) := by decide +kernel
theorem dX7_places_98 : decode cX7_places 98 = .ok (.invokevirtual 70, 3) := by decide +kernel
theorem dX7_places_101 : decode cX7_places 101 = .ok (.aload_n 0, 1) := by decide +kernel
theorem dX7_places_102 : decode cX7_places 102 = .ok (.iload 4, 2) := by decide +kernel
theorem dX7_places_104 : decode cX7_places 104 = .ok (.invokevirtual 70, 3) := by decide +kernel
theorem dX7_places_107 : decode cX7_places 107 = .ok (.isub, 1) := by decide +kernel
theorem dX7_places_108 : decode cX7_places 108 = .ok (.goto 5, 3) := by decide +kernel
theorem dX7_places_111 : decode cX7_places 111 = .ok (.iload 6, 2) := by decide +kernel
theorem dX7_places_113 : decode cX7_places 113 = .ok (.istore 6, 2) := by decide +kernel
theorem dX7_places_115 : decode cX7_places 115 = .ok (.iload 6, 2) := by decide +kernel
theorem dX7_places_117 : decode cX7_places 117 = .ok (.ifCond .le 8, 3) := by decide +kernel
theorem dX7_places_120 : decode cX7_places 120 = .ok (.iload 5, 2) := by decide +kernel
theorem dX7_places_122 : decode cX7_places 122 = .ok (.goto 5, 3) := by decide +kernel
theorem dX7_places_125 : decode cX7_places 125 = .ok (.iload 4, 2) := by decide +kernel
theorem dX7_places_127 : decode cX7_places 127 = .ok (.istore 4, 2) := by decide +kernel
theorem dX7_places_129 : decode cX7_places 129 = .ok (.iinc 5 1, 3) := by decide +kernel
theorem dX7_places_132 : decode cX7_places 132 = .ok (.goto (-126), 3) := by decide +kernel
theorem dX7_places_135 : decode cX7_places 135 = .ok (.aload_n 0, 1) := by decide +kernel
theorem dX7_places_136 : decode cX7_places 136 = .ok (.getfield 7, 3) := by decide +kernel
theorem dX7_places_139 : decode cX7_places 139 = .ok (.iload_n 1, 1) := by decide +kernel
theorem dX7_places_140 : decode cX7_places 140 = .ok (.bipush 10, 2) := by decide +kernel
theorem dX7_places_142 : decode cX7_places 142 = .ok (.iload_n 2, 1) := by decide +kernel
theorem dX7_places_143 : decode cX7_places 143 = .ok (.iadd, 1) := by decide +kernel
theorem dX7_places_144 : decode cX7_places 144 = .ok (.invokestatic 33, 3) := by decide +kernel
theorem dX7_places_147 : decode cX7_places 147 = .ok (.iload 4, 2) := by decide +kernel
theorem dX7_places_149 : decode cX7_places 149 = .ok (.iastore, 1) := by decide +kernel
theorem dX7_places_150 : decode cX7_places 150 = .ok (.iload 4, 2) := by decide +kernel
theorem dX7_places_152 : decode cX7_places 152 = .ok (.ifCond .ge 19, 3) := by decide +kernel
theorem dX7_places_155 : decode cX7_places 155 = .ok (.aload_n 0, 1) := by decide +kernel
theorem dX7_places_156 : decode cX7_places 156 = .ok (.getfield 7, 3) := by decide +kernel
theorem dX7_places_159 : decode cX7_places 159 = .ok (.iload_n 1, 1) := by decide +kernel
theorem dX7_places_160 : decode cX7_places 160 = .ok (.bipush 20, 2) := by decide +kernel
theorem dX7_places_162 : decode cX7_places 162 = .ok (.iload_n 2, 1) := by decide +kernel
theorem dX7_places_163 : decode cX7_places 163 = .ok (.iadd, 1) := by decide +kernel
theorem dX7_places_164 : decode cX7_places 164 = .ok (.invokestatic 33, 3) := by decide +kernel
theorem dX7_places_167 : decode cX7_places 167 = .ok (.iconst 0, 1) := by decide +kernel
theorem dX7_places_168 : decode cX7_places 168 = .ok (.iastore, 1) := by decide +kernel
theorem dX7_places_169 : decode cX7_places 169 = .ok (.iconst 0, 1) := by decide +kernel
theorem dX7_places_170 : decode cX7_places 170 = .ok (.ireturn, 1) := by decide +kernel
theorem dX7_places_171 : decode cX7_places 171 = .ok (.aload_n 0, 1) := by decide +kernel
theorem dX7_places_172 : decode cX7_places 172 = .ok (.aload_n 0, 1) := by decide +kernel
theorem dX7_places_173 : decode cX7_places 173 = .ok (.iload_n 1, 1) := by decide +kernel
theorem dX7_places_174 : decode cX7_places 174 = .ok (.iconst 1, 1) := by decide +kernel
theorem dX7_places_175 : decode cX7_places 175 = .ok (.invokevirtual 29, 3) := by decide +kernel
theorem dX7_places_178 : decode cX7_places 178 = .ok (.iload 4, 2) := by decide +kernel
theorem dX7_places_180 : decode cX7_places 180 = .ok (.iconst 1, 1) := by decide +kernel
theorem dX7_places_181 : decode cX7_places 181 = .ok (.invokevirtual 76, 3) := by decide +kernel
theorem dX7_places_184 : decode cX7_places 184 = .ok (.iconst 1, 1) := by decide +kernel
theorem dX7_places_185 : decode cX7_places 185 = .ok (.ireturn, 1) := by decide +kernel
theorem dX7_join_0 : decode cX7_join 0 = .ok (.iload_n 1, 1) := by decide +kernel
theorem dX7_join_1 : decode cX7_join 1 = .ok (.iconst 1, 1) := by decide +kernel
theorem dX7_join_2 : decode cX7_join 2 = .ok (.bipush 40, 2) := by decide +kernel
theorem dX7_join_4 : decode cX7_join 4 = .ok (.invokestatic 25, 3) := by decide +kernel
theorem dX7_join_7 : decode cX7_join 7 = .ok (.ifCond .ne 7, 3) := by decide +kernel
theorem dX7_join_10 : decode cX7_join 10 = .ok (.sipush (-10001), 3) := by decide +kernel
theorem dX7_join_13 : decode cX7_join 13 = .ok (.ireturn, 1) := by decide +kernel
theorem dX7_join_14 : decode cX7_join 14 = .ok (.iconst 0, 1) := by decide +kernel
theorem dX7_join_15 : decode cX7_join 15 = .ok (.istore_n 2, 1) := by decide +kernel
theorem dX7_join_16 : decode cX7_join 16 = .ok (.iload_n 2, 1) := by decide +kernel
theorem dX7_join_17 : decode cX7_join 17 = .ok (.bipush 12, 2) := by decide +kernel
theorem dX7_join_19 : decode cX7_join 19 = .ok (.if_icmp .ge 17, 3) := by decide +kernel
theorem dX7_join_22 : decode cX7_join 22 = .ok (.aload_n 0, 1) := by decide +kernel
theorem dX7_join_23 : decode cX7_join 23 = .ok (.iload_n 2, 1) := by decide +kernel
theorem dX7_join_24 : decode cX7_join 24 = .ok (.invokevirtual 67, 3) := by decide +kernel
theorem dX7_join_27 : decode cX7_join 27 = .ok (.ifCond .eq 9, 3) := by decide +kernel
theorem dX7_join_30 : decode cX7_join 30 = .ok (.iinc 2 1, 3) := by decide +kernel
theorem dX7_join_33 : decode cX7_join 33 = .ok (.goto (-17), 3) := by decide +kernel
theorem dX7_join_36 : decode cX7_join 36 = .ok (.iload_n 2, 1) := by decide +kernel
theorem dX7_join_37 : decode cX7_join 37 = .ok (.bipush 12, 2) := by decide +kernel
theorem dX7_join_39 : decode cX7_join 39 = .ok (.if_icmp .ne 7, 3) := by decide +kernel
theorem dX7_join_42 : decode cX7_join 42 = .ok (.sipush (-10003), 3) := by decide +kernel
theorem dX7_join_45 : decode cX7_join 45 = .ok (.ireturn, 1) := by decide +kernel
theorem dX7_join_46 : decode cX7_join 46 = .ok (.aload_n 0, 1) := by decide +kernel
theorem dX7_join_47 : decode cX7_join 47 = .ok (.invokevirtual 80, 3) := by decide +kernel
theorem dX7_join_50 : decode cX7_join 50 = .ok (.aload_n 0, 1) := by decide +kernel
theorem dX7_join_51 : decode cX7_join 51 = .ok (.getfield 7, 3) := by decide +kernel
theorem dX7_join_54 : decode cX7_join 54 = .ok (.iconst 4, 1) := by decide +kernel
theorem dX7_join_55 : decode cX7_join 55 = .ok (.iload_n 2, 1) := by decide +kernel
theorem dX7_join_56 : decode cX7_join 56 = .ok (.imul, 1) := by decide +kernel
theorem dX7_join_57 : decode cX7_join 57 = .ok (.iconst 1, 1) := by decide +kernel
theorem dX7_join_58 : decode cX7_join 58 = .ok (.iastore, 1) := by decide +kernel
theorem dX7_join_59 : decode cX7_join 59 = .ok (.aload_n 0, 1) := by decide +kernel
theorem dX7_join_60 : decode cX7_join 60 = .ok (.getfield 7, 3) := by decide +kernel
theorem dX7_join_63 : decode cX7_join 63 = .ok (.iconst 4, 1) := by decide +kernel
theorem dX7_join_64 : decode cX7_join 64 = .ok (.iload_n 2, 1) := by decide +kernel
theorem dX7_join_65 : decode cX7_join 65 = .ok (.imul, 1) := by decide +kernel
theorem dX7_join_66 : decode cX7_join 66 = .ok (.iconst 1, 1) := by decide +kernel
theorem dX7_join_67 : decode cX7_join 67 = .ok (.iadd, 1) := by decide +kernel
theorem dX7_join_68 : decode cX7_join 68 = .ok (.iload_n 1, 1) := by decide +kernel
theorem dX7_join_69 : decode cX7_join 69 = .ok (.iastore, 1) := by decide +kernel
theorem dX7_join_70 : decode cX7_join 70 = .ok (.aload_n 0, 1) := by decide +kernel
theorem dX7_join_71 : decode cX7_join 71 = .ok (.getfield 7, 3) := by decide +kernel
theorem dX7_join_74 : decode cX7_join 74 = .ok (.iconst 4, 1) := by decide +kernel
theorem dX7_join_75 : decode cX7_join 75 = .ok (.iload_n 2, 1) := by decide +kernel
theorem dX7_join_76 : decode cX7_join 76 = .ok (.imul, 1) := by decide +kernel
theorem dX7_join_77 : decode cX7_join 77 = .ok (.iconst 2, 1) := by decide +kernel
theorem dX7_join_78 : decode cX7_join 78 = .ok (.iadd, 1) := by decide +kernel
theorem dX7_join_79 : decode cX7_join 79 = .ok (.iconst 1, 1) := by decide +kernel
theorem dX7_join_80 : decode cX7_join 80 = .ok (.iastore, 1) := by decide +kernel
theorem dX7_join_81 : decode cX7_join 81 = .ok (.aload_n 0, 1) := by decide +kernel
theorem dX7_join_82 : decode cX7_join 82 = .ok (.getfield 7, 3) := by decide +kernel
theorem dX7_join_85 : decode cX7_join 85 = .ok (.iconst 4, 1) := by decide +kernel
theorem dX7_join_86 : decode cX7_join 86 = .ok (.iload_n 2, 1) := by decide +kernel
theorem dX7_join_87 : decode cX7_join 87 = .ok (.imul, 1) := by decide +kernel
theorem dX7_join_88 : decode cX7_join 88 = .ok (.iconst 3, 1) := by decide +kernel
theorem dX7_join_89 : decode cX7_join 89 = .ok (.iadd, 1) := by decide +kernel
theorem dX7_join_90 : decode cX7_join 90 = .ok (.bipush 50, 2) := by decide +kernel
theorem dX7_join_92 : decode cX7_join 92 = .ok (.iastore, 1) := by decide +kernel
theorem dX7_join_93 : decode cX7_join 93 = .ok (.iload_n 2, 1) := by decide +kernel
theorem dX7_join_94 : decode cX7_join 94 = .ok (.ireturn, 1) := by decide +kernel
theorem dX7_owned_0 : decode cX7_owned 0 = .ok (.iconst 0, 1) := by decide +kernel
theorem dX7_owned_1 : decode cX7_owned 1 = .ok (.istore_n 2, 1) := by decide +kernel
theorem dX7_owned_2 : decode cX7_owned 2 = .ok (.iconst 0, 1) := by decide +kernel
theorem dX7_owned_3 : decode cX7_owned 3 = .ok (.istore_n 3, 1) := by decide +kernel
theorem dX7_owned_4 : decode cX7_owned 4 = .ok (.iload_n 3, 1) := by decide +kernel
theorem dX7_owned_5 : decode cX7_owned 5 = .ok (.bipush 8, 2) := by decide +kernel
theorem dX7_owned_7 : decode cX7_owned 7 = .ok (.if_icmp .ge 35, 3) := by decide +kernel
theorem dX7_owned_10 : decode cX7_owned 10 = .ok (.iload_n 2, 1) := by decide +kernel
theorem dX7_owned_11 : decode cX7_owned 11 = .ok (.aload_n 0, 1) := by decide +kernel
theorem dX7_owned_12 : decode cX7_owned 12 = .ok (.iload_n 3, 1) := by decide +kernel
theorem dX7_owned_13 : decode cX7_owned 13 = .ok (.invokevirtual 43, 3) := by decide +kernel
theorem dX7_owned_16 : decode cX7_owned 16 = .ok (.ifCond .eq 17, 3) := by decide +kernel
theorem dX7_owned_19 : decode cX7_owned 19 = .ok (.aload_n 0, 1) := by decide +kernel
theorem dX7_owned_20 : decode cX7_owned 20 = .ok (.iload_n 3, 1) := by decide +kernel
theorem dX7_owned_21 : decode cX7_owned 21 = .ok (.iconst 1, 1) := by decide +kernel
theorem dX7_owned_22 : decode cX7_owned 22 = .ok (.invokevirtual 29, 3) := by decide +kernel
theorem dX7_owned_25 : decode cX7_owned 25 = .ok (.iload_n 1, 1) := by decide +kernel
theorem dX7_owned_26 : decode cX7_owned 26 = .ok (.if_icmp .ne 7, 3) := by decide +kernel
theorem dX7_owned_29 : decode cX7_owned 29 = .ok (.iconst 1, 1) := by decide +kernel
theorem dX7_owned_30 : decode cX7_owned 30 = .ok (.goto 4, 3) := by decide +kernel
theorem dX7_owned_33 : decode cX7_owned 33 = .ok (.iconst 0, 1) := by decide +kernel
theorem dX7_owned_34 : decode cX7_owned 34 = .ok (.iadd, 1) := by decide +kernel
theorem dX7_owned_35 : decode cX7_owned 35 = .ok (.istore_n 2, 1) := by decide +kernel
theorem dX7_owned_36 : decode cX7_owned 36 = .ok (.iinc 3 1, 3) := by decide +kernel
theorem dX7_owned_39 : decode cX7_owned 39 = .ok (.goto (-35), 3) := by decide +kernel
theorem dX7_owned_42 : decode cX7_owned 42 = .ok (.iload_n 2, 1) := by decide +kernel
theorem dX7_owned_43 : decode cX7_owned 43 = .ok (.ireturn, 1) := by decide +kernel
theorem dX7_goes_0 : decode cX7_goes 0 = .ok (.iconst 0, 1) := by decide +kernel
theorem dX7_goes_1 : decode cX7_goes 1 = .ok (.istore_n 2, 1) := by decide +kernel
theorem dX7_goes_2 : decode cX7_goes 2 = .ok (.iload_n 2, 1) := by decide +kernel
theorem dX7_goes_3 : decode cX7_goes 3 = .ok (.iconst 4, 1) := by decide +kernel
theorem dX7_goes_4 : decode cX7_goes 4 = .ok (.if_icmp .ge 20, 3) := by decide +kernel
theorem dX7_goes_7 : decode cX7_goes 7 = .ok (.aload_n 0, 1) := by decide +kernel
theorem dX7_goes_8 : decode cX7_goes 8 = .ok (.getfield 7, 3) := by decide +kernel
theorem dX7_goes_11 : decode cX7_goes 11 = .ok (.iconst 4, 1) := by decide +kernel
theorem dX7_goes_12 : decode cX7_goes 12 = .ok (.iload_n 1, 1) := by decide +kernel
theorem dX7_goes_13 : decode cX7_goes 13 = .ok (.imul, 1) := by decide +kernel
theorem dX7_goes_14 : decode cX7_goes 14 = .ok (.iload_n 2, 1) := by decide +kernel
theorem dX7_goes_15 : decode cX7_goes 15 = .ok (.iadd, 1) := by decide +kernel
theorem dX7_goes_16 : decode cX7_goes 16 = .ok (.iconst 0, 1) := by decide +kernel
theorem dX7_goes_17 : decode cX7_goes 17 = .ok (.iastore, 1) := by decide +kernel
theorem dX7_goes_18 : decode cX7_goes 18 = .ok (.iinc 2 1, 3) := by decide +kernel
theorem dX7_goes_21 : decode cX7_goes 21 = .ok (.goto (-19), 3) := by decide +kernel
theorem dX7_goes_24 : decode cX7_goes 24 = .ok (.iconst 0, 1) := by decide +kernel
theorem dX7_goes_25 : decode cX7_goes 25 = .ok (.istore_n 2, 1) := by decide +kernel
theorem dX7_goes_26 : decode cX7_goes 26 = .ok (.iload_n 2, 1) := by decide +kernel
theorem dX7_goes_27 : decode cX7_goes 27 = .ok (.bipush 12, 2) := by decide +kernel
theorem dX7_goes_29 : decode cX7_goes 29 = .ok (.if_icmp .ge 31, 3) := by decide +kernel
theorem dX7_goes_32 : decode cX7_goes 32 = .ok (.aload_n 0, 1) := by decide +kernel
theorem dX7_goes_33 : decode cX7_goes 33 = .ok (.getfield 7, 3) := by decide +kernel
theorem dX7_goes_36 : decode cX7_goes 36 = .ok (.iload_n 1, 1) := by decide +kernel
theorem dX7_goes_37 : decode cX7_goes 37 = .ok (.iload_n 2, 1) := by decide +kernel
theorem dX7_goes_38 : decode cX7_goes 38 = .ok (.invokestatic 40, 3) := by decide +kernel
theorem dX7_goes_41 : decode cX7_goes 41 = .ok (.iconst 0, 1) := by decide +kernel
theorem dX7_goes_42 : decode cX7_goes 42 = .ok (.iastore, 1) := by decide +kernel
theorem dX7_goes_43 : decode cX7_goes 43 = .ok (.aload_n 0, 1) := by decide +kernel
theorem dX7_goes_44 : decode cX7_goes 44 = .ok (.getfield 7, 3) := by decide +kernel
theorem dX7_goes_47 : decode cX7_goes 47 = .ok (.iload_n 2, 1) := by decide +kernel
theorem dX7_goes_48 : decode cX7_goes 48 = .ok (.iload_n 1, 1) := by decide +kernel
theorem dX7_goes_49 : decode cX7_goes 49 = .ok (.invokestatic 40, 3) := by decide +kernel
theorem dX7_goes_52 : decode cX7_goes 52 = .ok (.iconst 0, 1) := by decide +kernel
theorem dX7_goes_53 : decode cX7_goes 53 = .ok (.iastore, 1) := by decide +kernel
theorem dX7_goes_54 : decode cX7_goes 54 = .ok (.iinc 2 1, 3) := by decide +kernel
theorem dX7_goes_57 : decode cX7_goes 57 = .ok (.goto (-31), 3) := by decide +kernel
theorem dX7_goes_60 : decode cX7_goes 60 = .ok (.return_, 1) := by decide +kernel
theorem dX7_leaves_0 : decode cX7_leaves 0 = .ok (.iconst 0, 1) := by decide +kernel
theorem dX7_leaves_1 : decode cX7_leaves 1 = .ok (.istore_n 2, 1) := by decide +kernel
theorem dX7_leaves_2 : decode cX7_leaves 2 = .ok (.iconst 0, 1) := by decide +kernel
theorem dX7_leaves_3 : decode cX7_leaves 3 = .ok (.istore_n 3, 1) := by decide +kernel
theorem dX7_leaves_4 : decode cX7_leaves 4 = .ok (.iload_n 3, 1) := by decide +kernel
theorem dX7_leaves_5 : decode cX7_leaves 5 = .ok (.bipush 80, 2) := by decide +kernel
theorem dX7_leaves_7 : decode cX7_leaves 7 = .ok (.if_icmp .ge 76, 3) := by decide +kernel
theorem dX7_leaves_10 : decode cX7_leaves 10 = .ok (.iload_n 3, 1) := by decide +kernel
theorem dX7_leaves_11 : decode cX7_leaves 11 = .ok (.bipush 10, 2) := by decide +kernel
theorem dX7_leaves_13 : decode cX7_leaves 13 = .ok (.idiv, 1) := by decide +kernel
theorem dX7_leaves_14 : decode cX7_leaves 14 = .ok (.istore 4, 2) := by decide +kernel
theorem dX7_leaves_16 : decode cX7_leaves 16 = .ok (.iload_n 3, 1) := by decide +kernel
theorem dX7_leaves_17 : decode cX7_leaves 17 = .ok (.bipush 10, 2) := by decide +kernel
theorem dX7_leaves_19 : decode cX7_leaves 19 = .ok (.irem, 1) := by decide +kernel
theorem dX7_leaves_20 : decode cX7_leaves 20 = .ok (.istore 5, 2) := by decide +kernel
theorem dX7_leaves_22 : decode cX7_leaves 22 = .ok (.aload_n 0, 1) := by decide +kernel
theorem dX7_leaves_23 : decode cX7_leaves 23 = .ok (.iload 4, 2) := by decide +kernel
theorem dX7_leaves_25 : decode cX7_leaves 25 = .ok (.invokevirtual 43, 3) := by decide +kernel
theorem dX7_leaves_28 : decode cX7_leaves 28 = .ok (.ifCond .eq 49, 3) := by decide +kernel
theorem dX7_leaves_31 : decode cX7_leaves 31 = .ok (.iload 5, 2) := by decide +kernel
theorem dX7_leaves_33 : decode cX7_leaves 33 = .ok (.aload_n 0, 1) := by decide +kernel
theorem dX7_leaves_34 : decode cX7_leaves 34 = .ok (.iload 4, 2) := by decide +kernel
theorem dX7_leaves_36 : decode cX7_leaves 36 = .ok (.invokevirtual 47, 3) := by decide +kernel
theorem dX7_leaves_39 : decode cX7_leaves 39 = .ok (.if_icmp .ge 38, 3) := by decide +kernel
theorem dX7_leaves_42 : decode cX7_leaves 42 = .ok (.aload_n 0, 1) := by decide +kernel
theorem dX7_leaves_43 : decode cX7_leaves 43 = .ok (.iload 4, 2) := by decide +kernel
theorem dX7_leaves_45 : decode cX7_leaves 45 = .ok (.bipush 10, 2) := by decide +kernel
theorem dX7_leaves_47 : decode cX7_leaves 47 = .ok (.iload 5, 2) := by decide +kernel
theorem dX7_leaves_49 : decode cX7_leaves 49 = .ok (.iadd, 1) := by decide +kernel
theorem dX7_leaves_50 : decode cX7_leaves 50 = .ok (.invokevirtual 29, 3) := by decide +kernel
theorem dX7_leaves_53 : decode cX7_leaves 53 = .ok (.iload_n 1, 1) := by decide +kernel
theorem dX7_leaves_54 : decode cX7_leaves 54 = .ok (.if_icmp .ne 23, 3) := by decide +kernel
theorem dX7_leaves_57 : decode cX7_leaves 57 = .ok (.iload_n 2, 1) := by decide +kernel
theorem dX7_leaves_58 : decode cX7_leaves 58 = .ok (.aload_n 0, 1) := by decide +kernel
theorem dX7_leaves_59 : decode cX7_leaves 59 = .ok (.iload 4, 2) := by decide +kernel
theorem dX7_leaves_61 : decode cX7_leaves 61 = .ok (.iload 5, 2) := by decide +kernel
theorem dX7_leaves_63 : decode cX7_leaves 63 = .ok (.iload_n 1, 1) := by decide +kernel
theorem dX7_leaves_64 : decode cX7_leaves 64 = .ok (.invokevirtual 83, 3) := by decide +kernel
theorem dX7_leaves_67 : decode cX7_leaves 67 = .ok (.ifCond .eq 7, 3) := by decide +kernel
theorem dX7_leaves_70 : decode cX7_leaves 70 = .ok (.iconst 0, 1) := by decide +kernel
theorem dX7_leaves_71 : decode cX7_leaves 71 = .ok (.goto 4, 3) := by decide +kernel
theorem dX7_leaves_74 : decode cX7_leaves 74 = .ok (.iconst 1, 1) := by decide +kernel
theorem dX7_leaves_75 : decode cX7_leaves 75 = .ok (.iadd, 1) := by decide +kernel
theorem dX7_leaves_76 : decode cX7_leaves 76 = .ok (.istore_n 2, 1) := by decide +kernel
theorem dX7_leaves_77 : decode cX7_leaves 77 = .ok (.iinc 3 1, 3) := by decide +kernel
theorem dX7_leaves_80 : decode cX7_leaves 80 = .ok (.goto (-76), 3) := by decide +kernel
theorem dX7_leaves_83 : decode cX7_leaves 83 = .ok (.aload_n 0, 1) := by decide +kernel
theorem dX7_leaves_84 : decode cX7_leaves 84 = .ok (.iload_n 1, 1) := by decide +kernel
theorem dX7_leaves_85 : decode cX7_leaves 85 = .ok (.invokevirtual 86, 3) := by decide +kernel
theorem dX7_leaves_88 : decode cX7_leaves 88 = .ok (.iload_n 2, 1) := by decide +kernel
theorem dX7_leaves_89 : decode cX7_leaves 89 = .ok (.ireturn, 1) := by decide +kernel
theorem dX7_leave_0 : decode cX7_leave 0 = .ok (.aload_n 0, 1) := by decide +kernel
theorem dX7_leave_1 : decode cX7_leave 1 = .ok (.iload_n 1, 1) := by decide +kernel
theorem dX7_leave_2 : decode cX7_leave 2 = .ok (.invokevirtual 67, 3) := by decide +kernel
theorem dX7_leave_5 : decode cX7_leave 5 = .ok (.ifCond .ne 7, 3) := by decide +kernel
theorem dX7_leave_8 : decode cX7_leave 8 = .ok (.sipush (-10001), 3) := by decide +kernel
theorem dX7_leave_11 : decode cX7_leave 11 = .ok (.ireturn, 1) := by decide +kernel
theorem dX7_leave_12 : decode cX7_leave 12 = .ok (.aload_n 0, 1) := by decide +kernel
theorem dX7_leave_13 : decode cX7_leave 13 = .ok (.iload_n 1, 1) := by decide +kernel
theorem dX7_leave_14 : decode cX7_leave 14 = .ok (.invokevirtual 90, 3) := by decide +kernel
theorem dX7_leave_17 : decode cX7_leave 17 = .ok (.ifCond .gt 11, 3) := by decide +kernel
theorem dX7_leave_20 : decode cX7_leave 20 = .ok (.aload_n 0, 1) := by decide +kernel
theorem dX7_leave_21 : decode cX7_leave 21 = .ok (.iload_n 1, 1) := by decide +kernel
theorem dX7_leave_22 : decode cX7_leave 22 = .ok (.invokevirtual 51, 3) := by decide +kernel
theorem dX7_leave_25 : decode cX7_leave 25 = .ok (.ifCond .ne 7, 3) := by decide +kernel
theorem dX7_leave_28 : decode cX7_leave 28 = .ok (.sipush (-10002), 3) := by decide +kernel
theorem dX7_leave_31 : decode cX7_leave 31 = .ok (.ireturn, 1) := by decide +kernel
theorem dX7_leave_32 : decode cX7_leave 32 = .ok (.aload_n 0, 1) := by decide +kernel
theorem dX7_leave_33 : decode cX7_leave 33 = .ok (.invokevirtual 80, 3) := by decide +kernel
theorem dX7_leave_36 : decode cX7_leave 36 = .ok (.aload_n 0, 1) := by decide +kernel
theorem dX7_leave_37 : decode cX7_leave 37 = .ok (.iload_n 1, 1) := by decide +kernel
theorem dX7_leave_38 : decode cX7_leave 38 = .ok (.invokevirtual 93, 3) := by decide +kernel
theorem dX7_leave_41 : decode cX7_leave 41 = .ok (.ireturn, 1) := by decide +kernel
theorem dX7_deletes_0 : decode cX7_deletes 0 = .ok (.iconst 0, 1) := by decide +kernel
theorem dX7_deletes_1 : decode cX7_deletes 1 = .ok (.istore_n 2, 1) := by decide +kernel
theorem dX7_deletes_2 : decode cX7_deletes 2 = .ok (.iload_n 2, 1) := by decide +kernel
theorem dX7_deletes_3 : decode cX7_deletes 3 = .ok (.bipush 30, 2) := by decide +kernel
theorem dX7_deletes_5 : decode cX7_deletes 5 = .ok (.if_icmp .ge 20, 3) := by decide +kernel
theorem dX7_deletes_8 : decode cX7_deletes 8 = .ok (.aload_n 0, 1) := by decide +kernel
theorem dX7_deletes_9 : decode cX7_deletes 9 = .ok (.getfield 7, 3) := by decide +kernel
theorem dX7_deletes_12 : decode cX7_deletes 12 = .ok (.iload_n 1, 1) := by decide +kernel
theorem dX7_deletes_13 : decode cX7_deletes 13 = .ok (.iload_n 2, 1) := by decide +kernel
theorem dX7_deletes_14 : decode cX7_deletes 14 = .ok (.invokestatic 33, 3) := by decide +kernel
theorem dX7_deletes_17 : decode cX7_deletes 17 = .ok (.iconst 0, 1) := by decide +kernel
theorem dX7_deletes_18 : decode cX7_deletes 18 = .ok (.iastore, 1) := by decide +kernel
theorem dX7_deletes_19 : decode cX7_deletes 19 = .ok (.iinc 2 1, 3) := by decide +kernel
theorem dX7_deletes_22 : decode cX7_deletes 22 = .ok (.goto (-20), 3) := by decide +kernel
theorem dX7_deletes_25 : decode cX7_deletes 25 = .ok (.return_, 1) := by decide +kernel
theorem dX7_crash_0 : decode cX7_crash 0 = .ok (.aload_n 0, 1) := by decide +kernel
theorem dX7_crash_1 : decode cX7_crash 1 = .ok (.iload_n 1, 1) := by decide +kernel
theorem dX7_crash_2 : decode cX7_crash 2 = .ok (.invokevirtual 67, 3) := by decide +kernel
theorem dX7_crash_5 : decode cX7_crash 5 = .ok (.ifCond .ne 7, 3) := by decide +kernel
theorem dX7_crash_8 : decode cX7_crash 8 = .ok (.sipush (-10001), 3) := by decide +kernel
theorem dX7_crash_11 : decode cX7_crash 11 = .ok (.ireturn, 1) := by decide +kernel
theorem dX7_crash_12 : decode cX7_crash 12 = .ok (.aload_n 0, 1) := by decide +kernel
theorem dX7_crash_13 : decode cX7_crash 13 = .ok (.invokevirtual 80, 3) := by decide +kernel
theorem dX7_crash_16 : decode cX7_crash 16 = .ok (.iconst 0, 1) := by decide +kernel
theorem dX7_crash_17 : decode cX7_crash 17 = .ok (.istore_n 2, 1) := by decide +kernel
theorem dX7_crash_18 : decode cX7_crash 18 = .ok (.iconst 0, 1) := by decide +kernel
theorem dX7_crash_19 : decode cX7_crash 19 = .ok (.istore_n 3, 1) := by decide +kernel
theorem dX7_crash_20 : decode cX7_crash 20 = .ok (.iload_n 3, 1) := by decide +kernel
theorem dX7_crash_21 : decode cX7_crash 21 = .ok (.bipush 8, 2) := by decide +kernel
theorem dX7_crash_23 : decode cX7_crash 23 = .ok (.if_icmp .ge 106, 3) := by decide +kernel
theorem dX7_crash_26 : decode cX7_crash 26 = .ok (.aload_n 0, 1) := by decide +kernel
theorem dX7_crash_27 : decode cX7_crash 27 = .ok (.iload_n 3, 1) := by decide +kernel
theorem dX7_crash_28 : decode cX7_crash 28 = .ok (.invokevirtual 43, 3) := by decide +kernel
theorem dX7_crash_31 : decode cX7_crash 31 = .ok (.ifCond .eq 18, 3) := by decide +kernel
theorem dX7_crash_34 : decode cX7_crash 34 = .ok (.aload_n 0, 1) := by decide +kernel
theorem dX7_crash_35 : decode cX7_crash 35 = .ok (.iload_n 3, 1) := by decide +kernel
theorem dX7_crash_36 : decode cX7_crash 36 = .ok (.iconst 1, 1) := by decide +kernel
theorem dX7_crash_37 : decode cX7_crash 37 = .ok (.invokevirtual 29, 3) := by decide +kernel
theorem dX7_crash_40 : decode cX7_crash 40 = .ok (.iload_n 1, 1) := by decide +kernel
theorem dX7_crash_41 : decode cX7_crash 41 = .ok (.if_icmp .ne 8, 3) := by decide +kernel
theorem dX7_crash_44 : decode cX7_crash 44 = .ok (.aload_n 0, 1) := by decide +kernel
theorem dX7_crash_45 : decode cX7_crash 45 = .ok (.iload_n 3, 1) := by decide +kernel
theorem dX7_crash_46 : decode cX7_crash 46 = .ok (.invokevirtual 96, 3) := by decide +kernel
theorem dX7_crash_49 : decode cX7_crash 49 = .ok (.iconst 0, 1) := by decide +kernel
theorem dX7_crash_50 : decode cX7_crash 50 = .ok (.istore 4, 2) := by decide +kernel
theorem dX7_crash_52 : decode cX7_crash 52 = .ok (.aload_n 0, 1) := by decide +kernel
theorem dX7_crash_53 : decode cX7_crash 53 = .ok (.iload_n 3, 1) := by decide +kernel
theorem dX7_crash_54 : decode cX7_crash 54 = .ok (.invokevirtual 43, 3) := by decide +kernel
theorem dX7_crash_57 : decode cX7_crash 57 = .ok (.ifCond .eq 66, 3) := by decide +kernel
theorem dX7_crash_60 : decode cX7_crash 60 = .ok (.iload 4, 2) := by decide +kernel
theorem dX7_crash_62 : decode cX7_crash 62 = .ok (.aload_n 0, 1) := by decide +kernel
theorem dX7_crash_63 : decode cX7_crash 63 = .ok (.iload_n 3, 1) := by decide +kernel
theorem dX7_crash_64 : decode cX7_crash 64 = .ok (.invokevirtual 47, 3) := by decide +kernel
theorem dX7_crash_67 : decode cX7_crash 67 = .ok (.if_icmp .ge 56, 3) := by decide +kernel
theorem dX7_crash_70 : decode cX7_crash 70 = .ok (.aload_n 0, 1) := by decide +kernel
theorem dX7_crash_71 : decode cX7_crash 71 = .ok (.iload_n 3, 1) := by decide +kernel
theorem dX7_crash_72 : decode cX7_crash 72 = .ok (.bipush 10, 2) := by decide +kernel
theorem dX7_crash_74 : decode cX7_crash 74 = .ok (.iload 4, 2) := by decide +kernel
theorem dX7_crash_76 : decode cX7_crash 76 = .ok (.iadd, 1) := by decide +kernel
theorem dX7_crash_77 : decode cX7_crash 77 = .ok (.invokevirtual 29, 3) := by decide +kernel
theorem dX7_crash_80 : decode cX7_crash 80 = .ok (.iload_n 1, 1) := by decide +kernel
theorem dX7_crash_81 : decode cX7_crash 81 = .ok (.if_icmp .ne 36, 3) := by decide +kernel
theorem dX7_crash_84 : decode cX7_crash 84 = .ok (.aload_n 0, 1) := by decide +kernel
theorem dX7_crash_85 : decode cX7_crash 85 = .ok (.getfield 7, 3) := by decide +kernel
theorem dX7_crash_88 : decode cX7_crash 88 = .ok (.iload_n 3, 1) := by decide +kernel
theorem dX7_crash_89 : decode cX7_crash 89 = .ok (.bipush 10, 2) := by decide +kernel
theorem dX7_crash_91 : decode cX7_crash 91 = .ok (.iload 4, 2) := by decide +kernel
theorem dX7_crash_93 : decode cX7_crash 93 = .ok (.iadd, 1) := by decide +kernel
theorem dX7_crash_94 : decode cX7_crash 94 = .ok (.invokestatic 33, 3) := by decide +kernel
theorem dX7_crash_97 : decode cX7_crash 97 = .ok (.iconst (-1), 1) := by decide +kernel
theorem dX7_crash_98 : decode cX7_crash 98 = .ok (.iastore, 1) := by decide +kernel
theorem dX7_crash_99 : decode cX7_crash 99 = .ok (.aload_n 0, 1) := by decide +kernel
theorem dX7_crash_100 : decode cX7_crash 100 = .ok (.getfield 7, 3) := by decide +kernel
theorem dX7_crash_103 : decode cX7_crash 103 = .ok (.iload_n 3, 1) := by decide +kernel
theorem dX7_crash_104 : decode cX7_crash 104 = .ok (.bipush 20, 2) := by decide +kernel
theorem dX7_crash_106 : decode cX7_crash 106 = .ok (.iload 4, 2) := by decide +kernel
theorem dX7_crash_108 : decode cX7_crash 108 = .ok (.iadd, 1) := by decide +kernel
theorem dX7_crash_109 : decode cX7_crash 109 = .ok (.invokestatic 33, 3) := by decide +kernel
theorem dX7_crash_112 : decode cX7_crash 112 = .ok (.iconst 0, 1) := by decide +kernel
theorem dX7_crash_113 : decode cX7_crash 113 = .ok (.iastore, 1) := by decide +kernel
theorem dX7_crash_114 : decode cX7_crash 114 = .ok (.iinc 2 1, 3) := by decide +kernel
theorem dX7_crash_117 : decode cX7_crash 117 = .ok (.iinc 4 1, 3) := by decide +kernel
theorem dX7_crash_120 : decode cX7_crash 120 = .ok (.goto (-68), 3) := by decide +kernel
theorem dX7_crash_123 : decode cX7_crash 123 = .ok (.iinc 3 1, 3) := by decide +kernel
theorem dX7_crash_126 : decode cX7_crash 126 = .ok (.goto (-106), 3) := by decide +kernel
theorem dX7_crash_129 : decode cX7_crash 129 = .ok (.aload_n 0, 1) := by decide +kernel
theorem dX7_crash_130 : decode cX7_crash 130 = .ok (.iload_n 1, 1) := by decide +kernel
theorem dX7_crash_131 : decode cX7_crash 131 = .ok (.invokevirtual 86, 3) := by decide +kernel
theorem dX7_crash_134 : decode cX7_crash 134 = .ok (.iload_n 2, 1) := by decide +kernel
theorem dX7_crash_135 : decode cX7_crash 135 = .ok (.ireturn, 1) := by decide +kernel
theorem dX7_setOnline_0 : decode cX7_setOnline 0 = .ok (.aload_n 0, 1) := by decide +kernel
theorem dX7_setOnline_1 : decode cX7_setOnline 1 = .ok (.iload_n 1, 1) := by decide +kernel
theorem dX7_setOnline_2 : decode cX7_setOnline 2 = .ok (.invokevirtual 67, 3) := by decide +kernel
theorem dX7_setOnline_5 : decode cX7_setOnline 5 = .ok (.ifCond .eq 12, 3) := by decide +kernel
theorem dX7_setOnline_8 : decode cX7_setOnline 8 = .ok (.iload_n 2, 1) := by decide +kernel
theorem dX7_setOnline_9 : decode cX7_setOnline 9 = .ok (.iconst 0, 1) := by decide +kernel
theorem dX7_setOnline_10 : decode cX7_setOnline 10 = .ok (.iconst 1, 1) := by decide +kernel
theorem dX7_setOnline_11 : decode cX7_setOnline 11 = .ok (.invokestatic 25, 3) := by decide +kernel
theorem dX7_setOnline_14 : decode cX7_setOnline 14 = .ok (.ifCond .ne 7, 3) := by decide +kernel
theorem dX7_setOnline_17 : decode cX7_setOnline 17 = .ok (.sipush (-10001), 3) := by decide +kernel
theorem dX7_setOnline_20 : decode cX7_setOnline 20 = .ok (.ireturn, 1) := by decide +kernel
theorem dX7_setOnline_21 : decode cX7_setOnline 21 = .ok (.aload_n 0, 1) := by decide +kernel
theorem dX7_setOnline_22 : decode cX7_setOnline 22 = .ok (.invokevirtual 80, 3) := by decide +kernel
theorem dX7_setOnline_25 : decode cX7_setOnline 25 = .ok (.aload_n 0, 1) := by decide +kernel
theorem dX7_setOnline_26 : decode cX7_setOnline 26 = .ok (.getfield 7, 3) := by decide +kernel
theorem dX7_setOnline_29 : decode cX7_setOnline 29 = .ok (.iconst 4, 1) := by decide +kernel
theorem dX7_setOnline_30 : decode cX7_setOnline 30 = .ok (.iload_n 1, 1) := by decide +kernel
theorem dX7_setOnline_31 : decode cX7_setOnline 31 = .ok (.imul, 1) := by decide +kernel
theorem dX7_setOnline_32 : decode cX7_setOnline 32 = .ok (.iconst 2, 1) := by decide +kernel
theorem dX7_setOnline_33 : decode cX7_setOnline 33 = .ok (.iadd, 1) := by decide +kernel
theorem dX7_setOnline_34 : decode cX7_setOnline 34 = .ok (.iaload, 1) := by decide +kernel
theorem dX7_setOnline_35 : decode cX7_setOnline 35 = .ok (.istore_n 3, 1) := by decide +kernel
theorem dX7_setOnline_36 : decode cX7_setOnline 36 = .ok (.aload_n 0, 1) := by decide +kernel
theorem dX7_setOnline_37 : decode cX7_setOnline 37 = .ok (.getfield 7, 3) := by decide +kernel
theorem dX7_setOnline_40 : decode cX7_setOnline 40 = .ok (.iconst 4, 1) := by decide +kernel
theorem dX7_setOnline_41 : decode cX7_setOnline 41 = .ok (.iload_n 1, 1) := by decide +kernel
theorem dX7_setOnline_42 : decode cX7_setOnline 42 = .ok (.imul, 1) := by decide +kernel
theorem dX7_setOnline_43 : decode cX7_setOnline 43 = .ok (.iconst 2, 1) := by decide +kernel
theorem dX7_setOnline_44 : decode cX7_setOnline 44 = .ok (.iadd, 1) := by decide +kernel
theorem dX7_setOnline_45 : decode cX7_setOnline 45 = .ok (.iload_n 2, 1) := by decide +kernel
theorem dX7_setOnline_46 : decode cX7_setOnline 46 = .ok (.iastore, 1) := by decide +kernel
theorem dX7_setOnline_47 : decode cX7_setOnline 47 = .ok (.iload_n 3, 1) := by decide +kernel
theorem dX7_setOnline_48 : decode cX7_setOnline 48 = .ok (.ireturn, 1) := by decide +kernel
theorem dX7_pay_0 : decode cX7_pay 0 = .ok (.aload_n 0, 1) := by decide +kernel
theorem dX7_pay_1 : decode cX7_pay 1 = .ok (.iload_n 1, 1) := by decide +kernel
theorem dX7_pay_2 : decode cX7_pay 2 = .ok (.invokevirtual 67, 3) := by decide +kernel
theorem dX7_pay_5 : decode cX7_pay 5 = .ok (.ifCond .eq 27, 3) := by decide +kernel
theorem dX7_pay_8 : decode cX7_pay 8 = .ok (.aload_n 0, 1) := by decide +kernel
theorem dX7_pay_9 : decode cX7_pay 9 = .ok (.iload_n 2, 1) := by decide +kernel
theorem dX7_pay_10 : decode cX7_pay 10 = .ok (.invokevirtual 67, 3) := by decide +kernel
theorem dX7_pay_13 : decode cX7_pay 13 = .ok (.ifCond .eq 19, 3) := by decide +kernel
theorem dX7_pay_16 : decode cX7_pay 16 = .ok (.iload_n 1, 1) := by decide +kernel
theorem dX7_pay_17 : decode cX7_pay 17 = .ok (.iload_n 2, 1) := by decide +kernel
theorem dX7_pay_18 : decode cX7_pay 18 = .ok (.if_icmp .eq 14, 3) := by decide +kernel
theorem dX7_pay_21 : decode cX7_pay 21 = .ok (.iload_n 3, 1) := by decide +kernel
theorem dX7_pay_22 : decode cX7_pay 22 = .ok (.iconst 1, 1) := by decide +kernel
theorem dX7_pay_23 : decode cX7_pay 23 = .ok (.sipush 1000, 3) := by decide +kernel
theorem dX7_pay_26 : decode cX7_pay 26 = .ok (.invokestatic 25, 3) := by decide +kernel
theorem dX7_pay_29 : decode cX7_pay 29 = .ok (.ifCond .ne 7, 3) := by decide +kernel
theorem dX7_pay_32 : decode cX7_pay 32 = .ok (.sipush (-10001), 3) := by decide +kernel
theorem dX7_pay_35 : decode cX7_pay 35 = .ok (.ireturn, 1) := by decide +kernel
theorem dX7_pay_36 : decode cX7_pay 36 = .ok (.aload_n 0, 1) := by decide +kernel
theorem dX7_pay_37 : decode cX7_pay 37 = .ok (.getfield 7, 3) := by decide +kernel
theorem dX7_pay_40 : decode cX7_pay 40 = .ok (.iload_n 1, 1) := by decide +kernel
theorem dX7_pay_41 : decode cX7_pay 41 = .ok (.iload_n 2, 1) := by decide +kernel
theorem dX7_pay_42 : decode cX7_pay 42 = .ok (.invokestatic 40, 3) := by decide +kernel
theorem dX7_pay_45 : decode cX7_pay 45 = .ok (.iaload, 1) := by decide +kernel
theorem dX7_pay_46 : decode cX7_pay 46 = .ok (.iload_n 3, 1) := by decide +kernel
theorem dX7_pay_47 : decode cX7_pay 47 = .ok (.if_icmp .ge 7, 3) := by decide +kernel
theorem dX7_pay_50 : decode cX7_pay 50 = .ok (.sipush (-10002), 3) := by decide +kernel
theorem dX7_pay_53 : decode cX7_pay 53 = .ok (.ireturn, 1) := by decide +kernel
theorem dX7_pay_54 : decode cX7_pay 54 = .ok (.aload_n 0, 1) := by decide +kernel
theorem dX7_pay_55 : decode cX7_pay 55 = .ok (.invokevirtual 80, 3) := by decide +kernel
theorem dX7_pay_58 : decode cX7_pay 58 = .ok (.aload_n 0, 1) := by decide +kernel
theorem dX7_pay_59 : decode cX7_pay 59 = .ok (.iload_n 1, 1) := by decide +kernel
theorem dX7_pay_60 : decode cX7_pay 60 = .ok (.iload_n 2, 1) := by decide +kernel
theorem dX7_pay_61 : decode cX7_pay 61 = .ok (.iload_n 3, 1) := by decide +kernel
theorem dX7_pay_62 : decode cX7_pay 62 = .ok (.ineg, 1) := by decide +kernel
theorem dX7_pay_63 : decode cX7_pay 63 = .ok (.invokevirtual 76, 3) := by decide +kernel
theorem dX7_pay_66 : decode cX7_pay 66 = .ok (.aload_n 0, 1) := by decide +kernel
theorem dX7_pay_67 : decode cX7_pay 67 = .ok (.getfield 7, 3) := by decide +kernel
theorem dX7_pay_70 : decode cX7_pay 70 = .ok (.iload_n 1, 1) := by decide +kernel
theorem dX7_pay_71 : decode cX7_pay 71 = .ok (.iload_n 2, 1) := by decide +kernel
theorem dX7_pay_72 : decode cX7_pay 72 = .ok (.invokestatic 40, 3) := by decide +kernel
theorem dX7_pay_75 : decode cX7_pay 75 = .ok (.iaload, 1) := by decide +kernel
theorem dX7_pay_76 : decode cX7_pay 76 = .ok (.ireturn, 1) := by decide +kernel
theorem dX7_peerInfo_0 : decode cX7_peerInfo 0 = .ok (.aload_n 0, 1) := by decide +kernel
theorem dX7_peerInfo_1 : decode cX7_peerInfo 1 = .ok (.iload_n 1, 1) := by decide +kernel
theorem dX7_peerInfo_2 : decode cX7_peerInfo 2 = .ok (.invokevirtual 67, 3) := by decide +kernel
theorem dX7_peerInfo_5 : decode cX7_peerInfo 5 = .ok (.ifCond .eq 12, 3) := by decide +kernel
theorem dX7_peerInfo_8 : decode cX7_peerInfo 8 = .ok (.iload_n 2, 1) := by decide +kernel
theorem dX7_peerInfo_9 : decode cX7_peerInfo 9 = .ok (.iconst 0, 1) := by decide +kernel
theorem dX7_peerInfo_10 : decode cX7_peerInfo 10 = .ok (.iconst 5, 1) := by decide +kernel
theorem dX7_peerInfo_11 : decode cX7_peerInfo 11 = .ok (.invokestatic 25, 3) := by decide +kernel
theorem dX7_peerInfo_14 : decode cX7_peerInfo 14 = .ok (.ifCond .ne 7, 3) := by decide +kernel
theorem dX7_peerInfo_17 : decode cX7_peerInfo 17 = .ok (.sipush (-10001), 3) := by decide +kernel
theorem dX7_peerInfo_20 : decode cX7_peerInfo 20 = .ok (.ireturn, 1) := by decide +kernel
theorem dX7_peerInfo_21 : decode cX7_peerInfo 21 = .ok (.iconst 0, 1) := by decide +kernel
theorem dX7_peerInfo_22 : decode cX7_peerInfo 22 = .ok (.istore_n 3, 1) := by decide +kernel
theorem dX7_peerInfo_23 : decode cX7_peerInfo 23 = .ok (.iconst 0, 1) := by decide +kernel
theorem dX7_peerInfo_24 : decode cX7_peerInfo 24 = .ok (.istore 4, 2) := by decide +kernel
theorem dX7_peerInfo_26 : decode cX7_peerInfo 26 = .ok (.iload 4, 2) := by decide +kernel
theorem dX7_peerInfo_28 : decode cX7_peerInfo 28 = .ok (.bipush 12, 2) := by decide +kernel
theorem dX7_peerInfo_30 : decode cX7_peerInfo 30 = .ok (.if_icmp .ge 23, 3) := by decide +kernel
theorem dX7_peerInfo_33 : decode cX7_peerInfo 33 = .ok (.iload_n 3, 1) := by decide +kernel
theorem dX7_peerInfo_34 : decode cX7_peerInfo 34 = .ok (.aload_n 0, 1) := by decide +kernel
theorem dX7_peerInfo_35 : decode cX7_peerInfo 35 = .ok (.getfield 7, 3) := by decide +kernel
theorem dX7_peerInfo_38 : decode cX7_peerInfo 38 = .ok (.iload_n 1, 1) := by decide +kernel
theorem dX7_peerInfo_39 : decode cX7_peerInfo 39 = .ok (.iload 4, 2) := by decide +kernel
theorem dX7_peerInfo_41 : decode cX7_peerInfo 41 = .ok (.invokestatic 40, 3) := by decide +kernel
theorem dX7_peerInfo_44 : decode cX7_peerInfo 44 = .ok (.iaload, 1) := by decide +kernel
theorem dX7_peerInfo_45 : decode cX7_peerInfo 45 = .ok (.iadd, 1) := by decide +kernel
theorem dX7_peerInfo_46 : decode cX7_peerInfo 46 = .ok (.istore_n 3, 1) := by decide +kernel
theorem dX7_peerInfo_47 : decode cX7_peerInfo 47 = .ok (.iinc 4 1, 3) := by decide +kernel
theorem dX7_peerInfo_50 : decode cX7_peerInfo 50 = .ok (.goto (-24), 3) := by decide +kernel
theorem dX7_peerInfo_53 : decode cX7_peerInfo 53 = .ok (.iload_n 2, 1) := by decide +kernel
theorem dX7_peerInfo_54 : decode cX7_peerInfo 54 = .ok (.ifCond .ne 16, 3) := by decide +kernel
theorem dX7_peerInfo_57 : decode cX7_peerInfo 57 = .ok (.aload_n 0, 1) := by decide +kernel
theorem dX7_peerInfo_58 : decode cX7_peerInfo 58 = .ok (.getfield 7, 3) := by decide +kernel
theorem dX7_peerInfo_61 : decode cX7_peerInfo 61 = .ok (.iconst 4, 1) := by decide +kernel
theorem dX7_peerInfo_62 : decode cX7_peerInfo 62 = .ok (.iload_n 1, 1) := by decide +kernel
theorem dX7_peerInfo_63 : decode cX7_peerInfo 63 = .ok (.imul, 1) := by decide +kernel
theorem dX7_peerInfo_64 : decode cX7_peerInfo 64 = .ok (.iconst 1, 1) := by decide +kernel
theorem dX7_peerInfo_65 : decode cX7_peerInfo 65 = .ok (.iadd, 1) := by decide +kernel
theorem dX7_peerInfo_66 : decode cX7_peerInfo 66 = .ok (.iaload, 1) := by decide +kernel
theorem dX7_peerInfo_67 : decode cX7_peerInfo 67 = .ok (.goto 53, 3) := by decide +kernel
theorem dX7_peerInfo_70 : decode cX7_peerInfo 70 = .ok (.iload_n 2, 1) := by decide +kernel
theorem dX7_peerInfo_71 : decode cX7_peerInfo 71 = .ok (.iconst 1, 1) := by decide +kernel
theorem dX7_peerInfo_72 : decode cX7_peerInfo 72 = .ok (.if_icmp .ne 11, 3) := by decide +kernel
theorem dX7_peerInfo_75 : decode cX7_peerInfo 75 = .ok (.aload_n 0, 1) := by decide +kernel
theorem dX7_peerInfo_76 : decode cX7_peerInfo 76 = .ok (.iload_n 1, 1) := by decide +kernel
theorem dX7_peerInfo_77 : decode cX7_peerInfo 77 = .ok (.invokevirtual 70, 3) := by decide +kernel
theorem dX7_peerInfo_80 : decode cX7_peerInfo 80 = .ok (.goto 40, 3) := by decide +kernel
theorem dX7_peerInfo_83 : decode cX7_peerInfo 83 = .ok (.iload_n 2, 1) := by decide +kernel
theorem dX7_peerInfo_84 : decode cX7_peerInfo 84 = .ok (.iconst 2, 1) := by decide +kernel
theorem dX7_peerInfo_85 : decode cX7_peerInfo 85 = .ok (.if_icmp .eq 8, 3) := by decide +kernel
theorem dX7_peerInfo_88 : decode cX7_peerInfo 88 = .ok (.iload_n 2, 1) := by decide +kernel
theorem dX7_peerInfo_89 : decode cX7_peerInfo 89 = .ok (.iconst 3, 1) := by decide +kernel
theorem dX7_peerInfo_90 : decode cX7_peerInfo 90 = .ok (.if_icmp .ne 16, 3) := by decide +kernel
theorem dX7_peerInfo_93 : decode cX7_peerInfo 93 = .ok (.aload_n 0, 1) := by decide +kernel
theorem dX7_peerInfo_94 : decode cX7_peerInfo 94 = .ok (.getfield 7, 3) := by decide +kernel
theorem dX7_peerInfo_97 : decode cX7_peerInfo 97 = .ok (.iconst 4, 1) := by decide +kernel
theorem dX7_peerInfo_98 : decode cX7_peerInfo 98 = .ok (.iload_n 1, 1) := by decide +kernel
theorem dX7_peerInfo_99 : decode cX7_peerInfo 99 = .ok (.imul, 1) := by decide +kernel
theorem dX7_peerInfo_100 : decode cX7_peerInfo 100 = .ok (.iload_n 2, 1) := by decide +kernel
theorem dX7_peerInfo_101 : decode cX7_peerInfo 101 = .ok (.iadd, 1) := by decide +kernel
theorem dX7_peerInfo_102 : decode cX7_peerInfo 102 = .ok (.iaload, 1) := by decide +kernel
theorem dX7_peerInfo_103 : decode cX7_peerInfo 103 = .ok (.goto 17, 3) := by decide +kernel
theorem dX7_peerInfo_106 : decode cX7_peerInfo 106 = .ok (.iload_n 2, 1) := by decide +kernel
theorem dX7_peerInfo_107 : decode cX7_peerInfo 107 = .ok (.iconst 4, 1) := by decide +kernel
theorem dX7_peerInfo_108 : decode cX7_peerInfo 108 = .ok (.if_icmp .ne 11, 3) := by decide +kernel
theorem dX7_peerInfo_111 : decode cX7_peerInfo 111 = .ok (.aload_n 0, 1) := by decide +kernel
theorem dX7_peerInfo_112 : decode cX7_peerInfo 112 = .ok (.iload_n 1, 1) := by decide +kernel
theorem dX7_peerInfo_113 : decode cX7_peerInfo 113 = .ok (.invokevirtual 90, 3) := by decide +kernel
theorem dX7_peerInfo_116 : decode cX7_peerInfo 116 = .ok (.goto 4, 3) := by decide +kernel
theorem dX7_peerInfo_119 : decode cX7_peerInfo 119 = .ok (.iload_n 3, 1) := by decide +kernel
theorem dX7_peerInfo_120 : decode cX7_peerInfo 120 = .ok (.ireturn, 1) := by decide +kernel
theorem dX7_balance_0 : decode cX7_balance 0 = .ok (.aload_n 0, 1) := by decide +kernel
theorem dX7_balance_1 : decode cX7_balance 1 = .ok (.iload_n 1, 1) := by decide +kernel
theorem dX7_balance_2 : decode cX7_balance 2 = .ok (.invokevirtual 67, 3) := by decide +kernel
theorem dX7_balance_5 : decode cX7_balance 5 = .ok (.ifCond .eq 16, 3) := by decide +kernel
theorem dX7_balance_8 : decode cX7_balance 8 = .ok (.aload_n 0, 1) := by decide +kernel
theorem dX7_balance_9 : decode cX7_balance 9 = .ok (.iload_n 2, 1) := by decide +kernel
theorem dX7_balance_10 : decode cX7_balance 10 = .ok (.invokevirtual 67, 3) := by decide +kernel
theorem dX7_balance_13 : decode cX7_balance 13 = .ok (.ifCond .eq 8, 3) := by decide +kernel
theorem dX7_balance_16 : decode cX7_balance 16 = .ok (.iload_n 1, 1) := by decide +kernel
theorem dX7_balance_17 : decode cX7_balance 17 = .ok (.iload_n 2, 1) := by decide +kernel
theorem dX7_balance_18 : decode cX7_balance 18 = .ok (.if_icmp .ne 9, 3) := by decide +kernel
theorem dX7_balance_21 : decode cX7_balance 21 = .ok (.sipush (-10001), 3) := by decide +kernel
theorem dX7_balance_24 : decode cX7_balance 24 = .ok (.goto 13, 3) := by decide +kernel
theorem dX7_balance_27 : decode cX7_balance 27 = .ok (.aload_n 0, 1) := by decide +kernel
theorem dX7_balance_28 : decode cX7_balance 28 = .ok (.getfield 7, 3) := by decide +kernel
theorem dX7_balance_31 : decode cX7_balance 31 = .ok (.iload_n 1, 1) := by decide +kernel
theorem dX7_balance_32 : decode cX7_balance 32 = .ok (.iload_n 2, 1) := by decide +kernel
theorem dX7_balance_33 : decode cX7_balance 33 = .ok (.invokestatic 40, 3) := by decide +kernel
theorem dX7_balance_36 : decode cX7_balance 36 = .ok (.iaload, 1) := by decide +kernel
theorem dX7_balance_37 : decode cX7_balance 37 = .ok (.ireturn, 1) := by decide +kernel
theorem dX7_word_0 : decode cX7_word 0 = .ok (.iload_n 1, 1) := by decide +kernel
theorem dX7_word_1 : decode cX7_word 1 = .ok (.iconst 0, 1) := by decide +kernel
theorem dX7_word_2 : decode cX7_word 2 = .ok (.sipush 255, 3) := by decide +kernel
theorem dX7_word_5 : decode cX7_word 5 = .ok (.invokestatic 25, 3) := by decide +kernel
theorem dX7_word_8 : decode cX7_word 8 = .ok (.ifCond .ne 7, 3) := by decide +kernel
theorem dX7_word_11 : decode cX7_word 11 = .ok (.sipush (-10001), 3) := by decide +kernel
theorem dX7_word_14 : decode cX7_word 14 = .ok (.ireturn, 1) := by decide +kernel
theorem dX7_word_15 : decode cX7_word 15 = .ok (.aload_n 0, 1) := by decide +kernel
theorem dX7_word_16 : decode cX7_word 16 = .ok (.getfield 7, 3) := by decide +kernel
theorem dX7_word_19 : decode cX7_word 19 = .ok (.sipush 432, 3) := by decide +kernel
theorem dX7_word_22 : decode cX7_word 22 = .ok (.iaload, 1) := by decide +kernel
theorem dX7_word_23 : decode cX7_word 23 = .ok (.bipush 6, 2) := by decide +kernel
theorem dX7_word_25 : decode cX7_word 25 = .ok (.if_icmp .ne 7, 3) := by decide +kernel
theorem dX7_word_28 : decode cX7_word 28 = .ok (.sipush (-10003), 3) := by decide +kernel
theorem dX7_word_31 : decode cX7_word 31 = .ok (.ireturn, 1) := by decide +kernel
theorem dX7_word_32 : decode cX7_word 32 = .ok (.aload_n 0, 1) := by decide +kernel
theorem dX7_word_33 : decode cX7_word 33 = .ok (.getfield 7, 3) := by decide +kernel
theorem dX7_word_36 : decode cX7_word 36 = .ok (.sipush 432, 3) := by decide +kernel
theorem dX7_word_39 : decode cX7_word 39 = .ok (.dup2, 1) := by decide +kernel
theorem dX7_word_40 : decode cX7_word 40 = .ok (.iaload, 1) := by decide +kernel
theorem dX7_word_41 : decode cX7_word 41 = .ok (.iconst 1, 1) := by decide +kernel
theorem dX7_word_42 : decode cX7_word 42 = .ok (.iadd, 1) := by decide +kernel
theorem dX7_word_43 : decode cX7_word 43 = .ok (.iastore, 1) := by decide +kernel
theorem dX7_word_44 : decode cX7_word 44 = .ok (.aload_n 0, 1) := by decide +kernel
theorem dX7_word_45 : decode cX7_word 45 = .ok (.getfield 7, 3) := by decide +kernel
theorem dX7_word_48 : decode cX7_word 48 = .ok (.sipush 432, 3) := by decide +kernel
theorem dX7_word_51 : decode cX7_word 51 = .ok (.aload_n 0, 1) := by decide +kernel
theorem dX7_word_52 : decode cX7_word 52 = .ok (.getfield 7, 3) := by decide +kernel
theorem dX7_word_55 : decode cX7_word 55 = .ok (.sipush 432, 3) := by decide +kernel
theorem dX7_word_58 : decode cX7_word 58 = .ok (.iaload, 1) := by decide +kernel
theorem dX7_word_59 : decode cX7_word 59 = .ok (.iadd, 1) := by decide +kernel
theorem dX7_word_60 : decode cX7_word 60 = .ok (.iload_n 1, 1) := by decide +kernel
theorem dX7_word_61 : decode cX7_word 61 = .ok (.iastore, 1) := by decide +kernel
theorem dX7_word_62 : decode cX7_word 62 = .ok (.aload_n 0, 1) := by decide +kernel
theorem dX7_word_63 : decode cX7_word 63 = .ok (.getfield 7, 3) := by decide +kernel
theorem dX7_word_66 : decode cX7_word 66 = .ok (.sipush 432, 3) := by decide +kernel
theorem dX7_word_69 : decode cX7_word 69 = .ok (.iaload, 1) := by decide +kernel
theorem dX7_word_70 : decode cX7_word 70 = .ok (.ireturn, 1) := by decide +kernel
theorem dX7_files_0 : decode cX7_files 0 = .ok (.iconst 0, 1) := by decide +kernel
theorem dX7_files_1 : decode cX7_files 1 = .ok (.istore_n 1, 1) := by decide +kernel
theorem dX7_files_2 : decode cX7_files 2 = .ok (.iconst 0, 1) := by decide +kernel
theorem dX7_files_3 : decode cX7_files 3 = .ok (.istore_n 2, 1) := by decide +kernel
theorem dX7_files_4 : decode cX7_files 4 = .ok (.iload_n 2, 1) := by decide +kernel
theorem dX7_files_5 : decode cX7_files 5 = .ok (.bipush 8, 2) := by decide +kernel
theorem dX7_files_7 : decode cX7_files 7 = .ok (.if_icmp .ge 25, 3) := by decide +kernel
theorem dX7_files_10 : decode cX7_files 10 = .ok (.iload_n 1, 1) := by decide +kernel
theorem dX7_files_11 : decode cX7_files 11 = .ok (.aload_n 0, 1) := by decide +kernel
theorem dX7_files_12 : decode cX7_files 12 = .ok (.iload_n 2, 1) := by decide +kernel
theorem dX7_files_13 : decode cX7_files 13 = .ok (.invokevirtual 43, 3) := by decide +kernel
theorem dX7_files_16 : decode cX7_files 16 = .ok (.ifCond .eq 7, 3) := by decide +kernel
theorem dX7_files_19 : decode cX7_files 19 = .ok (.iconst 1, 1) := by decide +kernel
theorem dX7_files_20 : decode cX7_files 20 = .ok (.goto 4, 3) := by decide +kernel
theorem dX7_files_23 : decode cX7_files 23 = .ok (.iconst 0, 1) := by decide +kernel
theorem dX7_files_24 : decode cX7_files 24 = .ok (.iadd, 1) := by decide +kernel
theorem dX7_files_25 : decode cX7_files 25 = .ok (.istore_n 1, 1) := by decide +kernel
theorem dX7_files_26 : decode cX7_files 26 = .ok (.iinc 2 1, 3) := by decide +kernel
theorem dX7_files_29 : decode cX7_files 29 = .ok (.goto (-25), 3) := by decide +kernel
theorem dX7_files_32 : decode cX7_files 32 = .ok (.iload_n 1, 1) := by decide +kernel
theorem dX7_files_33 : decode cX7_files 33 = .ok (.ireturn, 1) := by decide +kernel
theorem dX7_store_0 : decode cX7_store 0 = .ok (.aload_n 0, 1) := by decide +kernel
theorem dX7_store_1 : decode cX7_store 1 = .ok (.iload_n 1, 1) := by decide +kernel
theorem dX7_store_2 : decode cX7_store 2 = .ok (.invokevirtual 67, 3) := by decide +kernel
theorem dX7_store_5 : decode cX7_store 5 = .ok (.ifCond .eq 12, 3) := by decide +kernel
theorem dX7_store_8 : decode cX7_store 8 = .ok (.iload_n 2, 1) := by decide +kernel
theorem dX7_store_9 : decode cX7_store 9 = .ok (.iconst 0, 1) := by decide +kernel
theorem dX7_store_10 : decode cX7_store 10 = .ok (.iconst 4, 1) := by decide +kernel
theorem dX7_store_11 : decode cX7_store 11 = .ok (.invokestatic 25, 3) := by decide +kernel
theorem dX7_store_14 : decode cX7_store 14 = .ok (.ifCond .ne 7, 3) := by decide +kernel
theorem dX7_store_17 : decode cX7_store 17 = .ok (.sipush (-10001), 3) := by decide +kernel
theorem dX7_store_20 : decode cX7_store 20 = .ok (.ireturn, 1) := by decide +kernel
theorem dX7_store_21 : decode cX7_store 21 = .ok (.aload_n 0, 1) := by decide +kernel
theorem dX7_store_22 : decode cX7_store 22 = .ok (.getfield 7, 3) := by decide +kernel
theorem dX7_store_25 : decode cX7_store 25 = .ok (.sipush 432, 3) := by decide +kernel
theorem dX7_store_28 : decode cX7_store 28 = .ok (.iaload, 1) := by decide +kernel
theorem dX7_store_29 : decode cX7_store 29 = .ok (.ifCond .eq 11, 3) := by decide +kernel
theorem dX7_store_32 : decode cX7_store 32 = .ok (.aload_n 0, 1) := by decide +kernel
theorem dX7_store_33 : decode cX7_store 33 = .ok (.iload_n 1, 1) := by decide +kernel
theorem dX7_store_34 : decode cX7_store 34 = .ok (.invokevirtual 51, 3) := by decide +kernel
theorem dX7_store_37 : decode cX7_store 37 = .ok (.ifCond .ne 7, 3) := by decide +kernel
theorem dX7_store_40 : decode cX7_store 40 = .ok (.sipush (-10002), 3) := by decide +kernel
theorem dX7_store_43 : decode cX7_store 43 = .ok (.ireturn, 1) := by decide +kernel
theorem dX7_store_44 : decode cX7_store 44 = .ok (.aload_n 0, 1) := by decide +kernel
theorem dX7_store_45 : decode cX7_store 45 = .ok (.invokevirtual 99, 3) := by decide +kernel
theorem dX7_store_48 : decode cX7_store 48 = .ok (.bipush 8, 2) := by decide +kernel
theorem dX7_store_50 : decode cX7_store 50 = .ok (.if_icmp .ne 7, 3) := by decide +kernel
theorem dX7_store_53 : decode cX7_store 53 = .ok (.sipush (-10003), 3) := by decide +kernel
theorem dX7_store_56 : decode cX7_store 56 = .ok (.ireturn, 1) := by decide +kernel
theorem dX7_store_57 : decode cX7_store 57 = .ok (.aload_n 0, 1) := by decide +kernel
theorem dX7_store_58 : decode cX7_store 58 = .ok (.invokevirtual 80, 3) := by decide +kernel
theorem dX7_store_61 : decode cX7_store 61 = .ok (.iconst 0, 1) := by decide +kernel
theorem dX7_store_62 : decode cX7_store 62 = .ok (.istore_n 3, 1) := by decide +kernel
theorem dX7_store_63 : decode cX7_store 63 = .ok (.aload_n 0, 1) := by decide +kernel
theorem dX7_store_64 : decode cX7_store 64 = .ok (.iload_n 3, 1) := by decide +kernel
theorem dX7_store_65 : decode cX7_store 65 = .ok (.invokevirtual 43, 3) := by decide +kernel
theorem dX7_store_68 : decode cX7_store 68 = .ok (.ifCond .eq 9, 3) := by decide +kernel
theorem dX7_store_71 : decode cX7_store 71 = .ok (.iinc 3 1, 3) := by decide +kernel
theorem dX7_store_74 : decode cX7_store 74 = .ok (.goto (-11), 3) := by decide +kernel
theorem dX7_store_77 : decode cX7_store 77 = .ok (.aload_n 0, 1) := by decide +kernel
theorem dX7_store_78 : decode cX7_store 78 = .ok (.getfield 7, 3) := by decide +kernel
theorem dX7_store_81 : decode cX7_store 81 = .ok (.iload_n 3, 1) := by decide +kernel
theorem dX7_store_82 : decode cX7_store 82 = .ok (.iconst 0, 1) := by decide +kernel
theorem dX7_store_83 : decode cX7_store 83 = .ok (.invokestatic 33, 3) := by decide +kernel
theorem dX7_store_86 : decode cX7_store 86 = .ok (.iconst 1, 1) := by decide +kernel
theorem dX7_store_87 : decode cX7_store 87 = .ok (.iastore, 1) := by decide +kernel
theorem dX7_store_88 : decode cX7_store 88 = .ok (.aload_n 0, 1) := by decide +kernel
theorem dX7_store_89 : decode cX7_store 89 = .ok (.getfield 7, 3) := by decide +kernel
theorem dX7_store_92 : decode cX7_store 92 = .ok (.iload_n 3, 1) := by decide +kernel
theorem dX7_store_93 : decode cX7_store 93 = .ok (.iconst 1, 1) := by decide +kernel
theorem dX7_store_94 : decode cX7_store 94 = .ok (.invokestatic 33, 3) := by decide +kernel
theorem dX7_store_97 : decode cX7_store 97 = .ok (.iload_n 1, 1) := by decide +kernel
theorem dX7_store_98 : decode cX7_store 98 = .ok (.iastore, 1) := by decide +kernel
theorem dX7_store_99 : decode cX7_store 99 = .ok (.aload_n 0, 1) := by decide +kernel
theorem dX7_store_100 : decode cX7_store 100 = .ok (.getfield 7, 3) := by decide +kernel
theorem dX7_store_103 : decode cX7_store 103 = .ok (.iload_n 3, 1) := by decide +kernel
theorem dX7_store_104 : decode cX7_store 104 = .ok (.iconst 2, 1) := by decide +kernel
theorem dX7_store_105 : decode cX7_store 105 = .ok (.invokestatic 33, 3) := by decide +kernel
theorem dX7_store_108 : decode cX7_store 108 = .ok (.aload_n 0, 1) := by decide +kernel
theorem dX7_store_109 : decode cX7_store 109 = .ok (.getfield 7, 3) := by decide +kernel
theorem dX7_store_112 : decode cX7_store 112 = .ok (.sipush 432, 3) := by decide +kernel
theorem dX7_store_115 : decode cX7_store 115 = .ok (.iaload, 1) := by decide +kernel
theorem dX7_store_116 : decode cX7_store 116 = .ok (.iastore, 1) := by decide +kernel
theorem dX7_store_117 : decode cX7_store 117 = .ok (.aload_n 0, 1) := by decide +kernel
theorem dX7_store_118 : decode cX7_store 118 = .ok (.getfield 7, 3) := by decide +kernel
theorem dX7_store_121 : decode cX7_store 121 = .ok (.iload_n 3, 1) := by decide +kernel
theorem dX7_store_122 : decode cX7_store 122 = .ok (.iconst 3, 1) := by decide +kernel
theorem dX7_store_123 : decode cX7_store 123 = .ok (.invokestatic 33, 3) := by decide +kernel
theorem dX7_store_126 : decode cX7_store 126 = .ok (.iload_n 2, 1) := by decide +kernel
theorem dX7_store_127 : decode cX7_store 127 = .ok (.iastore, 1) := by decide +kernel
theorem dX7_store_128 : decode cX7_store 128 = .ok (.iconst 0, 1) := by decide +kernel
theorem dX7_store_129 : decode cX7_store 129 = .ok (.istore 4, 2) := by decide +kernel
theorem dX7_store_131 : decode cX7_store 131 = .ok (.iload 4, 2) := by decide +kernel
theorem dX7_store_133 : decode cX7_store 133 = .ok (.bipush 10, 2) := by decide +kernel
theorem dX7_store_135 : decode cX7_store 135 = .ok (.if_icmp .ge 39, 3) := by decide +kernel
theorem dX7_store_138 : decode cX7_store 138 = .ok (.aload_n 0, 1) := by decide +kernel
theorem dX7_store_139 : decode cX7_store 139 = .ok (.getfield 7, 3) := by decide +kernel
theorem dX7_store_142 : decode cX7_store 142 = .ok (.iload_n 3, 1) := by decide +kernel
theorem dX7_store_143 : decode cX7_store 143 = .ok (.bipush 10, 2) := by decide +kernel
theorem dX7_store_145 : decode cX7_store 145 = .ok (.iload 4, 2) := by decide +kernel
theorem dX7_store_147 : decode cX7_store 147 = .ok (.iadd, 1) := by decide +kernel
theorem dX7_store_148 : decode cX7_store 148 = .ok (.invokestatic 33, 3) := by decide +kernel
theorem dX7_store_151 : decode cX7_store 151 = .ok (.iconst (-1), 1) := by decide +kernel
theorem dX7_store_152 : decode cX7_store 152 = .ok (.iastore, 1) := by decide +kernel
theorem dX7_store_153 : decode cX7_store 153 = .ok (.aload_n 0, 1) := by decide +kernel
theorem dX7_store_154 : decode cX7_store 154 = .ok (.getfield 7, 3) := by decide +kernel
theorem dX7_store_157 : decode cX7_store 157 = .ok (.iload_n 3, 1) := by decide +kernel
theorem dX7_store_158 : decode cX7_store 158 = .ok (.bipush 20, 2) := by decide +kernel
theorem dX7_store_160 : decode cX7_store 160 = .ok (.iload 4, 2) := by decide +kernel
theorem dX7_store_162 : decode cX7_store 162 = .ok (.iadd, 1) := by decide +kernel
theorem dX7_store_163 : decode cX7_store 163 = .ok (.invokestatic 33, 3) := by decide +kernel
theorem dX7_store_166 : decode cX7_store 166 = .ok (.iconst 0, 1) := by decide +kernel
theorem dX7_store_167 : decode cX7_store 167 = .ok (.iastore, 1) := by decide +kernel
theorem dX7_store_168 : decode cX7_store 168 = .ok (.iinc 4 1, 3) := by decide +kernel
theorem dX7_store_171 : decode cX7_store 171 = .ok (.goto (-40), 3) := by decide +kernel
theorem dX7_store_174 : decode cX7_store 174 = .ok (.iconst 0, 1) := by decide +kernel
theorem dX7_store_175 : decode cX7_store 175 = .ok (.istore 4, 2) := by decide +kernel
theorem dX7_store_177 : decode cX7_store 177 = .ok (.iload 4, 2) := by decide +kernel
theorem dX7_store_179 : decode cX7_store 179 = .ok (.bipush 6, 2) := by decide +kernel
theorem dX7_store_181 : decode cX7_store 181 = .ok (.if_icmp .ge 62, 3) := by decide +kernel
theorem dX7_store_184 : decode cX7_store 184 = .ok (.aload_n 0, 1) := by decide +kernel
theorem dX7_store_185 : decode cX7_store 185 = .ok (.getfield 7, 3) := by decide +kernel
theorem dX7_store_188 : decode cX7_store 188 = .ok (.iload_n 3, 1) := by decide +kernel
theorem dX7_store_189 : decode cX7_store 189 = .ok (.iconst 4, 1) := by decide +kernel
theorem dX7_store_190 : decode cX7_store 190 = .ok (.iload 4, 2) := by decide +kernel
theorem dX7_store_192 : decode cX7_store 192 = .ok (.iadd, 1) := by decide +kernel
theorem dX7_store_193 : decode cX7_store 193 = .ok (.invokestatic 33, 3) := by decide +kernel
theorem dX7_store_196 : decode cX7_store 196 = .ok (.iload 4, 2) := by decide +kernel
theorem dX7_store_198 : decode cX7_store 198 = .ok (.aload_n 0, 1) := by decide +kernel
theorem dX7_store_199 : decode cX7_store 199 = .ok (.getfield 7, 3) := by decide +kernel
theorem dX7_store_202 : decode cX7_store 202 = .ok (.sipush 432, 3) := by decide +kernel
theorem dX7_store_205 : decode cX7_store 205 = .ok (.iaload, 1) := by decide +kernel
theorem dX7_store_206 : decode cX7_store 206 = .ok (.if_icmp .ge 17, 3) := by decide +kernel
theorem dX7_store_209 : decode cX7_store 209 = .ok (.aload_n 0, 1) := by decide +kernel
theorem dX7_store_210 : decode cX7_store 210 = .ok (.getfield 7, 3) := by decide +kernel
theorem dX7_store_213 : decode cX7_store 213 = .ok (.sipush 433, 3) := by decide +kernel
theorem dX7_store_216 : decode cX7_store 216 = .ok (.iload 4, 2) := by decide +kernel
theorem dX7_store_218 : decode cX7_store 218 = .ok (.iadd, 1) := by decide +kernel
theorem dX7_store_219 : decode cX7_store 219 = .ok (.iaload, 1) := by decide +kernel
theorem dX7_store_220 : decode cX7_store 220 = .ok (.goto 4, 3) := by decide +kernel
theorem dX7_store_223 : decode cX7_store 223 = .ok (.iconst 0, 1) := by decide +kernel
theorem dX7_store_224 : decode cX7_store 224 = .ok (.iastore, 1) := by decide +kernel
theorem dX7_store_225 : decode cX7_store 225 = .ok (.aload_n 0, 1) := by decide +kernel
theorem dX7_store_226 : decode cX7_store 226 = .ok (.getfield 7, 3) := by decide +kernel
theorem dX7_store_229 : decode cX7_store 229 = .ok (.sipush 433, 3) := by decide +kernel
theorem dX7_store_232 : decode cX7_store 232 = .ok (.iload 4, 2) := by decide +kernel
theorem dX7_store_234 : decode cX7_store 234 = .ok (.iadd, 1) := by decide +kernel
theorem dX7_store_235 : decode cX7_store 235 = .ok (.iconst 0, 1) := by decide +kernel
theorem dX7_store_236 : decode cX7_store 236 = .ok (.iastore, 1) := by decide +kernel
theorem dX7_store_237 : decode cX7_store 237 = .ok (.iinc 4 1, 3) := by decide +kernel
theorem dX7_store_240 : decode cX7_store 240 = .ok (.goto (-63), 3) := by decide +kernel
theorem dX7_store_243 : decode cX7_store 243 = .ok (.aload_n 0, 1) := by decide +kernel
theorem dX7_store_244 : decode cX7_store 244 = .ok (.getfield 7, 3) := by decide +kernel
theorem dX7_store_247 : decode cX7_store 247 = .ok (.sipush 432, 3) := by decide +kernel
theorem dX7_store_250 : decode cX7_store 250 = .ok (.iconst 0, 1) := by decide +kernel
theorem dX7_store_251 : decode cX7_store 251 = .ok (.iastore, 1) := by decide +kernel
theorem dX7_store_252 : decode cX7_store 252 = .ok (.iconst 0, 1) := by decide +kernel
theorem dX7_store_253 : decode cX7_store 253 = .ok (.istore 4, 2) := by decide +kernel
theorem dX7_store_255 : decode cX7_store 255 = .ok (.iload 4, 2) := by decide +kernel
theorem dX7_store_257 : decode cX7_store 257 = .ok (.aload_n 0, 1) := by decide +kernel
theorem dX7_store_258 : decode cX7_store 258 = .ok (.iload_n 3, 1) := by decide +kernel
theorem dX7_store_259 : decode cX7_store 259 = .ok (.invokevirtual 47, 3) := by decide +kernel
theorem dX7_store_262 : decode cX7_store 262 = .ok (.if_icmp .ge 18, 3) := by decide +kernel
theorem dX7_store_265 : decode cX7_store 265 = .ok (.aload_n 0, 1) := by decide +kernel
theorem dX7_store_266 : decode cX7_store 266 = .ok (.iload_n 3, 1) := by decide +kernel
theorem dX7_store_267 : decode cX7_store 267 = .ok (.iload 4, 2) := by decide +kernel
theorem dX7_store_269 : decode cX7_store 269 = .ok (.iconst (-1), 1) := by decide +kernel
theorem dX7_store_270 : decode cX7_store 270 = .ok (.invokevirtual 83, 3) := by decide +kernel
theorem dX7_store_273 : decode cX7_store 273 = .ok (.pop, 1) := by decide +kernel
theorem dX7_store_274 : decode cX7_store 274 = .ok (.iinc 4 1, 3) := by decide +kernel
theorem dX7_store_277 : decode cX7_store 277 = .ok (.goto (-22), 3) := by decide +kernel
theorem dX7_store_280 : decode cX7_store 280 = .ok (.iload_n 3, 1) := by decide +kernel
theorem dX7_store_281 : decode cX7_store 281 = .ok (.ireturn, 1) := by decide +kernel
theorem dX7_delete_0 : decode cX7_delete 0 = .ok (.aload_n 0, 1) := by decide +kernel
theorem dX7_delete_1 : decode cX7_delete 1 = .ok (.iload_n 1, 1) := by decide +kernel
theorem dX7_delete_2 : decode cX7_delete 2 = .ok (.invokevirtual 43, 3) := by decide +kernel
theorem dX7_delete_5 : decode cX7_delete 5 = .ok (.ifCond .ne 7, 3) := by decide +kernel
theorem dX7_delete_8 : decode cX7_delete 8 = .ok (.sipush (-10001), 3) := by decide +kernel
theorem dX7_delete_11 : decode cX7_delete 11 = .ok (.ireturn, 1) := by decide +kernel
theorem dX7_delete_12 : decode cX7_delete 12 = .ok (.aload_n 0, 1) := by decide +kernel
theorem dX7_delete_13 : decode cX7_delete 13 = .ok (.invokevirtual 80, 3) := by decide +kernel
theorem dX7_delete_16 : decode cX7_delete 16 = .ok (.aload_n 0, 1) := by decide +kernel
theorem dX7_delete_17 : decode cX7_delete 17 = .ok (.iload_n 1, 1) := by decide +kernel
theorem dX7_delete_18 : decode cX7_delete 18 = .ok (.invokevirtual 96, 3) := by decide +kernel
theorem dX7_delete_21 : decode cX7_delete 21 = .ok (.aload_n 0, 1) := by decide +kernel
theorem dX7_delete_22 : decode cX7_delete 22 = .ok (.invokevirtual 99, 3) := by decide +kernel
theorem dX7_delete_25 : decode cX7_delete 25 = .ok (.ireturn, 1) := by decide +kernel
theorem dX7_storedOf_0 : decode cX7_storedOf 0 = .ok (.iconst 0, 1) := by decide +kernel
theorem dX7_storedOf_1 : decode cX7_storedOf 1 = .ok (.istore_n 2, 1) := by decide +kernel
theorem dX7_storedOf_2 : decode cX7_storedOf 2 = .ok (.iconst 0, 1) := by decide +kernel
theorem dX7_storedOf_3 : decode cX7_storedOf 3 = .ok (.istore_n 3, 1) := by decide +kernel
theorem dX7_storedOf_4 : decode cX7_storedOf 4 = .ok (.iload_n 3, 1) := by decide +kernel
theorem dX7_storedOf_5 : decode cX7_storedOf 5 = .ok (.aload_n 0, 1) := by decide +kernel
theorem dX7_storedOf_6 : decode cX7_storedOf 6 = .ok (.iload_n 1, 1) := by decide +kernel
theorem dX7_storedOf_7 : decode cX7_storedOf 7 = .ok (.invokevirtual 47, 3) := by decide +kernel
theorem dX7_storedOf_10 : decode cX7_storedOf 10 = .ok (.if_icmp .ge 29, 3) := by decide +kernel
theorem dX7_storedOf_13 : decode cX7_storedOf 13 = .ok (.iload_n 2, 1) := by decide +kernel
theorem dX7_storedOf_14 : decode cX7_storedOf 14 = .ok (.aload_n 0, 1) := by decide +kernel
theorem dX7_storedOf_15 : decode cX7_storedOf 15 = .ok (.iload_n 1, 1) := by decide +kernel
theorem dX7_storedOf_16 : decode cX7_storedOf 16 = .ok (.bipush 10, 2) := by decide +kernel
theorem dX7_storedOf_18 : decode cX7_storedOf 18 = .ok (.iload_n 3, 1) := by decide +kernel
theorem dX7_storedOf_19 : decode cX7_storedOf 19 = .ok (.iadd, 1) := by decide +kernel
theorem dX7_storedOf_20 : decode cX7_storedOf 20 = .ok (.invokevirtual 29, 3) := by decide +kernel
theorem dX7_storedOf_23 : decode cX7_storedOf 23 = .ok (.ifCond .lt 7, 3) := by decide +kernel
theorem dX7_storedOf_26 : decode cX7_storedOf 26 = .ok (.iconst 1, 1) := by decide +kernel
theorem dX7_storedOf_27 : decode cX7_storedOf 27 = .ok (.goto 4, 3) := by decide +kernel
theorem dX7_storedOf_30 : decode cX7_storedOf 30 = .ok (.iconst 0, 1) := by decide +kernel
theorem dX7_storedOf_31 : decode cX7_storedOf 31 = .ok (.iadd, 1) := by decide +kernel
theorem dX7_storedOf_32 : decode cX7_storedOf 32 = .ok (.istore_n 2, 1) := by decide +kernel
theorem dX7_storedOf_33 : decode cX7_storedOf 33 = .ok (.iinc 3 1, 3) := by decide +kernel
theorem dX7_storedOf_36 : decode cX7_storedOf 36 = .ok (.goto (-32), 3) := by decide +kernel
theorem dX7_storedOf_39 : decode cX7_storedOf 39 = .ok (.iload_n 2, 1) := by decide +kernel
theorem dX7_storedOf_40 : decode cX7_storedOf 40 = .ok (.ireturn, 1) := by decide +kernel
theorem dX7_fileInfo_0 : decode cX7_fileInfo 0 = .ok (.aload_n 0, 1) := by decide +kernel
theorem dX7_fileInfo_1 : decode cX7_fileInfo 1 = .ok (.iload_n 1, 1) := by decide +kernel
theorem dX7_fileInfo_2 : decode cX7_fileInfo 2 = .ok (.invokevirtual 43, 3) := by decide +kernel
theorem dX7_fileInfo_5 : decode cX7_fileInfo 5 = .ok (.ifCond .eq 13, 3) := by decide +kernel
theorem dX7_fileInfo_8 : decode cX7_fileInfo 8 = .ok (.iload_n 2, 1) := by decide +kernel
theorem dX7_fileInfo_9 : decode cX7_fileInfo 9 = .ok (.iconst 0, 1) := by decide +kernel
theorem dX7_fileInfo_10 : decode cX7_fileInfo 10 = .ok (.bipush 6, 2) := by decide +kernel
theorem dX7_fileInfo_12 : decode cX7_fileInfo 12 = .ok (.invokestatic 25, 3) := by decide +kernel
theorem dX7_fileInfo_15 : decode cX7_fileInfo 15 = .ok (.ifCond .ne 7, 3) := by decide +kernel
theorem dX7_fileInfo_18 : decode cX7_fileInfo 18 = .ok (.sipush (-10001), 3) := by decide +kernel
theorem dX7_fileInfo_21 : decode cX7_fileInfo 21 = .ok (.ireturn, 1) := by decide +kernel
theorem dX7_fileInfo_22 : decode cX7_fileInfo 22 = .ok (.iload_n 2, 1) := by decide +kernel
theorem dX7_fileInfo_23 : decode cX7_fileInfo 23 = .ok (.iconst 3, 1) := by decide +kernel
theorem dX7_fileInfo_24 : decode cX7_fileInfo 24 = .ok (.if_icmp .ge 14, 3) := by decide +kernel
theorem dX7_fileInfo_27 : decode cX7_fileInfo 27 = .ok (.aload_n 0, 1) := by decide +kernel
theorem dX7_fileInfo_28 : decode cX7_fileInfo 28 = .ok (.iload_n 1, 1) := by decide +kernel
theorem dX7_fileInfo_29 : decode cX7_fileInfo 29 = .ok (.iload_n 2, 1) := by decide +kernel
theorem dX7_fileInfo_30 : decode cX7_fileInfo 30 = .ok (.iconst 1, 1) := by decide +kernel
theorem dX7_fileInfo_31 : decode cX7_fileInfo 31 = .ok (.iadd, 1) := by decide +kernel
theorem dX7_fileInfo_32 : decode cX7_fileInfo 32 = .ok (.invokevirtual 29, 3) := by decide +kernel
theorem dX7_fileInfo_35 : decode cX7_fileInfo 35 = .ok (.goto 62, 3) := by decide +kernel
theorem dX7_fileInfo_38 : decode cX7_fileInfo 38 = .ok (.iload_n 2, 1) := by decide +kernel
theorem dX7_fileInfo_39 : decode cX7_fileInfo 39 = .ok (.iconst 3, 1) := by decide +kernel
theorem dX7_fileInfo_40 : decode cX7_fileInfo 40 = .ok (.if_icmp .ne 11, 3) := by decide +kernel
theorem dX7_fileInfo_43 : decode cX7_fileInfo 43 = .ok (.aload_n 0, 1) := by decide +kernel
theorem dX7_fileInfo_44 : decode cX7_fileInfo 44 = .ok (.iload_n 1, 1) := by decide +kernel
theorem dX7_fileInfo_45 : decode cX7_fileInfo 45 = .ok (.invokevirtual 103, 3) := by decide +kernel
theorem dX7_fileInfo_48 : decode cX7_fileInfo 48 = .ok (.goto 49, 3) := by decide +kernel
theorem dX7_fileInfo_51 : decode cX7_fileInfo 51 = .ok (.iload_n 2, 1) := by decide +kernel
theorem dX7_fileInfo_52 : decode cX7_fileInfo 52 = .ok (.iconst 4, 1) := by decide +kernel
theorem dX7_fileInfo_53 : decode cX7_fileInfo 53 = .ok (.if_icmp .ne 11, 3) := by decide +kernel
theorem dX7_fileInfo_56 : decode cX7_fileInfo 56 = .ok (.aload_n 0, 1) := by decide +kernel
theorem dX7_fileInfo_57 : decode cX7_fileInfo 57 = .ok (.iload_n 1, 1) := by decide +kernel
theorem dX7_fileInfo_58 : decode cX7_fileInfo 58 = .ok (.invokevirtual 58, 3) := by decide +kernel
theorem dX7_fileInfo_61 : decode cX7_fileInfo 61 = .ok (.goto 36, 3) := by decide +kernel
theorem dX7_fileInfo_64 : decode cX7_fileInfo 64 = .ok (.iload_n 2, 1) := by decide +kernel
theorem dX7_fileInfo_65 : decode cX7_fileInfo 65 = .ok (.iconst 5, 1) := by decide +kernel
theorem dX7_fileInfo_66 : decode cX7_fileInfo 66 = .ok (.if_icmp .ne 19, 3) := by decide +kernel
theorem dX7_fileInfo_69 : decode cX7_fileInfo 69 = .ok (.aload_n 0, 1) := by decide +kernel
theorem dX7_fileInfo_70 : decode cX7_fileInfo 70 = .ok (.iload_n 1, 1) := by decide +kernel
theorem dX7_fileInfo_71 : decode cX7_fileInfo 71 = .ok (.invokevirtual 106, 3) := by decide +kernel
theorem dX7_fileInfo_74 : decode cX7_fileInfo 74 = .ok (.ifCond .eq 7, 3) := by decide +kernel
theorem dX7_fileInfo_77 : decode cX7_fileInfo 77 = .ok (.iconst 1, 1) := by decide +kernel
theorem dX7_fileInfo_78 : decode cX7_fileInfo 78 = .ok (.goto 19, 3) := by decide +kernel
theorem dX7_fileInfo_81 : decode cX7_fileInfo 81 = .ok (.iconst 0, 1) := by decide +kernel
theorem dX7_fileInfo_82 : decode cX7_fileInfo 82 = .ok (.goto 15, 3) := by decide +kernel
theorem dX7_fileInfo_85 : decode cX7_fileInfo 85 = .ok (.aload_n 0, 1) := by decide +kernel
theorem dX7_fileInfo_86 : decode cX7_fileInfo 86 = .ok (.iload_n 1, 1) := by decide +kernel
theorem dX7_fileInfo_87 : decode cX7_fileInfo 87 = .ok (.invokevirtual 58, 3) := by decide +kernel
theorem dX7_fileInfo_90 : decode cX7_fileInfo 90 = .ok (.aload_n 0, 1) := by decide +kernel
theorem dX7_fileInfo_91 : decode cX7_fileInfo 91 = .ok (.iload_n 1, 1) := by decide +kernel
theorem dX7_fileInfo_92 : decode cX7_fileInfo 92 = .ok (.iconst 2, 1) := by decide +kernel
theorem dX7_fileInfo_93 : decode cX7_fileInfo 93 = .ok (.invokevirtual 29, 3) := by decide +kernel
theorem dX7_fileInfo_96 : decode cX7_fileInfo 96 = .ok (.isub, 1) := by decide +kernel
theorem dX7_fileInfo_97 : decode cX7_fileInfo 97 = .ok (.ireturn, 1) := by decide +kernel
theorem dX7_isFragment_0 : decode cX7_isFragment 0 = .ok (.aload_n 0, 1) := by decide +kernel
theorem dX7_isFragment_1 : decode cX7_isFragment 1 = .ok (.iload_n 1, 1) := by decide +kernel
theorem dX7_isFragment_2 : decode cX7_isFragment 2 = .ok (.invokevirtual 43, 3) := by decide +kernel
theorem dX7_isFragment_5 : decode cX7_isFragment 5 = .ok (.ifCond .eq 22, 3) := by decide +kernel
theorem dX7_isFragment_8 : decode cX7_isFragment 8 = .ok (.iload_n 2, 1) := by decide +kernel
theorem dX7_isFragment_9 : decode cX7_isFragment 9 = .ok (.iconst 0, 1) := by decide +kernel
theorem dX7_isFragment_10 : decode cX7_isFragment 10 = .ok (.aload_n 0, 1) := by decide +kernel
theorem dX7_isFragment_11 : decode cX7_isFragment 11 = .ok (.iload_n 1, 1) := by decide +kernel
theorem dX7_isFragment_12 : decode cX7_isFragment 12 = .ok (.invokevirtual 47, 3) := by decide +kernel
theorem dX7_isFragment_15 : decode cX7_isFragment 15 = .ok (.iconst 1, 1) := by decide +kernel
theorem dX7_isFragment_16 : decode cX7_isFragment 16 = .ok (.isub, 1) := by decide +kernel
theorem dX7_isFragment_17 : decode cX7_isFragment 17 = .ok (.invokestatic 25, 3) := by decide +kernel
theorem dX7_isFragment_20 : decode cX7_isFragment 20 = .ok (.ifCond .eq 7, 3) := by decide +kernel
theorem dX7_isFragment_23 : decode cX7_isFragment 23 = .ok (.iconst 1, 1) := by decide +kernel
theorem dX7_isFragment_24 : decode cX7_isFragment 24 = .ok (.goto 4, 3) := by decide +kernel
theorem dX7_isFragment_27 : decode cX7_isFragment 27 = .ok (.iconst 0, 1) := by decide +kernel
theorem dX7_isFragment_28 : decode cX7_isFragment 28 = .ok (.ireturn, 1) := by decide +kernel
theorem dX7_fragment_0 : decode cX7_fragment 0 = .ok (.aload_n 0, 1) := by decide +kernel
theorem dX7_fragment_1 : decode cX7_fragment 1 = .ok (.iload_n 1, 1) := by decide +kernel
theorem dX7_fragment_2 : decode cX7_fragment 2 = .ok (.iload_n 2, 1) := by decide +kernel
theorem dX7_fragment_3 : decode cX7_fragment 3 = .ok (.invokevirtual 109, 3) := by decide +kernel
theorem dX7_fragment_6 : decode cX7_fragment 6 = .ok (.ifCond .eq 12, 3) := by decide +kernel
theorem dX7_fragment_9 : decode cX7_fragment 9 = .ok (.iload_n 3, 1) := by decide +kernel
theorem dX7_fragment_10 : decode cX7_fragment 10 = .ok (.iconst 0, 1) := by decide +kernel
theorem dX7_fragment_11 : decode cX7_fragment 11 = .ok (.iconst 1, 1) := by decide +kernel
theorem dX7_fragment_12 : decode cX7_fragment 12 = .ok (.invokestatic 25, 3) := by decide +kernel
theorem dX7_fragment_15 : decode cX7_fragment 15 = .ok (.ifCond .ne 7, 3) := by decide +kernel
theorem dX7_fragment_18 : decode cX7_fragment 18 = .ok (.sipush (-10001), 3) := by decide +kernel
theorem dX7_fragment_21 : decode cX7_fragment 21 = .ok (.ireturn, 1) := by decide +kernel
theorem dX7_fragment_22 : decode cX7_fragment 22 = .ok (.aload_n 0, 1) := by decide +kernel
theorem dX7_fragment_23 : decode cX7_fragment 23 = .ok (.iload_n 1, 1) := by decide +kernel
theorem dX7_fragment_24 : decode cX7_fragment 24 = .ok (.bipush 10, 2) := by decide +kernel
theorem dX7_fragment_26 : decode cX7_fragment 26 = .ok (.iload_n 2, 1) := by decide +kernel
theorem dX7_fragment_27 : decode cX7_fragment 27 = .ok (.iadd, 1) := by decide +kernel
theorem dX7_fragment_28 : decode cX7_fragment 28 = .ok (.invokevirtual 29, 3) := by decide +kernel
theorem dX7_fragment_31 : decode cX7_fragment 31 = .ok (.ifCond .ge 7, 3) := by decide +kernel
theorem dX7_fragment_34 : decode cX7_fragment 34 = .ok (.sipush (-10004), 3) := by decide +kernel
theorem dX7_fragment_37 : decode cX7_fragment 37 = .ok (.ireturn, 1) := by decide +kernel
theorem dX7_fragment_38 : decode cX7_fragment 38 = .ok (.iload_n 3, 1) := by decide +kernel
theorem dX7_fragment_39 : decode cX7_fragment 39 = .ok (.ifCond .ne 15, 3) := by decide +kernel
theorem dX7_fragment_42 : decode cX7_fragment 42 = .ok (.aload_n 0, 1) := by decide +kernel
theorem dX7_fragment_43 : decode cX7_fragment 43 = .ok (.iload_n 1, 1) := by decide +kernel
theorem dX7_fragment_44 : decode cX7_fragment 44 = .ok (.bipush 10, 2) := by decide +kernel
theorem dX7_fragment_46 : decode cX7_fragment 46 = .ok (.iload_n 2, 1) := by decide +kernel
theorem dX7_fragment_47 : decode cX7_fragment 47 = .ok (.iadd, 1) := by decide +kernel
theorem dX7_fragment_48 : decode cX7_fragment 48 = .ok (.invokevirtual 29, 3) := by decide +kernel
theorem dX7_fragment_51 : decode cX7_fragment 51 = .ok (.goto 9, 3) := by decide +kernel
theorem dX7_fragment_54 : decode cX7_fragment 54 = .ok (.aload_n 0, 1) := by decide +kernel
theorem dX7_fragment_55 : decode cX7_fragment 55 = .ok (.iload_n 1, 1) := by decide +kernel
theorem dX7_fragment_56 : decode cX7_fragment 56 = .ok (.iload_n 2, 1) := by decide +kernel
theorem dX7_fragment_57 : decode cX7_fragment 57 = .ok (.invokevirtual 112, 3) := by decide +kernel
theorem dX7_fragment_60 : decode cX7_fragment 60 = .ok (.ireturn, 1) := by decide +kernel
theorem dX7_read_0 : decode cX7_read 0 = .ok (.aload_n 0, 1) := by decide +kernel
theorem dX7_read_1 : decode cX7_read 1 = .ok (.iload_n 1, 1) := by decide +kernel
theorem dX7_read_2 : decode cX7_read 2 = .ok (.invokevirtual 43, 3) := by decide +kernel
theorem dX7_read_5 : decode cX7_read 5 = .ok (.ifCond .eq 19, 3) := by decide +kernel
theorem dX7_read_8 : decode cX7_read 8 = .ok (.iload_n 2, 1) := by decide +kernel
theorem dX7_read_9 : decode cX7_read 9 = .ok (.iconst 0, 1) := by decide +kernel
theorem dX7_read_10 : decode cX7_read 10 = .ok (.aload_n 0, 1) := by decide +kernel
theorem dX7_read_11 : decode cX7_read 11 = .ok (.iload_n 1, 1) := by decide +kernel
theorem dX7_read_12 : decode cX7_read 12 = .ok (.iconst 2, 1) := by decide +kernel
theorem dX7_read_13 : decode cX7_read 13 = .ok (.invokevirtual 29, 3) := by decide +kernel
theorem dX7_read_16 : decode cX7_read 16 = .ok (.iconst 1, 1) := by decide +kernel
theorem dX7_read_17 : decode cX7_read 17 = .ok (.isub, 1) := by decide +kernel
theorem dX7_read_18 : decode cX7_read 18 = .ok (.invokestatic 25, 3) := by decide +kernel
theorem dX7_read_21 : decode cX7_read 21 = .ok (.ifCond .ne 7, 3) := by decide +kernel
theorem dX7_read_24 : decode cX7_read 24 = .ok (.sipush (-10001), 3) := by decide +kernel
theorem dX7_read_27 : decode cX7_read 27 = .ok (.ireturn, 1) := by decide +kernel
theorem dX7_read_28 : decode cX7_read 28 = .ok (.aload_n 0, 1) := by decide +kernel
theorem dX7_read_29 : decode cX7_read 29 = .ok (.iload_n 1, 1) := by decide +kernel
theorem dX7_read_30 : decode cX7_read 30 = .ok (.invokevirtual 106, 3) := by decide +kernel
theorem dX7_read_33 : decode cX7_read 33 = .ok (.ifCond .ne 12, 3) := by decide +kernel
theorem dX7_read_36 : decode cX7_read 36 = .ok (.aload_n 0, 1) := by decide +kernel
theorem dX7_read_37 : decode cX7_read 37 = .ok (.iload_n 1, 1) := by decide +kernel
theorem dX7_read_38 : decode cX7_read 38 = .ok (.iload_n 2, 1) := by decide +kernel
theorem dX7_read_39 : decode cX7_read 39 = .ok (.invokevirtual 54, 3) := by decide +kernel
theorem dX7_read_42 : decode cX7_read 42 = .ok (.ifCond .eq 14, 3) := by decide +kernel
theorem dX7_read_45 : decode cX7_read 45 = .ok (.aload_n 0, 1) := by decide +kernel
theorem dX7_read_46 : decode cX7_read 46 = .ok (.iload_n 1, 1) := by decide +kernel
theorem dX7_read_47 : decode cX7_read 47 = .ok (.iconst 4, 1) := by decide +kernel
theorem dX7_read_48 : decode cX7_read 48 = .ok (.iload_n 2, 1) := by decide +kernel
theorem dX7_read_49 : decode cX7_read 49 = .ok (.iadd, 1) := by decide +kernel
theorem dX7_read_50 : decode cX7_read 50 = .ok (.invokevirtual 29, 3) := by decide +kernel
theorem dX7_read_53 : decode cX7_read 53 = .ok (.goto 6, 3) := by decide +kernel
theorem dX7_read_56 : decode cX7_read 56 = .ok (.sipush (-10002), 3) := by decide +kernel
theorem dX7_read_59 : decode cX7_read 59 = .ok (.ireturn, 1) := by decide +kernel
theorem dX7_solves_0 : decode cX7_solves 0 = .ok (.iconst 0, 1) := by decide +kernel
theorem dX7_solves_1 : decode cX7_solves 1 = .ok (.istore_n 2, 1) := by decide +kernel
theorem dX7_solves_2 : decode cX7_solves 2 = .ok (.iload_n 2, 1) := by decide +kernel
theorem dX7_solves_3 : decode cX7_solves 3 = .ok (.iload_n 1, 1) := by decide +kernel
theorem dX7_solves_4 : decode cX7_solves 4 = .ok (.if_icmp .ge 230, 3) := by decide +kernel
theorem dX7_solves_7 : decode cX7_solves 7 = .ok (.iload_n 2, 1) := by decide +kernel
theorem dX7_solves_8 : decode cX7_solves 8 = .ok (.istore_n 3, 1) := by decide +kernel
theorem dX7_solves_9 : decode cX7_solves 9 = .ok (.aload_n 0, 1) := by decide +kernel
theorem dX7_solves_10 : decode cX7_solves 10 = .ok (.getfield 22, 3) := by decide +kernel
theorem dX7_solves_13 : decode cX7_solves 13 = .ok (.bipush 7, 2) := by decide +kernel
theorem dX7_solves_15 : decode cX7_solves 15 = .ok (.iload_n 3, 1) := by decide +kernel
theorem dX7_solves_16 : decode cX7_solves 16 = .ok (.imul, 1) := by decide +kernel
theorem dX7_solves_17 : decode cX7_solves 17 = .ok (.iload_n 2, 1) := by decide +kernel
theorem dX7_solves_18 : decode cX7_solves 18 = .ok (.iadd, 1) := by decide +kernel
theorem dX7_solves_19 : decode cX7_solves 19 = .ok (.iaload, 1) := by decide +kernel
theorem dX7_solves_20 : decode cX7_solves 20 = .ok (.ifCond .ne 9, 3) := by decide +kernel
theorem dX7_solves_23 : decode cX7_solves 23 = .ok (.iinc 3 1, 3) := by decide +kernel
theorem dX7_solves_26 : decode cX7_solves 26 = .ok (.goto (-17), 3) := by decide +kernel
theorem dX7_solves_29 : decode cX7_solves 29 = .ok (.aload_n 0, 1) := by decide +kernel
theorem dX7_solves_30 : decode cX7_solves 30 = .ok (.getfield 22, 3) := by decide +kernel
theorem dX7_solves_33 : decode cX7_solves 33 = .ok (.bipush 7, 2) := by decide +kernel
theorem dX7_solves_35 : decode cX7_solves 35 = .ok (.iload_n 3, 1) := by decide +kernel
theorem dX7_solves_36 : decode cX7_solves 36 = .ok (.imul, 1) := by decide +kernel
theorem dX7_solves_37 : decode cX7_solves 37 = .ok (.iload_n 2, 1) := by decide +kernel
theorem dX7_solves_38 : decode cX7_solves 38 = .ok (.iadd, 1) := by decide +kernel
theorem dX7_solves_39 : decode cX7_solves 39 = .ok (.iaload, 1) := by decide +kernel
theorem dX7_solves_40 : decode cX7_solves 40 = .ok (.sipush 255, 3) := by decide +kernel
theorem dX7_solves_43 : decode cX7_solves 43 = .ok (.invokestatic 61, 3) := by decide +kernel
theorem dX7_solves_46 : decode cX7_solves 46 = .ok (.istore 4, 2) := by decide +kernel
theorem dX7_solves_48 : decode cX7_solves 48 = .ok (.iconst 0, 1) := by decide +kernel
theorem dX7_solves_49 : decode cX7_solves 49 = .ok (.istore 5, 2) := by decide +kernel
theorem dX7_solves_51 : decode cX7_solves 51 = .ok (.iload 5, 2) := by decide +kernel
theorem dX7_solves_53 : decode cX7_solves 53 = .ok (.bipush 7, 2) := by decide +kernel
theorem dX7_solves_55 : decode cX7_solves 55 = .ok (.if_icmp .ge 68, 3) := by decide +kernel
theorem dX7_solves_58 : decode cX7_solves 58 = .ok (.aload_n 0, 1) := by decide +kernel
theorem dX7_solves_59 : decode cX7_solves 59 = .ok (.getfield 22, 3) := by decide +kernel
theorem dX7_solves_62 : decode cX7_solves 62 = .ok (.bipush 7, 2) := by decide +kernel
theorem dX7_solves_64 : decode cX7_solves 64 = .ok (.iload_n 3, 1) := by decide +kernel
theorem dX7_solves_65 : decode cX7_solves 65 = .ok (.imul, 1) := by decide +kernel
theorem dX7_solves_66 : decode cX7_solves 66 = .ok (.iload 5, 2) := by decide +kernel
theorem dX7_solves_68 : decode cX7_solves 68 = .ok (.iadd, 1) := by decide +kernel
theorem dX7_solves_69 : decode cX7_solves 69 = .ok (.iaload, 1) := by decide +kernel
theorem dX7_solves_70 : decode cX7_solves 70 = .ok (.iload 4, 2) := by decide +kernel
theorem dX7_solves_72 : decode cX7_solves 72 = .ok (.imul, 1) := by decide +kernel
theorem dX7_solves_73 : decode cX7_solves 73 = .ok (.sipush 257, 3) := by decide +kernel
theorem dX7_solves_76 : decode cX7_solves 76 = .ok (.irem, 1) := by decide +kernel
theorem dX7_solves_77 : decode cX7_solves 77 = .ok (.istore 6, 2) := by decide +kernel
theorem dX7_solves_79 : decode cX7_solves 79 = .ok (.aload_n 0, 1) := by decide +kernel
theorem dX7_solves_80 : decode cX7_solves 80 = .ok (.getfield 22, 3) := by decide +kernel
theorem dX7_solves_83 : decode cX7_solves 83 = .ok (.bipush 7, 2) := by decide +kernel
theorem dX7_solves_85 : decode cX7_solves 85 = .ok (.iload_n 3, 1) := by decide +kernel
theorem dX7_solves_86 : decode cX7_solves 86 = .ok (.imul, 1) := by decide +kernel
theorem dX7_solves_87 : decode cX7_solves 87 = .ok (.iload 5, 2) := by decide +kernel
theorem dX7_solves_89 : decode cX7_solves 89 = .ok (.iadd, 1) := by decide +kernel
theorem dX7_solves_90 : decode cX7_solves 90 = .ok (.aload_n 0, 1) := by decide +kernel
theorem dX7_solves_91 : decode cX7_solves 91 = .ok (.getfield 22, 3) := by decide +kernel
theorem dX7_solves_94 : decode cX7_solves 94 = .ok (.bipush 7, 2) := by decide +kernel
theorem dX7_solves_96 : decode cX7_solves 96 = .ok (.iload_n 2, 1) := by decide +kernel
theorem dX7_solves_97 : decode cX7_solves 97 = .ok (.imul, 1) := by decide +kernel
theorem dX7_solves_98 : decode cX7_solves 98 = .ok (.iload 5, 2) := by decide +kernel
theorem dX7_solves_100 : decode cX7_solves 100 = .ok (.iadd, 1) := by decide +kernel
theorem dX7_solves_101 : decode cX7_solves 101 = .ok (.iaload, 1) := by decide +kernel
theorem dX7_solves_102 : decode cX7_solves 102 = .ok (.iastore, 1) := by decide +kernel
theorem dX7_solves_103 : decode cX7_solves 103 = .ok (.aload_n 0, 1) := by decide +kernel
theorem dX7_solves_104 : decode cX7_solves 104 = .ok (.getfield 22, 3) := by decide +kernel
theorem dX7_solves_107 : decode cX7_solves 107 = .ok (.bipush 7, 2) := by decide +kernel
theorem dX7_solves_109 : decode cX7_solves 109 = .ok (.iload_n 2, 1) := by decide +kernel
theorem dX7_solves_110 : decode cX7_solves 110 = .ok (.imul, 1) := by decide +kernel
theorem dX7_solves_111 : decode cX7_solves 111 = .ok (.iload 5, 2) := by decide +kernel
theorem dX7_solves_113 : decode cX7_solves 113 = .ok (.iadd, 1) := by decide +kernel
theorem dX7_solves_114 : decode cX7_solves 114 = .ok (.iload 6, 2) := by decide +kernel
theorem dX7_solves_116 : decode cX7_solves 116 = .ok (.iastore, 1) := by decide +kernel
theorem dX7_solves_117 : decode cX7_solves 117 = .ok (.iinc 5 1, 3) := by decide +kernel
theorem dX7_solves_120 : decode cX7_solves 120 = .ok (.goto (-69), 3) := by decide +kernel
theorem dX7_solves_123 : decode cX7_solves 123 = .ok (.iconst 0, 1) := by decide +kernel
theorem dX7_solves_124 : decode cX7_solves 124 = .ok (.istore 5, 2) := by decide +kernel
theorem dX7_solves_126 : decode cX7_solves 126 = .ok (.iload 5, 2) := by decide +kernel
theorem dX7_solves_128 : decode cX7_solves 128 = .ok (.iload_n 1, 1) := by decide +kernel
theorem dX7_solves_129 : decode cX7_solves 129 = .ok (.if_icmp .ge 99, 3) := by decide +kernel
theorem dX7_solves_132 : decode cX7_solves 132 = .ok (.iload 5, 2) := by decide +kernel
theorem dX7_solves_134 : decode cX7_solves 134 = .ok (.iload_n 2, 1) := by decide +kernel
theorem dX7_solves_135 : decode cX7_solves 135 = .ok (.if_icmp .ne 7, 3) := by decide +kernel
theorem dX7_solves_138 : decode cX7_solves 138 = .ok (.iconst 0, 1) := by decide +kernel
theorem dX7_solves_139 : decode cX7_solves 139 = .ok (.goto 15, 3) := by decide +kernel
theorem dX7_solves_142 : decode cX7_solves 142 = .ok (.aload_n 0, 1) := by decide +kernel
theorem dX7_solves_143 : decode cX7_solves 143 = .ok (.getfield 22, 3) := by decide +kernel
theorem dX7_solves_146 : decode cX7_solves 146 = .ok (.bipush 7, 2) := by decide +kernel
theorem dX7_solves_148 : decode cX7_solves 148 = .ok (.iload 5, 2) := by decide +kernel
theorem dX7_solves_150 : decode cX7_solves 150 = .ok (.imul, 1) := by decide +kernel
theorem dX7_solves_151 : decode cX7_solves 151 = .ok (.iload_n 2, 1) := by decide +kernel
theorem dX7_solves_152 : decode cX7_solves 152 = .ok (.iadd, 1) := by decide +kernel
theorem dX7_solves_153 : decode cX7_solves 153 = .ok (.iaload, 1) := by decide +kernel
theorem dX7_solves_154 : decode cX7_solves 154 = .ok (.istore 6, 2) := by decide +kernel
theorem dX7_solves_156 : decode cX7_solves 156 = .ok (.iconst 0, 1) := by decide +kernel
theorem dX7_solves_157 : decode cX7_solves 157 = .ok (.istore 7, 2) := by decide +kernel
theorem dX7_solves_159 : decode cX7_solves 159 = .ok (.iload 7, 2) := by decide +kernel
theorem dX7_solves_161 : decode cX7_solves 161 = .ok (.bipush 7, 2) := by decide +kernel
theorem dX7_solves_163 : decode cX7_solves 163 = .ok (.if_icmp .ge 59, 3) := by decide +kernel
theorem dX7_solves_166 : decode cX7_solves 166 = .ok (.aload_n 0, 1) := by decide +kernel
theorem dX7_solves_167 : decode cX7_solves 167 = .ok (.getfield 22, 3) := by decide +kernel
theorem dX7_solves_170 : decode cX7_solves 170 = .ok (.bipush 7, 2) := by decide +kernel
theorem dX7_solves_172 : decode cX7_solves 172 = .ok (.iload 5, 2) := by decide +kernel
theorem dX7_solves_174 : decode cX7_solves 174 = .ok (.imul, 1) := by decide +kernel
theorem dX7_solves_175 : decode cX7_solves 175 = .ok (.iload 7, 2) := by decide +kernel
theorem dX7_solves_177 : decode cX7_solves 177 = .ok (.iadd, 1) := by decide +kernel
theorem dX7_solves_178 : decode cX7_solves 178 = .ok (.aload_n 0, 1) := by decide +kernel
theorem dX7_solves_179 : decode cX7_solves 179 = .ok (.getfield 22, 3) := by decide +kernel
theorem dX7_solves_182 : decode cX7_solves 182 = .ok (.bipush 7, 2) := by decide +kernel
theorem dX7_solves_184 : decode cX7_solves 184 = .ok (.iload 5, 2) := by decide +kernel
theorem dX7_solves_186 : decode cX7_solves 186 = .ok (.imul, 1) := by decide +kernel
theorem dX7_solves_187 : decode cX7_solves 187 = .ok (.iload 7, 2) := by decide +kernel
theorem dX7_solves_189 : decode cX7_solves 189 = .ok (.iadd, 1) := by decide +kernel
theorem dX7_solves_190 : decode cX7_solves 190 = .ok (.iaload, 1) := by decide +kernel
theorem dX7_solves_191 : decode cX7_solves 191 = .ok (.sipush 257, 3) := by decide +kernel
theorem dX7_solves_194 : decode cX7_solves 194 = .ok (.iload 6, 2) := by decide +kernel
theorem dX7_solves_196 : decode cX7_solves 196 = .ok (.isub, 1) := by decide +kernel
theorem dX7_solves_197 : decode cX7_solves 197 = .ok (.aload_n 0, 1) := by decide +kernel
theorem dX7_solves_198 : decode cX7_solves 198 = .ok (.getfield 22, 3) := by decide +kernel
theorem dX7_solves_201 : decode cX7_solves 201 = .ok (.bipush 7, 2) := by decide +kernel
theorem dX7_solves_203 : decode cX7_solves 203 = .ok (.iload_n 2, 1) := by decide +kernel
theorem dX7_solves_204 : decode cX7_solves 204 = .ok (.imul, 1) := by decide +kernel
theorem dX7_solves_205 : decode cX7_solves 205 = .ok (.iload 7, 2) := by decide +kernel
theorem dX7_solves_207 : decode cX7_solves 207 = .ok (.iadd, 1) := by decide +kernel
theorem dX7_solves_208 : decode cX7_solves 208 = .ok (.iaload, 1) := by decide +kernel
theorem dX7_solves_209 : decode cX7_solves 209 = .ok (.imul, 1) := by decide +kernel
theorem dX7_solves_210 : decode cX7_solves 210 = .ok (.iadd, 1) := by decide +kernel
theorem dX7_solves_211 : decode cX7_solves 211 = .ok (.sipush 257, 3) := by decide +kernel
theorem dX7_solves_214 : decode cX7_solves 214 = .ok (.irem, 1) := by decide +kernel
theorem dX7_solves_215 : decode cX7_solves 215 = .ok (.iastore, 1) := by decide +kernel
theorem dX7_solves_216 : decode cX7_solves 216 = .ok (.iinc 7 1, 3) := by decide +kernel
theorem dX7_solves_219 : decode cX7_solves 219 = .ok (.goto (-60), 3) := by decide +kernel
theorem dX7_solves_222 : decode cX7_solves 222 = .ok (.iinc 5 1, 3) := by decide +kernel
theorem dX7_solves_225 : decode cX7_solves 225 = .ok (.goto (-99), 3) := by decide +kernel
theorem dX7_solves_228 : decode cX7_solves 228 = .ok (.iinc 2 1, 3) := by decide +kernel
theorem dX7_solves_231 : decode cX7_solves 231 = .ok (.goto (-229), 3) := by decide +kernel
theorem dX7_solves_234 : decode cX7_solves 234 = .ok (.return_, 1) := by decide +kernel
theorem dX7_decode_0 : decode cX7_decode 0 = .ok (.aload_n 0, 1) := by decide +kernel
theorem dX7_decode_1 : decode cX7_decode 1 = .ok (.iload_n 1, 1) := by decide +kernel
theorem dX7_decode_2 : decode cX7_decode 2 = .ok (.invokevirtual 43, 3) := by decide +kernel
theorem dX7_decode_5 : decode cX7_decode 5 = .ok (.ifCond .eq 36, 3) := by decide +kernel
theorem dX7_decode_8 : decode cX7_decode 8 = .ok (.iload_n 3, 1) := by decide +kernel
theorem dX7_decode_9 : decode cX7_decode 9 = .ok (.iconst 0, 1) := by decide +kernel
theorem dX7_decode_10 : decode cX7_decode 10 = .ok (.aload_n 0, 1) := by decide +kernel
theorem dX7_decode_11 : decode cX7_decode 11 = .ok (.iload_n 1, 1) := by decide +kernel
theorem dX7_decode_12 : decode cX7_decode 12 = .ok (.iconst 2, 1) := by decide +kernel
theorem dX7_decode_13 : decode cX7_decode 13 = .ok (.invokevirtual 29, 3) := by decide +kernel
theorem dX7_decode_16 : decode cX7_decode 16 = .ok (.iconst 1, 1) := by decide +kernel
theorem dX7_decode_17 : decode cX7_decode 17 = .ok (.isub, 1) := by decide +kernel
theorem dX7_decode_18 : decode cX7_decode 18 = .ok (.invokestatic 25, 3) := by decide +kernel
theorem dX7_decode_21 : decode cX7_decode 21 = .ok (.ifCond .eq 20, 3) := by decide +kernel
theorem dX7_decode_24 : decode cX7_decode 24 = .ok (.iload_n 2, 1) := by decide +kernel
theorem dX7_decode_25 : decode cX7_decode 25 = .ok (.iconst 0, 1) := by decide +kernel
theorem dX7_decode_26 : decode cX7_decode 26 = .ok (.iconst 1, 1) := by decide +kernel
theorem dX7_decode_27 : decode cX7_decode 27 = .ok (.aload_n 0, 1) := by decide +kernel
theorem dX7_decode_28 : decode cX7_decode 28 = .ok (.iload_n 1, 1) := by decide +kernel
theorem dX7_decode_29 : decode cX7_decode 29 = .ok (.invokevirtual 47, 3) := by decide +kernel
theorem dX7_decode_32 : decode cX7_decode 32 = .ok (.ishl, 1) := by decide +kernel
theorem dX7_decode_33 : decode cX7_decode 33 = .ok (.iconst 1, 1) := by decide +kernel
theorem dX7_decode_34 : decode cX7_decode 34 = .ok (.isub, 1) := by decide +kernel
theorem dX7_decode_35 : decode cX7_decode 35 = .ok (.invokestatic 25, 3) := by decide +kernel
theorem dX7_decode_38 : decode cX7_decode 38 = .ok (.ifCond .ne 7, 3) := by decide +kernel
theorem dX7_decode_41 : decode cX7_decode 41 = .ok (.sipush (-10001), 3) := by decide +kernel
theorem dX7_decode_44 : decode cX7_decode 44 = .ok (.ireturn, 1) := by decide +kernel
theorem dX7_decode_45 : decode cX7_decode 45 = .ok (.aload_n 0, 1) := by decide +kernel
theorem dX7_decode_46 : decode cX7_decode 46 = .ok (.iload_n 1, 1) := by decide +kernel
theorem dX7_decode_47 : decode cX7_decode 47 = .ok (.iconst 2, 1) := by decide +kernel
theorem dX7_decode_48 : decode cX7_decode 48 = .ok (.invokevirtual 29, 3) := by decide +kernel
theorem dX7_decode_51 : decode cX7_decode 51 = .ok (.istore 4, 2) := by decide +kernel
theorem dX7_decode_53 : decode cX7_decode 53 = .ok (.iconst 0, 1) := by decide +kernel
theorem dX7_decode_54 : decode cX7_decode 54 = .ok (.istore 5, 2) := by decide +kernel
theorem dX7_decode_56 : decode cX7_decode 56 = .ok (.iconst 0, 1) := by decide +kernel
theorem dX7_decode_57 : decode cX7_decode 57 = .ok (.istore 6, 2) := by decide +kernel
theorem dX7_decode_59 : decode cX7_decode 59 = .ok (.iconst 0, 1) := by decide +kernel
theorem dX7_decode_60 : decode cX7_decode 60 = .ok (.istore 7, 2) := by decide +kernel
theorem dX7_decode_62 : decode cX7_decode 62 = .ok (.iload 7, 2) := by decide +kernel
theorem dX7_decode_64 : decode cX7_decode 64 = .ok (.aload_n 0, 1) := by decide +kernel
theorem dX7_decode_65 : decode cX7_decode 65 = .ok (.iload_n 1, 1) := by decide +kernel
theorem dX7_decode_66 : decode cX7_decode 66 = .ok (.invokevirtual 47, 3) := by decide +kernel
theorem dX7_decode_69 : decode cX7_decode 69 = .ok (.if_icmp .ge 71, 3) := by decide +kernel
theorem dX7_decode_72 : decode cX7_decode 72 = .ok (.iload_n 2, 1) := by decide +kernel
theorem dX7_decode_73 : decode cX7_decode 73 = .ok (.iload 7, 2) := by decide +kernel
theorem dX7_decode_75 : decode cX7_decode 75 = .ok (.ishr, 1) := by decide +kernel
theorem dX7_decode_76 : decode cX7_decode 76 = .ok (.iconst 1, 1) := by decide +kernel
theorem dX7_decode_77 : decode cX7_decode 77 = .ok (.iand, 1) := by decide +kernel
theorem dX7_decode_78 : decode cX7_decode 78 = .ok (.iconst 1, 1) := by decide +kernel
theorem dX7_decode_79 : decode cX7_decode 79 = .ok (.if_icmp .ne 7, 3) := by decide +kernel
theorem dX7_decode_82 : decode cX7_decode 82 = .ok (.iconst 1, 1) := by decide +kernel
theorem dX7_decode_83 : decode cX7_decode 83 = .ok (.goto 4, 3) := by decide +kernel
theorem dX7_decode_86 : decode cX7_decode 86 = .ok (.iconst 0, 1) := by decide +kernel
theorem dX7_decode_87 : decode cX7_decode 87 = .ok (.istore 8, 2) := by decide +kernel
theorem dX7_decode_89 : decode cX7_decode 89 = .ok (.iload 5, 2) := by decide +kernel
theorem dX7_decode_91 : decode cX7_decode 91 = .ok (.iload 8, 2) := by decide +kernel
theorem dX7_decode_93 : decode cX7_decode 93 = .ok (.ifCond .eq 7, 3) := by decide +kernel
theorem dX7_decode_96 : decode cX7_decode 96 = .ok (.iconst 1, 1) := by decide +kernel
theorem dX7_decode_97 : decode cX7_decode 97 = .ok (.goto 4, 3) := by decide +kernel
theorem dX7_decode_100 : decode cX7_decode 100 = .ok (.iconst 0, 1) := by decide +kernel
theorem dX7_decode_101 : decode cX7_decode 101 = .ok (.iadd, 1) := by decide +kernel
theorem dX7_decode_102 : decode cX7_decode 102 = .ok (.istore 5, 2) := by decide +kernel
theorem dX7_decode_104 : decode cX7_decode 104 = .ok (.iload 6, 2) := by decide +kernel
theorem dX7_decode_106 : decode cX7_decode 106 = .ok (.ifCond .ne 21, 3) := by decide +kernel
theorem dX7_decode_109 : decode cX7_decode 109 = .ok (.iload 8, 2) := by decide +kernel
theorem dX7_decode_111 : decode cX7_decode 111 = .ok (.ifCond .eq 20, 3) := by decide +kernel
theorem dX7_decode_114 : decode cX7_decode 114 = .ok (.aload_n 0, 1) := by decide +kernel
theorem dX7_decode_115 : decode cX7_decode 115 = .ok (.iload_n 1, 1) := by decide +kernel
theorem dX7_decode_116 : decode cX7_decode 116 = .ok (.bipush 10, 2) := by decide +kernel
theorem dX7_decode_118 : decode cX7_decode 118 = .ok (.iload 7, 2) := by decide +kernel
theorem dX7_decode_120 : decode cX7_decode 120 = .ok (.iadd, 1) := by decide +kernel
theorem dX7_decode_121 : decode cX7_decode 121 = .ok (.invokevirtual 29, 3) := by decide +kernel
theorem dX7_decode_124 : decode cX7_decode 124 = .ok (.ifCond .ge 7, 3) := by decide +kernel
theorem dX7_decode_127 : decode cX7_decode 127 = .ok (.iconst 1, 1) := by decide +kernel
theorem dX7_decode_128 : decode cX7_decode 128 = .ok (.goto 4, 3) := by decide +kernel
theorem dX7_decode_131 : decode cX7_decode 131 = .ok (.iconst 0, 1) := by decide +kernel
theorem dX7_decode_132 : decode cX7_decode 132 = .ok (.istore 6, 2) := by decide +kernel
theorem dX7_decode_134 : decode cX7_decode 134 = .ok (.iinc 7 1, 3) := by decide +kernel
theorem dX7_decode_137 : decode cX7_decode 137 = .ok (.goto (-75), 3) := by decide +kernel
theorem dX7_decode_140 : decode cX7_decode 140 = .ok (.iload 5, 2) := by decide +kernel
theorem dX7_decode_142 : decode cX7_decode 142 = .ok (.iload 4, 2) := by decide +kernel
theorem dX7_decode_144 : decode cX7_decode 144 = .ok (.if_icmp .eq 7, 3) := by decide +kernel
theorem dX7_decode_147 : decode cX7_decode 147 = .ok (.sipush (-10001), 3) := by decide +kernel
theorem dX7_decode_150 : decode cX7_decode 150 = .ok (.ireturn, 1) := by decide +kernel
theorem dX7_decode_151 : decode cX7_decode 151 = .ok (.iload 6, 2) := by decide +kernel
theorem dX7_decode_153 : decode cX7_decode 153 = .ok (.ifCond .eq 7, 3) := by decide +kernel
theorem dX7_decode_156 : decode cX7_decode 156 = .ok (.sipush (-10004), 3) := by decide +kernel
theorem dX7_decode_159 : decode cX7_decode 159 = .ok (.ireturn, 1) := by decide +kernel
theorem dX7_decode_160 : decode cX7_decode 160 = .ok (.iconst 0, 1) := by decide +kernel
theorem dX7_decode_161 : decode cX7_decode 161 = .ok (.istore 7, 2) := by decide +kernel
theorem dX7_decode_163 : decode cX7_decode 163 = .ok (.iconst 0, 1) := by decide +kernel
theorem dX7_decode_164 : decode cX7_decode 164 = .ok (.istore 8, 2) := by decide +kernel
theorem dX7_decode_166 : decode cX7_decode 166 = .ok (.iload 8, 2) := by decide +kernel
theorem dX7_decode_168 : decode cX7_decode 168 = .ok (.aload_n 0, 1) := by decide +kernel
theorem dX7_decode_169 : decode cX7_decode 169 = .ok (.iload_n 1, 1) := by decide +kernel
theorem dX7_decode_170 : decode cX7_decode 170 = .ok (.invokevirtual 47, 3) := by decide +kernel
theorem dX7_decode_173 : decode cX7_decode 173 = .ok (.if_icmp .ge 116, 3) := by decide +kernel
theorem dX7_decode_176 : decode cX7_decode 176 = .ok (.iload_n 2, 1) := by decide +kernel
theorem dX7_decode_177 : decode cX7_decode 177 = .ok (.iload 8, 2) := by decide +kernel
theorem dX7_decode_179 : decode cX7_decode 179 = .ok (.ishr, 1) := by decide +kernel
theorem dX7_decode_180 : decode cX7_decode 180 = .ok (.iconst 1, 1) := by decide +kernel
theorem dX7_decode_181 : decode cX7_decode 181 = .ok (.iand, 1) := by decide +kernel
theorem dX7_decode_182 : decode cX7_decode 182 = .ok (.iconst 1, 1) := by decide +kernel
theorem dX7_decode_183 : decode cX7_decode 183 = .ok (.if_icmp .ne 100, 3) := by decide +kernel
theorem dX7_decode_186 : decode cX7_decode 186 = .ok (.iconst 0, 1) := by decide +kernel
theorem dX7_decode_187 : decode cX7_decode 187 = .ok (.istore 9, 2) := by decide +kernel
theorem dX7_decode_189 : decode cX7_decode 189 = .ok (.iload 9, 2) := by decide +kernel
theorem dX7_decode_191 : decode cX7_decode 191 = .ok (.bipush 6, 2) := by decide +kernel
theorem dX7_decode_193 : decode cX7_decode 193 = .ok (.if_icmp .ge 67, 3) := by decide +kernel
theorem dX7_decode_196 : decode cX7_decode 196 = .ok (.aload_n 0, 1) := by decide +kernel
theorem dX7_decode_197 : decode cX7_decode 197 = .ok (.getfield 22, 3) := by decide +kernel
theorem dX7_decode_200 : decode cX7_decode 200 = .ok (.bipush 7, 2) := by decide +kernel
theorem dX7_decode_202 : decode cX7_decode 202 = .ok (.iload 7, 2) := by decide +kernel
theorem dX7_decode_204 : decode cX7_decode 204 = .ok (.imul, 1) := by decide +kernel
theorem dX7_decode_205 : decode cX7_decode 205 = .ok (.iload 9, 2) := by decide +kernel
theorem dX7_decode_207 : decode cX7_decode 207 = .ok (.iadd, 1) := by decide +kernel
theorem dX7_decode_208 : decode cX7_decode 208 = .ok (.iload 9, 2) := by decide +kernel
theorem dX7_decode_210 : decode cX7_decode 210 = .ok (.iload 4, 2) := by decide +kernel
theorem dX7_decode_212 : decode cX7_decode 212 = .ok (.if_icmp .lt 7, 3) := by decide +kernel
theorem dX7_decode_215 : decode cX7_decode 215 = .ok (.iconst 0, 1) := by decide +kernel
theorem dX7_decode_216 : decode cX7_decode 216 = .ok (.goto 37, 3) := by decide +kernel
theorem dX7_decode_219 : decode cX7_decode 219 = .ok (.iload 8, 2) := by decide +kernel
theorem dX7_decode_221 : decode cX7_decode 221 = .ok (.iload 4, 2) := by decide +kernel
theorem dX7_decode_223 : decode cX7_decode 223 = .ok (.if_icmp .lt 18, 3) := by decide +kernel
theorem dX7_decode_226 : decode cX7_decode 226 = .ok (.iload 9, 2) := by decide +kernel
theorem dX7_decode_228 : decode cX7_decode 228 = .ok (.iconst 1, 1) := by decide +kernel
theorem dX7_decode_229 : decode cX7_decode 229 = .ok (.iadd, 1) := by decide +kernel
theorem dX7_decode_230 : decode cX7_decode 230 = .ok (.iload 8, 2) := by decide +kernel
theorem dX7_decode_232 : decode cX7_decode 232 = .ok (.iload 4, 2) := by decide +kernel
theorem dX7_decode_234 : decode cX7_decode 234 = .ok (.isub, 1) := by decide +kernel
theorem dX7_decode_235 : decode cX7_decode 235 = .ok (.invokestatic 61, 3) := by decide +kernel
theorem dX7_decode_238 : decode cX7_decode 238 = .ok (.goto 15, 3) := by decide +kernel
theorem dX7_decode_241 : decode cX7_decode 241 = .ok (.iload 8, 2) := by decide +kernel
theorem dX7_decode_243 : decode cX7_decode 243 = .ok (.iload 9, 2) := by decide +kernel
theorem dX7_decode_245 : decode cX7_decode 245 = .ok (.if_icmp .ne 7, 3) := by decide +kernel
theorem dX7_decode_248 : decode cX7_decode 248 = .ok (.iconst 1, 1) := by decide +kernel
theorem dX7_decode_249 : decode cX7_decode 249 = .ok (.goto 4, 3) := by decide +kernel
theorem dX7_decode_252 : decode cX7_decode 252 = .ok (.iconst 0, 1) := by decide +kernel
theorem dX7_decode_253 : decode cX7_decode 253 = .ok (.iastore, 1) := by decide +kernel
theorem dX7_decode_254 : decode cX7_decode 254 = .ok (.iinc 9 1, 3) := by decide +kernel
theorem dX7_decode_257 : decode cX7_decode 257 = .ok (.goto (-68), 3) := by decide +kernel
theorem dX7_decode_260 : decode cX7_decode 260 = .ok (.aload_n 0, 1) := by decide +kernel
theorem dX7_decode_261 : decode cX7_decode 261 = .ok (.getfield 22, 3) := by decide +kernel
theorem dX7_decode_264 : decode cX7_decode 264 = .ok (.bipush 7, 2) := by decide +kernel
theorem dX7_decode_266 : decode cX7_decode 266 = .ok (.iload 7, 2) := by decide +kernel
theorem dX7_decode_268 : decode cX7_decode 268 = .ok (.imul, 1) := by decide +kernel
theorem dX7_decode_269 : decode cX7_decode 269 = .ok (.bipush 6, 2) := by decide +kernel
theorem dX7_decode_271 : decode cX7_decode 271 = .ok (.iadd, 1) := by decide +kernel
theorem dX7_decode_272 : decode cX7_decode 272 = .ok (.aload_n 0, 1) := by decide +kernel
theorem dX7_decode_273 : decode cX7_decode 273 = .ok (.iload_n 1, 1) := by decide +kernel
theorem dX7_decode_274 : decode cX7_decode 274 = .ok (.iload 8, 2) := by decide +kernel
theorem dX7_decode_276 : decode cX7_decode 276 = .ok (.invokevirtual 112, 3) := by decide +kernel
theorem dX7_decode_279 : decode cX7_decode 279 = .ok (.iastore, 1) := by decide +kernel
theorem dX7_decode_280 : decode cX7_decode 280 = .ok (.iinc 7 1, 3) := by decide +kernel
theorem dX7_decode_283 : decode cX7_decode 283 = .ok (.iinc 8 1, 3) := by decide +kernel
theorem dX7_decode_286 : decode cX7_decode 286 = .ok (.goto (-120), 3) := by decide +kernel
theorem dX7_decode_289 : decode cX7_decode 289 = .ok (.aload_n 0, 1) := by decide +kernel
theorem dX7_decode_290 : decode cX7_decode 290 = .ok (.iload 4, 2) := by decide +kernel
theorem dX7_decode_292 : decode cX7_decode 292 = .ok (.invokevirtual 115, 3) := by decide +kernel
theorem dX7_decode_295 : decode cX7_decode 295 = .ok (.aload_n 0, 1) := by decide +kernel
theorem dX7_decode_296 : decode cX7_decode 296 = .ok (.getfield 22, 3) := by decide +kernel
theorem dX7_decode_299 : decode cX7_decode 299 = .ok (.bipush 7, 2) := by decide +kernel
theorem dX7_decode_301 : decode cX7_decode 301 = .ok (.iload_n 3, 1) := by decide +kernel
theorem dX7_decode_302 : decode cX7_decode 302 = .ok (.imul, 1) := by decide +kernel
theorem dX7_decode_303 : decode cX7_decode 303 = .ok (.bipush 6, 2) := by decide +kernel
theorem dX7_decode_305 : decode cX7_decode 305 = .ok (.iadd, 1) := by decide +kernel
theorem dX7_decode_306 : decode cX7_decode 306 = .ok (.iaload, 1) := by decide +kernel
theorem dX7_decode_307 : decode cX7_decode 307 = .ok (.ireturn, 1) := by decide +kernel
theorem dX7_spoil_0 : decode cX7_spoil 0 = .ok (.aload_n 0, 1) := by decide +kernel
theorem dX7_spoil_1 : decode cX7_spoil 1 = .ok (.iload_n 1, 1) := by decide +kernel
theorem dX7_spoil_2 : decode cX7_spoil 2 = .ok (.iload_n 2, 1) := by decide +kernel
theorem dX7_spoil_3 : decode cX7_spoil 3 = .ok (.invokevirtual 109, 3) := by decide +kernel
theorem dX7_spoil_6 : decode cX7_spoil 6 = .ok (.ifCond .eq 14, 3) := by decide +kernel
theorem dX7_spoil_9 : decode cX7_spoil 9 = .ok (.iload_n 3, 1) := by decide +kernel
theorem dX7_spoil_10 : decode cX7_spoil 10 = .ok (.iconst 1, 1) := by decide +kernel
theorem dX7_spoil_11 : decode cX7_spoil 11 = .ok (.sipush 256, 3) := by decide +kernel
theorem dX7_spoil_14 : decode cX7_spoil 14 = .ok (.invokestatic 25, 3) := by decide +kernel
theorem dX7_spoil_17 : decode cX7_spoil 17 = .ok (.ifCond .ne 7, 3) := by decide +kernel
theorem dX7_spoil_20 : decode cX7_spoil 20 = .ok (.sipush (-10001), 3) := by decide +kernel
theorem dX7_spoil_23 : decode cX7_spoil 23 = .ok (.ireturn, 1) := by decide +kernel
theorem dX7_spoil_24 : decode cX7_spoil 24 = .ok (.aload_n 0, 1) := by decide +kernel
theorem dX7_spoil_25 : decode cX7_spoil 25 = .ok (.iload_n 1, 1) := by decide +kernel
theorem dX7_spoil_26 : decode cX7_spoil 26 = .ok (.bipush 10, 2) := by decide +kernel
theorem dX7_spoil_28 : decode cX7_spoil 28 = .ok (.iload_n 2, 1) := by decide +kernel
theorem dX7_spoil_29 : decode cX7_spoil 29 = .ok (.iadd, 1) := by decide +kernel
theorem dX7_spoil_30 : decode cX7_spoil 30 = .ok (.invokevirtual 29, 3) := by decide +kernel
theorem dX7_spoil_33 : decode cX7_spoil 33 = .ok (.ifCond .ge 7, 3) := by decide +kernel
theorem dX7_spoil_36 : decode cX7_spoil 36 = .ok (.sipush (-10002), 3) := by decide +kernel
theorem dX7_spoil_39 : decode cX7_spoil 39 = .ok (.ireturn, 1) := by decide +kernel
theorem dX7_spoil_40 : decode cX7_spoil 40 = .ok (.aload_n 0, 1) := by decide +kernel
theorem dX7_spoil_41 : decode cX7_spoil 41 = .ok (.invokevirtual 80, 3) := by decide +kernel
theorem dX7_spoil_44 : decode cX7_spoil 44 = .ok (.aload_n 0, 1) := by decide +kernel
theorem dX7_spoil_45 : decode cX7_spoil 45 = .ok (.iload_n 1, 1) := by decide +kernel
theorem dX7_spoil_46 : decode cX7_spoil 46 = .ok (.bipush 20, 2) := by decide +kernel
theorem dX7_spoil_48 : decode cX7_spoil 48 = .ok (.iload_n 2, 1) := by decide +kernel
theorem dX7_spoil_49 : decode cX7_spoil 49 = .ok (.iadd, 1) := by decide +kernel
theorem dX7_spoil_50 : decode cX7_spoil 50 = .ok (.invokevirtual 29, 3) := by decide +kernel
theorem dX7_spoil_53 : decode cX7_spoil 53 = .ok (.iload_n 3, 1) := by decide +kernel
theorem dX7_spoil_54 : decode cX7_spoil 54 = .ok (.iadd, 1) := by decide +kernel
theorem dX7_spoil_55 : decode cX7_spoil 55 = .ok (.sipush 257, 3) := by decide +kernel
theorem dX7_spoil_58 : decode cX7_spoil 58 = .ok (.irem, 1) := by decide +kernel
theorem dX7_spoil_59 : decode cX7_spoil 59 = .ok (.istore 4, 2) := by decide +kernel
theorem dX7_spoil_61 : decode cX7_spoil 61 = .ok (.aload_n 0, 1) := by decide +kernel
theorem dX7_spoil_62 : decode cX7_spoil 62 = .ok (.getfield 7, 3) := by decide +kernel
theorem dX7_spoil_65 : decode cX7_spoil 65 = .ok (.iload_n 1, 1) := by decide +kernel
theorem dX7_spoil_66 : decode cX7_spoil 66 = .ok (.bipush 20, 2) := by decide +kernel
theorem dX7_spoil_68 : decode cX7_spoil 68 = .ok (.iload_n 2, 1) := by decide +kernel
theorem dX7_spoil_69 : decode cX7_spoil 69 = .ok (.iadd, 1) := by decide +kernel
theorem dX7_spoil_70 : decode cX7_spoil 70 = .ok (.invokestatic 33, 3) := by decide +kernel
theorem dX7_spoil_73 : decode cX7_spoil 73 = .ok (.iload 4, 2) := by decide +kernel
theorem dX7_spoil_75 : decode cX7_spoil 75 = .ok (.iastore, 1) := by decide +kernel
theorem dX7_spoil_76 : decode cX7_spoil 76 = .ok (.iload 4, 2) := by decide +kernel
theorem dX7_spoil_78 : decode cX7_spoil 78 = .ok (.ifCond .le 7, 3) := by decide +kernel
theorem dX7_spoil_81 : decode cX7_spoil 81 = .ok (.iconst 1, 1) := by decide +kernel
theorem dX7_spoil_82 : decode cX7_spoil 82 = .ok (.goto 4, 3) := by decide +kernel
theorem dX7_spoil_85 : decode cX7_spoil 85 = .ok (.iconst 0, 1) := by decide +kernel
theorem dX7_spoil_86 : decode cX7_spoil 86 = .ok (.ireturn, 1) := by decide +kernel
theorem dX7_off_0 : decode cX7_off 0 = .ok (.iconst 0, 1) := by decide +kernel
theorem dX7_off_1 : decode cX7_off 1 = .ok (.istore 4, 2) := by decide +kernel
theorem dX7_off_3 : decode cX7_off 3 = .ok (.iconst 0, 1) := by decide +kernel
theorem dX7_off_4 : decode cX7_off 4 = .ok (.istore 5, 2) := by decide +kernel
theorem dX7_off_6 : decode cX7_off 6 = .ok (.iconst 0, 1) := by decide +kernel
theorem dX7_off_7 : decode cX7_off 7 = .ok (.istore 6, 2) := by decide +kernel
theorem dX7_off_9 : decode cX7_off 9 = .ok (.iload 6, 2) := by decide +kernel
theorem dX7_off_11 : decode cX7_off 11 = .ok (.bipush 80, 2) := by decide +kernel
theorem dX7_off_13 : decode cX7_off 13 = .ok (.if_icmp .ge 99, 3) := by decide +kernel
theorem dX7_off_16 : decode cX7_off 16 = .ok (.iload 6, 2) := by decide +kernel
theorem dX7_off_18 : decode cX7_off 18 = .ok (.bipush 10, 2) := by decide +kernel
theorem dX7_off_20 : decode cX7_off 20 = .ok (.idiv, 1) := by decide +kernel
theorem dX7_off_21 : decode cX7_off 21 = .ok (.istore 7, 2) := by decide +kernel
theorem dX7_off_23 : decode cX7_off 23 = .ok (.iload 6, 2) := by decide +kernel
theorem dX7_off_25 : decode cX7_off 25 = .ok (.bipush 10, 2) := by decide +kernel
theorem dX7_off_27 : decode cX7_off 27 = .ok (.irem, 1) := by decide +kernel
theorem dX7_off_28 : decode cX7_off 28 = .ok (.istore 8, 2) := by decide +kernel
theorem dX7_off_30 : decode cX7_off 30 = .ok (.aload_n 0, 1) := by decide +kernel
theorem dX7_off_31 : decode cX7_off 31 = .ok (.iload 7, 2) := by decide +kernel
theorem dX7_off_33 : decode cX7_off 33 = .ok (.invokevirtual 43, 3) := by decide +kernel
theorem dX7_off_36 : decode cX7_off 36 = .ok (.ifCond .eq 70, 3) := by decide +kernel
theorem dX7_off_39 : decode cX7_off 39 = .ok (.aload_n 0, 1) := by decide +kernel
theorem dX7_off_40 : decode cX7_off 40 = .ok (.iload 7, 2) := by decide +kernel
theorem dX7_off_42 : decode cX7_off 42 = .ok (.iconst 1, 1) := by decide +kernel
theorem dX7_off_43 : decode cX7_off 43 = .ok (.invokevirtual 29, 3) := by decide +kernel
theorem dX7_off_46 : decode cX7_off 46 = .ok (.iload_n 1, 1) := by decide +kernel
theorem dX7_off_47 : decode cX7_off 47 = .ok (.if_icmp .ne 59, 3) := by decide +kernel
theorem dX7_off_50 : decode cX7_off 50 = .ok (.iload 8, 2) := by decide +kernel
theorem dX7_off_52 : decode cX7_off 52 = .ok (.aload_n 0, 1) := by decide +kernel
theorem dX7_off_53 : decode cX7_off 53 = .ok (.iload 7, 2) := by decide +kernel
theorem dX7_off_55 : decode cX7_off 55 = .ok (.invokevirtual 47, 3) := by decide +kernel
theorem dX7_off_58 : decode cX7_off 58 = .ok (.if_icmp .ge 48, 3) := by decide +kernel
theorem dX7_off_61 : decode cX7_off 61 = .ok (.aload_n 0, 1) := by decide +kernel
theorem dX7_off_62 : decode cX7_off 62 = .ok (.iload 7, 2) := by decide +kernel
theorem dX7_off_64 : decode cX7_off 64 = .ok (.bipush 10, 2) := by decide +kernel
theorem dX7_off_66 : decode cX7_off 66 = .ok (.iload 8, 2) := by decide +kernel
theorem dX7_off_68 : decode cX7_off 68 = .ok (.iadd, 1) := by decide +kernel
theorem dX7_off_69 : decode cX7_off 69 = .ok (.invokevirtual 29, 3) := by decide +kernel
theorem dX7_off_72 : decode cX7_off 72 = .ok (.iload_n 2, 1) := by decide +kernel
theorem dX7_off_73 : decode cX7_off 73 = .ok (.if_icmp .ne 33, 3) := by decide +kernel
theorem dX7_off_76 : decode cX7_off 76 = .ok (.iload 4, 2) := by decide +kernel
theorem dX7_off_78 : decode cX7_off 78 = .ok (.aload_n 0, 1) := by decide +kernel
theorem dX7_off_79 : decode cX7_off 79 = .ok (.iload 7, 2) := by decide +kernel
theorem dX7_off_81 : decode cX7_off 81 = .ok (.bipush 20, 2) := by decide +kernel
theorem dX7_off_83 : decode cX7_off 83 = .ok (.iload 8, 2) := by decide +kernel
theorem dX7_off_85 : decode cX7_off 85 = .ok (.iadd, 1) := by decide +kernel
theorem dX7_off_86 : decode cX7_off 86 = .ok (.invokevirtual 29, 3) := by decide +kernel
theorem dX7_off_89 : decode cX7_off 89 = .ok (.iload_n 3, 1) := by decide +kernel
theorem dX7_off_90 : decode cX7_off 90 = .ok (.iload 5, 2) := by decide +kernel
theorem dX7_off_92 : decode cX7_off 92 = .ok (.invokestatic 61, 3) := by decide +kernel
theorem dX7_off_95 : decode cX7_off 95 = .ok (.imul, 1) := by decide +kernel
theorem dX7_off_96 : decode cX7_off 96 = .ok (.iadd, 1) := by decide +kernel
theorem dX7_off_97 : decode cX7_off 97 = .ok (.sipush 257, 3) := by decide +kernel
theorem dX7_off_100 : decode cX7_off 100 = .ok (.irem, 1) := by decide +kernel
theorem dX7_off_101 : decode cX7_off 101 = .ok (.istore 4, 2) := by decide +kernel
theorem dX7_off_103 : decode cX7_off 103 = .ok (.iinc 5 1, 3) := by decide +kernel
theorem dX7_off_106 : decode cX7_off 106 = .ok (.iinc 6 1, 3) := by decide +kernel
theorem dX7_off_109 : decode cX7_off 109 = .ok (.goto (-100), 3) := by decide +kernel
theorem dX7_off_112 : decode cX7_off 112 = .ok (.iload 5, 2) := by decide +kernel
theorem dX7_off_114 : decode cX7_off 114 = .ok (.ifCond .ne 7, 3) := by decide +kernel
theorem dX7_off_117 : decode cX7_off 117 = .ok (.iconst (-1), 1) := by decide +kernel
theorem dX7_off_118 : decode cX7_off 118 = .ok (.goto 5, 3) := by decide +kernel
theorem dX7_off_121 : decode cX7_off 121 = .ok (.iload 4, 2) := by decide +kernel
theorem dX7_off_123 : decode cX7_off 123 = .ok (.ireturn, 1) := by decide +kernel
theorem dX7_arePeers_0 : decode cX7_arePeers 0 = .ok (.aload_n 0, 1) := by decide +kernel
theorem dX7_arePeers_1 : decode cX7_arePeers 1 = .ok (.iload_n 1, 1) := by decide +kernel
theorem dX7_arePeers_2 : decode cX7_arePeers 2 = .ok (.invokevirtual 67, 3) := by decide +kernel
theorem dX7_arePeers_5 : decode cX7_arePeers 5 = .ok (.ifCond .eq 20, 3) := by decide +kernel
theorem dX7_arePeers_8 : decode cX7_arePeers 8 = .ok (.aload_n 0, 1) := by decide +kernel
theorem dX7_arePeers_9 : decode cX7_arePeers 9 = .ok (.iload_n 2, 1) := by decide +kernel
theorem dX7_arePeers_10 : decode cX7_arePeers 10 = .ok (.invokevirtual 67, 3) := by decide +kernel
theorem dX7_arePeers_13 : decode cX7_arePeers 13 = .ok (.ifCond .eq 12, 3) := by decide +kernel
theorem dX7_arePeers_16 : decode cX7_arePeers 16 = .ok (.iload_n 1, 1) := by decide +kernel
theorem dX7_arePeers_17 : decode cX7_arePeers 17 = .ok (.iload_n 2, 1) := by decide +kernel
theorem dX7_arePeers_18 : decode cX7_arePeers 18 = .ok (.if_icmp .eq 7, 3) := by decide +kernel
theorem dX7_arePeers_21 : decode cX7_arePeers 21 = .ok (.iconst 1, 1) := by decide +kernel
theorem dX7_arePeers_22 : decode cX7_arePeers 22 = .ok (.goto 4, 3) := by decide +kernel
theorem dX7_arePeers_25 : decode cX7_arePeers 25 = .ok (.iconst 0, 1) := by decide +kernel
theorem dX7_arePeers_26 : decode cX7_arePeers 26 = .ok (.ireturn, 1) := by decide +kernel
theorem dX7_audit_0 : decode cX7_audit 0 = .ok (.aload_n 0, 1) := by decide +kernel
theorem dX7_audit_1 : decode cX7_audit 1 = .ok (.iload_n 1, 1) := by decide +kernel
theorem dX7_audit_2 : decode cX7_audit 2 = .ok (.iload_n 2, 1) := by decide +kernel
theorem dX7_audit_3 : decode cX7_audit 3 = .ok (.invokevirtual 118, 3) := by decide +kernel
theorem dX7_audit_6 : decode cX7_audit 6 = .ok (.ifCond .eq 14, 3) := by decide +kernel
theorem dX7_audit_9 : decode cX7_audit 9 = .ok (.iload_n 3, 1) := by decide +kernel
theorem dX7_audit_10 : decode cX7_audit 10 = .ok (.iconst 0, 1) := by decide +kernel
theorem dX7_audit_11 : decode cX7_audit 11 = .ok (.sipush 256, 3) := by decide +kernel
theorem dX7_audit_14 : decode cX7_audit 14 = .ok (.invokestatic 25, 3) := by decide +kernel
theorem dX7_audit_17 : decode cX7_audit 17 = .ok (.ifCond .ne 7, 3) := by decide +kernel
theorem dX7_audit_20 : decode cX7_audit 20 = .ok (.sipush (-10001), 3) := by decide +kernel
theorem dX7_audit_23 : decode cX7_audit 23 = .ok (.ireturn, 1) := by decide +kernel
theorem dX7_audit_24 : decode cX7_audit 24 = .ok (.aload_n 0, 1) := by decide +kernel
theorem dX7_audit_25 : decode cX7_audit 25 = .ok (.iload_n 1, 1) := by decide +kernel
theorem dX7_audit_26 : decode cX7_audit 26 = .ok (.invokevirtual 51, 3) := by decide +kernel
theorem dX7_audit_29 : decode cX7_audit 29 = .ok (.ifCond .eq 11, 3) := by decide +kernel
theorem dX7_audit_32 : decode cX7_audit 32 = .ok (.aload_n 0, 1) := by decide +kernel
theorem dX7_audit_33 : decode cX7_audit 33 = .ok (.iload_n 2, 1) := by decide +kernel
theorem dX7_audit_34 : decode cX7_audit 34 = .ok (.invokevirtual 51, 3) := by decide +kernel
theorem dX7_audit_37 : decode cX7_audit 37 = .ok (.ifCond .ne 7, 3) := by decide +kernel
theorem dX7_audit_40 : decode cX7_audit 40 = .ok (.sipush (-10002), 3) := by decide +kernel
theorem dX7_audit_43 : decode cX7_audit 43 = .ok (.ireturn, 1) := by decide +kernel
theorem dX7_audit_44 : decode cX7_audit 44 = .ok (.aload_n 0, 1) := by decide +kernel
theorem dX7_audit_45 : decode cX7_audit 45 = .ok (.invokevirtual 80, 3) := by decide +kernel
theorem dX7_audit_48 : decode cX7_audit 48 = .ok (.aload_n 0, 1) := by decide +kernel
theorem dX7_audit_49 : decode cX7_audit 49 = .ok (.iload_n 1, 1) := by decide +kernel
theorem dX7_audit_50 : decode cX7_audit 50 = .ok (.iload_n 2, 1) := by decide +kernel
theorem dX7_audit_51 : decode cX7_audit 51 = .ok (.iload_n 3, 1) := by decide +kernel
theorem dX7_audit_52 : decode cX7_audit 52 = .ok (.invokevirtual 121, 3) := by decide +kernel
theorem dX7_audit_55 : decode cX7_audit 55 = .ok (.istore 4, 2) := by decide +kernel
theorem dX7_audit_57 : decode cX7_audit 57 = .ok (.aload_n 0, 1) := by decide +kernel
theorem dX7_audit_58 : decode cX7_audit 58 = .ok (.getfield 7, 3) := by decide +kernel
theorem dX7_audit_61 : decode cX7_audit 61 = .ok (.iconst 4, 1) := by decide +kernel
theorem dX7_audit_62 : decode cX7_audit 62 = .ok (.iload_n 2, 1) := by decide +kernel
theorem dX7_audit_63 : decode cX7_audit 63 = .ok (.imul, 1) := by decide +kernel
theorem dX7_audit_64 : decode cX7_audit 64 = .ok (.iconst 3, 1) := by decide +kernel
theorem dX7_audit_65 : decode cX7_audit 65 = .ok (.iadd, 1) := by decide +kernel
theorem dX7_audit_66 : decode cX7_audit 66 = .ok (.iaload, 1) := by decide +kernel
theorem dX7_audit_67 : decode cX7_audit 67 = .ok (.istore 5, 2) := by decide +kernel
theorem dX7_audit_69 : decode cX7_audit 69 = .ok (.aload_n 0, 1) := by decide +kernel
theorem dX7_audit_70 : decode cX7_audit 70 = .ok (.getfield 7, 3) := by decide +kernel
theorem dX7_audit_73 : decode cX7_audit 73 = .ok (.iconst 4, 1) := by decide +kernel
theorem dX7_audit_74 : decode cX7_audit 74 = .ok (.iload_n 2, 1) := by decide +kernel
theorem dX7_audit_75 : decode cX7_audit 75 = .ok (.imul, 1) := by decide +kernel
theorem dX7_audit_76 : decode cX7_audit 76 = .ok (.iconst 3, 1) := by decide +kernel
theorem dX7_audit_77 : decode cX7_audit 77 = .ok (.iadd, 1) := by decide +kernel
theorem dX7_audit_78 : decode cX7_audit 78 = .ok (.iload 4, 2) := by decide +kernel
theorem dX7_audit_80 : decode cX7_audit 80 = .ok (.ifCond .ge 8, 3) := by decide +kernel
theorem dX7_audit_83 : decode cX7_audit 83 = .ok (.iload 5, 2) := by decide +kernel
theorem dX7_audit_85 : decode cX7_audit 85 = .ok (.goto 31, 3) := by decide +kernel
theorem dX7_audit_88 : decode cX7_audit 88 = .ok (.iload 4, 2) := by decide +kernel
theorem dX7_audit_90 : decode cX7_audit 90 = .ok (.ifCond .le 10, 3) := by decide +kernel
theorem dX7_audit_93 : decode cX7_audit 93 = .ok (.iload 5, 2) := by decide +kernel
theorem dX7_audit_95 : decode cX7_audit 95 = .ok (.iconst 2, 1) := by decide +kernel
theorem dX7_audit_96 : decode cX7_audit 96 = .ok (.idiv, 1) := by decide +kernel
theorem dX7_audit_97 : decode cX7_audit 97 = .ok (.goto 19, 3) := by decide +kernel
theorem dX7_audit_100 : decode cX7_audit 100 = .ok (.iload 5, 2) := by decide +kernel
theorem dX7_audit_102 : decode cX7_audit 102 = .ok (.bipush 95, 2) := by decide +kernel
theorem dX7_audit_104 : decode cX7_audit 104 = .ok (.if_icmp .le 8, 3) := by decide +kernel
theorem dX7_audit_107 : decode cX7_audit 107 = .ok (.bipush 100, 2) := by decide +kernel
theorem dX7_audit_109 : decode cX7_audit 109 = .ok (.goto 7, 3) := by decide +kernel
theorem dX7_audit_112 : decode cX7_audit 112 = .ok (.iload 5, 2) := by decide +kernel
theorem dX7_audit_114 : decode cX7_audit 114 = .ok (.iconst 5, 1) := by decide +kernel
theorem dX7_audit_115 : decode cX7_audit 115 = .ok (.iadd, 1) := by decide +kernel
theorem dX7_audit_116 : decode cX7_audit 116 = .ok (.iastore, 1) := by decide +kernel
theorem dX7_audit_117 : decode cX7_audit 117 = .ok (.iload 4, 2) := by decide +kernel
theorem dX7_audit_119 : decode cX7_audit 119 = .ok (.ifCond .le 7, 3) := by decide +kernel
theorem dX7_audit_122 : decode cX7_audit 122 = .ok (.iconst 0, 1) := by decide +kernel
theorem dX7_audit_123 : decode cX7_audit 123 = .ok (.goto 4, 3) := by decide +kernel
theorem dX7_audit_126 : decode cX7_audit 126 = .ok (.iconst 1, 1) := by decide +kernel
theorem dX7_audit_127 : decode cX7_audit 127 = .ok (.ireturn, 1) := by decide +kernel
theorem dX7_passingSeeds_0 : decode cX7_passingSeeds 0 = .ok (.aload_n 0, 1) := by decide +kernel
theorem dX7_passingSeeds_1 : decode cX7_passingSeeds 1 = .ok (.iload_n 1, 1) := by decide +kernel
theorem dX7_passingSeeds_2 : decode cX7_passingSeeds 2 = .ok (.iload_n 2, 1) := by decide +kernel
theorem dX7_passingSeeds_3 : decode cX7_passingSeeds 3 = .ok (.invokevirtual 118, 3) := by decide +kernel
theorem dX7_passingSeeds_6 : decode cX7_passingSeeds 6 = .ok (.ifCond .ne 7, 3) := by decide +kernel
theorem dX7_passingSeeds_9 : decode cX7_passingSeeds 9 = .ok (.sipush (-10001), 3) := by decide +kernel
theorem dX7_passingSeeds_12 : decode cX7_passingSeeds 12 = .ok (.ireturn, 1) := by decide +kernel
theorem dX7_passingSeeds_13 : decode cX7_passingSeeds 13 = .ok (.iconst 0, 1) := by decide +kernel
theorem dX7_passingSeeds_14 : decode cX7_passingSeeds 14 = .ok (.istore_n 3, 1) := by decide +kernel
theorem dX7_passingSeeds_15 : decode cX7_passingSeeds 15 = .ok (.iconst 0, 1) := by decide +kernel
theorem dX7_passingSeeds_16 : decode cX7_passingSeeds 16 = .ok (.istore 4, 2) := by decide +kernel
theorem dX7_passingSeeds_18 : decode cX7_passingSeeds 18 = .ok (.iload 4, 2) := by decide +kernel
theorem dX7_passingSeeds_20 : decode cX7_passingSeeds 20 = .ok (.sipush 257, 3) := by decide +kernel
theorem dX7_passingSeeds_23 : decode cX7_passingSeeds 23 = .ok (.if_icmp .ge 28, 3) := by decide +kernel
theorem dX7_passingSeeds_26 : decode cX7_passingSeeds 26 = .ok (.iload_n 3, 1) := by decide +kernel
theorem dX7_passingSeeds_27 : decode cX7_passingSeeds 27 = .ok (.aload_n 0, 1) := by decide +kernel
theorem dX7_passingSeeds_28 : decode cX7_passingSeeds 28 = .ok (.iload_n 1, 1) := by decide +kernel
theorem dX7_passingSeeds_29 : decode cX7_passingSeeds 29 = .ok (.iload_n 2, 1) := by decide +kernel
theorem dX7_passingSeeds_30 : decode cX7_passingSeeds 30 = .ok (.iload 4, 2) := by decide +kernel
theorem dX7_passingSeeds_32 : decode cX7_passingSeeds 32 = .ok (.invokevirtual 121, 3) := by decide +kernel
theorem dX7_passingSeeds_35 : decode cX7_passingSeeds 35 = .ok (.ifCond .gt 7, 3) := by decide +kernel
theorem dX7_passingSeeds_38 : decode cX7_passingSeeds 38 = .ok (.iconst 1, 1) := by decide +kernel
theorem dX7_passingSeeds_39 : decode cX7_passingSeeds 39 = .ok (.goto 4, 3) := by decide +kernel
theorem dX7_passingSeeds_42 : decode cX7_passingSeeds 42 = .ok (.iconst 0, 1) := by decide +kernel
theorem dX7_passingSeeds_43 : decode cX7_passingSeeds 43 = .ok (.iadd, 1) := by decide +kernel
theorem dX7_passingSeeds_44 : decode cX7_passingSeeds 44 = .ok (.istore_n 3, 1) := by decide +kernel
theorem dX7_passingSeeds_45 : decode cX7_passingSeeds 45 = .ok (.iinc 4 1, 3) := by decide +kernel
theorem dX7_passingSeeds_48 : decode cX7_passingSeeds 48 = .ok (.goto (-30), 3) := by decide +kernel
theorem dX7_passingSeeds_51 : decode cX7_passingSeeds 51 = .ok (.iload_n 3, 1) := by decide +kernel
theorem dX7_passingSeeds_52 : decode cX7_passingSeeds 52 = .ok (.ireturn, 1) := by decide +kernel
theorem dX7_sources_0 : decode cX7_sources 0 = .ok (.iconst 0, 1) := by decide +kernel
theorem dX7_sources_1 : decode cX7_sources 1 = .ok (.istore_n 2, 1) := by decide +kernel
theorem dX7_sources_2 : decode cX7_sources 2 = .ok (.aload_n 0, 1) := by decide +kernel
theorem dX7_sources_3 : decode cX7_sources 3 = .ok (.iload_n 1, 1) := by decide +kernel
theorem dX7_sources_4 : decode cX7_sources 4 = .ok (.iconst 2, 1) := by decide +kernel
theorem dX7_sources_5 : decode cX7_sources 5 = .ok (.invokevirtual 29, 3) := by decide +kernel
theorem dX7_sources_8 : decode cX7_sources 8 = .ok (.istore_n 3, 1) := by decide +kernel
theorem dX7_sources_9 : decode cX7_sources 9 = .ok (.iconst 0, 1) := by decide +kernel
theorem dX7_sources_10 : decode cX7_sources 10 = .ok (.istore 4, 2) := by decide +kernel
theorem dX7_sources_12 : decode cX7_sources 12 = .ok (.iload 4, 2) := by decide +kernel
theorem dX7_sources_14 : decode cX7_sources 14 = .ok (.aload_n 0, 1) := by decide +kernel
theorem dX7_sources_15 : decode cX7_sources 15 = .ok (.iload_n 1, 1) := by decide +kernel
theorem dX7_sources_16 : decode cX7_sources 16 = .ok (.invokevirtual 47, 3) := by decide +kernel
theorem dX7_sources_19 : decode cX7_sources 19 = .ok (.if_icmp .ge 41, 3) := by decide +kernel
theorem dX7_sources_22 : decode cX7_sources 22 = .ok (.iload_n 3, 1) := by decide +kernel
theorem dX7_sources_23 : decode cX7_sources 23 = .ok (.ifCond .le 37, 3) := by decide +kernel
theorem dX7_sources_26 : decode cX7_sources 26 = .ok (.aload_n 0, 1) := by decide +kernel
theorem dX7_sources_27 : decode cX7_sources 27 = .ok (.iload_n 1, 1) := by decide +kernel
theorem dX7_sources_28 : decode cX7_sources 28 = .ok (.iload 4, 2) := by decide +kernel
theorem dX7_sources_30 : decode cX7_sources 30 = .ok (.invokevirtual 54, 3) := by decide +kernel
theorem dX7_sources_33 : decode cX7_sources 33 = .ok (.ifCond .eq 21, 3) := by decide +kernel
theorem dX7_sources_36 : decode cX7_sources 36 = .ok (.iload_n 2, 1) := by decide +kernel
theorem dX7_sources_37 : decode cX7_sources 37 = .ok (.iconst 1, 1) := by decide +kernel
theorem dX7_sources_38 : decode cX7_sources 38 = .ok (.aload_n 0, 1) := by decide +kernel
theorem dX7_sources_39 : decode cX7_sources 39 = .ok (.iload_n 1, 1) := by decide +kernel
theorem dX7_sources_40 : decode cX7_sources 40 = .ok (.bipush 10, 2) := by decide +kernel
theorem dX7_sources_42 : decode cX7_sources 42 = .ok (.iload 4, 2) := by decide +kernel
theorem dX7_sources_44 : decode cX7_sources 44 = .ok (.iadd, 1) := by decide +kernel
theorem dX7_sources_45 : decode cX7_sources 45 = .ok (.invokevirtual 29, 3) := by decide +kernel
theorem dX7_sources_48 : decode cX7_sources 48 = .ok (.ishl, 1) := by decide +kernel
theorem dX7_sources_49 : decode cX7_sources 49 = .ok (.ior, 1) := by decide +kernel
theorem dX7_sources_50 : decode cX7_sources 50 = .ok (.istore_n 2, 1) := by decide +kernel
theorem dX7_sources_51 : decode cX7_sources 51 = .ok (.iinc 3 (-1), 3) := by decide +kernel
theorem dX7_sources_54 : decode cX7_sources 54 = .ok (.iinc 4 1, 3) := by decide +kernel
theorem dX7_sources_57 : decode cX7_sources 57 = .ok (.goto (-45), 3) := by decide +kernel
theorem dX7_sources_60 : decode cX7_sources 60 = .ok (.iload_n 2, 1) := by decide +kernel
theorem dX7_sources_61 : decode cX7_sources 61 = .ok (.ireturn, 1) := by decide +kernel
theorem dX7_repairs_0 : decode cX7_repairs 0 = .ok (.iconst 0, 1) := by decide +kernel
theorem dX7_repairs_1 : decode cX7_repairs 1 = .ok (.istore_n 2, 1) := by decide +kernel
theorem dX7_repairs_2 : decode cX7_repairs 2 = .ok (.iconst 0, 1) := by decide +kernel
theorem dX7_repairs_3 : decode cX7_repairs 3 = .ok (.istore_n 3, 1) := by decide +kernel
theorem dX7_repairs_4 : decode cX7_repairs 4 = .ok (.iload_n 3, 1) := by decide +kernel
theorem dX7_repairs_5 : decode cX7_repairs 5 = .ok (.aload_n 0, 1) := by decide +kernel
theorem dX7_repairs_6 : decode cX7_repairs 6 = .ok (.iload_n 1, 1) := by decide +kernel
theorem dX7_repairs_7 : decode cX7_repairs 7 = .ok (.invokevirtual 47, 3) := by decide +kernel
theorem dX7_repairs_10 : decode cX7_repairs 10 = .ok (.if_icmp .ge 106, 3) := by decide +kernel
theorem dX7_repairs_13 : decode cX7_repairs 13 = .ok (.aload_n 0, 1) := by decide +kernel
theorem dX7_repairs_14 : decode cX7_repairs 14 = .ok (.iload_n 1, 1) := by decide +kernel
theorem dX7_repairs_15 : decode cX7_repairs 15 = .ok (.iload_n 3, 1) := by decide +kernel
theorem dX7_repairs_16 : decode cX7_repairs 16 = .ok (.invokevirtual 54, 3) := by decide +kernel
theorem dX7_repairs_19 : decode cX7_repairs 19 = .ok (.ifCond .ne 91, 3) := by decide +kernel
theorem dX7_repairs_22 : decode cX7_repairs 22 = .ok (.aload_n 0, 1) := by decide +kernel
theorem dX7_repairs_23 : decode cX7_repairs 23 = .ok (.iload_n 1, 1) := by decide +kernel
theorem dX7_repairs_24 : decode cX7_repairs 24 = .ok (.invokevirtual 125, 3) := by decide +kernel
theorem dX7_repairs_27 : decode cX7_repairs 27 = .ok (.istore 4, 2) := by decide +kernel
theorem dX7_repairs_29 : decode cX7_repairs 29 = .ok (.aload_n 0, 1) := by decide +kernel
theorem dX7_repairs_30 : decode cX7_repairs 30 = .ok (.getfield 7, 3) := by decide +kernel
theorem dX7_repairs_33 : decode cX7_repairs 33 = .ok (.iload_n 1, 1) := by decide +kernel
theorem dX7_repairs_34 : decode cX7_repairs 34 = .ok (.bipush 10, 2) := by decide +kernel
theorem dX7_repairs_36 : decode cX7_repairs 36 = .ok (.iload_n 3, 1) := by decide +kernel
theorem dX7_repairs_37 : decode cX7_repairs 37 = .ok (.iadd, 1) := by decide +kernel
theorem dX7_repairs_38 : decode cX7_repairs 38 = .ok (.invokestatic 33, 3) := by decide +kernel
theorem dX7_repairs_41 : decode cX7_repairs 41 = .ok (.iconst (-1), 1) := by decide +kernel
theorem dX7_repairs_42 : decode cX7_repairs 42 = .ok (.iastore, 1) := by decide +kernel
theorem dX7_repairs_43 : decode cX7_repairs 43 = .ok (.aload_n 0, 1) := by decide +kernel
theorem dX7_repairs_44 : decode cX7_repairs 44 = .ok (.getfield 7, 3) := by decide +kernel
theorem dX7_repairs_47 : decode cX7_repairs 47 = .ok (.iload_n 1, 1) := by decide +kernel
theorem dX7_repairs_48 : decode cX7_repairs 48 = .ok (.bipush 20, 2) := by decide +kernel
theorem dX7_repairs_50 : decode cX7_repairs 50 = .ok (.iload_n 3, 1) := by decide +kernel
theorem dX7_repairs_51 : decode cX7_repairs 51 = .ok (.iadd, 1) := by decide +kernel
theorem dX7_repairs_52 : decode cX7_repairs 52 = .ok (.invokestatic 33, 3) := by decide +kernel
theorem dX7_repairs_55 : decode cX7_repairs 55 = .ok (.iconst 0, 1) := by decide +kernel
theorem dX7_repairs_56 : decode cX7_repairs 56 = .ok (.iastore, 1) := by decide +kernel
theorem dX7_repairs_57 : decode cX7_repairs 57 = .ok (.aload_n 0, 1) := by decide +kernel
theorem dX7_repairs_58 : decode cX7_repairs 58 = .ok (.iload_n 1, 1) := by decide +kernel
theorem dX7_repairs_59 : decode cX7_repairs 59 = .ok (.iload_n 3, 1) := by decide +kernel
theorem dX7_repairs_60 : decode cX7_repairs 60 = .ok (.iconst (-1), 1) := by decide +kernel
theorem dX7_repairs_61 : decode cX7_repairs 61 = .ok (.invokevirtual 83, 3) := by decide +kernel
theorem dX7_repairs_64 : decode cX7_repairs 64 = .ok (.ifCond .eq 46, 3) := by decide +kernel
theorem dX7_repairs_67 : decode cX7_repairs 67 = .ok (.iinc 2 1, 3) := by decide +kernel
theorem dX7_repairs_70 : decode cX7_repairs 70 = .ok (.iconst 0, 1) := by decide +kernel
theorem dX7_repairs_71 : decode cX7_repairs 71 = .ok (.istore 5, 2) := by decide +kernel
theorem dX7_repairs_73 : decode cX7_repairs 73 = .ok (.iload 5, 2) := by decide +kernel
theorem dX7_repairs_75 : decode cX7_repairs 75 = .ok (.bipush 12, 2) := by decide +kernel
theorem dX7_repairs_77 : decode cX7_repairs 77 = .ok (.if_icmp .ge 33, 3) := by decide +kernel
theorem dX7_repairs_80 : decode cX7_repairs 80 = .ok (.iload 4, 2) := by decide +kernel
theorem dX7_repairs_82 : decode cX7_repairs 82 = .ok (.iload 5, 2) := by decide +kernel
theorem dX7_repairs_84 : decode cX7_repairs 84 = .ok (.ishr, 1) := by decide +kernel
theorem dX7_repairs_85 : decode cX7_repairs 85 = .ok (.iconst 1, 1) := by decide +kernel
theorem dX7_repairs_86 : decode cX7_repairs 86 = .ok (.iand, 1) := by decide +kernel
theorem dX7_repairs_87 : decode cX7_repairs 87 = .ok (.iconst 1, 1) := by decide +kernel
theorem dX7_repairs_88 : decode cX7_repairs 88 = .ok (.if_icmp .ne 16, 3) := by decide +kernel
theorem dX7_repairs_91 : decode cX7_repairs 91 = .ok (.aload_n 0, 1) := by decide +kernel
theorem dX7_repairs_92 : decode cX7_repairs 92 = .ok (.aload_n 0, 1) := by decide +kernel
theorem dX7_repairs_93 : decode cX7_repairs 93 = .ok (.iload_n 1, 1) := by decide +kernel
theorem dX7_repairs_94 : decode cX7_repairs 94 = .ok (.iconst 1, 1) := by decide +kernel
theorem dX7_repairs_95 : decode cX7_repairs 95 = .ok (.invokevirtual 29, 3) := by decide +kernel
theorem dX7_repairs_98 : decode cX7_repairs 98 = .ok (.iload 5, 2) := by decide +kernel
theorem dX7_repairs_100 : decode cX7_repairs 100 = .ok (.iconst 1, 1) := by decide +kernel
theorem dX7_repairs_101 : decode cX7_repairs 101 = .ok (.invokevirtual 76, 3) := by decide +kernel
theorem dX7_repairs_104 : decode cX7_repairs 104 = .ok (.iinc 5 1, 3) := by decide +kernel
theorem dX7_repairs_107 : decode cX7_repairs 107 = .ok (.goto (-34), 3) := by decide +kernel
theorem dX7_repairs_110 : decode cX7_repairs 110 = .ok (.iinc 3 1, 3) := by decide +kernel
theorem dX7_repairs_113 : decode cX7_repairs 113 = .ok (.goto (-109), 3) := by decide +kernel
theorem dX7_repairs_116 : decode cX7_repairs 116 = .ok (.iload_n 2, 1) := by decide +kernel
theorem dX7_repairs_117 : decode cX7_repairs 117 = .ok (.ireturn, 1) := by decide +kernel
theorem dX7_repair_0 : decode cX7_repair 0 = .ok (.aload_n 0, 1) := by decide +kernel
theorem dX7_repair_1 : decode cX7_repair 1 = .ok (.iload_n 1, 1) := by decide +kernel
theorem dX7_repair_2 : decode cX7_repair 2 = .ok (.invokevirtual 43, 3) := by decide +kernel
theorem dX7_repair_5 : decode cX7_repair 5 = .ok (.ifCond .ne 7, 3) := by decide +kernel
theorem dX7_repair_8 : decode cX7_repair 8 = .ok (.sipush (-10001), 3) := by decide +kernel
theorem dX7_repair_11 : decode cX7_repair 11 = .ok (.ireturn, 1) := by decide +kernel
theorem dX7_repair_12 : decode cX7_repair 12 = .ok (.aload_n 0, 1) := by decide +kernel
theorem dX7_repair_13 : decode cX7_repair 13 = .ok (.iload_n 1, 1) := by decide +kernel
theorem dX7_repair_14 : decode cX7_repair 14 = .ok (.invokevirtual 106, 3) := by decide +kernel
theorem dX7_repair_17 : decode cX7_repair 17 = .ok (.ifCond .ne 7, 3) := by decide +kernel
theorem dX7_repair_20 : decode cX7_repair 20 = .ok (.sipush (-10002), 3) := by decide +kernel
theorem dX7_repair_23 : decode cX7_repair 23 = .ok (.ireturn, 1) := by decide +kernel
theorem dX7_repair_24 : decode cX7_repair 24 = .ok (.aload_n 0, 1) := by decide +kernel
theorem dX7_repair_25 : decode cX7_repair 25 = .ok (.invokevirtual 80, 3) := by decide +kernel
theorem dX7_repair_28 : decode cX7_repair 28 = .ok (.aload_n 0, 1) := by decide +kernel
theorem dX7_repair_29 : decode cX7_repair 29 = .ok (.iload_n 1, 1) := by decide +kernel
theorem dX7_repair_30 : decode cX7_repair 30 = .ok (.invokevirtual 128, 3) := by decide +kernel
theorem dX7_repair_33 : decode cX7_repair 33 = .ok (.ireturn, 1) := by decide +kernel
theorem dX7_repairAll_0 : decode cX7_repairAll 0 = .ok (.iload_n 1, 1) := by decide +kernel
theorem dX7_repairAll_1 : decode cX7_repairAll 1 = .ok (.iconst 0, 1) := by decide +kernel
theorem dX7_repairAll_2 : decode cX7_repairAll 2 = .ok (.iconst 5, 1) := by decide +kernel
theorem dX7_repairAll_3 : decode cX7_repairAll 3 = .ok (.invokestatic 25, 3) := by decide +kernel
theorem dX7_repairAll_6 : decode cX7_repairAll 6 = .ok (.ifCond .ne 7, 3) := by decide +kernel
theorem dX7_repairAll_9 : decode cX7_repairAll 9 = .ok (.sipush (-10001), 3) := by decide +kernel
theorem dX7_repairAll_12 : decode cX7_repairAll 12 = .ok (.ireturn, 1) := by decide +kernel
theorem dX7_repairAll_13 : decode cX7_repairAll 13 = .ok (.aload_n 0, 1) := by decide +kernel
theorem dX7_repairAll_14 : decode cX7_repairAll 14 = .ok (.invokevirtual 80, 3) := by decide +kernel
theorem dX7_repairAll_17 : decode cX7_repairAll 17 = .ok (.iconst 0, 1) := by decide +kernel
theorem dX7_repairAll_18 : decode cX7_repairAll 18 = .ok (.istore_n 2, 1) := by decide +kernel
theorem dX7_repairAll_19 : decode cX7_repairAll 19 = .ok (.iconst 0, 1) := by decide +kernel
theorem dX7_repairAll_20 : decode cX7_repairAll 20 = .ok (.istore_n 3, 1) := by decide +kernel
theorem dX7_repairAll_21 : decode cX7_repairAll 21 = .ok (.iload_n 3, 1) := by decide +kernel
theorem dX7_repairAll_22 : decode cX7_repairAll 22 = .ok (.bipush 8, 2) := by decide +kernel
theorem dX7_repairAll_24 : decode cX7_repairAll 24 = .ok (.if_icmp .ge 53, 3) := by decide +kernel
theorem dX7_repairAll_27 : decode cX7_repairAll 27 = .ok (.iload_n 2, 1) := by decide +kernel
theorem dX7_repairAll_28 : decode cX7_repairAll 28 = .ok (.aload_n 0, 1) := by decide +kernel
theorem dX7_repairAll_29 : decode cX7_repairAll 29 = .ok (.iload_n 3, 1) := by decide +kernel
theorem dX7_repairAll_30 : decode cX7_repairAll 30 = .ok (.invokevirtual 43, 3) := by decide +kernel
theorem dX7_repairAll_33 : decode cX7_repairAll 33 = .ok (.ifCond .eq 35, 3) := by decide +kernel
theorem dX7_repairAll_36 : decode cX7_repairAll 36 = .ok (.aload_n 0, 1) := by decide +kernel
theorem dX7_repairAll_37 : decode cX7_repairAll 37 = .ok (.iload_n 3, 1) := by decide +kernel
theorem dX7_repairAll_38 : decode cX7_repairAll 38 = .ok (.invokevirtual 106, 3) := by decide +kernel
theorem dX7_repairAll_41 : decode cX7_repairAll 41 = .ok (.ifCond .eq 27, 3) := by decide +kernel
theorem dX7_repairAll_44 : decode cX7_repairAll 44 = .ok (.aload_n 0, 1) := by decide +kernel
theorem dX7_repairAll_45 : decode cX7_repairAll 45 = .ok (.iload_n 3, 1) := by decide +kernel
theorem dX7_repairAll_46 : decode cX7_repairAll 46 = .ok (.invokevirtual 58, 3) := by decide +kernel
theorem dX7_repairAll_49 : decode cX7_repairAll 49 = .ok (.aload_n 0, 1) := by decide +kernel
theorem dX7_repairAll_50 : decode cX7_repairAll 50 = .ok (.iload_n 3, 1) := by decide +kernel
theorem dX7_repairAll_51 : decode cX7_repairAll 51 = .ok (.iconst 2, 1) := by decide +kernel
theorem dX7_repairAll_52 : decode cX7_repairAll 52 = .ok (.invokevirtual 29, 3) := by decide +kernel
theorem dX7_repairAll_55 : decode cX7_repairAll 55 = .ok (.isub, 1) := by decide +kernel
theorem dX7_repairAll_56 : decode cX7_repairAll 56 = .ok (.iload_n 1, 1) := by decide +kernel
theorem dX7_repairAll_57 : decode cX7_repairAll 57 = .ok (.if_icmp .ge 11, 3) := by decide +kernel
theorem dX7_repairAll_60 : decode cX7_repairAll 60 = .ok (.aload_n 0, 1) := by decide +kernel
theorem dX7_repairAll_61 : decode cX7_repairAll 61 = .ok (.iload_n 3, 1) := by decide +kernel
theorem dX7_repairAll_62 : decode cX7_repairAll 62 = .ok (.invokevirtual 128, 3) := by decide +kernel
theorem dX7_repairAll_65 : decode cX7_repairAll 65 = .ok (.goto 4, 3) := by decide +kernel
theorem dX7_repairAll_68 : decode cX7_repairAll 68 = .ok (.iconst 0, 1) := by decide +kernel
theorem dX7_repairAll_69 : decode cX7_repairAll 69 = .ok (.iadd, 1) := by decide +kernel
theorem dX7_repairAll_70 : decode cX7_repairAll 70 = .ok (.istore_n 2, 1) := by decide +kernel
theorem dX7_repairAll_71 : decode cX7_repairAll 71 = .ok (.iinc 3 1, 3) := by decide +kernel
theorem dX7_repairAll_74 : decode cX7_repairAll 74 = .ok (.goto (-53), 3) := by decide +kernel
theorem dX7_repairAll_77 : decode cX7_repairAll 77 = .ok (.iload_n 2, 1) := by decide +kernel
theorem dX7_repairAll_78 : decode cX7_repairAll 78 = .ok (.ireturn, 1) := by decide +kernel
theorem dX7_undo_0 : decode cX7_undo 0 = .ok (.aload_n 0, 1) := by decide +kernel
theorem dX7_undo_1 : decode cX7_undo 1 = .ok (.getfield 36, 3) := by decide +kernel
theorem dX7_undo_4 : decode cX7_undo 4 = .ok (.ifCond .ne 7, 3) := by decide +kernel
theorem dX7_undo_7 : decode cX7_undo 7 = .ok (.sipush (-10002), 3) := by decide +kernel
theorem dX7_undo_10 : decode cX7_undo 10 = .ok (.ireturn, 1) := by decide +kernel
theorem dX7_undo_11 : decode cX7_undo 11 = .ok (.aload_n 0, 1) := by decide +kernel
theorem dX7_undo_12 : decode cX7_undo 12 = .ok (.dup, 1) := by decide +kernel
theorem dX7_undo_13 : decode cX7_undo 13 = .ok (.getfield 36, 3) := by decide +kernel
theorem dX7_undo_16 : decode cX7_undo 16 = .ok (.iconst 1, 1) := by decide +kernel
theorem dX7_undo_17 : decode cX7_undo 17 = .ok (.isub, 1) := by decide +kernel
theorem dX7_undo_18 : decode cX7_undo 18 = .ok (.putfield 36, 3) := by decide +kernel
theorem dX7_undo_21 : decode cX7_undo 21 = .ok (.iconst 0, 1) := by decide +kernel
theorem dX7_undo_22 : decode cX7_undo 22 = .ok (.istore_n 1, 1) := by decide +kernel
theorem dX7_undo_23 : decode cX7_undo 23 = .ok (.iload_n 1, 1) := by decide +kernel
theorem dX7_undo_24 : decode cX7_undo 24 = .ok (.sipush 439, 3) := by decide +kernel
theorem dX7_undo_27 : decode cX7_undo 27 = .ok (.if_icmp .ge 30, 3) := by decide +kernel
theorem dX7_undo_30 : decode cX7_undo 30 = .ok (.aload_n 0, 1) := by decide +kernel
theorem dX7_undo_31 : decode cX7_undo 31 = .ok (.getfield 7, 3) := by decide +kernel
theorem dX7_undo_34 : decode cX7_undo 34 = .ok (.iload_n 1, 1) := by decide +kernel
theorem dX7_undo_35 : decode cX7_undo 35 = .ok (.aload_n 0, 1) := by decide +kernel
theorem dX7_undo_36 : decode cX7_undo 36 = .ok (.getfield 19, 3) := by decide +kernel
theorem dX7_undo_39 : decode cX7_undo 39 = .ok (.sipush 439, 3) := by decide +kernel
theorem dX7_undo_42 : decode cX7_undo 42 = .ok (.aload_n 0, 1) := by decide +kernel
theorem dX7_undo_43 : decode cX7_undo 43 = .ok (.getfield 36, 3) := by decide +kernel
theorem dX7_undo_46 : decode cX7_undo 46 = .ok (.imul, 1) := by decide +kernel
theorem dX7_undo_47 : decode cX7_undo 47 = .ok (.iload_n 1, 1) := by decide +kernel
theorem dX7_undo_48 : decode cX7_undo 48 = .ok (.iadd, 1) := by decide +kernel
theorem dX7_undo_49 : decode cX7_undo 49 = .ok (.iaload, 1) := by decide +kernel
theorem dX7_undo_50 : decode cX7_undo 50 = .ok (.iastore, 1) := by decide +kernel
theorem dX7_undo_51 : decode cX7_undo 51 = .ok (.iinc 1 1, 3) := by decide +kernel
theorem dX7_undo_54 : decode cX7_undo 54 = .ok (.goto (-31), 3) := by decide +kernel
theorem dX7_undo_57 : decode cX7_undo 57 = .ok (.aload_n 0, 1) := by decide +kernel
theorem dX7_undo_58 : decode cX7_undo 58 = .ok (.getfield 36, 3) := by decide +kernel
theorem dX7_undo_61 : decode cX7_undo 61 = .ok (.ireturn, 1) := by decide +kernel
theorem dX7_count1_0 : decode cX7_count1 0 = .ok (.iconst 0, 1) := by decide +kernel
theorem dX7_count1_1 : decode cX7_count1 1 = .ok (.istore_n 1, 1) := by decide +kernel
theorem dX7_count1_2 : decode cX7_count1 2 = .ok (.iload_n 0, 1) := by decide +kernel
theorem dX7_count1_3 : decode cX7_count1 3 = .ok (.istore_n 2, 1) := by decide +kernel
theorem dX7_count1_4 : decode cX7_count1 4 = .ok (.iload_n 2, 1) := by decide +kernel
theorem dX7_count1_5 : decode cX7_count1 5 = .ok (.ifCond .eq 15, 3) := by decide +kernel
theorem dX7_count1_8 : decode cX7_count1 8 = .ok (.iinc 1 1, 3) := by decide +kernel
theorem dX7_count1_11 : decode cX7_count1 11 = .ok (.iload_n 2, 1) := by decide +kernel
theorem dX7_count1_12 : decode cX7_count1 12 = .ok (.iload_n 2, 1) := by decide +kernel
theorem dX7_count1_13 : decode cX7_count1 13 = .ok (.iconst 1, 1) := by decide +kernel
theorem dX7_count1_14 : decode cX7_count1 14 = .ok (.isub, 1) := by decide +kernel
theorem dX7_count1_15 : decode cX7_count1 15 = .ok (.iand, 1) := by decide +kernel
theorem dX7_count1_16 : decode cX7_count1 16 = .ok (.istore_n 2, 1) := by decide +kernel
theorem dX7_count1_17 : decode cX7_count1 17 = .ok (.goto (-13), 3) := by decide +kernel
theorem dX7_count1_20 : decode cX7_count1 20 = .ok (.iload_n 1, 1) := by decide +kernel
theorem dX7_count1_21 : decode cX7_count1 21 = .ok (.ireturn, 1) := by decide +kernel
theorem dX7_isHurt_0 : decode cX7_isHurt 0 = .ok (.aload_n 0, 1) := by decide +kernel
theorem dX7_isHurt_1 : decode cX7_isHurt 1 = .ok (.iload_n 1, 1) := by decide +kernel
theorem dX7_isHurt_2 : decode cX7_isHurt 2 = .ok (.invokevirtual 43, 3) := by decide +kernel
theorem dX7_isHurt_5 : decode cX7_isHurt 5 = .ok (.ifCond .eq 25, 3) := by decide +kernel
theorem dX7_isHurt_8 : decode cX7_isHurt 8 = .ok (.aload_n 0, 1) := by decide +kernel
theorem dX7_isHurt_9 : decode cX7_isHurt 9 = .ok (.iload_n 1, 1) := by decide +kernel
theorem dX7_isHurt_10 : decode cX7_isHurt 10 = .ok (.invokevirtual 106, 3) := by decide +kernel
theorem dX7_isHurt_13 : decode cX7_isHurt 13 = .ok (.ifCond .eq 17, 3) := by decide +kernel
theorem dX7_isHurt_16 : decode cX7_isHurt 16 = .ok (.iload_n 2, 1) := by decide +kernel
theorem dX7_isHurt_17 : decode cX7_isHurt 17 = .ok (.aload_n 0, 1) := by decide +kernel
theorem dX7_isHurt_18 : decode cX7_isHurt 18 = .ok (.iload_n 1, 1) := by decide +kernel
theorem dX7_isHurt_19 : decode cX7_isHurt 19 = .ok (.iconst 1, 1) := by decide +kernel
theorem dX7_isHurt_20 : decode cX7_isHurt 20 = .ok (.invokevirtual 29, 3) := by decide +kernel
theorem dX7_isHurt_23 : decode cX7_isHurt 23 = .ok (.ishr, 1) := by decide +kernel
theorem dX7_isHurt_24 : decode cX7_isHurt 24 = .ok (.iconst 1, 1) := by decide +kernel
theorem dX7_isHurt_25 : decode cX7_isHurt 25 = .ok (.iand, 1) := by decide +kernel
theorem dX7_isHurt_26 : decode cX7_isHurt 26 = .ok (.iconst 1, 1) := by decide +kernel
theorem dX7_isHurt_27 : decode cX7_isHurt 27 = .ok (.if_icmp .ne 5, 3) := by decide +kernel
theorem dX7_isHurt_30 : decode cX7_isHurt 30 = .ok (.iconst 0, 1) := by decide +kernel
theorem dX7_isHurt_31 : decode cX7_isHurt 31 = .ok (.ireturn, 1) := by decide +kernel
theorem dX7_isHurt_32 : decode cX7_isHurt 32 = .ok (.iconst 0, 1) := by decide +kernel
theorem dX7_isHurt_33 : decode cX7_isHurt 33 = .ok (.istore_n 3, 1) := by decide +kernel
theorem dX7_isHurt_34 : decode cX7_isHurt 34 = .ok (.iconst 0, 1) := by decide +kernel
theorem dX7_isHurt_35 : decode cX7_isHurt 35 = .ok (.istore 4, 2) := by decide +kernel
theorem dX7_isHurt_37 : decode cX7_isHurt 37 = .ok (.iload 4, 2) := by decide +kernel
theorem dX7_isHurt_39 : decode cX7_isHurt 39 = .ok (.aload_n 0, 1) := by decide +kernel
theorem dX7_isHurt_40 : decode cX7_isHurt 40 = .ok (.iload_n 1, 1) := by decide +kernel
theorem dX7_isHurt_41 : decode cX7_isHurt 41 = .ok (.invokevirtual 47, 3) := by decide +kernel
theorem dX7_isHurt_44 : decode cX7_isHurt 44 = .ok (.if_icmp .ge 44, 3) := by decide +kernel
theorem dX7_isHurt_47 : decode cX7_isHurt 47 = .ok (.iload_n 3, 1) := by decide +kernel
theorem dX7_isHurt_48 : decode cX7_isHurt 48 = .ok (.aload_n 0, 1) := by decide +kernel
theorem dX7_isHurt_49 : decode cX7_isHurt 49 = .ok (.iload_n 1, 1) := by decide +kernel
theorem dX7_isHurt_50 : decode cX7_isHurt 50 = .ok (.iload 4, 2) := by decide +kernel
theorem dX7_isHurt_52 : decode cX7_isHurt 52 = .ok (.invokevirtual 54, 3) := by decide +kernel
theorem dX7_isHurt_55 : decode cX7_isHurt 55 = .ok (.ifCond .eq 24, 3) := by decide +kernel
theorem dX7_isHurt_58 : decode cX7_isHurt 58 = .ok (.iload_n 2, 1) := by decide +kernel
theorem dX7_isHurt_59 : decode cX7_isHurt 59 = .ok (.aload_n 0, 1) := by decide +kernel
theorem dX7_isHurt_60 : decode cX7_isHurt 60 = .ok (.iload_n 1, 1) := by decide +kernel
theorem dX7_isHurt_61 : decode cX7_isHurt 61 = .ok (.bipush 10, 2) := by decide +kernel
theorem dX7_isHurt_63 : decode cX7_isHurt 63 = .ok (.iload 4, 2) := by decide +kernel
theorem dX7_isHurt_65 : decode cX7_isHurt 65 = .ok (.iadd, 1) := by decide +kernel
theorem dX7_isHurt_66 : decode cX7_isHurt 66 = .ok (.invokevirtual 29, 3) := by decide +kernel
theorem dX7_isHurt_69 : decode cX7_isHurt 69 = .ok (.ishr, 1) := by decide +kernel
theorem dX7_isHurt_70 : decode cX7_isHurt 70 = .ok (.iconst 1, 1) := by decide +kernel
theorem dX7_isHurt_71 : decode cX7_isHurt 71 = .ok (.iand, 1) := by decide +kernel
theorem dX7_isHurt_72 : decode cX7_isHurt 72 = .ok (.ifCond .ne 7, 3) := by decide +kernel
theorem dX7_isHurt_75 : decode cX7_isHurt 75 = .ok (.iconst 1, 1) := by decide +kernel
theorem dX7_isHurt_76 : decode cX7_isHurt 76 = .ok (.goto 4, 3) := by decide +kernel
theorem dX7_isHurt_79 : decode cX7_isHurt 79 = .ok (.iconst 0, 1) := by decide +kernel
theorem dX7_isHurt_80 : decode cX7_isHurt 80 = .ok (.iadd, 1) := by decide +kernel
theorem dX7_isHurt_81 : decode cX7_isHurt 81 = .ok (.istore_n 3, 1) := by decide +kernel
theorem dX7_isHurt_82 : decode cX7_isHurt 82 = .ok (.iinc 4 1, 3) := by decide +kernel
theorem dX7_isHurt_85 : decode cX7_isHurt 85 = .ok (.goto (-48), 3) := by decide +kernel
theorem dX7_isHurt_88 : decode cX7_isHurt 88 = .ok (.iload_n 3, 1) := by decide +kernel
theorem dX7_isHurt_89 : decode cX7_isHurt 89 = .ok (.aload_n 0, 1) := by decide +kernel
theorem dX7_isHurt_90 : decode cX7_isHurt 90 = .ok (.iload_n 1, 1) := by decide +kernel
theorem dX7_isHurt_91 : decode cX7_isHurt 91 = .ok (.iconst 2, 1) := by decide +kernel
theorem dX7_isHurt_92 : decode cX7_isHurt 92 = .ok (.invokevirtual 29, 3) := by decide +kernel
theorem dX7_isHurt_95 : decode cX7_isHurt 95 = .ok (.if_icmp .ge 7, 3) := by decide +kernel
theorem dX7_isHurt_98 : decode cX7_isHurt 98 = .ok (.iconst 1, 1) := by decide +kernel
theorem dX7_isHurt_99 : decode cX7_isHurt 99 = .ok (.goto 4, 3) := by decide +kernel
theorem dX7_isHurt_102 : decode cX7_isHurt 102 = .ok (.iconst 0, 1) := by decide +kernel
theorem dX7_isHurt_103 : decode cX7_isHurt 103 = .ok (.ireturn, 1) := by decide +kernel
theorem dX7_peerSet_0 : decode cX7_peerSet 0 = .ok (.iconst 0, 1) := by decide +kernel
theorem dX7_peerSet_1 : decode cX7_peerSet 1 = .ok (.istore_n 1, 1) := by decide +kernel
theorem dX7_peerSet_2 : decode cX7_peerSet 2 = .ok (.iconst 0, 1) := by decide +kernel
theorem dX7_peerSet_3 : decode cX7_peerSet 3 = .ok (.istore_n 2, 1) := by decide +kernel
theorem dX7_peerSet_4 : decode cX7_peerSet 4 = .ok (.iload_n 2, 1) := by decide +kernel
theorem dX7_peerSet_5 : decode cX7_peerSet 5 = .ok (.bipush 12, 2) := by decide +kernel
theorem dX7_peerSet_7 : decode cX7_peerSet 7 = .ok (.if_icmp .ge 27, 3) := by decide +kernel
theorem dX7_peerSet_10 : decode cX7_peerSet 10 = .ok (.iload_n 1, 1) := by decide +kernel
theorem dX7_peerSet_11 : decode cX7_peerSet 11 = .ok (.aload_n 0, 1) := by decide +kernel
theorem dX7_peerSet_12 : decode cX7_peerSet 12 = .ok (.iload_n 2, 1) := by decide +kernel
theorem dX7_peerSet_13 : decode cX7_peerSet 13 = .ok (.invokevirtual 67, 3) := by decide +kernel
theorem dX7_peerSet_16 : decode cX7_peerSet 16 = .ok (.ifCond .eq 9, 3) := by decide +kernel
theorem dX7_peerSet_19 : decode cX7_peerSet 19 = .ok (.iconst 1, 1) := by decide +kernel
theorem dX7_peerSet_20 : decode cX7_peerSet 20 = .ok (.iload_n 2, 1) := by decide +kernel
theorem dX7_peerSet_21 : decode cX7_peerSet 21 = .ok (.ishl, 1) := by decide +kernel
theorem dX7_peerSet_22 : decode cX7_peerSet 22 = .ok (.goto 4, 3) := by decide +kernel
theorem dX7_peerSet_25 : decode cX7_peerSet 25 = .ok (.iconst 0, 1) := by decide +kernel
theorem dX7_peerSet_26 : decode cX7_peerSet 26 = .ok (.ior, 1) := by decide +kernel
theorem dX7_peerSet_27 : decode cX7_peerSet 27 = .ok (.istore_n 1, 1) := by decide +kernel
theorem dX7_peerSet_28 : decode cX7_peerSet 28 = .ok (.iinc 2 1, 3) := by decide +kernel
theorem dX7_peerSet_31 : decode cX7_peerSet 31 = .ok (.goto (-27), 3) := by decide +kernel
theorem dX7_peerSet_34 : decode cX7_peerSet 34 = .ok (.iload_n 1, 1) := by decide +kernel
theorem dX7_peerSet_35 : decode cX7_peerSet 35 = .ok (.ireturn, 1) := by decide +kernel
theorem dX7_isBorne_0 : decode cX7_isBorne 0 = .ok (.aload_n 0, 1) := by decide +kernel
theorem dX7_isBorne_1 : decode cX7_isBorne 1 = .ok (.invokevirtual 131, 3) := by decide +kernel
theorem dX7_isBorne_4 : decode cX7_isBorne 4 = .ok (.istore_n 2, 1) := by decide +kernel
theorem dX7_isBorne_5 : decode cX7_isBorne 5 = .ok (.iconst 0, 1) := by decide +kernel
theorem dX7_isBorne_6 : decode cX7_isBorne 6 = .ok (.istore_n 3, 1) := by decide +kernel
theorem dX7_isBorne_7 : decode cX7_isBorne 7 = .ok (.iload_n 3, 1) := by decide +kernel
theorem dX7_isBorne_8 : decode cX7_isBorne 8 = .ok (.iload_n 2, 1) := by decide +kernel
theorem dX7_isBorne_9 : decode cX7_isBorne 9 = .ok (.if_icmp .gt 53, 3) := by decide +kernel
theorem dX7_isBorne_12 : decode cX7_isBorne 12 = .ok (.iload_n 3, 1) := by decide +kernel
theorem dX7_isBorne_13 : decode cX7_isBorne 13 = .ok (.iload_n 2, 1) := by decide +kernel
theorem dX7_isBorne_14 : decode cX7_isBorne 14 = .ok (.iconst (-1), 1) := by decide +kernel
theorem dX7_isBorne_15 : decode cX7_isBorne 15 = .ok (.ixor, 1) := by decide +kernel
theorem dX7_isBorne_16 : decode cX7_isBorne 16 = .ok (.iand, 1) := by decide +kernel
theorem dX7_isBorne_17 : decode cX7_isBorne 17 = .ok (.ifCond .ne 39, 3) := by decide +kernel
theorem dX7_isBorne_20 : decode cX7_isBorne 20 = .ok (.iload_n 3, 1) := by decide +kernel
theorem dX7_isBorne_21 : decode cX7_isBorne 21 = .ok (.invokestatic 134, 3) := by decide +kernel
theorem dX7_isBorne_24 : decode cX7_isBorne 24 = .ok (.iload_n 1, 1) := by decide +kernel
theorem dX7_isBorne_25 : decode cX7_isBorne 25 = .ok (.if_icmp .ne 31, 3) := by decide +kernel
theorem dX7_isBorne_28 : decode cX7_isBorne 28 = .ok (.iconst 0, 1) := by decide +kernel
theorem dX7_isBorne_29 : decode cX7_isBorne 29 = .ok (.istore 4, 2) := by decide +kernel
theorem dX7_isBorne_31 : decode cX7_isBorne 31 = .ok (.iload 4, 2) := by decide +kernel
theorem dX7_isBorne_33 : decode cX7_isBorne 33 = .ok (.bipush 8, 2) := by decide +kernel
theorem dX7_isBorne_35 : decode cX7_isBorne 35 = .ok (.if_icmp .ge 21, 3) := by decide +kernel
theorem dX7_isBorne_38 : decode cX7_isBorne 38 = .ok (.aload_n 0, 1) := by decide +kernel
theorem dX7_isBorne_39 : decode cX7_isBorne 39 = .ok (.iload 4, 2) := by decide +kernel
theorem dX7_isBorne_41 : decode cX7_isBorne 41 = .ok (.iload_n 3, 1) := by decide +kernel
theorem dX7_isBorne_42 : decode cX7_isBorne 42 = .ok (.invokevirtual 137, 3) := by decide +kernel
theorem dX7_isBorne_45 : decode cX7_isBorne 45 = .ok (.ifCond .eq 5, 3) := by decide +kernel
theorem dX7_isBorne_48 : decode cX7_isBorne 48 = .ok (.iconst 0, 1) := by decide +kernel
theorem dX7_isBorne_49 : decode cX7_isBorne 49 = .ok (.ireturn, 1) := by decide +kernel
theorem dX7_isBorne_50 : decode cX7_isBorne 50 = .ok (.iinc 4 1, 3) := by decide +kernel
theorem dX7_isBorne_53 : decode cX7_isBorne 53 = .ok (.goto (-22), 3) := by decide +kernel
theorem dX7_isBorne_56 : decode cX7_isBorne 56 = .ok (.iinc 3 1, 3) := by decide +kernel
theorem dX7_isBorne_59 : decode cX7_isBorne 59 = .ok (.goto (-52), 3) := by decide +kernel
theorem dX7_isBorne_62 : decode cX7_isBorne 62 = .ok (.iconst 1, 1) := by decide +kernel
theorem dX7_isBorne_63 : decode cX7_isBorne 63 = .ok (.ireturn, 1) := by decide +kernel
theorem dX7_tolerance_0 : decode cX7_tolerance 0 = .ok (.aload_n 0, 1) := by decide +kernel
theorem dX7_tolerance_1 : decode cX7_tolerance 1 = .ok (.invokevirtual 131, 3) := by decide +kernel
theorem dX7_tolerance_4 : decode cX7_tolerance 4 = .ok (.istore_n 1, 1) := by decide +kernel
theorem dX7_tolerance_5 : decode cX7_tolerance 5 = .ok (.iload_n 1, 1) := by decide +kernel
theorem dX7_tolerance_6 : decode cX7_tolerance 6 = .ok (.ifCond .ne 7, 3) := by decide +kernel
theorem dX7_tolerance_9 : decode cX7_tolerance 9 = .ok (.sipush (-10002), 3) := by decide +kernel
theorem dX7_tolerance_12 : decode cX7_tolerance 12 = .ok (.ireturn, 1) := by decide +kernel
theorem dX7_tolerance_13 : decode cX7_tolerance 13 = .ok (.iconst 0, 1) := by decide +kernel
theorem dX7_tolerance_14 : decode cX7_tolerance 14 = .ok (.istore_n 2, 1) := by decide +kernel
theorem dX7_tolerance_15 : decode cX7_tolerance 15 = .ok (.iconst 1, 1) := by decide +kernel
theorem dX7_tolerance_16 : decode cX7_tolerance 16 = .ok (.istore_n 3, 1) := by decide +kernel
theorem dX7_tolerance_17 : decode cX7_tolerance 17 = .ok (.iload_n 3, 1) := by decide +kernel
theorem dX7_tolerance_18 : decode cX7_tolerance 18 = .ok (.iconst 4, 1) := by decide +kernel
theorem dX7_tolerance_19 : decode cX7_tolerance 19 = .ok (.if_icmp .gt 31, 3) := by decide +kernel
theorem dX7_tolerance_22 : decode cX7_tolerance 22 = .ok (.iload_n 3, 1) := by decide +kernel
theorem dX7_tolerance_23 : decode cX7_tolerance 23 = .ok (.iload_n 1, 1) := by decide +kernel
theorem dX7_tolerance_24 : decode cX7_tolerance 24 = .ok (.invokestatic 134, 3) := by decide +kernel
theorem dX7_tolerance_27 : decode cX7_tolerance 27 = .ok (.if_icmp .gt 23, 3) := by decide +kernel
theorem dX7_tolerance_30 : decode cX7_tolerance 30 = .ok (.aload_n 0, 1) := by decide +kernel
theorem dX7_tolerance_31 : decode cX7_tolerance 31 = .ok (.iload_n 3, 1) := by decide +kernel
theorem dX7_tolerance_32 : decode cX7_tolerance 32 = .ok (.invokevirtual 140, 3) := by decide +kernel
theorem dX7_tolerance_35 : decode cX7_tolerance 35 = .ok (.ifCond .eq 7, 3) := by decide +kernel
theorem dX7_tolerance_38 : decode cX7_tolerance 38 = .ok (.iload_n 3, 1) := by decide +kernel
theorem dX7_tolerance_39 : decode cX7_tolerance 39 = .ok (.goto 4, 3) := by decide +kernel
theorem dX7_tolerance_42 : decode cX7_tolerance 42 = .ok (.iload_n 2, 1) := by decide +kernel
theorem dX7_tolerance_43 : decode cX7_tolerance 43 = .ok (.istore_n 2, 1) := by decide +kernel
theorem dX7_tolerance_44 : decode cX7_tolerance 44 = .ok (.iinc 3 1, 3) := by decide +kernel
theorem dX7_tolerance_47 : decode cX7_tolerance 47 = .ok (.goto (-30), 3) := by decide +kernel
theorem dX7_tolerance_50 : decode cX7_tolerance 50 = .ok (.iload_n 2, 1) := by decide +kernel
theorem dX7_tolerance_51 : decode cX7_tolerance 51 = .ok (.ireturn, 1) := by decide +kernel
theorem dX7_endangered_0 : decode cX7_endangered 0 = .ok (.aload_n 0, 1) := by decide +kernel
theorem dX7_endangered_1 : decode cX7_endangered 1 = .ok (.iload_n 1, 1) := by decide +kernel
theorem dX7_endangered_2 : decode cX7_endangered 2 = .ok (.invokevirtual 67, 3) := by decide +kernel
theorem dX7_endangered_5 : decode cX7_endangered 5 = .ok (.ifCond .ne 7, 3) := by decide +kernel
theorem dX7_endangered_8 : decode cX7_endangered 8 = .ok (.sipush (-10001), 3) := by decide +kernel
theorem dX7_endangered_11 : decode cX7_endangered 11 = .ok (.ireturn, 1) := by decide +kernel
theorem dX7_endangered_12 : decode cX7_endangered 12 = .ok (.aload_n 0, 1) := by decide +kernel
theorem dX7_endangered_13 : decode cX7_endangered 13 = .ok (.getfield 7, 3) := by decide +kernel
theorem dX7_endangered_16 : decode cX7_endangered 16 = .ok (.iconst 4, 1) := by decide +kernel
theorem dX7_endangered_17 : decode cX7_endangered 17 = .ok (.iload_n 1, 1) := by decide +kernel
theorem dX7_endangered_18 : decode cX7_endangered 18 = .ok (.imul, 1) := by decide +kernel
theorem dX7_endangered_19 : decode cX7_endangered 19 = .ok (.iconst 2, 1) := by decide +kernel
theorem dX7_endangered_20 : decode cX7_endangered 20 = .ok (.iadd, 1) := by decide +kernel
theorem dX7_endangered_21 : decode cX7_endangered 21 = .ok (.iaload, 1) := by decide +kernel
theorem dX7_endangered_22 : decode cX7_endangered 22 = .ok (.istore_n 2, 1) := by decide +kernel
theorem dX7_endangered_23 : decode cX7_endangered 23 = .ok (.iconst 0, 1) := by decide +kernel
theorem dX7_endangered_24 : decode cX7_endangered 24 = .ok (.istore_n 3, 1) := by decide +kernel
theorem dX7_endangered_25 : decode cX7_endangered 25 = .ok (.iconst 0, 1) := by decide +kernel
theorem dX7_endangered_26 : decode cX7_endangered 26 = .ok (.istore 4, 2) := by decide +kernel
theorem dX7_endangered_28 : decode cX7_endangered 28 = .ok (.iload 4, 2) := by decide +kernel
theorem dX7_endangered_30 : decode cX7_endangered 30 = .ok (.bipush 8, 2) := by decide +kernel
theorem dX7_endangered_32 : decode cX7_endangered 32 = .ok (.if_icmp .ge 78, 3) := by decide +kernel
theorem dX7_endangered_35 : decode cX7_endangered 35 = .ok (.aload_n 0, 1) := by decide +kernel
theorem dX7_endangered_36 : decode cX7_endangered 36 = .ok (.iload 4, 2) := by decide +kernel
theorem dX7_endangered_38 : decode cX7_endangered 38 = .ok (.invokevirtual 43, 3) := by decide +kernel
theorem dX7_endangered_41 : decode cX7_endangered 41 = .ok (.ifCond .eq 16, 3) := by decide +kernel
theorem dX7_endangered_44 : decode cX7_endangered 44 = .ok (.aload_n 0, 1) := by decide +kernel
theorem dX7_endangered_45 : decode cX7_endangered 45 = .ok (.iload 4, 2) := by decide +kernel
theorem dX7_endangered_47 : decode cX7_endangered 47 = .ok (.invokevirtual 106, 3) := by decide +kernel
theorem dX7_endangered_50 : decode cX7_endangered 50 = .ok (.ifCond .eq 7, 3) := by decide +kernel
theorem dX7_endangered_53 : decode cX7_endangered 53 = .ok (.iconst 1, 1) := by decide +kernel
theorem dX7_endangered_54 : decode cX7_endangered 54 = .ok (.goto 4, 3) := by decide +kernel
theorem dX7_endangered_57 : decode cX7_endangered 57 = .ok (.iconst 0, 1) := by decide +kernel
theorem dX7_endangered_58 : decode cX7_endangered 58 = .ok (.istore 5, 2) := by decide +kernel
theorem dX7_endangered_60 : decode cX7_endangered 60 = .ok (.aload_n 0, 1) := by decide +kernel
theorem dX7_endangered_61 : decode cX7_endangered 61 = .ok (.getfield 7, 3) := by decide +kernel
theorem dX7_endangered_64 : decode cX7_endangered 64 = .ok (.iconst 4, 1) := by decide +kernel
theorem dX7_endangered_65 : decode cX7_endangered 65 = .ok (.iload_n 1, 1) := by decide +kernel
theorem dX7_endangered_66 : decode cX7_endangered 66 = .ok (.imul, 1) := by decide +kernel
theorem dX7_endangered_67 : decode cX7_endangered 67 = .ok (.iconst 2, 1) := by decide +kernel
theorem dX7_endangered_68 : decode cX7_endangered 68 = .ok (.iadd, 1) := by decide +kernel
theorem dX7_endangered_69 : decode cX7_endangered 69 = .ok (.iconst 0, 1) := by decide +kernel
theorem dX7_endangered_70 : decode cX7_endangered 70 = .ok (.iastore, 1) := by decide +kernel
theorem dX7_endangered_71 : decode cX7_endangered 71 = .ok (.iload_n 3, 1) := by decide +kernel
theorem dX7_endangered_72 : decode cX7_endangered 72 = .ok (.iload 5, 2) := by decide +kernel
theorem dX7_endangered_74 : decode cX7_endangered 74 = .ok (.ifCond .eq 16, 3) := by decide +kernel
theorem dX7_endangered_77 : decode cX7_endangered 77 = .ok (.aload_n 0, 1) := by decide +kernel
theorem dX7_endangered_78 : decode cX7_endangered 78 = .ok (.iload 4, 2) := by decide +kernel
theorem dX7_endangered_80 : decode cX7_endangered 80 = .ok (.invokevirtual 106, 3) := by decide +kernel
theorem dX7_endangered_83 : decode cX7_endangered 83 = .ok (.ifCond .ne 7, 3) := by decide +kernel
theorem dX7_endangered_86 : decode cX7_endangered 86 = .ok (.iconst 1, 1) := by decide +kernel
theorem dX7_endangered_87 : decode cX7_endangered 87 = .ok (.goto 4, 3) := by decide +kernel
theorem dX7_endangered_90 : decode cX7_endangered 90 = .ok (.iconst 0, 1) := by decide +kernel
theorem dX7_endangered_91 : decode cX7_endangered 91 = .ok (.iadd, 1) := by decide +kernel
theorem dX7_endangered_92 : decode cX7_endangered 92 = .ok (.istore_n 3, 1) := by decide +kernel
theorem dX7_endangered_93 : decode cX7_endangered 93 = .ok (.aload_n 0, 1) := by decide +kernel
theorem dX7_endangered_94 : decode cX7_endangered 94 = .ok (.getfield 7, 3) := by decide +kernel
theorem dX7_endangered_97 : decode cX7_endangered 97 = .ok (.iconst 4, 1) := by decide +kernel
theorem dX7_endangered_98 : decode cX7_endangered 98 = .ok (.iload_n 1, 1) := by decide +kernel
theorem dX7_endangered_99 : decode cX7_endangered 99 = .ok (.imul, 1) := by decide +kernel
theorem dX7_endangered_100 : decode cX7_endangered 100 = .ok (.iconst 2, 1) := by decide +kernel
theorem dX7_endangered_101 : decode cX7_endangered 101 = .ok (.iadd, 1) := by decide +kernel
theorem dX7_endangered_102 : decode cX7_endangered 102 = .ok (.iload_n 2, 1) := by decide +kernel
theorem dX7_endangered_103 : decode cX7_endangered 103 = .ok (.iastore, 1) := by decide +kernel
theorem dX7_endangered_104 : decode cX7_endangered 104 = .ok (.iinc 4 1, 3) := by decide +kernel
theorem dX7_endangered_107 : decode cX7_endangered 107 = .ok (.goto (-79), 3) := by decide +kernel
theorem dX7_endangered_110 : decode cX7_endangered 110 = .ok (.iload_n 3, 1) := by decide +kernel
theorem dX7_endangered_111 : decode cX7_endangered 111 = .ok (.ireturn, 1) := by decide +kernel
theorem dX7_puts_0 : decode cX7_puts 0 = .ok (.iconst 0, 1) := by decide +kernel
theorem dX7_puts_1 : decode cX7_puts 1 = .ok (.istore_n 2, 1) := by decide +kernel
theorem dX7_puts_2 : decode cX7_puts 2 = .ok (.iload_n 2, 1) := by decide +kernel
theorem dX7_puts_3 : decode cX7_puts 3 = .ok (.sipush 439, 3) := by decide +kernel
theorem dX7_puts_6 : decode cX7_puts 6 = .ok (.if_icmp .ge 15, 3) := by decide +kernel
theorem dX7_puts_9 : decode cX7_puts 9 = .ok (.aload_n 1, 1) := by decide +kernel
theorem dX7_puts_10 : decode cX7_puts 10 = .ok (.iload_n 2, 1) := by decide +kernel
theorem dX7_puts_11 : decode cX7_puts 11 = .ok (.aload_n 0, 1) := by decide +kernel
theorem dX7_puts_12 : decode cX7_puts 12 = .ok (.iload_n 2, 1) := by decide +kernel
theorem dX7_puts_13 : decode cX7_puts 13 = .ok (.iaload, 1) := by decide +kernel
theorem dX7_puts_14 : decode cX7_puts 14 = .ok (.iastore, 1) := by decide +kernel
theorem dX7_puts_15 : decode cX7_puts 15 = .ok (.iinc 2 1, 3) := by decide +kernel
theorem dX7_puts_18 : decode cX7_puts 18 = .ok (.goto (-16), 3) := by decide +kernel
theorem dX7_puts_21 : decode cX7_puts 21 = .ok (.return_, 1) := by decide +kernel
theorem dX7_canGo_0 : decode cX7_canGo 0 = .ok (.aload_n 0, 1) := by decide +kernel
theorem dX7_canGo_1 : decode cX7_canGo 1 = .ok (.iload_n 1, 1) := by decide +kernel
theorem dX7_canGo_2 : decode cX7_canGo 2 = .ok (.invokevirtual 67, 3) := by decide +kernel
theorem dX7_canGo_5 : decode cX7_canGo 5 = .ok (.ifCond .eq 19, 3) := by decide +kernel
theorem dX7_canGo_8 : decode cX7_canGo 8 = .ok (.aload_n 0, 1) := by decide +kernel
theorem dX7_canGo_9 : decode cX7_canGo 9 = .ok (.iload_n 1, 1) := by decide +kernel
theorem dX7_canGo_10 : decode cX7_canGo 10 = .ok (.invokevirtual 90, 3) := by decide +kernel
theorem dX7_canGo_13 : decode cX7_canGo 13 = .ok (.ifCond .gt 11, 3) := by decide +kernel
theorem dX7_canGo_16 : decode cX7_canGo 16 = .ok (.aload_n 0, 1) := by decide +kernel
theorem dX7_canGo_17 : decode cX7_canGo 17 = .ok (.iload_n 1, 1) := by decide +kernel
theorem dX7_canGo_18 : decode cX7_canGo 18 = .ok (.invokevirtual 51, 3) := by decide +kernel
theorem dX7_canGo_21 : decode cX7_canGo 21 = .ok (.ifCond .ne 5, 3) := by decide +kernel
theorem dX7_canGo_24 : decode cX7_canGo 24 = .ok (.iconst 0, 1) := by decide +kernel
theorem dX7_canGo_25 : decode cX7_canGo 25 = .ok (.ireturn, 1) := by decide +kernel
theorem dX7_canGo_26 : decode cX7_canGo 26 = .ok (.aload_n 0, 1) := by decide +kernel
theorem dX7_canGo_27 : decode cX7_canGo 27 = .ok (.getfield 7, 3) := by decide +kernel
theorem dX7_canGo_30 : decode cX7_canGo 30 = .ok (.aload_n 0, 1) := by decide +kernel
theorem dX7_canGo_31 : decode cX7_canGo 31 = .ok (.getfield 16, 3) := by decide +kernel
theorem dX7_canGo_34 : decode cX7_canGo 34 = .ok (.invokestatic 143, 3) := by decide +kernel
theorem dX7_canGo_37 : decode cX7_canGo 37 = .ok (.aload_n 0, 1) := by decide +kernel
theorem dX7_canGo_38 : decode cX7_canGo 38 = .ok (.iload_n 1, 1) := by decide +kernel
theorem dX7_canGo_39 : decode cX7_canGo 39 = .ok (.invokevirtual 93, 3) := by decide +kernel
theorem dX7_canGo_42 : decode cX7_canGo 42 = .ok (.ifCond .ne 5, 3) := by decide +kernel
theorem dX7_canGo_45 : decode cX7_canGo 45 = .ok (.iconst 1, 1) := by decide +kernel
theorem dX7_canGo_46 : decode cX7_canGo 46 = .ok (.ireturn, 1) := by decide +kernel
theorem dX7_canGo_47 : decode cX7_canGo 47 = .ok (.aload_n 0, 1) := by decide +kernel
theorem dX7_canGo_48 : decode cX7_canGo 48 = .ok (.getfield 16, 3) := by decide +kernel
theorem dX7_canGo_51 : decode cX7_canGo 51 = .ok (.aload_n 0, 1) := by decide +kernel
theorem dX7_canGo_52 : decode cX7_canGo 52 = .ok (.getfield 7, 3) := by decide +kernel
theorem dX7_canGo_55 : decode cX7_canGo 55 = .ok (.invokestatic 143, 3) := by decide +kernel
theorem dX7_canGo_58 : decode cX7_canGo 58 = .ok (.iconst 0, 1) := by decide +kernel
theorem dX7_canGo_59 : decode cX7_canGo 59 = .ok (.ireturn, 1) := by decide +kernel
theorem dX7_leavers_0 : decode cX7_leavers 0 = .ok (.aload_n 0, 1) := by decide +kernel
theorem dX7_leavers_1 : decode cX7_leavers 1 = .ok (.getfield 7, 3) := by decide +kernel
theorem dX7_leavers_4 : decode cX7_leavers 4 = .ok (.aload_n 0, 1) := by decide +kernel
theorem dX7_leavers_5 : decode cX7_leavers 5 = .ok (.getfield 13, 3) := by decide +kernel
theorem dX7_leavers_8 : decode cX7_leavers 8 = .ok (.invokestatic 143, 3) := by decide +kernel
theorem dX7_leavers_11 : decode cX7_leavers 11 = .ok (.iconst 0, 1) := by decide +kernel
theorem dX7_leavers_12 : decode cX7_leavers 12 = .ok (.istore_n 1, 1) := by decide +kernel
theorem dX7_leavers_13 : decode cX7_leavers 13 = .ok (.iconst 1, 1) := by decide +kernel
theorem dX7_leavers_14 : decode cX7_leavers 14 = .ok (.istore_n 2, 1) := by decide +kernel
theorem dX7_leavers_15 : decode cX7_leavers 15 = .ok (.iload_n 2, 1) := by decide +kernel
theorem dX7_leavers_16 : decode cX7_leavers 16 = .ok (.ifCond .eq 44, 3) := by decide +kernel
theorem dX7_leavers_19 : decode cX7_leavers 19 = .ok (.iconst 0, 1) := by decide +kernel
theorem dX7_leavers_20 : decode cX7_leavers 20 = .ok (.istore_n 2, 1) := by decide +kernel
theorem dX7_leavers_21 : decode cX7_leavers 21 = .ok (.iconst 0, 1) := by decide +kernel
theorem dX7_leavers_22 : decode cX7_leavers 22 = .ok (.istore_n 3, 1) := by decide +kernel
theorem dX7_leavers_23 : decode cX7_leavers 23 = .ok (.iload_n 3, 1) := by decide +kernel
theorem dX7_leavers_24 : decode cX7_leavers 24 = .ok (.bipush 12, 2) := by decide +kernel
theorem dX7_leavers_26 : decode cX7_leavers 26 = .ok (.if_icmp .ge 19, 3) := by decide +kernel
theorem dX7_leavers_29 : decode cX7_leavers 29 = .ok (.iload_n 2, 1) := by decide +kernel
theorem dX7_leavers_30 : decode cX7_leavers 30 = .ok (.ifCond .ne 15, 3) := by decide +kernel
theorem dX7_leavers_33 : decode cX7_leavers 33 = .ok (.aload_n 0, 1) := by decide +kernel
theorem dX7_leavers_34 : decode cX7_leavers 34 = .ok (.iload_n 3, 1) := by decide +kernel
theorem dX7_leavers_35 : decode cX7_leavers 35 = .ok (.invokevirtual 147, 3) := by decide +kernel
theorem dX7_leavers_38 : decode cX7_leavers 38 = .ok (.istore_n 2, 1) := by decide +kernel
theorem dX7_leavers_39 : decode cX7_leavers 39 = .ok (.iinc 3 1, 3) := by decide +kernel
theorem dX7_leavers_42 : decode cX7_leavers 42 = .ok (.goto (-19), 3) := by decide +kernel
theorem dX7_leavers_45 : decode cX7_leavers 45 = .ok (.iload_n 1, 1) := by decide +kernel
theorem dX7_leavers_46 : decode cX7_leavers 46 = .ok (.iload_n 2, 1) := by decide +kernel
theorem dX7_leavers_47 : decode cX7_leavers 47 = .ok (.ifCond .eq 7, 3) := by decide +kernel
theorem dX7_leavers_50 : decode cX7_leavers 50 = .ok (.iconst 1, 1) := by decide +kernel
theorem dX7_leavers_51 : decode cX7_leavers 51 = .ok (.goto 4, 3) := by decide +kernel
theorem dX7_leavers_54 : decode cX7_leavers 54 = .ok (.iconst 0, 1) := by decide +kernel
theorem dX7_leavers_55 : decode cX7_leavers 55 = .ok (.iadd, 1) := by decide +kernel
theorem dX7_leavers_56 : decode cX7_leavers 56 = .ok (.istore_n 1, 1) := by decide +kernel
theorem dX7_leavers_57 : decode cX7_leavers 57 = .ok (.goto (-42), 3) := by decide +kernel
theorem dX7_leavers_60 : decode cX7_leavers 60 = .ok (.aload_n 0, 1) := by decide +kernel
theorem dX7_leavers_61 : decode cX7_leavers 61 = .ok (.getfield 13, 3) := by decide +kernel
theorem dX7_leavers_64 : decode cX7_leavers 64 = .ok (.aload_n 0, 1) := by decide +kernel
theorem dX7_leavers_65 : decode cX7_leavers 65 = .ok (.getfield 7, 3) := by decide +kernel
theorem dX7_leavers_68 : decode cX7_leavers 68 = .ok (.invokestatic 143, 3) := by decide +kernel
theorem dX7_leavers_71 : decode cX7_leavers 71 = .ok (.iload_n 1, 1) := by decide +kernel
theorem dX7_leavers_72 : decode cX7_leavers 72 = .ok (.ireturn, 1) := by decide +kernel
theorem dX7_count_0 : decode cX7_count 0 = .ok (.iload_n 1, 1) := by decide +kernel
theorem dX7_count_1 : decode cX7_count 1 = .ok (.iconst 0, 1) := by decide +kernel
theorem dX7_count_2 : decode cX7_count 2 = .ok (.bipush 8, 2) := by decide +kernel
theorem dX7_count_4 : decode cX7_count 4 = .ok (.invokestatic 25, 3) := by decide +kernel
theorem dX7_count_7 : decode cX7_count 7 = .ok (.ifCond .ne 7, 3) := by decide +kernel
theorem dX7_count_10 : decode cX7_count 10 = .ok (.sipush (-10001), 3) := by decide +kernel
theorem dX7_count_13 : decode cX7_count 13 = .ok (.ireturn, 1) := by decide +kernel
theorem dX7_count_14 : decode cX7_count 14 = .ok (.iconst 0, 1) := by decide +kernel
theorem dX7_count_15 : decode cX7_count 15 = .ok (.istore_n 2, 1) := by decide +kernel
theorem dX7_count_16 : decode cX7_count 16 = .ok (.iconst 0, 1) := by decide +kernel
theorem dX7_count_17 : decode cX7_count 17 = .ok (.istore_n 3, 1) := by decide +kernel
theorem dX7_count_18 : decode cX7_count 18 = .ok (.iconst 0, 1) := by decide +kernel
theorem dX7_count_19 : decode cX7_count 19 = .ok (.istore 4, 2) := by decide +kernel
theorem dX7_count_21 : decode cX7_count 21 = .ok (.iconst 0, 1) := by decide +kernel
theorem dX7_count_22 : decode cX7_count 22 = .ok (.istore 5, 2) := by decide +kernel
theorem dX7_count_24 : decode cX7_count 24 = .ok (.iload 5, 2) := by decide +kernel
theorem dX7_count_26 : decode cX7_count 26 = .ok (.bipush 8, 2) := by decide +kernel
theorem dX7_count_28 : decode cX7_count 28 = .ok (.if_icmp .ge 110, 3) := by decide +kernel
theorem dX7_count_31 : decode cX7_count 31 = .ok (.iload_n 2, 1) := by decide +kernel
theorem dX7_count_32 : decode cX7_count 32 = .ok (.aload_n 0, 1) := by decide +kernel
theorem dX7_count_33 : decode cX7_count 33 = .ok (.iload 5, 2) := by decide +kernel
theorem dX7_count_35 : decode cX7_count 35 = .ok (.invokevirtual 43, 3) := by decide +kernel
theorem dX7_count_38 : decode cX7_count 38 = .ok (.ifCond .eq 16, 3) := by decide +kernel
theorem dX7_count_41 : decode cX7_count 41 = .ok (.aload_n 0, 1) := by decide +kernel
theorem dX7_count_42 : decode cX7_count 42 = .ok (.iload 5, 2) := by decide +kernel
theorem dX7_count_44 : decode cX7_count 44 = .ok (.invokevirtual 106, 3) := by decide +kernel
theorem dX7_count_47 : decode cX7_count 47 = .ok (.ifCond .eq 7, 3) := by decide +kernel
theorem dX7_count_50 : decode cX7_count 50 = .ok (.iconst 1, 1) := by decide +kernel
theorem dX7_count_51 : decode cX7_count 51 = .ok (.goto 4, 3) := by decide +kernel
theorem dX7_count_54 : decode cX7_count 54 = .ok (.iconst 0, 1) := by decide +kernel
theorem dX7_count_55 : decode cX7_count 55 = .ok (.iadd, 1) := by decide +kernel
theorem dX7_count_56 : decode cX7_count 56 = .ok (.istore_n 2, 1) := by decide +kernel
theorem dX7_count_57 : decode cX7_count 57 = .ok (.iload_n 3, 1) := by decide +kernel
theorem dX7_count_58 : decode cX7_count 58 = .ok (.aload_n 0, 1) := by decide +kernel
theorem dX7_count_59 : decode cX7_count 59 = .ok (.iload 5, 2) := by decide +kernel
theorem dX7_count_61 : decode cX7_count 61 = .ok (.invokevirtual 43, 3) := by decide +kernel
theorem dX7_count_64 : decode cX7_count 64 = .ok (.ifCond .eq 12, 3) := by decide +kernel
theorem dX7_count_67 : decode cX7_count 67 = .ok (.aload_n 0, 1) := by decide +kernel
theorem dX7_count_68 : decode cX7_count 68 = .ok (.iload 5, 2) := by decide +kernel
theorem dX7_count_70 : decode cX7_count 70 = .ok (.invokevirtual 103, 3) := by decide +kernel
theorem dX7_count_73 : decode cX7_count 73 = .ok (.goto 4, 3) := by decide +kernel
theorem dX7_count_76 : decode cX7_count 76 = .ok (.iconst 0, 1) := by decide +kernel
theorem dX7_count_77 : decode cX7_count 77 = .ok (.iadd, 1) := by decide +kernel
theorem dX7_count_78 : decode cX7_count 78 = .ok (.istore_n 3, 1) := by decide +kernel
theorem dX7_count_79 : decode cX7_count 79 = .ok (.iconst 0, 1) := by decide +kernel
theorem dX7_count_80 : decode cX7_count 80 = .ok (.istore 6, 2) := by decide +kernel
theorem dX7_count_82 : decode cX7_count 82 = .ok (.aload_n 0, 1) := by decide +kernel
theorem dX7_count_83 : decode cX7_count 83 = .ok (.iload 5, 2) := by decide +kernel
theorem dX7_count_85 : decode cX7_count 85 = .ok (.invokevirtual 43, 3) := by decide +kernel
theorem dX7_count_88 : decode cX7_count 88 = .ok (.ifCond .eq 44, 3) := by decide +kernel
theorem dX7_count_91 : decode cX7_count 91 = .ok (.iload 6, 2) := by decide +kernel
theorem dX7_count_93 : decode cX7_count 93 = .ok (.aload_n 0, 1) := by decide +kernel
theorem dX7_count_94 : decode cX7_count 94 = .ok (.iload 5, 2) := by decide +kernel
theorem dX7_count_96 : decode cX7_count 96 = .ok (.invokevirtual 47, 3) := by decide +kernel
theorem dX7_count_99 : decode cX7_count 99 = .ok (.if_icmp .ge 33, 3) := by decide +kernel
theorem dX7_count_102 : decode cX7_count 102 = .ok (.iload 4, 2) := by decide +kernel
theorem dX7_count_104 : decode cX7_count 104 = .ok (.aload_n 0, 1) := by decide +kernel
theorem dX7_count_105 : decode cX7_count 105 = .ok (.iload 5, 2) := by decide +kernel
theorem dX7_count_107 : decode cX7_count 107 = .ok (.bipush 20, 2) := by decide +kernel
theorem dX7_count_109 : decode cX7_count 109 = .ok (.iload 6, 2) := by decide +kernel
theorem dX7_count_111 : decode cX7_count 111 = .ok (.iadd, 1) := by decide +kernel
theorem dX7_count_112 : decode cX7_count 112 = .ok (.invokevirtual 29, 3) := by decide +kernel
theorem dX7_count_115 : decode cX7_count 115 = .ok (.ifCond .le 7, 3) := by decide +kernel
theorem dX7_count_118 : decode cX7_count 118 = .ok (.iconst 1, 1) := by decide +kernel
theorem dX7_count_119 : decode cX7_count 119 = .ok (.goto 4, 3) := by decide +kernel
theorem dX7_count_122 : decode cX7_count 122 = .ok (.iconst 0, 1) := by decide +kernel
theorem dX7_count_123 : decode cX7_count 123 = .ok (.iadd, 1) := by decide +kernel
theorem dX7_count_124 : decode cX7_count 124 = .ok (.istore 4, 2) := by decide +kernel
theorem dX7_count_126 : decode cX7_count 126 = .ok (.iinc 6 1, 3) := by decide +kernel
theorem dX7_count_129 : decode cX7_count 129 = .ok (.goto (-47), 3) := by decide +kernel
theorem dX7_count_132 : decode cX7_count 132 = .ok (.iinc 5 1, 3) := by decide +kernel
theorem dX7_count_135 : decode cX7_count 135 = .ok (.goto (-111), 3) := by decide +kernel
theorem dX7_count_138 : decode cX7_count 138 = .ok (.iconst 0, 1) := by decide +kernel
theorem dX7_count_139 : decode cX7_count 139 = .ok (.istore 5, 2) := by decide +kernel
theorem dX7_count_141 : decode cX7_count 141 = .ok (.iconst 0, 1) := by decide +kernel
theorem dX7_count_142 : decode cX7_count 142 = .ok (.istore 6, 2) := by decide +kernel
theorem dX7_count_144 : decode cX7_count 144 = .ok (.iconst 0, 1) := by decide +kernel
theorem dX7_count_145 : decode cX7_count 145 = .ok (.istore 7, 2) := by decide +kernel
theorem dX7_count_147 : decode cX7_count 147 = .ok (.iload 7, 2) := by decide +kernel
theorem dX7_count_149 : decode cX7_count 149 = .ok (.bipush 12, 2) := by decide +kernel
theorem dX7_count_151 : decode cX7_count 151 = .ok (.if_icmp .ge 94, 3) := by decide +kernel
theorem dX7_count_154 : decode cX7_count 154 = .ok (.iload 5, 2) := by decide +kernel
theorem dX7_count_156 : decode cX7_count 156 = .ok (.aload_n 0, 1) := by decide +kernel
theorem dX7_count_157 : decode cX7_count 157 = .ok (.iload 7, 2) := by decide +kernel
theorem dX7_count_159 : decode cX7_count 159 = .ok (.invokevirtual 67, 3) := by decide +kernel
theorem dX7_count_162 : decode cX7_count 162 = .ok (.ifCond .eq 21, 3) := by decide +kernel
theorem dX7_count_165 : decode cX7_count 165 = .ok (.aload_n 0, 1) := by decide +kernel
theorem dX7_count_166 : decode cX7_count 166 = .ok (.iload 7, 2) := by decide +kernel
theorem dX7_count_168 : decode cX7_count 168 = .ok (.invokevirtual 51, 3) := by decide +kernel
theorem dX7_count_171 : decode cX7_count 171 = .ok (.ifCond .eq 12, 3) := by decide +kernel
theorem dX7_count_174 : decode cX7_count 174 = .ok (.aload_n 0, 1) := by decide +kernel
theorem dX7_count_175 : decode cX7_count 175 = .ok (.iload 7, 2) := by decide +kernel
theorem dX7_count_177 : decode cX7_count 177 = .ok (.invokevirtual 70, 3) := by decide +kernel
theorem dX7_count_180 : decode cX7_count 180 = .ok (.goto 4, 3) := by decide +kernel
theorem dX7_count_183 : decode cX7_count 183 = .ok (.iconst 0, 1) := by decide +kernel
theorem dX7_count_184 : decode cX7_count 184 = .ok (.iadd, 1) := by decide +kernel
theorem dX7_count_185 : decode cX7_count 185 = .ok (.istore 5, 2) := by decide +kernel
theorem dX7_count_187 : decode cX7_count 187 = .ok (.iconst 0, 1) := by decide +kernel
theorem dX7_count_188 : decode cX7_count 188 = .ok (.istore 8, 2) := by decide +kernel
theorem dX7_count_190 : decode cX7_count 190 = .ok (.iload 8, 2) := by decide +kernel
theorem dX7_count_192 : decode cX7_count 192 = .ok (.bipush 12, 2) := by decide +kernel
theorem dX7_count_194 : decode cX7_count 194 = .ok (.if_icmp .ge 45, 3) := by decide +kernel
theorem dX7_count_197 : decode cX7_count 197 = .ok (.iload 6, 2) := by decide +kernel
theorem dX7_count_199 : decode cX7_count 199 = .ok (.aload_n 0, 1) := by decide +kernel
theorem dX7_count_200 : decode cX7_count 200 = .ok (.getfield 7, 3) := by decide +kernel
theorem dX7_count_203 : decode cX7_count 203 = .ok (.iload 7, 2) := by decide +kernel
theorem dX7_count_205 : decode cX7_count 205 = .ok (.iload 8, 2) := by decide +kernel
theorem dX7_count_207 : decode cX7_count 207 = .ok (.invokestatic 40, 3) := by decide +kernel
theorem dX7_count_210 : decode cX7_count 210 = .ok (.iaload, 1) := by decide +kernel
theorem dX7_count_211 : decode cX7_count 211 = .ok (.ifCond .le 18, 3) := by decide +kernel
theorem dX7_count_214 : decode cX7_count 214 = .ok (.aload_n 0, 1) := by decide +kernel
theorem dX7_count_215 : decode cX7_count 215 = .ok (.getfield 7, 3) := by decide +kernel
theorem dX7_count_218 : decode cX7_count 218 = .ok (.iload 7, 2) := by decide +kernel
theorem dX7_count_220 : decode cX7_count 220 = .ok (.iload 8, 2) := by decide +kernel
theorem dX7_count_222 : decode cX7_count 222 = .ok (.invokestatic 40, 3) := by decide +kernel
theorem dX7_count_225 : decode cX7_count 225 = .ok (.iaload, 1) := by decide +kernel
theorem dX7_count_226 : decode cX7_count 226 = .ok (.goto 4, 3) := by decide +kernel
theorem dX7_count_229 : decode cX7_count 229 = .ok (.iconst 0, 1) := by decide +kernel
theorem dX7_count_230 : decode cX7_count 230 = .ok (.iadd, 1) := by decide +kernel
theorem dX7_count_231 : decode cX7_count 231 = .ok (.istore 6, 2) := by decide +kernel
theorem dX7_count_233 : decode cX7_count 233 = .ok (.iinc 8 1, 3) := by decide +kernel
theorem dX7_count_236 : decode cX7_count 236 = .ok (.goto (-46), 3) := by decide +kernel
theorem dX7_count_239 : decode cX7_count 239 = .ok (.iinc 7 1, 3) := by decide +kernel
theorem dX7_count_242 : decode cX7_count 242 = .ok (.goto (-95), 3) := by decide +kernel
theorem dX7_count_245 : decode cX7_count 245 = .ok (.iload_n 1, 1) := by decide +kernel
theorem dX7_count_246 : decode cX7_count 246 = .ok (.ifCond .ne 13, 3) := by decide +kernel
theorem dX7_count_249 : decode cX7_count 249 = .ok (.aload_n 0, 1) := by decide +kernel
theorem dX7_count_250 : decode cX7_count 250 = .ok (.invokevirtual 131, 3) := by decide +kernel
theorem dX7_count_253 : decode cX7_count 253 = .ok (.invokestatic 134, 3) := by decide +kernel
theorem dX7_count_256 : decode cX7_count 256 = .ok (.goto 85, 3) := by decide +kernel
theorem dX7_count_259 : decode cX7_count 259 = .ok (.iload_n 1, 1) := by decide +kernel
theorem dX7_count_260 : decode cX7_count 260 = .ok (.iconst 1, 1) := by decide +kernel
theorem dX7_count_261 : decode cX7_count 261 = .ok (.if_icmp .ne 10, 3) := by decide +kernel
theorem dX7_count_264 : decode cX7_count 264 = .ok (.aload_n 0, 1) := by decide +kernel
theorem dX7_count_265 : decode cX7_count 265 = .ok (.invokevirtual 99, 3) := by decide +kernel
theorem dX7_count_268 : decode cX7_count 268 = .ok (.goto 73, 3) := by decide +kernel
theorem dX7_count_271 : decode cX7_count 271 = .ok (.iload_n 1, 1) := by decide +kernel
theorem dX7_count_272 : decode cX7_count 272 = .ok (.iconst 2, 1) := by decide +kernel
theorem dX7_count_273 : decode cX7_count 273 = .ok (.if_icmp .ne 7, 3) := by decide +kernel
theorem dX7_count_276 : decode cX7_count 276 = .ok (.iload_n 2, 1) := by decide +kernel
theorem dX7_count_277 : decode cX7_count 277 = .ok (.goto 64, 3) := by decide +kernel
theorem dX7_count_280 : decode cX7_count 280 = .ok (.iload_n 1, 1) := by decide +kernel
theorem dX7_count_281 : decode cX7_count 281 = .ok (.iconst 3, 1) := by decide +kernel
theorem dX7_count_282 : decode cX7_count 282 = .ok (.if_icmp .ne 7, 3) := by decide +kernel
theorem dX7_count_285 : decode cX7_count 285 = .ok (.iload_n 3, 1) := by decide +kernel
theorem dX7_count_286 : decode cX7_count 286 = .ok (.goto 55, 3) := by decide +kernel
theorem dX7_count_289 : decode cX7_count 289 = .ok (.iload_n 1, 1) := by decide +kernel
theorem dX7_count_290 : decode cX7_count 290 = .ok (.iconst 4, 1) := by decide +kernel
theorem dX7_count_291 : decode cX7_count 291 = .ok (.if_icmp .ne 8, 3) := by decide +kernel
theorem dX7_count_294 : decode cX7_count 294 = .ok (.iload 4, 2) := by decide +kernel
theorem dX7_count_296 : decode cX7_count 296 = .ok (.goto 45, 3) := by decide +kernel
theorem dX7_count_299 : decode cX7_count 299 = .ok (.iload_n 1, 1) := by decide +kernel
theorem dX7_count_300 : decode cX7_count 300 = .ok (.iconst 5, 1) := by decide +kernel
theorem dX7_count_301 : decode cX7_count 301 = .ok (.if_icmp .ne 8, 3) := by decide +kernel
theorem dX7_count_304 : decode cX7_count 304 = .ok (.iload 5, 2) := by decide +kernel
theorem dX7_count_306 : decode cX7_count 306 = .ok (.goto 35, 3) := by decide +kernel
theorem dX7_count_309 : decode cX7_count 309 = .ok (.iload_n 1, 1) := by decide +kernel
theorem dX7_count_310 : decode cX7_count 310 = .ok (.bipush 6, 2) := by decide +kernel
theorem dX7_count_312 : decode cX7_count 312 = .ok (.if_icmp .ne 14, 3) := by decide +kernel
theorem dX7_count_315 : decode cX7_count 315 = .ok (.aload_n 0, 1) := by decide +kernel
theorem dX7_count_316 : decode cX7_count 316 = .ok (.getfield 7, 3) := by decide +kernel
theorem dX7_count_319 : decode cX7_count 319 = .ok (.sipush 432, 3) := by decide +kernel
theorem dX7_count_322 : decode cX7_count 322 = .ok (.iaload, 1) := by decide +kernel
theorem dX7_count_323 : decode cX7_count 323 = .ok (.goto 18, 3) := by decide +kernel
theorem dX7_count_326 : decode cX7_count 326 = .ok (.iload_n 1, 1) := by decide +kernel
theorem dX7_count_327 : decode cX7_count 327 = .ok (.bipush 7, 2) := by decide +kernel
theorem dX7_count_329 : decode cX7_count 329 = .ok (.if_icmp .ne 10, 3) := by decide +kernel
theorem dX7_count_332 : decode cX7_count 332 = .ok (.aload_n 0, 1) := by decide +kernel
theorem dX7_count_333 : decode cX7_count 333 = .ok (.getfield 36, 3) := by decide +kernel
theorem dX7_count_336 : decode cX7_count 336 = .ok (.goto 5, 3) := by decide +kernel
theorem dX7_count_339 : decode cX7_count 339 = .ok (.iload 6, 2) := by decide +kernel
theorem dX7_count_341 : decode cX7_count 341 = .ok (.ireturn, 1) := by decide +kernel
theorem dL_law_0 : decode cL_law 0 = .ok (.new 7, 3) := by decide +kernel
theorem dL_law_3 : decode cL_law 3 = .ok (.dup, 1) := by decide +kernel
theorem dL_law_4 : decode cL_law 4 = .ok (.invokespecial 9, 3) := by decide +kernel
theorem dL_law_7 : decode cL_law 7 = .ok (.astore_n 1, 1) := by decide +kernel
theorem dL_law_8 : decode cL_law 8 = .ok (.new 10, 3) := by decide +kernel
theorem dL_law_11 : decode cL_law 11 = .ok (.dup, 1) := by decide +kernel
theorem dL_law_12 : decode cL_law 12 = .ok (.invokespecial 12, 3) := by decide +kernel
theorem dL_law_15 : decode cL_law 15 = .ok (.astore_n 2, 1) := by decide +kernel
theorem dL_law_16 : decode cL_law 16 = .ok (.iconst 0, 1) := by decide +kernel
theorem dL_law_17 : decode cL_law 17 = .ok (.istore_n 3, 1) := by decide +kernel
theorem dL_law_18 : decode cL_law 18 = .ok (.iload_n 3, 1) := by decide +kernel
theorem dL_law_19 : decode cL_law 19 = .ok (.aload_n 0, 1) := by decide +kernel
theorem dL_law_20 : decode cL_law 20 = .ok (.arraylength, 1) := by decide +kernel
theorem dL_law_21 : decode cL_law 21 = .ok (.iconst 4, 1) := by decide +kernel
theorem dL_law_22 : decode cL_law 22 = .ok (.isub, 1) := by decide +kernel
theorem dL_law_23 : decode cL_law 23 = .ok (.if_icmp .gt 819, 3) := by decide +kernel
theorem dL_law_26 : decode cL_law 26 = .ok (.aload_n 0, 1) := by decide +kernel
theorem dL_law_27 : decode cL_law 27 = .ok (.iload_n 3, 1) := by decide +kernel
theorem dL_law_28 : decode cL_law 28 = .ok (.iaload, 1) := by decide +kernel
theorem dL_law_29 : decode cL_law 29 = .ok (.bipush 31, 2) := by decide +kernel
theorem dL_law_31 : decode cL_law 31 = .ok (.iand, 1) := by decide +kernel
theorem dL_law_32 : decode cL_law 32 = .ok (.tableswitch 804 0 23 #[112, 135, 158, 181, 214, 257, 290, 323, 346, 379, 402, 435, 478, 511, 554, 597, 640, 673, 696, 719, 732, 745, 768, 781], 112) := by decide +kernel
theorem dL_law_144 : decode cL_law 144 = .ok (.aload_n 1, 1) := by decide +kernel
theorem dL_law_145 : decode cL_law 145 = .ok (.aload_n 0, 1) := by decide +kernel
theorem dL_law_146 : decode cL_law 146 = .ok (.iload_n 3, 1) := by decide +kernel
theorem dL_law_147 : decode cL_law 147 = .ok (.iconst 1, 1) := by decide +kernel
theorem dL_law_148 : decode cL_law 148 = .ok (.iadd, 1) := by decide +kernel
theorem dL_law_149 : decode cL_law 149 = .ok (.iaload, 1) := by decide +kernel
theorem dL_law_150 : decode cL_law 150 = .ok (.invokevirtual 13, 3) := by decide +kernel
theorem dL_law_153 : decode cL_law 153 = .ok (.aload_n 2, 1) := by decide +kernel
theorem dL_law_154 : decode cL_law 154 = .ok (.aload_n 0, 1) := by decide +kernel
theorem dL_law_155 : decode cL_law 155 = .ok (.iload_n 3, 1) := by decide +kernel
theorem dL_law_156 : decode cL_law 156 = .ok (.iconst 1, 1) := by decide +kernel
theorem dL_law_157 : decode cL_law 157 = .ok (.iadd, 1) := by decide +kernel
theorem dL_law_158 : decode cL_law 158 = .ok (.iaload, 1) := by decide +kernel
theorem dL_law_159 : decode cL_law 159 = .ok (.invokevirtual 17, 3) := by decide +kernel
theorem dL_law_162 : decode cL_law 162 = .ok (.if_icmp .eq 674, 3) := by decide +kernel
theorem dL_law_165 : decode cL_law 165 = .ok (.iconst 0, 1) := by decide +kernel
theorem dL_law_166 : decode cL_law 166 = .ok (.ireturn, 1) := by decide +kernel
theorem dL_law_167 : decode cL_law 167 = .ok (.aload_n 1, 1) := by decide +kernel
theorem dL_law_168 : decode cL_law 168 = .ok (.aload_n 0, 1) := by decide +kernel
theorem dL_law_169 : decode cL_law 169 = .ok (.iload_n 3, 1) := by decide +kernel
theorem dL_law_170 : decode cL_law 170 = .ok (.iconst 1, 1) := by decide +kernel
theorem dL_law_171 : decode cL_law 171 = .ok (.iadd, 1) := by decide +kernel
theorem dL_law_172 : decode cL_law 172 = .ok (.iaload, 1) := by decide +kernel
theorem dL_law_173 : decode cL_law 173 = .ok (.invokevirtual 18, 3) := by decide +kernel
theorem dL_law_176 : decode cL_law 176 = .ok (.aload_n 2, 1) := by decide +kernel
theorem dL_law_177 : decode cL_law 177 = .ok (.aload_n 0, 1) := by decide +kernel
theorem dL_law_178 : decode cL_law 178 = .ok (.iload_n 3, 1) := by decide +kernel
theorem dL_law_179 : decode cL_law 179 = .ok (.iconst 1, 1) := by decide +kernel
theorem dL_law_180 : decode cL_law 180 = .ok (.iadd, 1) := by decide +kernel
theorem dL_law_181 : decode cL_law 181 = .ok (.iaload, 1) := by decide +kernel
theorem dL_law_182 : decode cL_law 182 = .ok (.invokevirtual 21, 3) := by decide +kernel
theorem dL_law_185 : decode cL_law 185 = .ok (.if_icmp .eq 651, 3) := by decide +kernel
theorem dL_law_188 : decode cL_law 188 = .ok (.iconst 0, 1) := by decide +kernel
theorem dL_law_189 : decode cL_law 189 = .ok (.ireturn, 1) := by decide +kernel
theorem dL_law_190 : decode cL_law 190 = .ok (.aload_n 1, 1) := by decide +kernel
theorem dL_law_191 : decode cL_law 191 = .ok (.aload_n 0, 1) := by decide +kernel
theorem dL_law_192 : decode cL_law 192 = .ok (.iload_n 3, 1) := by decide +kernel
theorem dL_law_193 : decode cL_law 193 = .ok (.iconst 1, 1) := by decide +kernel
theorem dL_law_194 : decode cL_law 194 = .ok (.iadd, 1) := by decide +kernel
theorem dL_law_195 : decode cL_law 195 = .ok (.iaload, 1) := by decide +kernel
theorem dL_law_196 : decode cL_law 196 = .ok (.invokevirtual 22, 3) := by decide +kernel
theorem dL_law_199 : decode cL_law 199 = .ok (.aload_n 2, 1) := by decide +kernel
theorem dL_law_200 : decode cL_law 200 = .ok (.aload_n 0, 1) := by decide +kernel
theorem dL_law_201 : decode cL_law 201 = .ok (.iload_n 3, 1) := by decide +kernel
theorem dL_law_202 : decode cL_law 202 = .ok (.iconst 1, 1) := by decide +kernel
theorem dL_law_203 : decode cL_law 203 = .ok (.iadd, 1) := by decide +kernel
theorem dL_law_204 : decode cL_law 204 = .ok (.iaload, 1) := by decide +kernel
theorem dL_law_205 : decode cL_law 205 = .ok (.invokevirtual 25, 3) := by decide +kernel
theorem dL_law_208 : decode cL_law 208 = .ok (.if_icmp .eq 628, 3) := by decide +kernel
theorem dL_law_211 : decode cL_law 211 = .ok (.iconst 0, 1) := by decide +kernel
theorem dL_law_212 : decode cL_law 212 = .ok (.ireturn, 1) := by decide +kernel
theorem dL_law_213 : decode cL_law 213 = .ok (.aload_n 1, 1) := by decide +kernel
theorem dL_law_214 : decode cL_law 214 = .ok (.aload_n 0, 1) := by decide +kernel
theorem dL_law_215 : decode cL_law 215 = .ok (.iload_n 3, 1) := by decide +kernel
theorem dL_law_216 : decode cL_law 216 = .ok (.iconst 1, 1) := by decide +kernel
theorem dL_law_217 : decode cL_law 217 = .ok (.iadd, 1) := by decide +kernel
theorem dL_law_218 : decode cL_law 218 = .ok (.iaload, 1) := by decide +kernel
theorem dL_law_219 : decode cL_law 219 = .ok (.aload_n 0, 1) := by decide +kernel
theorem dL_law_220 : decode cL_law 220 = .ok (.iload_n 3, 1) := by decide +kernel
theorem dL_law_221 : decode cL_law 221 = .ok (.iconst 2, 1) := by decide +kernel
theorem dL_law_222 : decode cL_law 222 = .ok (.iadd, 1) := by decide +kernel
theorem dL_law_223 : decode cL_law 223 = .ok (.iaload, 1) := by decide +kernel
theorem dL_law_224 : decode cL_law 224 = .ok (.invokevirtual 26, 3) := by decide +kernel
theorem dL_law_227 : decode cL_law 227 = .ok (.aload_n 2, 1) := by decide +kernel
theorem dL_law_228 : decode cL_law 228 = .ok (.aload_n 0, 1) := by decide +kernel
theorem dL_law_229 : decode cL_law 229 = .ok (.iload_n 3, 1) := by decide +kernel
theorem dL_law_230 : decode cL_law 230 = .ok (.iconst 1, 1) := by decide +kernel
theorem dL_law_231 : decode cL_law 231 = .ok (.iadd, 1) := by decide +kernel
theorem dL_law_232 : decode cL_law 232 = .ok (.iaload, 1) := by decide +kernel
theorem dL_law_233 : decode cL_law 233 = .ok (.aload_n 0, 1) := by decide +kernel
theorem dL_law_234 : decode cL_law 234 = .ok (.iload_n 3, 1) := by decide +kernel
theorem dL_law_235 : decode cL_law 235 = .ok (.iconst 2, 1) := by decide +kernel
theorem dL_law_236 : decode cL_law 236 = .ok (.iadd, 1) := by decide +kernel
theorem dL_law_237 : decode cL_law 237 = .ok (.iaload, 1) := by decide +kernel
theorem dL_law_238 : decode cL_law 238 = .ok (.invokevirtual 30, 3) := by decide +kernel
theorem dL_law_241 : decode cL_law 241 = .ok (.if_icmp .eq 595, 3) := by decide +kernel
theorem dL_law_244 : decode cL_law 244 = .ok (.iconst 0, 1) := by decide +kernel
theorem dL_law_245 : decode cL_law 245 = .ok (.ireturn, 1) := by decide +kernel
theorem dL_law_246 : decode cL_law 246 = .ok (.aload_n 1, 1) := by decide +kernel
theorem dL_law_247 : decode cL_law 247 = .ok (.aload_n 0, 1) := by decide +kernel
theorem dL_law_248 : decode cL_law 248 = .ok (.iload_n 3, 1) := by decide +kernel
theorem dL_law_249 : decode cL_law 249 = .ok (.iconst 1, 1) := by decide +kernel
theorem dL_law_250 : decode cL_law 250 = .ok (.iadd, 1) := by decide +kernel
theorem dL_law_251 : decode cL_law 251 = .ok (.iaload, 1) := by decide +kernel
theorem dL_law_252 : decode cL_law 252 = .ok (.aload_n 0, 1) := by decide +kernel
theorem dL_law_253 : decode cL_law 253 = .ok (.iload_n 3, 1) := by decide +kernel
theorem dL_law_254 : decode cL_law 254 = .ok (.iconst 2, 1) := by decide +kernel
theorem dL_law_255 : decode cL_law 255 = .ok (.iadd, 1) := by decide +kernel
theorem dL_law_256 : decode cL_law 256 = .ok (.iaload, 1) := by decide +kernel
theorem dL_law_257 : decode cL_law 257 = .ok (.aload_n 0, 1) := by decide +kernel
theorem dL_law_258 : decode cL_law 258 = .ok (.iload_n 3, 1) := by decide +kernel
theorem dL_law_259 : decode cL_law 259 = .ok (.iconst 3, 1) := by decide +kernel
theorem dL_law_260 : decode cL_law 260 = .ok (.iadd, 1) := by decide +kernel
theorem dL_law_261 : decode cL_law 261 = .ok (.iaload, 1) := by decide +kernel
theorem dL_law_262 : decode cL_law 262 = .ok (.invokevirtual 31, 3) := by decide +kernel
theorem dL_law_265 : decode cL_law 265 = .ok (.aload_n 2, 1) := by decide +kernel
theorem dL_law_266 : decode cL_law 266 = .ok (.aload_n 0, 1) := by decide +kernel
theorem dL_law_267 : decode cL_law 267 = .ok (.iload_n 3, 1) := by decide +kernel
theorem dL_law_268 : decode cL_law 268 = .ok (.iconst 1, 1) := by decide +kernel
theorem dL_law_269 : decode cL_law 269 = .ok (.iadd, 1) := by decide +kernel
theorem dL_law_270 : decode cL_law 270 = .ok (.iaload, 1) := by decide +kernel
theorem dL_law_271 : decode cL_law 271 = .ok (.aload_n 0, 1) := by decide +kernel
theorem dL_law_272 : decode cL_law 272 = .ok (.iload_n 3, 1) := by decide +kernel
theorem dL_law_273 : decode cL_law 273 = .ok (.iconst 2, 1) := by decide +kernel
theorem dL_law_274 : decode cL_law 274 = .ok (.iadd, 1) := by decide +kernel
theorem dL_law_275 : decode cL_law 275 = .ok (.iaload, 1) := by decide +kernel
theorem dL_law_276 : decode cL_law 276 = .ok (.aload_n 0, 1) := by decide +kernel
theorem dL_law_277 : decode cL_law 277 = .ok (.iload_n 3, 1) := by decide +kernel
theorem dL_law_278 : decode cL_law 278 = .ok (.iconst 3, 1) := by decide +kernel
theorem dL_law_279 : decode cL_law 279 = .ok (.iadd, 1) := by decide +kernel
theorem dL_law_280 : decode cL_law 280 = .ok (.iaload, 1) := by decide +kernel
theorem dL_law_281 : decode cL_law 281 = .ok (.invokevirtual 35, 3) := by decide +kernel
theorem dL_law_284 : decode cL_law 284 = .ok (.if_icmp .eq 552, 3) := by decide +kernel
theorem dL_law_287 : decode cL_law 287 = .ok (.iconst 0, 1) := by decide +kernel
theorem dL_law_288 : decode cL_law 288 = .ok (.ireturn, 1) := by decide +kernel
theorem dL_law_289 : decode cL_law 289 = .ok (.aload_n 1, 1) := by decide +kernel
theorem dL_law_290 : decode cL_law 290 = .ok (.aload_n 0, 1) := by decide +kernel
theorem dL_law_291 : decode cL_law 291 = .ok (.iload_n 3, 1) := by decide +kernel
theorem dL_law_292 : decode cL_law 292 = .ok (.iconst 1, 1) := by decide +kernel
theorem dL_law_293 : decode cL_law 293 = .ok (.iadd, 1) := by decide +kernel
theorem dL_law_294 : decode cL_law 294 = .ok (.iaload, 1) := by decide +kernel
theorem dL_law_295 : decode cL_law 295 = .ok (.aload_n 0, 1) := by decide +kernel
theorem dL_law_296 : decode cL_law 296 = .ok (.iload_n 3, 1) := by decide +kernel
theorem dL_law_297 : decode cL_law 297 = .ok (.iconst 2, 1) := by decide +kernel
theorem dL_law_298 : decode cL_law 298 = .ok (.iadd, 1) := by decide +kernel
theorem dL_law_299 : decode cL_law 299 = .ok (.iaload, 1) := by decide +kernel
theorem dL_law_300 : decode cL_law 300 = .ok (.invokevirtual 36, 3) := by decide +kernel
theorem dL_law_303 : decode cL_law 303 = .ok (.aload_n 2, 1) := by decide +kernel
theorem dL_law_304 : decode cL_law 304 = .ok (.aload_n 0, 1) := by decide +kernel
theorem dL_law_305 : decode cL_law 305 = .ok (.iload_n 3, 1) := by decide +kernel
theorem dL_law_306 : decode cL_law 306 = .ok (.iconst 1, 1) := by decide +kernel
theorem dL_law_307 : decode cL_law 307 = .ok (.iadd, 1) := by decide +kernel
theorem dL_law_308 : decode cL_law 308 = .ok (.iaload, 1) := by decide +kernel
theorem dL_law_309 : decode cL_law 309 = .ok (.aload_n 0, 1) := by decide +kernel
theorem dL_law_310 : decode cL_law 310 = .ok (.iload_n 3, 1) := by decide +kernel
theorem dL_law_311 : decode cL_law 311 = .ok (.iconst 2, 1) := by decide +kernel
theorem dL_law_312 : decode cL_law 312 = .ok (.iadd, 1) := by decide +kernel
theorem dL_law_313 : decode cL_law 313 = .ok (.iaload, 1) := by decide +kernel
theorem dL_law_314 : decode cL_law 314 = .ok (.invokevirtual 39, 3) := by decide +kernel
theorem dL_law_317 : decode cL_law 317 = .ok (.if_icmp .eq 519, 3) := by decide +kernel
theorem dL_law_320 : decode cL_law 320 = .ok (.iconst 0, 1) := by decide +kernel
theorem dL_law_321 : decode cL_law 321 = .ok (.ireturn, 1) := by decide +kernel
theorem dL_law_322 : decode cL_law 322 = .ok (.aload_n 1, 1) := by decide +kernel
theorem dL_law_323 : decode cL_law 323 = .ok (.aload_n 0, 1) := by decide +kernel
theorem dL_law_324 : decode cL_law 324 = .ok (.iload_n 3, 1) := by decide +kernel
theorem dL_law_325 : decode cL_law 325 = .ok (.iconst 1, 1) := by decide +kernel
theorem dL_law_326 : decode cL_law 326 = .ok (.iadd, 1) := by decide +kernel
theorem dL_law_327 : decode cL_law 327 = .ok (.iaload, 1) := by decide +kernel
theorem dL_law_328 : decode cL_law 328 = .ok (.aload_n 0, 1) := by decide +kernel
theorem dL_law_329 : decode cL_law 329 = .ok (.iload_n 3, 1) := by decide +kernel
theorem dL_law_330 : decode cL_law 330 = .ok (.iconst 2, 1) := by decide +kernel
theorem dL_law_331 : decode cL_law 331 = .ok (.iadd, 1) := by decide +kernel
theorem dL_law_332 : decode cL_law 332 = .ok (.iaload, 1) := by decide +kernel
theorem dL_law_333 : decode cL_law 333 = .ok (.invokevirtual 40, 3) := by decide +kernel
theorem dL_law_336 : decode cL_law 336 = .ok (.aload_n 2, 1) := by decide +kernel
theorem dL_law_337 : decode cL_law 337 = .ok (.aload_n 0, 1) := by decide +kernel
theorem dL_law_338 : decode cL_law 338 = .ok (.iload_n 3, 1) := by decide +kernel
theorem dL_law_339 : decode cL_law 339 = .ok (.iconst 1, 1) := by decide +kernel
theorem dL_law_340 : decode cL_law 340 = .ok (.iadd, 1) := by decide +kernel
theorem dL_law_341 : decode cL_law 341 = .ok (.iaload, 1) := by decide +kernel
theorem dL_law_342 : decode cL_law 342 = .ok (.aload_n 0, 1) := by decide +kernel
theorem dL_law_343 : decode cL_law 343 = .ok (.iload_n 3, 1) := by decide +kernel
theorem dL_law_344 : decode cL_law 344 = .ok (.iconst 2, 1) := by decide +kernel
theorem dL_law_345 : decode cL_law 345 = .ok (.iadd, 1) := by decide +kernel
theorem dL_law_346 : decode cL_law 346 = .ok (.iaload, 1) := by decide +kernel
theorem dL_law_347 : decode cL_law 347 = .ok (.invokevirtual 43, 3) := by decide +kernel
theorem dL_law_350 : decode cL_law 350 = .ok (.if_icmp .eq 486, 3) := by decide +kernel
theorem dL_law_353 : decode cL_law 353 = .ok (.iconst 0, 1) := by decide +kernel
theorem dL_law_354 : decode cL_law 354 = .ok (.ireturn, 1) := by decide +kernel
theorem dL_law_355 : decode cL_law 355 = .ok (.aload_n 1, 1) := by decide +kernel
theorem dL_law_356 : decode cL_law 356 = .ok (.aload_n 0, 1) := by decide +kernel
theorem dL_law_357 : decode cL_law 357 = .ok (.iload_n 3, 1) := by decide +kernel
theorem dL_law_358 : decode cL_law 358 = .ok (.iconst 1, 1) := by decide +kernel
theorem dL_law_359 : decode cL_law 359 = .ok (.iadd, 1) := by decide +kernel
theorem dL_law_360 : decode cL_law 360 = .ok (.iaload, 1) := by decide +kernel
theorem dL_law_361 : decode cL_law 361 = .ok (.invokevirtual 44, 3) := by decide +kernel
theorem dL_law_364 : decode cL_law 364 = .ok (.aload_n 2, 1) := by decide +kernel
theorem dL_law_365 : decode cL_law 365 = .ok (.aload_n 0, 1) := by decide +kernel
theorem dL_law_366 : decode cL_law 366 = .ok (.iload_n 3, 1) := by decide +kernel
theorem dL_law_367 : decode cL_law 367 = .ok (.iconst 1, 1) := by decide +kernel
theorem dL_law_368 : decode cL_law 368 = .ok (.iadd, 1) := by decide +kernel
theorem dL_law_369 : decode cL_law 369 = .ok (.iaload, 1) := by decide +kernel
theorem dL_law_370 : decode cL_law 370 = .ok (.invokevirtual 47, 3) := by decide +kernel
theorem dL_law_373 : decode cL_law 373 = .ok (.if_icmp .eq 463, 3) := by decide +kernel
theorem dL_law_376 : decode cL_law 376 = .ok (.iconst 0, 1) := by decide +kernel
theorem dL_law_377 : decode cL_law 377 = .ok (.ireturn, 1) := by decide +kernel
theorem dL_law_378 : decode cL_law 378 = .ok (.aload_n 1, 1) := by decide +kernel
theorem dL_law_379 : decode cL_law 379 = .ok (.aload_n 0, 1) := by decide +kernel
theorem dL_law_380 : decode cL_law 380 = .ok (.iload_n 3, 1) := by decide +kernel
theorem dL_law_381 : decode cL_law 381 = .ok (.iconst 1, 1) := by decide +kernel
theorem dL_law_382 : decode cL_law 382 = .ok (.iadd, 1) := by decide +kernel
theorem dL_law_383 : decode cL_law 383 = .ok (.iaload, 1) := by decide +kernel
theorem dL_law_384 : decode cL_law 384 = .ok (.aload_n 0, 1) := by decide +kernel
theorem dL_law_385 : decode cL_law 385 = .ok (.iload_n 3, 1) := by decide +kernel
theorem dL_law_386 : decode cL_law 386 = .ok (.iconst 2, 1) := by decide +kernel
theorem dL_law_387 : decode cL_law 387 = .ok (.iadd, 1) := by decide +kernel
theorem dL_law_388 : decode cL_law 388 = .ok (.iaload, 1) := by decide +kernel
theorem dL_law_389 : decode cL_law 389 = .ok (.invokevirtual 48, 3) := by decide +kernel
theorem dL_law_392 : decode cL_law 392 = .ok (.aload_n 2, 1) := by decide +kernel
theorem dL_law_393 : decode cL_law 393 = .ok (.aload_n 0, 1) := by decide +kernel
theorem dL_law_394 : decode cL_law 394 = .ok (.iload_n 3, 1) := by decide +kernel
theorem dL_law_395 : decode cL_law 395 = .ok (.iconst 1, 1) := by decide +kernel
theorem dL_law_396 : decode cL_law 396 = .ok (.iadd, 1) := by decide +kernel
theorem dL_law_397 : decode cL_law 397 = .ok (.iaload, 1) := by decide +kernel
theorem dL_law_398 : decode cL_law 398 = .ok (.aload_n 0, 1) := by decide +kernel
theorem dL_law_399 : decode cL_law 399 = .ok (.iload_n 3, 1) := by decide +kernel
theorem dL_law_400 : decode cL_law 400 = .ok (.iconst 2, 1) := by decide +kernel
theorem dL_law_401 : decode cL_law 401 = .ok (.iadd, 1) := by decide +kernel
theorem dL_law_402 : decode cL_law 402 = .ok (.iaload, 1) := by decide +kernel
theorem dL_law_403 : decode cL_law 403 = .ok (.invokevirtual 51, 3) := by decide +kernel
theorem dL_law_406 : decode cL_law 406 = .ok (.if_icmp .eq 430, 3) := by decide +kernel
theorem dL_law_409 : decode cL_law 409 = .ok (.iconst 0, 1) := by decide +kernel
theorem dL_law_410 : decode cL_law 410 = .ok (.ireturn, 1) := by decide +kernel
theorem dL_law_411 : decode cL_law 411 = .ok (.aload_n 1, 1) := by decide +kernel
theorem dL_law_412 : decode cL_law 412 = .ok (.aload_n 0, 1) := by decide +kernel
theorem dL_law_413 : decode cL_law 413 = .ok (.iload_n 3, 1) := by decide +kernel
theorem dL_law_414 : decode cL_law 414 = .ok (.iconst 1, 1) := by decide +kernel
theorem dL_law_415 : decode cL_law 415 = .ok (.iadd, 1) := by decide +kernel
theorem dL_law_416 : decode cL_law 416 = .ok (.iaload, 1) := by decide +kernel
theorem dL_law_417 : decode cL_law 417 = .ok (.invokevirtual 52, 3) := by decide +kernel
theorem dL_law_420 : decode cL_law 420 = .ok (.aload_n 2, 1) := by decide +kernel
theorem dL_law_421 : decode cL_law 421 = .ok (.aload_n 0, 1) := by decide +kernel
theorem dL_law_422 : decode cL_law 422 = .ok (.iload_n 3, 1) := by decide +kernel
theorem dL_law_423 : decode cL_law 423 = .ok (.iconst 1, 1) := by decide +kernel
theorem dL_law_424 : decode cL_law 424 = .ok (.iadd, 1) := by decide +kernel
theorem dL_law_425 : decode cL_law 425 = .ok (.iaload, 1) := by decide +kernel
theorem dL_law_426 : decode cL_law 426 = .ok (.invokevirtual 55, 3) := by decide +kernel
theorem dL_law_429 : decode cL_law 429 = .ok (.if_icmp .eq 407, 3) := by decide +kernel
theorem dL_law_432 : decode cL_law 432 = .ok (.iconst 0, 1) := by decide +kernel
theorem dL_law_433 : decode cL_law 433 = .ok (.ireturn, 1) := by decide +kernel
theorem dL_law_434 : decode cL_law 434 = .ok (.aload_n 1, 1) := by decide +kernel
theorem dL_law_435 : decode cL_law 435 = .ok (.aload_n 0, 1) := by decide +kernel
theorem dL_law_436 : decode cL_law 436 = .ok (.iload_n 3, 1) := by decide +kernel
theorem dL_law_437 : decode cL_law 437 = .ok (.iconst 1, 1) := by decide +kernel
theorem dL_law_438 : decode cL_law 438 = .ok (.iadd, 1) := by decide +kernel
theorem dL_law_439 : decode cL_law 439 = .ok (.iaload, 1) := by decide +kernel
theorem dL_law_440 : decode cL_law 440 = .ok (.aload_n 0, 1) := by decide +kernel
theorem dL_law_441 : decode cL_law 441 = .ok (.iload_n 3, 1) := by decide +kernel
theorem dL_law_442 : decode cL_law 442 = .ok (.iconst 2, 1) := by decide +kernel
theorem dL_law_443 : decode cL_law 443 = .ok (.iadd, 1) := by decide +kernel
theorem dL_law_444 : decode cL_law 444 = .ok (.iaload, 1) := by decide +kernel
theorem dL_law_445 : decode cL_law 445 = .ok (.invokevirtual 56, 3) := by decide +kernel
theorem dL_law_448 : decode cL_law 448 = .ok (.aload_n 2, 1) := by decide +kernel
theorem dL_law_449 : decode cL_law 449 = .ok (.aload_n 0, 1) := by decide +kernel
theorem dL_law_450 : decode cL_law 450 = .ok (.iload_n 3, 1) := by decide +kernel
theorem dL_law_451 : decode cL_law 451 = .ok (.iconst 1, 1) := by decide +kernel
theorem dL_law_452 : decode cL_law 452 = .ok (.iadd, 1) := by decide +kernel
theorem dL_law_453 : decode cL_law 453 = .ok (.iaload, 1) := by decide +kernel
theorem dL_law_454 : decode cL_law 454 = .ok (.aload_n 0, 1) := by decide +kernel
theorem dL_law_455 : decode cL_law 455 = .ok (.iload_n 3, 1) := by decide +kernel
theorem dL_law_456 : decode cL_law 456 = .ok (.iconst 2, 1) := by decide +kernel
theorem dL_law_457 : decode cL_law 457 = .ok (.iadd, 1) := by decide +kernel
theorem dL_law_458 : decode cL_law 458 = .ok (.iaload, 1) := by decide +kernel
theorem dL_law_459 : decode cL_law 459 = .ok (.invokevirtual 59, 3) := by decide +kernel
theorem dL_law_462 : decode cL_law 462 = .ok (.if_icmp .eq 374, 3) := by decide +kernel
theorem dL_law_465 : decode cL_law 465 = .ok (.iconst 0, 1) := by decide +kernel
theorem dL_law_466 : decode cL_law 466 = .ok (.ireturn, 1) := by decide +kernel
theorem dL_law_467 : decode cL_law 467 = .ok (.aload_n 1, 1) := by decide +kernel
theorem dL_law_468 : decode cL_law 468 = .ok (.aload_n 0, 1) := by decide +kernel
theorem dL_law_469 : decode cL_law 469 = .ok (.iload_n 3, 1) := by decide +kernel
theorem dL_law_470 : decode cL_law 470 = .ok (.iconst 1, 1) := by decide +kernel
theorem dL_law_471 : decode cL_law 471 = .ok (.iadd, 1) := by decide +kernel
theorem dL_law_472 : decode cL_law 472 = .ok (.iaload, 1) := by decide +kernel
theorem dL_law_473 : decode cL_law 473 = .ok (.aload_n 0, 1) := by decide +kernel
theorem dL_law_474 : decode cL_law 474 = .ok (.iload_n 3, 1) := by decide +kernel
theorem dL_law_475 : decode cL_law 475 = .ok (.iconst 2, 1) := by decide +kernel
theorem dL_law_476 : decode cL_law 476 = .ok (.iadd, 1) := by decide +kernel
theorem dL_law_477 : decode cL_law 477 = .ok (.iaload, 1) := by decide +kernel
theorem dL_law_478 : decode cL_law 478 = .ok (.aload_n 0, 1) := by decide +kernel
theorem dL_law_479 : decode cL_law 479 = .ok (.iload_n 3, 1) := by decide +kernel
theorem dL_law_480 : decode cL_law 480 = .ok (.iconst 3, 1) := by decide +kernel
theorem dL_law_481 : decode cL_law 481 = .ok (.iadd, 1) := by decide +kernel
theorem dL_law_482 : decode cL_law 482 = .ok (.iaload, 1) := by decide +kernel
theorem dL_law_483 : decode cL_law 483 = .ok (.invokevirtual 60, 3) := by decide +kernel
theorem dL_law_486 : decode cL_law 486 = .ok (.aload_n 2, 1) := by decide +kernel
theorem dL_law_487 : decode cL_law 487 = .ok (.aload_n 0, 1) := by decide +kernel
theorem dL_law_488 : decode cL_law 488 = .ok (.iload_n 3, 1) := by decide +kernel
theorem dL_law_489 : decode cL_law 489 = .ok (.iconst 1, 1) := by decide +kernel
theorem dL_law_490 : decode cL_law 490 = .ok (.iadd, 1) := by decide +kernel
theorem dL_law_491 : decode cL_law 491 = .ok (.iaload, 1) := by decide +kernel
theorem dL_law_492 : decode cL_law 492 = .ok (.aload_n 0, 1) := by decide +kernel
theorem dL_law_493 : decode cL_law 493 = .ok (.iload_n 3, 1) := by decide +kernel
theorem dL_law_494 : decode cL_law 494 = .ok (.iconst 2, 1) := by decide +kernel
theorem dL_law_495 : decode cL_law 495 = .ok (.iadd, 1) := by decide +kernel
theorem dL_law_496 : decode cL_law 496 = .ok (.iaload, 1) := by decide +kernel
theorem dL_law_497 : decode cL_law 497 = .ok (.aload_n 0, 1) := by decide +kernel
theorem dL_law_498 : decode cL_law 498 = .ok (.iload_n 3, 1) := by decide +kernel
theorem dL_law_499 : decode cL_law 499 = .ok (.iconst 3, 1) := by decide +kernel
theorem dL_law_500 : decode cL_law 500 = .ok (.iadd, 1) := by decide +kernel
theorem dL_law_501 : decode cL_law 501 = .ok (.iaload, 1) := by decide +kernel
theorem dL_law_502 : decode cL_law 502 = .ok (.invokevirtual 63, 3) := by decide +kernel
theorem dL_law_505 : decode cL_law 505 = .ok (.if_icmp .eq 331, 3) := by decide +kernel
theorem dL_law_508 : decode cL_law 508 = .ok (.iconst 0, 1) := by decide +kernel
theorem dL_law_509 : decode cL_law 509 = .ok (.ireturn, 1) := by decide +kernel
theorem dL_law_510 : decode cL_law 510 = .ok (.aload_n 1, 1) := by decide +kernel
theorem dL_law_511 : decode cL_law 511 = .ok (.aload_n 0, 1) := by decide +kernel
theorem dL_law_512 : decode cL_law 512 = .ok (.iload_n 3, 1) := by decide +kernel
theorem dL_law_513 : decode cL_law 513 = .ok (.iconst 1, 1) := by decide +kernel
theorem dL_law_514 : decode cL_law 514 = .ok (.iadd, 1) := by decide +kernel
theorem dL_law_515 : decode cL_law 515 = .ok (.iaload, 1) := by decide +kernel
theorem dL_law_516 : decode cL_law 516 = .ok (.aload_n 0, 1) := by decide +kernel
theorem dL_law_517 : decode cL_law 517 = .ok (.iload_n 3, 1) := by decide +kernel
theorem dL_law_518 : decode cL_law 518 = .ok (.iconst 2, 1) := by decide +kernel
theorem dL_law_519 : decode cL_law 519 = .ok (.iadd, 1) := by decide +kernel
theorem dL_law_520 : decode cL_law 520 = .ok (.iaload, 1) := by decide +kernel
theorem dL_law_521 : decode cL_law 521 = .ok (.invokevirtual 64, 3) := by decide +kernel
theorem dL_law_524 : decode cL_law 524 = .ok (.aload_n 2, 1) := by decide +kernel
theorem dL_law_525 : decode cL_law 525 = .ok (.aload_n 0, 1) := by decide +kernel
theorem dL_law_526 : decode cL_law 526 = .ok (.iload_n 3, 1) := by decide +kernel
theorem dL_law_527 : decode cL_law 527 = .ok (.iconst 1, 1) := by decide +kernel
theorem dL_law_528 : decode cL_law 528 = .ok (.iadd, 1) := by decide +kernel
theorem dL_law_529 : decode cL_law 529 = .ok (.iaload, 1) := by decide +kernel
theorem dL_law_530 : decode cL_law 530 = .ok (.aload_n 0, 1) := by decide +kernel
theorem dL_law_531 : decode cL_law 531 = .ok (.iload_n 3, 1) := by decide +kernel
theorem dL_law_532 : decode cL_law 532 = .ok (.iconst 2, 1) := by decide +kernel
theorem dL_law_533 : decode cL_law 533 = .ok (.iadd, 1) := by decide +kernel
theorem dL_law_534 : decode cL_law 534 = .ok (.iaload, 1) := by decide +kernel
theorem dL_law_535 : decode cL_law 535 = .ok (.invokevirtual 67, 3) := by decide +kernel
theorem dL_law_538 : decode cL_law 538 = .ok (.if_icmp .eq 298, 3) := by decide +kernel
theorem dL_law_541 : decode cL_law 541 = .ok (.iconst 0, 1) := by decide +kernel
theorem dL_law_542 : decode cL_law 542 = .ok (.ireturn, 1) := by decide +kernel
theorem dL_law_543 : decode cL_law 543 = .ok (.aload_n 1, 1) := by decide +kernel
theorem dL_law_544 : decode cL_law 544 = .ok (.aload_n 0, 1) := by decide +kernel
theorem dL_law_545 : decode cL_law 545 = .ok (.iload_n 3, 1) := by decide +kernel
theorem dL_law_546 : decode cL_law 546 = .ok (.iconst 1, 1) := by decide +kernel
theorem dL_law_547 : decode cL_law 547 = .ok (.iadd, 1) := by decide +kernel
theorem dL_law_548 : decode cL_law 548 = .ok (.iaload, 1) := by decide +kernel
theorem dL_law_549 : decode cL_law 549 = .ok (.aload_n 0, 1) := by decide +kernel
theorem dL_law_550 : decode cL_law 550 = .ok (.iload_n 3, 1) := by decide +kernel
theorem dL_law_551 : decode cL_law 551 = .ok (.iconst 2, 1) := by decide +kernel
theorem dL_law_552 : decode cL_law 552 = .ok (.iadd, 1) := by decide +kernel
theorem dL_law_553 : decode cL_law 553 = .ok (.iaload, 1) := by decide +kernel
theorem dL_law_554 : decode cL_law 554 = .ok (.aload_n 0, 1) := by decide +kernel
theorem dL_law_555 : decode cL_law 555 = .ok (.iload_n 3, 1) := by decide +kernel
theorem dL_law_556 : decode cL_law 556 = .ok (.iconst 3, 1) := by decide +kernel
theorem dL_law_557 : decode cL_law 557 = .ok (.iadd, 1) := by decide +kernel
theorem dL_law_558 : decode cL_law 558 = .ok (.iaload, 1) := by decide +kernel
theorem dL_law_559 : decode cL_law 559 = .ok (.invokevirtual 68, 3) := by decide +kernel
theorem dL_law_562 : decode cL_law 562 = .ok (.aload_n 2, 1) := by decide +kernel
theorem dL_law_563 : decode cL_law 563 = .ok (.aload_n 0, 1) := by decide +kernel
theorem dL_law_564 : decode cL_law 564 = .ok (.iload_n 3, 1) := by decide +kernel
theorem dL_law_565 : decode cL_law 565 = .ok (.iconst 1, 1) := by decide +kernel
theorem dL_law_566 : decode cL_law 566 = .ok (.iadd, 1) := by decide +kernel
theorem dL_law_567 : decode cL_law 567 = .ok (.iaload, 1) := by decide +kernel
theorem dL_law_568 : decode cL_law 568 = .ok (.aload_n 0, 1) := by decide +kernel
theorem dL_law_569 : decode cL_law 569 = .ok (.iload_n 3, 1) := by decide +kernel
theorem dL_law_570 : decode cL_law 570 = .ok (.iconst 2, 1) := by decide +kernel
theorem dL_law_571 : decode cL_law 571 = .ok (.iadd, 1) := by decide +kernel
theorem dL_law_572 : decode cL_law 572 = .ok (.iaload, 1) := by decide +kernel
theorem dL_law_573 : decode cL_law 573 = .ok (.aload_n 0, 1) := by decide +kernel
theorem dL_law_574 : decode cL_law 574 = .ok (.iload_n 3, 1) := by decide +kernel
theorem dL_law_575 : decode cL_law 575 = .ok (.iconst 3, 1) := by decide +kernel
theorem dL_law_576 : decode cL_law 576 = .ok (.iadd, 1) := by decide +kernel
theorem dL_law_577 : decode cL_law 577 = .ok (.iaload, 1) := by decide +kernel
theorem dL_law_578 : decode cL_law 578 = .ok (.invokevirtual 71, 3) := by decide +kernel
theorem dL_law_581 : decode cL_law 581 = .ok (.if_icmp .eq 255, 3) := by decide +kernel
theorem dL_law_584 : decode cL_law 584 = .ok (.iconst 0, 1) := by decide +kernel
theorem dL_law_585 : decode cL_law 585 = .ok (.ireturn, 1) := by decide +kernel
theorem dL_law_586 : decode cL_law 586 = .ok (.aload_n 1, 1) := by decide +kernel
theorem dL_law_587 : decode cL_law 587 = .ok (.aload_n 0, 1) := by decide +kernel
theorem dL_law_588 : decode cL_law 588 = .ok (.iload_n 3, 1) := by decide +kernel
theorem dL_law_589 : decode cL_law 589 = .ok (.iconst 1, 1) := by decide +kernel
theorem dL_law_590 : decode cL_law 590 = .ok (.iadd, 1) := by decide +kernel
theorem dL_law_591 : decode cL_law 591 = .ok (.iaload, 1) := by decide +kernel
theorem dL_law_592 : decode cL_law 592 = .ok (.aload_n 0, 1) := by decide +kernel
theorem dL_law_593 : decode cL_law 593 = .ok (.iload_n 3, 1) := by decide +kernel
theorem dL_law_594 : decode cL_law 594 = .ok (.iconst 2, 1) := by decide +kernel
theorem dL_law_595 : decode cL_law 595 = .ok (.iadd, 1) := by decide +kernel
theorem dL_law_596 : decode cL_law 596 = .ok (.iaload, 1) := by decide +kernel
theorem dL_law_597 : decode cL_law 597 = .ok (.aload_n 0, 1) := by decide +kernel
theorem dL_law_598 : decode cL_law 598 = .ok (.iload_n 3, 1) := by decide +kernel
theorem dL_law_599 : decode cL_law 599 = .ok (.iconst 3, 1) := by decide +kernel
theorem dL_law_600 : decode cL_law 600 = .ok (.iadd, 1) := by decide +kernel
theorem dL_law_601 : decode cL_law 601 = .ok (.iaload, 1) := by decide +kernel
theorem dL_law_602 : decode cL_law 602 = .ok (.invokevirtual 72, 3) := by decide +kernel
theorem dL_law_605 : decode cL_law 605 = .ok (.aload_n 2, 1) := by decide +kernel
theorem dL_law_606 : decode cL_law 606 = .ok (.aload_n 0, 1) := by decide +kernel
theorem dL_law_607 : decode cL_law 607 = .ok (.iload_n 3, 1) := by decide +kernel
theorem dL_law_608 : decode cL_law 608 = .ok (.iconst 1, 1) := by decide +kernel
theorem dL_law_609 : decode cL_law 609 = .ok (.iadd, 1) := by decide +kernel
theorem dL_law_610 : decode cL_law 610 = .ok (.iaload, 1) := by decide +kernel
theorem dL_law_611 : decode cL_law 611 = .ok (.aload_n 0, 1) := by decide +kernel
theorem dL_law_612 : decode cL_law 612 = .ok (.iload_n 3, 1) := by decide +kernel
theorem dL_law_613 : decode cL_law 613 = .ok (.iconst 2, 1) := by decide +kernel
theorem dL_law_614 : decode cL_law 614 = .ok (.iadd, 1) := by decide +kernel
theorem dL_law_615 : decode cL_law 615 = .ok (.iaload, 1) := by decide +kernel
theorem dL_law_616 : decode cL_law 616 = .ok (.aload_n 0, 1) := by decide +kernel
theorem dL_law_617 : decode cL_law 617 = .ok (.iload_n 3, 1) := by decide +kernel
theorem dL_law_618 : decode cL_law 618 = .ok (.iconst 3, 1) := by decide +kernel
theorem dL_law_619 : decode cL_law 619 = .ok (.iadd, 1) := by decide +kernel
theorem dL_law_620 : decode cL_law 620 = .ok (.iaload, 1) := by decide +kernel
theorem dL_law_621 : decode cL_law 621 = .ok (.invokevirtual 75, 3) := by decide +kernel
theorem dL_law_624 : decode cL_law 624 = .ok (.if_icmp .eq 212, 3) := by decide +kernel
theorem dL_law_627 : decode cL_law 627 = .ok (.iconst 0, 1) := by decide +kernel
theorem dL_law_628 : decode cL_law 628 = .ok (.ireturn, 1) := by decide +kernel
theorem dL_law_629 : decode cL_law 629 = .ok (.aload_n 1, 1) := by decide +kernel
theorem dL_law_630 : decode cL_law 630 = .ok (.aload_n 0, 1) := by decide +kernel
theorem dL_law_631 : decode cL_law 631 = .ok (.iload_n 3, 1) := by decide +kernel
theorem dL_law_632 : decode cL_law 632 = .ok (.iconst 1, 1) := by decide +kernel
theorem dL_law_633 : decode cL_law 633 = .ok (.iadd, 1) := by decide +kernel
theorem dL_law_634 : decode cL_law 634 = .ok (.iaload, 1) := by decide +kernel
theorem dL_law_635 : decode cL_law 635 = .ok (.aload_n 0, 1) := by decide +kernel
theorem dL_law_636 : decode cL_law 636 = .ok (.iload_n 3, 1) := by decide +kernel
theorem dL_law_637 : decode cL_law 637 = .ok (.iconst 2, 1) := by decide +kernel
theorem dL_law_638 : decode cL_law 638 = .ok (.iadd, 1) := by decide +kernel
theorem dL_law_639 : decode cL_law 639 = .ok (.iaload, 1) := by decide +kernel
theorem dL_law_640 : decode cL_law 640 = .ok (.aload_n 0, 1) := by decide +kernel
theorem dL_law_641 : decode cL_law 641 = .ok (.iload_n 3, 1) := by decide +kernel
theorem dL_law_642 : decode cL_law 642 = .ok (.iconst 3, 1) := by decide +kernel
theorem dL_law_643 : decode cL_law 643 = .ok (.iadd, 1) := by decide +kernel
theorem dL_law_644 : decode cL_law 644 = .ok (.iaload, 1) := by decide +kernel
theorem dL_law_645 : decode cL_law 645 = .ok (.invokevirtual 76, 3) := by decide +kernel
theorem dL_law_648 : decode cL_law 648 = .ok (.aload_n 2, 1) := by decide +kernel
theorem dL_law_649 : decode cL_law 649 = .ok (.aload_n 0, 1) := by decide +kernel
theorem dL_law_650 : decode cL_law 650 = .ok (.iload_n 3, 1) := by decide +kernel
theorem dL_law_651 : decode cL_law 651 = .ok (.iconst 1, 1) := by decide +kernel
theorem dL_law_652 : decode cL_law 652 = .ok (.iadd, 1) := by decide +kernel
theorem dL_law_653 : decode cL_law 653 = .ok (.iaload, 1) := by decide +kernel
theorem dL_law_654 : decode cL_law 654 = .ok (.aload_n 0, 1) := by decide +kernel
theorem dL_law_655 : decode cL_law 655 = .ok (.iload_n 3, 1) := by decide +kernel
theorem dL_law_656 : decode cL_law 656 = .ok (.iconst 2, 1) := by decide +kernel
theorem dL_law_657 : decode cL_law 657 = .ok (.iadd, 1) := by decide +kernel
theorem dL_law_658 : decode cL_law 658 = .ok (.iaload, 1) := by decide +kernel
theorem dL_law_659 : decode cL_law 659 = .ok (.aload_n 0, 1) := by decide +kernel
theorem dL_law_660 : decode cL_law 660 = .ok (.iload_n 3, 1) := by decide +kernel
theorem dL_law_661 : decode cL_law 661 = .ok (.iconst 3, 1) := by decide +kernel
theorem dL_law_662 : decode cL_law 662 = .ok (.iadd, 1) := by decide +kernel
theorem dL_law_663 : decode cL_law 663 = .ok (.iaload, 1) := by decide +kernel
theorem dL_law_664 : decode cL_law 664 = .ok (.invokevirtual 79, 3) := by decide +kernel
theorem dL_law_667 : decode cL_law 667 = .ok (.if_icmp .eq 169, 3) := by decide +kernel
theorem dL_law_670 : decode cL_law 670 = .ok (.iconst 0, 1) := by decide +kernel
theorem dL_law_671 : decode cL_law 671 = .ok (.ireturn, 1) := by decide +kernel
theorem dL_law_672 : decode cL_law 672 = .ok (.aload_n 1, 1) := by decide +kernel
theorem dL_law_673 : decode cL_law 673 = .ok (.aload_n 0, 1) := by decide +kernel
theorem dL_law_674 : decode cL_law 674 = .ok (.iload_n 3, 1) := by decide +kernel
theorem dL_law_675 : decode cL_law 675 = .ok (.iconst 1, 1) := by decide +kernel
theorem dL_law_676 : decode cL_law 676 = .ok (.iadd, 1) := by decide +kernel
theorem dL_law_677 : decode cL_law 677 = .ok (.iaload, 1) := by decide +kernel
theorem dL_law_678 : decode cL_law 678 = .ok (.aload_n 0, 1) := by decide +kernel
theorem dL_law_679 : decode cL_law 679 = .ok (.iload_n 3, 1) := by decide +kernel
theorem dL_law_680 : decode cL_law 680 = .ok (.iconst 2, 1) := by decide +kernel
theorem dL_law_681 : decode cL_law 681 = .ok (.iadd, 1) := by decide +kernel
theorem dL_law_682 : decode cL_law 682 = .ok (.iaload, 1) := by decide +kernel
theorem dL_law_683 : decode cL_law 683 = .ok (.invokevirtual 80, 3) := by decide +kernel
theorem dL_law_686 : decode cL_law 686 = .ok (.aload_n 2, 1) := by decide +kernel
theorem dL_law_687 : decode cL_law 687 = .ok (.aload_n 0, 1) := by decide +kernel
theorem dL_law_688 : decode cL_law 688 = .ok (.iload_n 3, 1) := by decide +kernel
theorem dL_law_689 : decode cL_law 689 = .ok (.iconst 1, 1) := by decide +kernel
theorem dL_law_690 : decode cL_law 690 = .ok (.iadd, 1) := by decide +kernel
theorem dL_law_691 : decode cL_law 691 = .ok (.iaload, 1) := by decide +kernel
theorem dL_law_692 : decode cL_law 692 = .ok (.aload_n 0, 1) := by decide +kernel
theorem dL_law_693 : decode cL_law 693 = .ok (.iload_n 3, 1) := by decide +kernel
theorem dL_law_694 : decode cL_law 694 = .ok (.iconst 2, 1) := by decide +kernel
theorem dL_law_695 : decode cL_law 695 = .ok (.iadd, 1) := by decide +kernel
theorem dL_law_696 : decode cL_law 696 = .ok (.iaload, 1) := by decide +kernel
theorem dL_law_697 : decode cL_law 697 = .ok (.invokevirtual 83, 3) := by decide +kernel
theorem dL_law_700 : decode cL_law 700 = .ok (.if_icmp .eq 136, 3) := by decide +kernel
theorem dL_law_703 : decode cL_law 703 = .ok (.iconst 0, 1) := by decide +kernel
theorem dL_law_704 : decode cL_law 704 = .ok (.ireturn, 1) := by decide +kernel
theorem dL_law_705 : decode cL_law 705 = .ok (.aload_n 1, 1) := by decide +kernel
theorem dL_law_706 : decode cL_law 706 = .ok (.aload_n 0, 1) := by decide +kernel
theorem dL_law_707 : decode cL_law 707 = .ok (.iload_n 3, 1) := by decide +kernel
theorem dL_law_708 : decode cL_law 708 = .ok (.iconst 1, 1) := by decide +kernel
theorem dL_law_709 : decode cL_law 709 = .ok (.iadd, 1) := by decide +kernel
theorem dL_law_710 : decode cL_law 710 = .ok (.iaload, 1) := by decide +kernel
theorem dL_law_711 : decode cL_law 711 = .ok (.invokevirtual 84, 3) := by decide +kernel
theorem dL_law_714 : decode cL_law 714 = .ok (.aload_n 2, 1) := by decide +kernel
theorem dL_law_715 : decode cL_law 715 = .ok (.aload_n 0, 1) := by decide +kernel
theorem dL_law_716 : decode cL_law 716 = .ok (.iload_n 3, 1) := by decide +kernel
theorem dL_law_717 : decode cL_law 717 = .ok (.iconst 1, 1) := by decide +kernel
theorem dL_law_718 : decode cL_law 718 = .ok (.iadd, 1) := by decide +kernel
theorem dL_law_719 : decode cL_law 719 = .ok (.iaload, 1) := by decide +kernel
theorem dL_law_720 : decode cL_law 720 = .ok (.invokevirtual 87, 3) := by decide +kernel
theorem dL_law_723 : decode cL_law 723 = .ok (.if_icmp .eq 113, 3) := by decide +kernel
theorem dL_law_726 : decode cL_law 726 = .ok (.iconst 0, 1) := by decide +kernel
theorem dL_law_727 : decode cL_law 727 = .ok (.ireturn, 1) := by decide +kernel
theorem dL_law_728 : decode cL_law 728 = .ok (.aload_n 1, 1) := by decide +kernel
theorem dL_law_729 : decode cL_law 729 = .ok (.aload_n 0, 1) := by decide +kernel
theorem dL_law_730 : decode cL_law 730 = .ok (.iload_n 3, 1) := by decide +kernel
theorem dL_law_731 : decode cL_law 731 = .ok (.iconst 1, 1) := by decide +kernel
theorem dL_law_732 : decode cL_law 732 = .ok (.iadd, 1) := by decide +kernel
theorem dL_law_733 : decode cL_law 733 = .ok (.iaload, 1) := by decide +kernel
theorem dL_law_734 : decode cL_law 734 = .ok (.invokevirtual 88, 3) := by decide +kernel
theorem dL_law_737 : decode cL_law 737 = .ok (.aload_n 2, 1) := by decide +kernel
theorem dL_law_738 : decode cL_law 738 = .ok (.aload_n 0, 1) := by decide +kernel
theorem dL_law_739 : decode cL_law 739 = .ok (.iload_n 3, 1) := by decide +kernel
theorem dL_law_740 : decode cL_law 740 = .ok (.iconst 1, 1) := by decide +kernel
theorem dL_law_741 : decode cL_law 741 = .ok (.iadd, 1) := by decide +kernel
theorem dL_law_742 : decode cL_law 742 = .ok (.iaload, 1) := by decide +kernel
theorem dL_law_743 : decode cL_law 743 = .ok (.invokevirtual 91, 3) := by decide +kernel
theorem dL_law_746 : decode cL_law 746 = .ok (.if_icmp .eq 90, 3) := by decide +kernel
theorem dL_law_749 : decode cL_law 749 = .ok (.iconst 0, 1) := by decide +kernel
theorem dL_law_750 : decode cL_law 750 = .ok (.ireturn, 1) := by decide +kernel
theorem dL_law_751 : decode cL_law 751 = .ok (.aload_n 1, 1) := by decide +kernel
theorem dL_law_752 : decode cL_law 752 = .ok (.invokevirtual 92, 3) := by decide +kernel
theorem dL_law_755 : decode cL_law 755 = .ok (.aload_n 2, 1) := by decide +kernel
theorem dL_law_756 : decode cL_law 756 = .ok (.invokevirtual 96, 3) := by decide +kernel
theorem dL_law_759 : decode cL_law 759 = .ok (.if_icmp .eq 77, 3) := by decide +kernel
theorem dL_law_762 : decode cL_law 762 = .ok (.iconst 0, 1) := by decide +kernel
theorem dL_law_763 : decode cL_law 763 = .ok (.ireturn, 1) := by decide +kernel
theorem dL_law_764 : decode cL_law 764 = .ok (.aload_n 1, 1) := by decide +kernel
theorem dL_law_765 : decode cL_law 765 = .ok (.invokevirtual 97, 3) := by decide +kernel
theorem dL_law_768 : decode cL_law 768 = .ok (.aload_n 2, 1) := by decide +kernel
theorem dL_law_769 : decode cL_law 769 = .ok (.invokevirtual 100, 3) := by decide +kernel
theorem dL_law_772 : decode cL_law 772 = .ok (.if_icmp .eq 64, 3) := by decide +kernel
theorem dL_law_775 : decode cL_law 775 = .ok (.iconst 0, 1) := by decide +kernel
theorem dL_law_776 : decode cL_law 776 = .ok (.ireturn, 1) := by decide +kernel
theorem dL_law_777 : decode cL_law 777 = .ok (.aload_n 1, 1) := by decide +kernel
theorem dL_law_778 : decode cL_law 778 = .ok (.aload_n 0, 1) := by decide +kernel
theorem dL_law_779 : decode cL_law 779 = .ok (.iload_n 3, 1) := by decide +kernel
theorem dL_law_780 : decode cL_law 780 = .ok (.iconst 1, 1) := by decide +kernel
theorem dL_law_781 : decode cL_law 781 = .ok (.iadd, 1) := by decide +kernel
theorem dL_law_782 : decode cL_law 782 = .ok (.iaload, 1) := by decide +kernel
theorem dL_law_783 : decode cL_law 783 = .ok (.invokevirtual 101, 3) := by decide +kernel
theorem dL_law_786 : decode cL_law 786 = .ok (.aload_n 2, 1) := by decide +kernel
theorem dL_law_787 : decode cL_law 787 = .ok (.aload_n 0, 1) := by decide +kernel
theorem dL_law_788 : decode cL_law 788 = .ok (.iload_n 3, 1) := by decide +kernel
theorem dL_law_789 : decode cL_law 789 = .ok (.iconst 1, 1) := by decide +kernel
theorem dL_law_790 : decode cL_law 790 = .ok (.iadd, 1) := by decide +kernel
theorem dL_law_791 : decode cL_law 791 = .ok (.iaload, 1) := by decide +kernel
theorem dL_law_792 : decode cL_law 792 = .ok (.invokevirtual 104, 3) := by decide +kernel
theorem dL_law_795 : decode cL_law 795 = .ok (.if_icmp .eq 41, 3) := by decide +kernel
theorem dL_law_798 : decode cL_law 798 = .ok (.iconst 0, 1) := by decide +kernel
theorem dL_law_799 : decode cL_law 799 = .ok (.ireturn, 1) := by decide +kernel
theorem dL_law_800 : decode cL_law 800 = .ok (.aload_n 1, 1) := by decide +kernel
theorem dL_law_801 : decode cL_law 801 = .ok (.invokevirtual 105, 3) := by decide +kernel
theorem dL_law_804 : decode cL_law 804 = .ok (.aload_n 2, 1) := by decide +kernel
theorem dL_law_805 : decode cL_law 805 = .ok (.invokevirtual 108, 3) := by decide +kernel
theorem dL_law_808 : decode cL_law 808 = .ok (.if_icmp .eq 28, 3) := by decide +kernel
theorem dL_law_811 : decode cL_law 811 = .ok (.iconst 0, 1) := by decide +kernel
theorem dL_law_812 : decode cL_law 812 = .ok (.ireturn, 1) := by decide +kernel
theorem dL_law_813 : decode cL_law 813 = .ok (.aload_n 1, 1) := by decide +kernel
theorem dL_law_814 : decode cL_law 814 = .ok (.aload_n 0, 1) := by decide +kernel
theorem dL_law_815 : decode cL_law 815 = .ok (.iload_n 3, 1) := by decide +kernel
theorem dL_law_816 : decode cL_law 816 = .ok (.iconst 1, 1) := by decide +kernel
theorem dL_law_817 : decode cL_law 817 = .ok (.iadd, 1) := by decide +kernel
theorem dL_law_818 : decode cL_law 818 = .ok (.iaload, 1) := by decide +kernel
theorem dL_law_819 : decode cL_law 819 = .ok (.invokevirtual 109, 3) := by decide +kernel
theorem dL_law_822 : decode cL_law 822 = .ok (.aload_n 2, 1) := by decide +kernel
theorem dL_law_823 : decode cL_law 823 = .ok (.aload_n 0, 1) := by decide +kernel
theorem dL_law_824 : decode cL_law 824 = .ok (.iload_n 3, 1) := by decide +kernel
theorem dL_law_825 : decode cL_law 825 = .ok (.iconst 1, 1) := by decide +kernel
theorem dL_law_826 : decode cL_law 826 = .ok (.iadd, 1) := by decide +kernel
theorem dL_law_827 : decode cL_law 827 = .ok (.iaload, 1) := by decide +kernel
theorem dL_law_828 : decode cL_law 828 = .ok (.invokevirtual 112, 3) := by decide +kernel
theorem dL_law_831 : decode cL_law 831 = .ok (.if_icmp .eq 5, 3) := by decide +kernel
theorem dL_law_834 : decode cL_law 834 = .ok (.iconst 0, 1) := by decide +kernel
theorem dL_law_835 : decode cL_law 835 = .ok (.ireturn, 1) := by decide +kernel
theorem dL_law_836 : decode cL_law 836 = .ok (.iinc 3 4, 3) := by decide +kernel
theorem dL_law_839 : decode cL_law 839 = .ok (.goto (-821), 3) := by decide +kernel
theorem dL_law_842 : decode cL_law 842 = .ok (.iconst 1, 1) := by decide +kernel
theorem dL_law_843 : decode cL_law 843 = .ok (.ireturn, 1) := by decide +kernel
