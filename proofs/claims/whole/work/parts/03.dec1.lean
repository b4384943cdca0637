theorem dX0_init_0 : decode cX0_init 0 = .ok (.aload_n 0, 1) := by decide +kernel
theorem dX0_init_1 : decode cX0_init 1 = .ok (.invokespecial 3, 3) := by decide +kernel
theorem dX0_init_4 : decode cX0_init 4 = .ok (.aload_n 0, 1) := by decide +kernel
theorem dX0_init_5 : decode cX0_init 5 = .ok (.bipush 8, 2) := by decide +kernel
theorem dX0_init_7 : decode cX0_init 7 = .ok (.newarray .int, 2) := by decide +kernel
theorem dX0_init_9 : decode cX0_init 9 = .ok (.putfield 9, 3) := by decide +kernel
theorem dX0_init_12 : decode cX0_init 12 = .ok (.return_, 1) := by decide +kernel
theorem dX0_lookAt_0 : decode cX0_lookAt 0 = .ok (.aload_n 0, 1) := by decide +kernel
theorem dX0_lookAt_1 : decode cX0_lookAt 1 = .ok (.iconst 0, 1) := by decide +kernel
theorem dX0_lookAt_2 : decode cX0_lookAt 2 = .ok (.putfield 15, 3) := by decide +kernel
theorem dX0_lookAt_5 : decode cX0_lookAt 5 = .ok (.iconst 0, 1) := by decide +kernel
theorem dX0_lookAt_6 : decode cX0_lookAt 6 = .ok (.istore 4, 2) := by decide +kernel
theorem dX0_lookAt_8 : decode cX0_lookAt 8 = .ok (.iload 4, 2) := by decide +kernel
theorem dX0_lookAt_10 : decode cX0_lookAt 10 = .ok (.bipush 8, 2) := by decide +kernel
theorem dX0_lookAt_12 : decode cX0_lookAt 12 = .ok (.if_icmp .ge 46, 3) := by decide +kernel
theorem dX0_lookAt_15 : decode cX0_lookAt 15 = .ok (.aload_n 1, 1) := by decide +kernel
theorem dX0_lookAt_16 : decode cX0_lookAt 16 = .ok (.iload 4, 2) := by decide +kernel
theorem dX0_lookAt_18 : decode cX0_lookAt 18 = .ok (.iload_n 3, 1) := by decide +kernel
theorem dX0_lookAt_19 : decode cX0_lookAt 19 = .ok (.invokevirtual 19, 3) := by decide +kernel
theorem dX0_lookAt_22 : decode cX0_lookAt 22 = .ok (.istore 5, 2) := by decide +kernel
theorem dX0_lookAt_24 : decode cX0_lookAt 24 = .ok (.iload 5, 2) := by decide +kernel
theorem dX0_lookAt_26 : decode cX0_lookAt 26 = .ok (.iconst (-1), 1) := by decide +kernel
theorem dX0_lookAt_27 : decode cX0_lookAt 27 = .ok (.if_icmp .eq 25, 3) := by decide +kernel
theorem dX0_lookAt_30 : decode cX0_lookAt 30 = .ok (.aload_n 1, 1) := by decide +kernel
theorem dX0_lookAt_31 : decode cX0_lookAt 31 = .ok (.iload 4, 2) := by decide +kernel
theorem dX0_lookAt_33 : decode cX0_lookAt 33 = .ok (.invokevirtual 25, 3) := by decide +kernel
theorem dX0_lookAt_36 : decode cX0_lookAt 36 = .ok (.iload_n 2, 1) := by decide +kernel
theorem dX0_lookAt_37 : decode cX0_lookAt 37 = .ok (.if_icmp .ne 15, 3) := by decide +kernel
theorem dX0_lookAt_40 : decode cX0_lookAt 40 = .ok (.aload_n 0, 1) := by decide +kernel
theorem dX0_lookAt_41 : decode cX0_lookAt 41 = .ok (.aload_n 1, 1) := by decide +kernel
theorem dX0_lookAt_42 : decode cX0_lookAt 42 = .ok (.iload 4, 2) := by decide +kernel
theorem dX0_lookAt_44 : decode cX0_lookAt 44 = .ok (.iload 5, 2) := by decide +kernel
theorem dX0_lookAt_46 : decode cX0_lookAt 46 = .ok (.invokevirtual 29, 3) := by decide +kernel
theorem dX0_lookAt_49 : decode cX0_lookAt 49 = .ok (.invokevirtual 32, 3) := by decide +kernel
theorem dX0_lookAt_52 : decode cX0_lookAt 52 = .ok (.iinc 4 1, 3) := by decide +kernel
theorem dX0_lookAt_55 : decode cX0_lookAt 55 = .ok (.goto (-47), 3) := by decide +kernel
theorem dX0_lookAt_58 : decode cX0_lookAt 58 = .ok (.return_, 1) := by decide +kernel
theorem dX0_append_0 : decode cX0_append 0 = .ok (.aload_n 0, 1) := by decide +kernel
theorem dX0_append_1 : decode cX0_append 1 = .ok (.getfield 15, 3) := by decide +kernel
theorem dX0_append_4 : decode cX0_append 4 = .ok (.ifCond .lt 32, 3) := by decide +kernel
theorem dX0_append_7 : decode cX0_append 7 = .ok (.aload_n 0, 1) := by decide +kernel
theorem dX0_append_8 : decode cX0_append 8 = .ok (.getfield 15, 3) := by decide +kernel
theorem dX0_append_11 : decode cX0_append 11 = .ok (.bipush 8, 2) := by decide +kernel
theorem dX0_append_13 : decode cX0_append 13 = .ok (.if_icmp .ge 23, 3) := by decide +kernel
theorem dX0_append_16 : decode cX0_append 16 = .ok (.aload_n 0, 1) := by decide +kernel
theorem dX0_append_17 : decode cX0_append 17 = .ok (.getfield 9, 3) := by decide +kernel
theorem dX0_append_20 : decode cX0_append 20 = .ok (.aload_n 0, 1) := by decide +kernel
theorem dX0_append_21 : decode cX0_append 21 = .ok (.getfield 15, 3) := by decide +kernel
theorem dX0_append_24 : decode cX0_append 24 = .ok (.iload_n 1, 1) := by decide +kernel
theorem dX0_append_25 : decode cX0_append 25 = .ok (.iastore, 1) := by decide +kernel
theorem dX0_append_26 : decode cX0_append 26 = .ok (.aload_n 0, 1) := by decide +kernel
theorem dX0_append_27 : decode cX0_append 27 = .ok (.dup, 1) := by decide +kernel
theorem dX0_append_28 : decode cX0_append 28 = .ok (.getfield 15, 3) := by decide +kernel
theorem dX0_append_31 : decode cX0_append 31 = .ok (.iconst 1, 1) := by decide +kernel
theorem dX0_append_32 : decode cX0_append 32 = .ok (.iadd, 1) := by decide +kernel
theorem dX0_append_33 : decode cX0_append 33 = .ok (.putfield 15, 3) := by decide +kernel
theorem dX0_append_36 : decode cX0_append 36 = .ok (.return_, 1) := by decide +kernel
theorem dX0_isPassedWith_0 : decode cX0_isPassedWith 0 = .ok (.iconst 0, 1) := by decide +kernel
theorem dX0_isPassedWith_1 : decode cX0_isPassedWith 1 = .ok (.istore_n 2, 1) := by decide +kernel
theorem dX0_isPassedWith_2 : decode cX0_isPassedWith 2 = .ok (.aload_n 0, 1) := by decide +kernel
theorem dX0_isPassedWith_3 : decode cX0_isPassedWith 3 = .ok (.getfield 15, 3) := by decide +kernel
theorem dX0_isPassedWith_6 : decode cX0_isPassedWith 6 = .ok (.bipush 8, 2) := by decide +kernel
theorem dX0_isPassedWith_8 : decode cX0_isPassedWith 8 = .ok (.invokestatic 36, 3) := by decide +kernel
theorem dX0_isPassedWith_11 : decode cX0_isPassedWith 11 = .ok (.iconst 1, 1) := by decide +kernel
theorem dX0_isPassedWith_12 : decode cX0_isPassedWith 12 = .ok (.isub, 1) := by decide +kernel
theorem dX0_isPassedWith_13 : decode cX0_isPassedWith 13 = .ok (.istore_n 3, 1) := by decide +kernel
theorem dX0_isPassedWith_14 : decode cX0_isPassedWith 14 = .ok (.iload_n 3, 1) := by decide +kernel
theorem dX0_isPassedWith_15 : decode cX0_isPassedWith 15 = .ok (.ifCond .lt 24, 3) := by decide +kernel
theorem dX0_isPassedWith_18 : decode cX0_isPassedWith 18 = .ok (.iload_n 2, 1) := by decide +kernel
theorem dX0_isPassedWith_19 : decode cX0_isPassedWith 19 = .ok (.iload_n 1, 1) := by decide +kernel
theorem dX0_isPassedWith_20 : decode cX0_isPassedWith 20 = .ok (.imul, 1) := by decide +kernel
theorem dX0_isPassedWith_21 : decode cX0_isPassedWith 21 = .ok (.aload_n 0, 1) := by decide +kernel
theorem dX0_isPassedWith_22 : decode cX0_isPassedWith 22 = .ok (.getfield 9, 3) := by decide +kernel
theorem dX0_isPassedWith_25 : decode cX0_isPassedWith 25 = .ok (.iload_n 3, 1) := by decide +kernel
theorem dX0_isPassedWith_26 : decode cX0_isPassedWith 26 = .ok (.iaload, 1) := by decide +kernel
theorem dX0_isPassedWith_27 : decode cX0_isPassedWith 27 = .ok (.iadd, 1) := by decide +kernel
theorem dX0_isPassedWith_28 : decode cX0_isPassedWith 28 = .ok (.sipush 257, 3) := by decide +kernel
theorem dX0_isPassedWith_31 : decode cX0_isPassedWith 31 = .ok (.irem, 1) := by decide +kernel
theorem dX0_isPassedWith_32 : decode cX0_isPassedWith 32 = .ok (.istore_n 2, 1) := by decide +kernel
theorem dX0_isPassedWith_33 : decode cX0_isPassedWith 33 = .ok (.iinc 3 (-1), 3) := by decide +kernel
theorem dX0_isPassedWith_36 : decode cX0_isPassedWith 36 = .ok (.goto (-22), 3) := by decide +kernel
theorem dX0_isPassedWith_39 : decode cX0_isPassedWith 39 = .ok (.iload_n 2, 1) := by decide +kernel
theorem dX0_isPassedWith_40 : decode cX0_isPassedWith 40 = .ok (.ifCond .ne 7, 3) := by decide +kernel
theorem dX0_isPassedWith_43 : decode cX0_isPassedWith 43 = .ok (.iconst 1, 1) := by decide +kernel
theorem dX0_isPassedWith_44 : decode cX0_isPassedWith 44 = .ok (.goto 4, 3) := by decide +kernel
theorem dX0_isPassedWith_47 : decode cX0_isPassedWith 47 = .ok (.iconst 0, 1) := by decide +kernel
theorem dX0_isPassedWith_48 : decode cX0_isPassedWith 48 = .ok (.ireturn, 1) := by decide +kernel
theorem dX1_init_0 : decode cX1_init 0 = .ok (.aload_n 0, 1) := by decide +kernel
theorem dX1_init_1 : decode cX1_init 1 = .ok (.invokespecial 3, 3) := by decide +kernel
theorem dX1_init_4 : decode cX1_init 4 = .ok (.aload_n 0, 1) := by decide +kernel
theorem dX1_init_5 : decode cX1_init 5 = .ok (.bipush 42, 2) := by decide +kernel
theorem dX1_init_7 : decode cX1_init 7 = .ok (.newarray .int, 2) := by decide +kernel
theorem dX1_init_9 : decode cX1_init 9 = .ok (.putfield 11, 3) := by decide +kernel
theorem dX1_init_12 : decode cX1_init 12 = .ok (.return_, 1) := by decide +kernel
theorem dX1_dataWord_0 : decode cX1_dataWord 0 = .ok (.aload_n 0, 1) := by decide +kernel
theorem dX1_dataWord_1 : decode cX1_dataWord 1 = .ok (.aload_n 1, 1) := by decide +kernel
theorem dX1_dataWord_2 : decode cX1_dataWord 2 = .ok (.iload_n 2, 1) := by decide +kernel
theorem dX1_dataWord_3 : decode cX1_dataWord 3 = .ok (.iload_n 3, 1) := by decide +kernel
theorem dX1_dataWord_4 : decode cX1_dataWord 4 = .ok (.invokevirtual 15, 3) := by decide +kernel
theorem dX1_dataWord_7 : decode cX1_dataWord 7 = .ok (.iconst 0, 1) := by decide +kernel
theorem dX1_dataWord_8 : decode cX1_dataWord 8 = .ok (.istore 5, 2) := by decide +kernel
theorem dX1_dataWord_10 : decode cX1_dataWord 10 = .ok (.iload 5, 2) := by decide +kernel
theorem dX1_dataWord_12 : decode cX1_dataWord 12 = .ok (.aload_n 0, 1) := by decide +kernel
theorem dX1_dataWord_13 : decode cX1_dataWord 13 = .ok (.getfield 19, 3) := by decide +kernel
theorem dX1_dataWord_16 : decode cX1_dataWord 16 = .ok (.if_icmp .ge 15, 3) := by decide +kernel
theorem dX1_dataWord_19 : decode cX1_dataWord 19 = .ok (.aload_n 0, 1) := by decide +kernel
theorem dX1_dataWord_20 : decode cX1_dataWord 20 = .ok (.iload 5, 2) := by decide +kernel
theorem dX1_dataWord_22 : decode cX1_dataWord 22 = .ok (.invokevirtual 23, 3) := by decide +kernel
theorem dX1_dataWord_25 : decode cX1_dataWord 25 = .ok (.iinc 5 1, 3) := by decide +kernel
theorem dX1_dataWord_28 : decode cX1_dataWord 28 = .ok (.goto (-18), 3) := by decide +kernel
theorem dX1_dataWord_31 : decode cX1_dataWord 31 = .ok (.iload 4, 2) := by decide +kernel
theorem dX1_dataWord_33 : decode cX1_dataWord 33 = .ok (.ifCond .lt 30, 3) := by decide +kernel
theorem dX1_dataWord_36 : decode cX1_dataWord 36 = .ok (.iload 4, 2) := by decide +kernel
theorem dX1_dataWord_38 : decode cX1_dataWord 38 = .ok (.aload_n 0, 1) := by decide +kernel
theorem dX1_dataWord_39 : decode cX1_dataWord 39 = .ok (.getfield 19, 3) := by decide +kernel
theorem dX1_dataWord_42 : decode cX1_dataWord 42 = .ok (.if_icmp .ge 21, 3) := by decide +kernel
theorem dX1_dataWord_45 : decode cX1_dataWord 45 = .ok (.aload_n 0, 1) := by decide +kernel
theorem dX1_dataWord_46 : decode cX1_dataWord 46 = .ok (.getfield 11, 3) := by decide +kernel
theorem dX1_dataWord_49 : decode cX1_dataWord 49 = .ok (.iload 4, 2) := by decide +kernel
theorem dX1_dataWord_51 : decode cX1_dataWord 51 = .ok (.bipush 7, 2) := by decide +kernel
theorem dX1_dataWord_53 : decode cX1_dataWord 53 = .ok (.imul, 1) := by decide +kernel
theorem dX1_dataWord_54 : decode cX1_dataWord 54 = .ok (.aload_n 0, 1) := by decide +kernel
theorem dX1_dataWord_55 : decode cX1_dataWord 55 = .ok (.getfield 19, 3) := by decide +kernel
theorem dX1_dataWord_58 : decode cX1_dataWord 58 = .ok (.iadd, 1) := by decide +kernel
theorem dX1_dataWord_59 : decode cX1_dataWord 59 = .ok (.iaload, 1) := by decide +kernel
theorem dX1_dataWord_60 : decode cX1_dataWord 60 = .ok (.goto 4, 3) := by decide +kernel
theorem dX1_dataWord_63 : decode cX1_dataWord 63 = .ok (.iconst 0, 1) := by decide +kernel
theorem dX1_dataWord_64 : decode cX1_dataWord 64 = .ok (.ireturn, 1) := by decide +kernel
theorem dX1_setUp_0 : decode cX1_setUp 0 = .ok (.iload_n 3, 1) := by decide +kernel
theorem dX1_setUp_1 : decode cX1_setUp 1 = .ok (.invokestatic 27, 3) := by decide +kernel
theorem dX1_setUp_4 : decode cX1_setUp 4 = .ok (.bipush 6, 2) := by decide +kernel
theorem dX1_setUp_6 : decode cX1_setUp 6 = .ok (.invokestatic 33, 3) := by decide +kernel
theorem dX1_setUp_9 : decode cX1_setUp 9 = .ok (.istore 4, 2) := by decide +kernel
theorem dX1_setUp_11 : decode cX1_setUp 11 = .ok (.aload_n 0, 1) := by decide +kernel
theorem dX1_setUp_12 : decode cX1_setUp 12 = .ok (.iconst 0, 1) := by decide +kernel
theorem dX1_setUp_13 : decode cX1_setUp 13 = .ok (.putfield 19, 3) := by decide +kernel
theorem dX1_setUp_16 : decode cX1_setUp 16 = .ok (.iconst 0, 1) := by decide +kernel
theorem dX1_setUp_17 : decode cX1_setUp 17 = .ok (.istore 5, 2) := by decide +kernel
theorem dX1_setUp_19 : decode cX1_setUp 19 = .ok (.iload 5, 2) := by decide +kernel
theorem dX1_setUp_21 : decode cX1_setUp 21 = .ok (.bipush 10, 2) := by decide +kernel
theorem dX1_setUp_23 : decode cX1_setUp 23 = .ok (.if_icmp .ge 99, 3) := by decide +kernel
theorem dX1_setUp_26 : decode cX1_setUp 26 = .ok (.aload_n 0, 1) := by decide +kernel
theorem dX1_setUp_27 : decode cX1_setUp 27 = .ok (.getfield 19, 3) := by decide +kernel
theorem dX1_setUp_30 : decode cX1_setUp 30 = .ok (.iload 4, 2) := by decide +kernel
theorem dX1_setUp_32 : decode cX1_setUp 32 = .ok (.if_icmp .ge 90, 3) := by decide +kernel
theorem dX1_setUp_35 : decode cX1_setUp 35 = .ok (.iload_n 3, 1) := by decide +kernel
theorem dX1_setUp_36 : decode cX1_setUp 36 = .ok (.iload 5, 2) := by decide +kernel
theorem dX1_setUp_38 : decode cX1_setUp 38 = .ok (.ishr, 1) := by decide +kernel
theorem dX1_setUp_39 : decode cX1_setUp 39 = .ok (.iconst 1, 1) := by decide +kernel
theorem dX1_setUp_40 : decode cX1_setUp 40 = .ok (.iand, 1) := by decide +kernel
theorem dX1_setUp_41 : decode cX1_setUp 41 = .ok (.iconst 1, 1) := by decide +kernel
theorem dX1_setUp_42 : decode cX1_setUp 42 = .ok (.if_icmp .ne 74, 3) := by decide +kernel
theorem dX1_setUp_45 : decode cX1_setUp 45 = .ok (.aload_n 0, 1) := by decide +kernel
theorem dX1_setUp_46 : decode cX1_setUp 46 = .ok (.getfield 19, 3) := by decide +kernel
theorem dX1_setUp_49 : decode cX1_setUp 49 = .ok (.bipush 7, 2) := by decide +kernel
theorem dX1_setUp_51 : decode cX1_setUp 51 = .ok (.imul, 1) := by decide +kernel
theorem dX1_setUp_52 : decode cX1_setUp 52 = .ok (.istore 6, 2) := by decide +kernel
theorem dX1_setUp_54 : decode cX1_setUp 54 = .ok (.iconst 0, 1) := by decide +kernel
theorem dX1_setUp_55 : decode cX1_setUp 55 = .ok (.istore 7, 2) := by decide +kernel
theorem dX1_setUp_57 : decode cX1_setUp 57 = .ok (.iload 7, 2) := by decide +kernel
theorem dX1_setUp_59 : decode cX1_setUp 59 = .ok (.iload 4, 2) := by decide +kernel
theorem dX1_setUp_61 : decode cX1_setUp 61 = .ok (.if_icmp .ge 28, 3) := by decide +kernel
theorem dX1_setUp_64 : decode cX1_setUp 64 = .ok (.aload_n 0, 1) := by decide +kernel
theorem dX1_setUp_65 : decode cX1_setUp 65 = .ok (.getfield 11, 3) := by decide +kernel
theorem dX1_setUp_68 : decode cX1_setUp 68 = .ok (.iload 6, 2) := by decide +kernel
theorem dX1_setUp_70 : decode cX1_setUp 70 = .ok (.iload 7, 2) := by decide +kernel
theorem dX1_setUp_72 : decode cX1_setUp 72 = .ok (.iadd, 1) := by decide +kernel
theorem dX1_setUp_73 : decode cX1_setUp 73 = .ok (.iload 5, 2) := by decide +kernel
theorem dX1_setUp_75 : decode cX1_setUp 75 = .ok (.iload 7, 2) := by decide +kernel
theorem dX1_setUp_77 : decode cX1_setUp 77 = .ok (.iload 4, 2) := by decide +kernel
theorem dX1_setUp_79 : decode cX1_setUp 79 = .ok (.invokestatic 39, 3) := by decide +kernel
theorem dX1_setUp_82 : decode cX1_setUp 82 = .ok (.iastore, 1) := by decide +kernel
theorem dX1_setUp_83 : decode cX1_setUp 83 = .ok (.iinc 7 1, 3) := by decide +kernel
theorem dX1_setUp_86 : decode cX1_setUp 86 = .ok (.goto (-29), 3) := by decide +kernel
theorem dX1_setUp_89 : decode cX1_setUp 89 = .ok (.aload_n 0, 1) := by decide +kernel
theorem dX1_setUp_90 : decode cX1_setUp 90 = .ok (.getfield 11, 3) := by decide +kernel
theorem dX1_setUp_93 : decode cX1_setUp 93 = .ok (.iload 6, 2) := by decide +kernel
theorem dX1_setUp_95 : decode cX1_setUp 95 = .ok (.iload 4, 2) := by decide +kernel
theorem dX1_setUp_97 : decode cX1_setUp 97 = .ok (.iadd, 1) := by decide +kernel
theorem dX1_setUp_98 : decode cX1_setUp 98 = .ok (.aload_n 1, 1) := by decide +kernel
theorem dX1_setUp_99 : decode cX1_setUp 99 = .ok (.iload_n 2, 1) := by decide +kernel
theorem dX1_setUp_100 : decode cX1_setUp 100 = .ok (.iload 5, 2) := by decide +kernel
theorem dX1_setUp_102 : decode cX1_setUp 102 = .ok (.invokevirtual 43, 3) := by decide +kernel
theorem dX1_setUp_105 : decode cX1_setUp 105 = .ok (.iastore, 1) := by decide +kernel
theorem dX1_setUp_106 : decode cX1_setUp 106 = .ok (.aload_n 0, 1) := by decide +kernel
theorem dX1_setUp_107 : decode cX1_setUp 107 = .ok (.dup, 1) := by decide +kernel
theorem dX1_setUp_108 : decode cX1_setUp 108 = .ok (.getfield 19, 3) := by decide +kernel
theorem dX1_setUp_111 : decode cX1_setUp 111 = .ok (.iconst 1, 1) := by decide +kernel
theorem dX1_setUp_112 : decode cX1_setUp 112 = .ok (.iadd, 1) := by decide +kernel
theorem dX1_setUp_113 : decode cX1_setUp 113 = .ok (.putfield 19, 3) := by decide +kernel
theorem dX1_setUp_116 : decode cX1_setUp 116 = .ok (.iinc 5 1, 3) := by decide +kernel
theorem dX1_setUp_119 : decode cX1_setUp 119 = .ok (.goto (-100), 3) := by decide +kernel
theorem dX1_setUp_122 : decode cX1_setUp 122 = .ok (.return_, 1) := by decide +kernel
theorem dX1_factor_0 : decode cX1_factor 0 = .ok (.iload_n 0, 1) := by decide +kernel
theorem dX1_factor_1 : decode cX1_factor 1 = .ok (.iload_n 2, 1) := by decide +kernel
theorem dX1_factor_2 : decode cX1_factor 2 = .ok (.if_icmp .ge 14, 3) := by decide +kernel
theorem dX1_factor_5 : decode cX1_factor 5 = .ok (.iload_n 0, 1) := by decide +kernel
theorem dX1_factor_6 : decode cX1_factor 6 = .ok (.iload_n 1, 1) := by decide +kernel
theorem dX1_factor_7 : decode cX1_factor 7 = .ok (.if_icmp .ne 7, 3) := by decide +kernel
theorem dX1_factor_10 : decode cX1_factor 10 = .ok (.iconst 1, 1) := by decide +kernel
theorem dX1_factor_11 : decode cX1_factor 11 = .ok (.goto 4, 3) := by decide +kernel
theorem dX1_factor_14 : decode cX1_factor 14 = .ok (.iconst 0, 1) := by decide +kernel
theorem dX1_factor_15 : decode cX1_factor 15 = .ok (.ireturn, 1) := by decide +kernel
theorem dX1_factor_16 : decode cX1_factor 16 = .ok (.iload_n 1, 1) := by decide +kernel
theorem dX1_factor_17 : decode cX1_factor 17 = .ok (.iconst 1, 1) := by decide +kernel
theorem dX1_factor_18 : decode cX1_factor 18 = .ok (.iadd, 1) := by decide +kernel
theorem dX1_factor_19 : decode cX1_factor 19 = .ok (.iload_n 0, 1) := by decide +kernel
theorem dX1_factor_20 : decode cX1_factor 20 = .ok (.iload_n 2, 1) := by decide +kernel
theorem dX1_factor_21 : decode cX1_factor 21 = .ok (.isub, 1) := by decide +kernel
theorem dX1_factor_22 : decode cX1_factor 22 = .ok (.invokestatic 48, 3) := by decide +kernel
theorem dX1_factor_25 : decode cX1_factor 25 = .ok (.ireturn, 1) := by decide +kernel
theorem dX1_eliminate_0 : decode cX1_eliminate 0 = .ok (.iload_n 1, 1) := by decide +kernel
theorem dX1_eliminate_1 : decode cX1_eliminate 1 = .ok (.istore_n 2, 1) := by decide +kernel
theorem dX1_eliminate_2 : decode cX1_eliminate 2 = .ok (.iload_n 2, 1) := by decide +kernel
theorem dX1_eliminate_3 : decode cX1_eliminate 3 = .ok (.aload_n 0, 1) := by decide +kernel
theorem dX1_eliminate_4 : decode cX1_eliminate 4 = .ok (.getfield 19, 3) := by decide +kernel
theorem dX1_eliminate_7 : decode cX1_eliminate 7 = .ok (.if_icmp .ge 23, 3) := by decide +kernel
theorem dX1_eliminate_10 : decode cX1_eliminate 10 = .ok (.aload_n 0, 1) := by decide +kernel
theorem dX1_eliminate_11 : decode cX1_eliminate 11 = .ok (.getfield 11, 3) := by decide +kernel
theorem dX1_eliminate_14 : decode cX1_eliminate 14 = .ok (.iload_n 2, 1) := by decide +kernel
theorem dX1_eliminate_15 : decode cX1_eliminate 15 = .ok (.bipush 7, 2) := by decide +kernel
theorem dX1_eliminate_17 : decode cX1_eliminate 17 = .ok (.imul, 1) := by decide +kernel
theorem dX1_eliminate_18 : decode cX1_eliminate 18 = .ok (.iload_n 1, 1) := by decide +kernel
theorem dX1_eliminate_19 : decode cX1_eliminate 19 = .ok (.iadd, 1) := by decide +kernel
theorem dX1_eliminate_20 : decode cX1_eliminate 20 = .ok (.iaload, 1) := by decide +kernel
theorem dX1_eliminate_21 : decode cX1_eliminate 21 = .ok (.ifCond .ne 9, 3) := by decide +kernel
theorem dX1_eliminate_24 : decode cX1_eliminate 24 = .ok (.iinc 2 1, 3) := by decide +kernel
theorem dX1_eliminate_27 : decode cX1_eliminate 27 = .ok (.goto (-25), 3) := by decide +kernel
theorem dX1_eliminate_30 : decode cX1_eliminate 30 = .ok (.iload_n 2, 1) := by decide +kernel
theorem dX1_eliminate_31 : decode cX1_eliminate 31 = .ok (.aload_n 0, 1) := by decide +kernel
theorem dX1_eliminate_32 : decode cX1_eliminate 32 = .ok (.getfield 19, 3) := by decide +kernel
theorem dX1_eliminate_35 : decode cX1_eliminate 35 = .ok (.if_icmp .lt 4, 3) := by decide +kernel
theorem dX1_eliminate_38 : decode cX1_eliminate 38 = .ok (.return_, 1) := by decide +kernel
theorem dX1_eliminate_39 : decode cX1_eliminate 39 = .ok (.aload_n 0, 1) := by decide +kernel
theorem dX1_eliminate_40 : decode cX1_eliminate 40 = .ok (.iload_n 2, 1) := by decide +kernel
theorem dX1_eliminate_41 : decode cX1_eliminate 41 = .ok (.iload_n 1, 1) := by decide +kernel
theorem dX1_eliminate_42 : decode cX1_eliminate 42 = .ok (.invokevirtual 51, 3) := by decide +kernel
theorem dX1_eliminate_45 : decode cX1_eliminate 45 = .ok (.aload_n 0, 1) := by decide +kernel
theorem dX1_eliminate_46 : decode cX1_eliminate 46 = .ok (.iload_n 1, 1) := by decide +kernel
theorem dX1_eliminate_47 : decode cX1_eliminate 47 = .ok (.aload_n 0, 1) := by decide +kernel
theorem dX1_eliminate_48 : decode cX1_eliminate 48 = .ok (.getfield 11, 3) := by decide +kernel
theorem dX1_eliminate_51 : decode cX1_eliminate 51 = .ok (.iload_n 1, 1) := by decide +kernel
theorem dX1_eliminate_52 : decode cX1_eliminate 52 = .ok (.bipush 7, 2) := by decide +kernel
theorem dX1_eliminate_54 : decode cX1_eliminate 54 = .ok (.imul, 1) := by decide +kernel
theorem dX1_eliminate_55 : decode cX1_eliminate 55 = .ok (.iload_n 1, 1) := by decide +kernel
theorem dX1_eliminate_56 : decode cX1_eliminate 56 = .ok (.iadd, 1) := by decide +kernel
theorem dX1_eliminate_57 : decode cX1_eliminate 57 = .ok (.iaload, 1) := by decide +kernel
theorem dX1_eliminate_58 : decode cX1_eliminate 58 = .ok (.sipush 255, 3) := by decide +kernel
theorem dX1_eliminate_61 : decode cX1_eliminate 61 = .ok (.invokestatic 48, 3) := by decide +kernel
theorem dX1_eliminate_64 : decode cX1_eliminate 64 = .ok (.invokevirtual 55, 3) := by decide +kernel
theorem dX1_eliminate_67 : decode cX1_eliminate 67 = .ok (.iconst 0, 1) := by decide +kernel
theorem dX1_eliminate_68 : decode cX1_eliminate 68 = .ok (.istore_n 3, 1) := by decide +kernel
theorem dX1_eliminate_69 : decode cX1_eliminate 69 = .ok (.iload_n 3, 1) := by decide +kernel
theorem dX1_eliminate_70 : decode cX1_eliminate 70 = .ok (.aload_n 0, 1) := by decide +kernel
theorem dX1_eliminate_71 : decode cX1_eliminate 71 = .ok (.getfield 19, 3) := by decide +kernel
theorem dX1_eliminate_74 : decode cX1_eliminate 74 = .ok (.if_icmp .ge 31, 3) := by decide +kernel
theorem dX1_eliminate_77 : decode cX1_eliminate 77 = .ok (.iload_n 3, 1) := by decide +kernel
theorem dX1_eliminate_78 : decode cX1_eliminate 78 = .ok (.iload_n 1, 1) := by decide +kernel
theorem dX1_eliminate_79 : decode cX1_eliminate 79 = .ok (.if_icmp .eq 20, 3) := by decide +kernel
theorem dX1_eliminate_82 : decode cX1_eliminate 82 = .ok (.aload_n 0, 1) := by decide +kernel
theorem dX1_eliminate_83 : decode cX1_eliminate 83 = .ok (.iload_n 1, 1) := by decide +kernel
theorem dX1_eliminate_84 : decode cX1_eliminate 84 = .ok (.aload_n 0, 1) := by decide +kernel
theorem dX1_eliminate_85 : decode cX1_eliminate 85 = .ok (.getfield 11, 3) := by decide +kernel
theorem dX1_eliminate_88 : decode cX1_eliminate 88 = .ok (.iload_n 3, 1) := by decide +kernel
theorem dX1_eliminate_89 : decode cX1_eliminate 89 = .ok (.bipush 7, 2) := by decide +kernel
theorem dX1_eliminate_91 : decode cX1_eliminate 91 = .ok (.imul, 1) := by decide +kernel
theorem dX1_eliminate_92 : decode cX1_eliminate 92 = .ok (.iload_n 1, 1) := by decide +kernel
theorem dX1_eliminate_93 : decode cX1_eliminate 93 = .ok (.iadd, 1) := by decide +kernel
theorem dX1_eliminate_94 : decode cX1_eliminate 94 = .ok (.iaload, 1) := by decide +kernel
theorem dX1_eliminate_95 : decode cX1_eliminate 95 = .ok (.iload_n 3, 1) := by decide +kernel
theorem dX1_eliminate_96 : decode cX1_eliminate 96 = .ok (.invokevirtual 58, 3) := by decide +kernel
theorem dX1_eliminate_99 : decode cX1_eliminate 99 = .ok (.iinc 3 1, 3) := by decide +kernel
theorem dX1_eliminate_102 : decode cX1_eliminate 102 = .ok (.goto (-33), 3) := by decide +kernel
theorem dX1_eliminate_105 : decode cX1_eliminate 105 = .ok (.return_, 1) := by decide +kernel
theorem dX1_swapRows_0 : decode cX1_swapRows 0 = .ok (.iconst 0, 1) := by decide +kernel
theorem dX1_swapRows_1 : decode cX1_swapRows 1 = .ok (.istore_n 3, 1) := by decide +kernel
theorem dX1_swapRows_2 : decode cX1_swapRows 2 = .ok (.iload_n 3, 1) := by decide +kernel
theorem dX1_swapRows_3 : decode cX1_swapRows 3 = .ok (.bipush 7, 2) := by decide +kernel
theorem dX1_swapRows_5 : decode cX1_swapRows 5 = .ok (.if_icmp .ge 57, 3) := by decide +kernel
theorem dX1_swapRows_8 : decode cX1_swapRows 8 = .ok (.aload_n 0, 1) := by decide +kernel
theorem dX1_swapRows_9 : decode cX1_swapRows 9 = .ok (.getfield 11, 3) := by decide +kernel
theorem dX1_swapRows_12 : decode cX1_swapRows 12 = .ok (.iload_n 1, 1) := by decide +kernel
theorem dX1_swapRows_13 : decode cX1_swapRows 13 = .ok (.bipush 7, 2) := by decide +kernel
theorem dX1_swapRows_15 : decode cX1_swapRows 15 = .ok (.imul, 1) := by decide +kernel
theorem dX1_swapRows_16 : decode cX1_swapRows 16 = .ok (.iload_n 3, 1) := by decide +kernel
theorem dX1_swapRows_17 : decode cX1_swapRows 17 = .ok (.iadd, 1) := by decide +kernel
theorem dX1_swapRows_18 : decode cX1_swapRows 18 = .ok (.iaload, 1) := by decide +kernel
theorem dX1_swapRows_19 : decode cX1_swapRows 19 = .ok (.istore 4, 2) := by decide +kernel
theorem dX1_swapRows_21 : decode cX1_swapRows 21 = .ok (.aload_n 0, 1) := by decide +kernel
theorem dX1_swapRows_22 : decode cX1_swapRows 22 = .ok (.getfield 11, 3) := by decide +kernel
theorem dX1_swapRows_25 : decode cX1_swapRows 25 = .ok (.iload_n 1, 1) := by decide +kernel
theorem dX1_swapRows_26 : decode cX1_swapRows 26 = .ok (.bipush 7, 2) := by decide +kernel
theorem dX1_swapRows_28 : decode cX1_swapRows 28 = .ok (.imul, 1) := by decide +kernel
theorem dX1_swapRows_29 : decode cX1_swapRows 29 = .ok (.iload_n 3, 1) := by decide +kernel
theorem dX1_swapRows_30 : decode cX1_swapRows 30 = .ok (.iadd, 1) := by decide +kernel
theorem dX1_swapRows_31 : decode cX1_swapRows 31 = .ok (.aload_n 0, 1) := by decide +kernel
theorem dX1_swapRows_32 : decode cX1_swapRows 32 = .ok (.getfield 11, 3) := by decide +kernel
theorem dX1_swapRows_35 : decode cX1_swapRows 35 = .ok (.iload_n 2, 1) := by decide +kernel
theorem dX1_swapRows_36 : decode cX1_swapRows 36 = .ok (.bipush 7, 2) := by decide +kernel
theorem dX1_swapRows_38 : decode cX1_swapRows 38 = .ok (.imul, 1) := by decide +kernel
theorem dX1_swapRows_39 : decode cX1_swapRows 39 = .ok (.iload_n 3, 1) := by decide +kernel
theorem dX1_swapRows_40 : decode cX1_swapRows 40 = .ok (.iadd, 1) := by decide +kernel
theorem dX1_swapRows_41 : decode cX1_swapRows 41 = .ok (.iaload, 1) := by decide +kernel
theorem dX1_swapRows_42 : decode cX1_swapRows 42 = .ok (.iastore, 1) := by decide +kernel
theorem dX1_swapRows_43 : decode cX1_swapRows 43 = .ok (.aload_n 0, 1) := by decide +kernel
theorem dX1_swapRows_44 : decode cX1_swapRows 44 = .ok (.getfield 11, 3) := by decide +kernel
theorem dX1_swapRows_47 : decode cX1_swapRows 47 = .ok (.iload_n 2, 1) := by decide +kernel
theorem dX1_swapRows_48 : decode cX1_swapRows 48 = .ok (.bipush 7, 2) := by decide +kernel
theorem dX1_swapRows_50 : decode cX1_swapRows 50 = .ok (.imul, 1) := by decide +kernel
theorem dX1_swapRows_51 : decode cX1_swapRows 51 = .ok (.iload_n 3, 1) := by decide +kernel
theorem dX1_swapRows_52 : decode cX1_swapRows 52 = .ok (.iadd, 1) := by decide +kernel
theorem dX1_swapRows_53 : decode cX1_swapRows 53 = .ok (.iload 4, 2) := by decide +kernel
theorem dX1_swapRows_55 : decode cX1_swapRows 55 = .ok (.iastore, 1) := by decide +kernel
theorem dX1_swapRows_56 : decode cX1_swapRows 56 = .ok (.iinc 3 1, 3) := by decide +kernel
theorem dX1_swapRows_59 : decode cX1_swapRows 59 = .ok (.goto (-57), 3) := by decide +kernel
theorem dX1_swapRows_62 : decode cX1_swapRows 62 = .ok (.return_, 1) := by decide +kernel
theorem dX1_scaleRow_0 : decode cX1_scaleRow 0 = .ok (.iconst 0, 1) := by decide +kernel
theorem dX1_scaleRow_1 : decode cX1_scaleRow 1 = .ok (.istore_n 3, 1) := by decide +kernel
theorem dX1_scaleRow_2 : decode cX1_scaleRow 2 = .ok (.iload_n 3, 1) := by decide +kernel
theorem dX1_scaleRow_3 : decode cX1_scaleRow 3 = .ok (.aload_n 0, 1) := by decide +kernel
theorem dX1_scaleRow_4 : decode cX1_scaleRow 4 = .ok (.getfield 19, 3) := by decide +kernel
theorem dX1_scaleRow_7 : decode cX1_scaleRow 7 = .ok (.if_icmp .gt 37, 3) := by decide +kernel
theorem dX1_scaleRow_10 : decode cX1_scaleRow 10 = .ok (.iload_n 1, 1) := by decide +kernel
theorem dX1_scaleRow_11 : decode cX1_scaleRow 11 = .ok (.bipush 7, 2) := by decide +kernel
theorem dX1_scaleRow_13 : decode cX1_scaleRow 13 = .ok (.imul, 1) := by decide +kernel
theorem dX1_scaleRow_14 : decode cX1_scaleRow 14 = .ok (.iload_n 3, 1) := by decide +kernel
theorem dX1_scaleRow_15 : decode cX1_scaleRow 15 = .ok (.iadd, 1) := by decide +kernel
theorem dX1_scaleRow_16 : decode cX1_scaleRow 16 = .ok (.istore 4, 2) := by decide +kernel
theorem dX1_scaleRow_18 : decode cX1_scaleRow 18 = .ok (.aload_n 0, 1) := by decide +kernel
theorem dX1_scaleRow_19 : decode cX1_scaleRow 19 = .ok (.getfield 11, 3) := by decide +kernel
theorem dX1_scaleRow_22 : decode cX1_scaleRow 22 = .ok (.iload 4, 2) := by decide +kernel
theorem dX1_scaleRow_24 : decode cX1_scaleRow 24 = .ok (.aload_n 0, 1) := by decide +kernel
theorem dX1_scaleRow_25 : decode cX1_scaleRow 25 = .ok (.getfield 11, 3) := by decide +kernel
theorem dX1_scaleRow_28 : decode cX1_scaleRow 28 = .ok (.iload 4, 2) := by decide +kernel
theorem dX1_scaleRow_30 : decode cX1_scaleRow 30 = .ok (.iaload, 1) := by decide +kernel
theorem dX1_scaleRow_31 : decode cX1_scaleRow 31 = .ok (.iload_n 2, 1) := by decide +kernel
theorem dX1_scaleRow_32 : decode cX1_scaleRow 32 = .ok (.imul, 1) := by decide +kernel
theorem dX1_scaleRow_33 : decode cX1_scaleRow 33 = .ok (.sipush 257, 3) := by decide +kernel
theorem dX1_scaleRow_36 : decode cX1_scaleRow 36 = .ok (.irem, 1) := by decide +kernel
theorem dX1_scaleRow_37 : decode cX1_scaleRow 37 = .ok (.iastore, 1) := by decide +kernel
theorem dX1_scaleRow_38 : decode cX1_scaleRow 38 = .ok (.iinc 3 1, 3) := by decide +kernel
theorem dX1_scaleRow_41 : decode cX1_scaleRow 41 = .ok (.goto (-39), 3) := by decide +kernel
theorem dX1_scaleRow_44 : decode cX1_scaleRow 44 = .ok (.return_, 1) := by decide +kernel
theorem dX1_subtractRow_0 : decode cX1_subtractRow 0 = .ok (.iconst 0, 1) := by decide +kernel
theorem dX1_subtractRow_1 : decode cX1_subtractRow 1 = .ok (.istore 4, 2) := by decide +kernel
theorem dX1_subtractRow_3 : decode cX1_subtractRow 3 = .ok (.iload 4, 2) := by decide +kernel
theorem dX1_subtractRow_5 : decode cX1_subtractRow 5 = .ok (.aload_n 0, 1) := by decide +kernel
theorem dX1_subtractRow_6 : decode cX1_subtractRow 6 = .ok (.getfield 19, 3) := by decide +kernel
theorem dX1_subtractRow_9 : decode cX1_subtractRow 9 = .ok (.if_icmp .gt 55, 3) := by decide +kernel
theorem dX1_subtractRow_12 : decode cX1_subtractRow 12 = .ok (.iload_n 3, 1) := by decide +kernel
theorem dX1_subtractRow_13 : decode cX1_subtractRow 13 = .ok (.bipush 7, 2) := by decide +kernel
theorem dX1_subtractRow_15 : decode cX1_subtractRow 15 = .ok (.imul, 1) := by decide +kernel
theorem dX1_subtractRow_16 : decode cX1_subtractRow 16 = .ok (.iload 4, 2) := by decide +kernel
theorem dX1_subtractRow_18 : decode cX1_subtractRow 18 = .ok (.iadd, 1) := by decide +kernel
theorem dX1_subtractRow_19 : decode cX1_subtractRow 19 = .ok (.istore 5, 2) := by decide +kernel
theorem dX1_subtractRow_21 : decode cX1_subtractRow 21 = .ok (.aload_n 0, 1) := by decide +kernel
theorem dX1_subtractRow_22 : decode cX1_subtractRow 22 = .ok (.getfield 11, 3) := by decide +kernel
theorem dX1_subtractRow_25 : decode cX1_subtractRow 25 = .ok (.iload 5, 2) := by decide +kernel
theorem dX1_subtractRow_27 : decode cX1_subtractRow 27 = .ok (.aload_n 0, 1) := by decide +kernel
theorem dX1_subtractRow_28 : decode cX1_subtractRow 28 = .ok (.getfield 11, 3) := by decide +kernel
theorem dX1_subtractRow_31 : decode cX1_subtractRow 31 = .ok (.iload 5, 2) := by decide +kernel
theorem dX1_subtractRow_33 : decode cX1_subtractRow 33 = .ok (.iaload, 1) := by decide +kernel
theorem dX1_subtractRow_34 : decode cX1_subtractRow 34 = .ok (.sipush 257, 3) := by decide +kernel
theorem dX1_subtractRow_37 : decode cX1_subtractRow 37 = .ok (.iload_n 2, 1) := by decide +kernel
theorem dX1_subtractRow_38 : decode cX1_subtractRow 38 = .ok (.isub, 1) := by decide +kernel
theorem dX1_subtractRow_39 : decode cX1_subtractRow 39 = .ok (.aload_n 0, 1) := by decide +kernel
theorem dX1_subtractRow_40 : decode cX1_subtractRow 40 = .ok (.getfield 11, 3) := by decide +kernel
theorem dX1_subtractRow_43 : decode cX1_subtractRow 43 = .ok (.iload_n 1, 1) := by decide +kernel
theorem dX1_subtractRow_44 : decode cX1_subtractRow 44 = .ok (.bipush 7, 2) := by decide +kernel
theorem dX1_subtractRow_46 : decode cX1_subtractRow 46 = .ok (.imul, 1) := by decide +kernel
theorem dX1_subtractRow_47 : decode cX1_subtractRow 47 = .ok (.iload 4, 2) := by decide +kernel
theorem dX1_subtractRow_49 : decode cX1_subtractRow 49 = .ok (.iadd, 1) := by decide +kernel
theorem dX1_subtractRow_50 : decode cX1_subtractRow 50 = .ok (.iaload, 1) := by decide +kernel
theorem dX1_subtractRow_51 : decode cX1_subtractRow 51 = .ok (.imul, 1) := by decide +kernel
theorem dX1_subtractRow_52 : decode cX1_subtractRow 52 = .ok (.iadd, 1) := by decide +kernel
theorem dX1_subtractRow_53 : decode cX1_subtractRow 53 = .ok (.sipush 257, 3) := by decide +kernel
theorem dX1_subtractRow_56 : decode cX1_subtractRow 56 = .ok (.irem, 1) := by decide +kernel
theorem dX1_subtractRow_57 : decode cX1_subtractRow 57 = .ok (.iastore, 1) := by decide +kernel
theorem dX1_subtractRow_58 : decode cX1_subtractRow 58 = .ok (.iinc 4 1, 3) := by decide +kernel
theorem dX1_subtractRow_61 : decode cX1_subtractRow 61 = .ok (.goto (-58), 3) := by decide +kernel
theorem dX1_subtractRow_64 : decode cX1_subtractRow 64 = .ok (.return_, 1) := by decide +kernel
theorem dX2_init_0 : decode cX2_init 0 = .ok (.aload_n 0, 1) := by decide +kernel
theorem dX2_init_1 : decode cX2_init 1 = .ok (.invokespecial 3, 3) := by decide +kernel
theorem dX2_init_4 : decode cX2_init 4 = .ok (.aload_n 0, 1) := by decide +kernel
theorem dX2_init_5 : decode cX2_init 5 = .ok (.bipush 8, 2) := by decide +kernel
theorem dX2_init_7 : decode cX2_init 7 = .ok (.newarray .int, 2) := by decide +kernel
theorem dX2_init_9 : decode cX2_init 9 = .ok (.putfield 9, 3) := by decide +kernel
theorem dX2_init_12 : decode cX2_init 12 = .ok (.aload_n 0, 1) := by decide +kernel
theorem dX2_init_13 : decode cX2_init 13 = .ok (.bipush 8, 2) := by decide +kernel
theorem dX2_init_15 : decode cX2_init 15 = .ok (.newarray .int, 2) := by decide +kernel
theorem dX2_init_17 : decode cX2_init 17 = .ok (.putfield 15, 3) := by decide +kernel
theorem dX2_init_20 : decode cX2_init 20 = .ok (.aload_n 0, 1) := by decide +kernel
theorem dX2_init_21 : decode cX2_init 21 = .ok (.bipush 8, 2) := by decide +kernel
theorem dX2_init_23 : decode cX2_init 23 = .ok (.newarray .int, 2) := by decide +kernel
theorem dX2_init_25 : decode cX2_init 25 = .ok (.putfield 18, 3) := by decide +kernel
theorem dX2_init_28 : decode cX2_init 28 = .ok (.aload_n 0, 1) := by decide +kernel
theorem dX2_init_29 : decode cX2_init 29 = .ok (.bipush 80, 2) := by decide +kernel
theorem dX2_init_31 : decode cX2_init 31 = .ok (.newarray .int, 2) := by decide +kernel
theorem dX2_init_33 : decode cX2_init 33 = .ok (.putfield 21, 3) := by decide +kernel
theorem dX2_init_36 : decode cX2_init 36 = .ok (.aload_n 0, 1) := by decide +kernel
theorem dX2_init_37 : decode cX2_init 37 = .ok (.bipush 80, 2) := by decide +kernel
theorem dX2_init_39 : decode cX2_init 39 = .ok (.newarray .int, 2) := by decide +kernel
theorem dX2_init_41 : decode cX2_init 41 = .ok (.putfield 24, 3) := by decide +kernel
theorem dX2_init_44 : decode cX2_init 44 = .ok (.aload_n 0, 1) := by decide +kernel
theorem dX2_init_45 : decode cX2_init 45 = .ok (.bipush 80, 2) := by decide +kernel
theorem dX2_init_47 : decode cX2_init 47 = .ok (.newarray .int, 2) := by decide +kernel
theorem dX2_init_49 : decode cX2_init 49 = .ok (.putfield 27, 3) := by decide +kernel
theorem dX2_init_52 : decode cX2_init 52 = .ok (.aload_n 0, 1) := by decide +kernel
theorem dX2_init_53 : decode cX2_init 53 = .ok (.getfield 18, 3) := by decide +kernel
theorem dX2_init_56 : decode cX2_init 56 = .ok (.iconst (-1), 1) := by decide +kernel
theorem dX2_init_57 : decode cX2_init 57 = .ok (.invokestatic 30, 3) := by decide +kernel
theorem dX2_init_60 : decode cX2_init 60 = .ok (.aload_n 0, 1) := by decide +kernel
theorem dX2_init_61 : decode cX2_init 61 = .ok (.getfield 24, 3) := by decide +kernel
theorem dX2_init_64 : decode cX2_init 64 = .ok (.iconst (-1), 1) := by decide +kernel
theorem dX2_init_65 : decode cX2_init 65 = .ok (.invokestatic 30, 3) := by decide +kernel
theorem dX2_init_68 : decode cX2_init 68 = .ok (.return_, 1) := by decide +kernel
theorem dX2_copyFrom_0 : decode cX2_copyFrom 0 = .ok (.aload_n 1, 1) := by decide +kernel
theorem dX2_copyFrom_1 : decode cX2_copyFrom 1 = .ok (.getfield 9, 3) := by decide +kernel
theorem dX2_copyFrom_4 : decode cX2_copyFrom 4 = .ok (.aload_n 0, 1) := by decide +kernel
theorem dX2_copyFrom_5 : decode cX2_copyFrom 5 = .ok (.getfield 9, 3) := by decide +kernel
theorem dX2_copyFrom_8 : decode cX2_copyFrom 8 = .ok (.invokestatic 36, 3) := by decide +kernel
theorem dX2_copyFrom_11 : decode cX2_copyFrom 11 = .ok (.aload_n 1, 1) := by decide +kernel
theorem dX2_copyFrom_12 : decode cX2_copyFrom 12 = .ok (.getfield 15, 3) := by decide +kernel
theorem dX2_copyFrom_15 : decode cX2_copyFrom 15 = .ok (.aload_n 0, 1) := by decide +kernel
theorem dX2_copyFrom_16 : decode cX2_copyFrom 16 = .ok (.getfield 15, 3) := by decide +kernel
theorem dX2_copyFrom_19 : decode cX2_copyFrom 19 = .ok (.invokestatic 36, 3) := by decide +kernel
theorem dX2_copyFrom_22 : decode cX2_copyFrom 22 = .ok (.aload_n 1, 1) := by decide +kernel
theorem dX2_copyFrom_23 : decode cX2_copyFrom 23 = .ok (.getfield 18, 3) := by decide +kernel
theorem dX2_copyFrom_26 : decode cX2_copyFrom 26 = .ok (.aload_n 0, 1) := by decide +kernel
theorem dX2_copyFrom_27 : decode cX2_copyFrom 27 = .ok (.getfield 18, 3) := by decide +kernel
theorem dX2_copyFrom_30 : decode cX2_copyFrom 30 = .ok (.invokestatic 36, 3) := by decide +kernel
theorem dX2_copyFrom_33 : decode cX2_copyFrom 33 = .ok (.aload_n 1, 1) := by decide +kernel
theorem dX2_copyFrom_34 : decode cX2_copyFrom 34 = .ok (.getfield 21, 3) := by decide +kernel
theorem dX2_copyFrom_37 : decode cX2_copyFrom 37 = .ok (.aload_n 0, 1) := by decide +kernel
theorem dX2_copyFrom_38 : decode cX2_copyFrom 38 = .ok (.getfield 21, 3) := by decide +kernel
theorem dX2_copyFrom_41 : decode cX2_copyFrom 41 = .ok (.invokestatic 36, 3) := by decide +kernel
theorem dX2_copyFrom_44 : decode cX2_copyFrom 44 = .ok (.aload_n 1, 1) := by decide +kernel
theorem dX2_copyFrom_45 : decode cX2_copyFrom 45 = .ok (.getfield 24, 3) := by decide +kernel
theorem dX2_copyFrom_48 : decode cX2_copyFrom 48 = .ok (.aload_n 0, 1) := by decide +kernel
theorem dX2_copyFrom_49 : decode cX2_copyFrom 49 = .ok (.getfield 24, 3) := by decide +kernel
theorem dX2_copyFrom_52 : decode cX2_copyFrom 52 = .ok (.invokestatic 36, 3) := by decide +kernel
theorem dX2_copyFrom_55 : decode cX2_copyFrom 55 = .ok (.aload_n 1, 1) := by decide +kernel
theorem dX2_copyFrom_56 : decode cX2_copyFrom 56 = .ok (.getfield 27, 3) := by decide +kernel
theorem dX2_copyFrom_59 : decode cX2_copyFrom 59 = .ok (.aload_n 0, 1) := by decide +kernel
theorem dX2_copyFrom_60 : decode cX2_copyFrom 60 = .ok (.getfield 27, 3) := by decide +kernel
theorem dX2_copyFrom_63 : decode cX2_copyFrom 63 = .ok (.invokestatic 36, 3) := by decide +kernel
theorem dX2_copyFrom_66 : decode cX2_copyFrom 66 = .ok (.return_, 1) := by decide +kernel
theorem dX2_exists_0 : decode cX2_exists 0 = .ok (.iload_n 1, 1) := by decide +kernel
theorem dX2_exists_1 : decode cX2_exists 1 = .ok (.ifCond .lt 22, 3) := by decide +kernel
theorem dX2_exists_4 : decode cX2_exists 4 = .ok (.iload_n 1, 1) := by decide +kernel
theorem dX2_exists_5 : decode cX2_exists 5 = .ok (.bipush 8, 2) := by decide +kernel
theorem dX2_exists_7 : decode cX2_exists 7 = .ok (.if_icmp .ge 16, 3) := by decide +kernel
theorem dX2_exists_10 : decode cX2_exists 10 = .ok (.aload_n 0, 1) := by decide +kernel
theorem dX2_exists_11 : decode cX2_exists 11 = .ok (.getfield 9, 3) := by decide +kernel
theorem dX2_exists_14 : decode cX2_exists 14 = .ok (.iload_n 1, 1) := by decide +kernel
theorem dX2_exists_15 : decode cX2_exists 15 = .ok (.iaload, 1) := by decide +kernel
theorem dX2_exists_16 : decode cX2_exists 16 = .ok (.ifCond .le 7, 3) := by decide +kernel
theorem dX2_exists_19 : decode cX2_exists 19 = .ok (.iconst 1, 1) := by decide +kernel
theorem dX2_exists_20 : decode cX2_exists 20 = .ok (.goto 4, 3) := by decide +kernel
theorem dX2_exists_23 : decode cX2_exists 23 = .ok (.iconst 0, 1) := by decide +kernel
theorem dX2_exists_24 : decode cX2_exists 24 = .ok (.ireturn, 1) := by decide +kernel
theorem dX2_dataOf_0 : decode cX2_dataOf 0 = .ok (.iload_n 1, 1) := by decide +kernel
theorem dX2_dataOf_1 : decode cX2_dataOf 1 = .ok (.ifCond .lt 18, 3) := by decide +kernel
theorem dX2_dataOf_4 : decode cX2_dataOf 4 = .ok (.iload_n 1, 1) := by decide +kernel
theorem dX2_dataOf_5 : decode cX2_dataOf 5 = .ok (.bipush 8, 2) := by decide +kernel
theorem dX2_dataOf_7 : decode cX2_dataOf 7 = .ok (.if_icmp .ge 12, 3) := by decide +kernel
theorem dX2_dataOf_10 : decode cX2_dataOf 10 = .ok (.aload_n 0, 1) := by decide +kernel
theorem dX2_dataOf_11 : decode cX2_dataOf 11 = .ok (.getfield 9, 3) := by decide +kernel
theorem dX2_dataOf_14 : decode cX2_dataOf 14 = .ok (.iload_n 1, 1) := by decide +kernel
theorem dX2_dataOf_15 : decode cX2_dataOf 15 = .ok (.iaload, 1) := by decide +kernel
theorem dX2_dataOf_16 : decode cX2_dataOf 16 = .ok (.goto 4, 3) := by decide +kernel
theorem dX2_dataOf_19 : decode cX2_dataOf 19 = .ok (.iconst 0, 1) := by decide +kernel
theorem dX2_dataOf_20 : decode cX2_dataOf 20 = .ok (.ireturn, 1) := by decide +kernel
theorem dX2_fragmentNumber_0 : decode cX2_fragmentNumber 0 = .ok (.iload_n 1, 1) := by decide +kernel
theorem dX2_fragmentNumber_1 : decode cX2_fragmentNumber 1 = .ok (.ifCond .lt 25, 3) := by decide +kernel
theorem dX2_fragmentNumber_4 : decode cX2_fragmentNumber 4 = .ok (.iload_n 1, 1) := by decide +kernel
theorem dX2_fragmentNumber_5 : decode cX2_fragmentNumber 5 = .ok (.bipush 8, 2) := by decide +kernel
theorem dX2_fragmentNumber_7 : decode cX2_fragmentNumber 7 = .ok (.if_icmp .ge 19, 3) := by decide +kernel
theorem dX2_fragmentNumber_10 : decode cX2_fragmentNumber 10 = .ok (.aload_n 0, 1) := by decide +kernel
theorem dX2_fragmentNumber_11 : decode cX2_fragmentNumber 11 = .ok (.getfield 9, 3) := by decide +kernel
theorem dX2_fragmentNumber_14 : decode cX2_fragmentNumber 14 = .ok (.iload_n 1, 1) := by decide +kernel
theorem dX2_fragmentNumber_15 : decode cX2_fragmentNumber 15 = .ok (.iaload, 1) := by decide +kernel
theorem dX2_fragmentNumber_16 : decode cX2_fragmentNumber 16 = .ok (.aload_n 0, 1) := by decide +kernel
theorem dX2_fragmentNumber_17 : decode cX2_fragmentNumber 17 = .ok (.getfield 15, 3) := by decide +kernel
theorem dX2_fragmentNumber_20 : decode cX2_fragmentNumber 20 = .ok (.iload_n 1, 1) := by decide +kernel
theorem dX2_fragmentNumber_21 : decode cX2_fragmentNumber 21 = .ok (.iaload, 1) := by decide +kernel
theorem dX2_fragmentNumber_22 : decode cX2_fragmentNumber 22 = .ok (.iadd, 1) := by decide +kernel
theorem dX2_fragmentNumber_23 : decode cX2_fragmentNumber 23 = .ok (.goto 4, 3) := by decide +kernel
theorem dX2_fragmentNumber_26 : decode cX2_fragmentNumber 26 = .ok (.iconst 0, 1) := by decide +kernel
theorem dX2_fragmentNumber_27 : decode cX2_fragmentNumber 27 = .ok (.ireturn, 1) := by decide +kernel
theorem dX2_hasFragment_0 : decode cX2_hasFragment 0 = .ok (.iload_n 2, 1) := by decide +kernel
theorem dX2_hasFragment_1 : decode cX2_hasFragment 1 = .ok (.ifCond .lt 16, 3) := by decide +kernel
theorem dX2_hasFragment_4 : decode cX2_hasFragment 4 = .ok (.iload_n 2, 1) := by decide +kernel
theorem dX2_hasFragment_5 : decode cX2_hasFragment 5 = .ok (.aload_n 0, 1) := by decide +kernel
theorem dX2_hasFragment_6 : decode cX2_hasFragment 6 = .ok (.iload_n 1, 1) := by decide +kernel
theorem dX2_hasFragment_7 : decode cX2_hasFragment 7 = .ok (.invokevirtual 40, 3) := by decide +kernel
theorem dX2_hasFragment_10 : decode cX2_hasFragment 10 = .ok (.if_icmp .ge 7, 3) := by decide +kernel
theorem dX2_hasFragment_13 : decode cX2_hasFragment 13 = .ok (.iconst 1, 1) := by decide +kernel
theorem dX2_hasFragment_14 : decode cX2_hasFragment 14 = .ok (.goto 4, 3) := by decide +kernel
theorem dX2_hasFragment_17 : decode cX2_hasFragment 17 = .ok (.iconst 0, 1) := by decide +kernel
theorem dX2_hasFragment_18 : decode cX2_hasFragment 18 = .ok (.ireturn, 1) := by decide +kernel
theorem dX2_hasData_0 : decode cX2_hasData 0 = .ok (.iload_n 2, 1) := by decide +kernel
theorem dX2_hasData_1 : decode cX2_hasData 1 = .ok (.ifCond .lt 16, 3) := by decide +kernel
theorem dX2_hasData_4 : decode cX2_hasData 4 = .ok (.iload_n 2, 1) := by decide +kernel
theorem dX2_hasData_5 : decode cX2_hasData 5 = .ok (.aload_n 0, 1) := by decide +kernel
theorem dX2_hasData_6 : decode cX2_hasData 6 = .ok (.iload_n 1, 1) := by decide +kernel
theorem dX2_hasData_7 : decode cX2_hasData 7 = .ok (.invokevirtual 44, 3) := by decide +kernel
theorem dX2_hasData_10 : decode cX2_hasData 10 = .ok (.if_icmp .ge 7, 3) := by decide +kernel
theorem dX2_hasData_13 : decode cX2_hasData 13 = .ok (.iconst 1, 1) := by decide +kernel
theorem dX2_hasData_14 : decode cX2_hasData 14 = .ok (.goto 4, 3) := by decide +kernel
theorem dX2_hasData_17 : decode cX2_hasData 17 = .ok (.iconst 0, 1) := by decide +kernel
theorem dX2_hasData_18 : decode cX2_hasData 18 = .ok (.ireturn, 1) := by decide +kernel
theorem dX2_ownerOf_0 : decode cX2_ownerOf 0 = .ok (.iload_n 1, 1) := by decide +kernel
theorem dX2_ownerOf_1 : decode cX2_ownerOf 1 = .ok (.ifCond .lt 18, 3) := by decide +kernel
theorem dX2_ownerOf_4 : decode cX2_ownerOf 4 = .ok (.iload_n 1, 1) := by decide +kernel
theorem dX2_ownerOf_5 : decode cX2_ownerOf 5 = .ok (.bipush 8, 2) := by decide +kernel
theorem dX2_ownerOf_7 : decode cX2_ownerOf 7 = .ok (.if_icmp .ge 12, 3) := by decide +kernel
theorem dX2_ownerOf_10 : decode cX2_ownerOf 10 = .ok (.aload_n 0, 1) := by decide +kernel
theorem dX2_ownerOf_11 : decode cX2_ownerOf 11 = .ok (.getfield 18, 3) := by decide +kernel
theorem dX2_ownerOf_14 : decode cX2_ownerOf 14 = .ok (.iload_n 1, 1) := by decide +kernel
theorem dX2_ownerOf_15 : decode cX2_ownerOf 15 = .ok (.iaload, 1) := by decide +kernel
theorem dX2_ownerOf_16 : decode cX2_ownerOf 16 = .ok (.goto 4, 3) := by decide +kernel
theorem dX2_ownerOf_19 : decode cX2_ownerOf 19 = .ok (.iconst (-1), 1) := by decide +kernel
theorem dX2_ownerOf_20 : decode cX2_ownerOf 20 = .ok (.ireturn, 1) := by decide +kernel
theorem dX2_isInRows_0 : decode cX2_isInRows 0 = .ok (.iload_n 0, 1) := by decide +kernel
theorem dX2_isInRows_1 : decode cX2_isInRows 1 = .ok (.ifCond .lt 23, 3) := by decide +kernel
theorem dX2_isInRows_4 : decode cX2_isInRows 4 = .ok (.iload_n 0, 1) := by decide +kernel
theorem dX2_isInRows_5 : decode cX2_isInRows 5 = .ok (.bipush 8, 2) := by decide +kernel
theorem dX2_isInRows_7 : decode cX2_isInRows 7 = .ok (.if_icmp .ge 17, 3) := by decide +kernel
theorem dX2_isInRows_10 : decode cX2_isInRows 10 = .ok (.iload_n 1, 1) := by decide +kernel
theorem dX2_isInRows_11 : decode cX2_isInRows 11 = .ok (.ifCond .lt 13, 3) := by decide +kernel
theorem dX2_isInRows_14 : decode cX2_isInRows 14 = .ok (.iload_n 1, 1) := by decide +kernel
theorem dX2_isInRows_15 : decode cX2_isInRows 15 = .ok (.bipush 10, 2) := by decide +kernel
theorem dX2_isInRows_17 : decode cX2_isInRows 17 = .ok (.if_icmp .ge 7, 3) := by decide +kernel
theorem dX2_isInRows_20 : decode cX2_isInRows 20 = .ok (.iconst 1, 1) := by decide +kernel
theorem dX2_isInRows_21 : decode cX2_isInRows 21 = .ok (.goto 4, 3) := by decide +kernel
theorem dX2_isInRows_24 : decode cX2_isInRows 24 = .ok (.iconst 0, 1) := by decide +kernel
theorem dX2_isInRows_25 : decode cX2_isInRows 25 = .ok (.ireturn, 1) := by decide +kernel
theorem dX2_placeOf_0 : decode cX2_placeOf 0 = .ok (.iload_n 1, 1) := by decide +kernel
theorem dX2_placeOf_1 : decode cX2_placeOf 1 = .ok (.iload_n 2, 1) := by decide +kernel
theorem dX2_placeOf_2 : decode cX2_placeOf 2 = .ok (.invokestatic 47, 3) := by decide +kernel
theorem dX2_placeOf_5 : decode cX2_placeOf 5 = .ok (.ifCond .eq 17, 3) := by decide +kernel
theorem dX2_placeOf_8 : decode cX2_placeOf 8 = .ok (.aload_n 0, 1) := by decide +kernel
theorem dX2_placeOf_9 : decode cX2_placeOf 9 = .ok (.getfield 24, 3) := by decide +kernel
theorem dX2_placeOf_12 : decode cX2_placeOf 12 = .ok (.iload_n 1, 1) := by decide +kernel
theorem dX2_placeOf_13 : decode cX2_placeOf 13 = .ok (.bipush 10, 2) := by decide +kernel
theorem dX2_placeOf_15 : decode cX2_placeOf 15 = .ok (.imul, 1) := by decide +kernel
theorem dX2_placeOf_16 : decode cX2_placeOf 16 = .ok (.iload_n 2, 1) := by decide +kernel
theorem dX2_placeOf_17 : decode cX2_placeOf 17 = .ok (.iadd, 1) := by decide +kernel
theorem dX2_placeOf_18 : decode cX2_placeOf 18 = .ok (.iaload, 1) := by decide +kernel
theorem dX2_placeOf_19 : decode cX2_placeOf 19 = .ok (.goto 4, 3) := by decide +kernel
theorem dX2_placeOf_22 : decode cX2_placeOf 22 = .ok (.iconst (-1), 1) := by decide +kernel
theorem dX2_placeOf_23 : decode cX2_placeOf 23 = .ok (.ireturn, 1) := by decide +kernel
theorem dX2_correctValue_0 : decode cX2_correctValue 0 = .ok (.iload_n 1, 1) := by decide +kernel
theorem dX2_correctValue_1 : decode cX2_correctValue 1 = .ok (.iload_n 2, 1) := by decide +kernel
theorem dX2_correctValue_2 : decode cX2_correctValue 2 = .ok (.invokestatic 47, 3) := by decide +kernel
theorem dX2_correctValue_5 : decode cX2_correctValue 5 = .ok (.ifCond .eq 17, 3) := by decide +kernel
theorem dX2_correctValue_8 : decode cX2_correctValue 8 = .ok (.aload_n 0, 1) := by decide +kernel
theorem dX2_correctValue_9 : decode cX2_correctValue 9 = .ok (.getfield 21, 3) := by decide +kernel
theorem dX2_correctValue_12 : decode cX2_correctValue 12 = .ok (.iload_n 1, 1) := by decide +kernel
theorem dX2_correctValue_13 : decode cX2_correctValue 13 = .ok (.bipush 10, 2) := by decide +kernel
theorem dX2_correctValue_15 : decode cX2_correctValue 15 = .ok (.imul, 1) := by decide +kernel
theorem dX2_correctValue_16 : decode cX2_correctValue 16 = .ok (.iload_n 2, 1) := by decide +kernel
theorem dX2_correctValue_17 : decode cX2_correctValue 17 = .ok (.iadd, 1) := by decide +kernel
theorem dX2_correctValue_18 : decode cX2_correctValue 18 = .ok (.iaload, 1) := by decide +kernel
theorem dX2_correctValue_19 : decode cX2_correctValue 19 = .ok (.goto 4, 3) := by decide +kernel
theorem dX2_correctValue_22 : decode cX2_correctValue 22 = .ok (.iconst 0, 1) := by decide +kernel
theorem dX2_correctValue_23 : decode cX2_correctValue 23 = .ok (.ireturn, 1) := by decide +kernel
theorem dX2_errorOf_0 : decode cX2_errorOf 0 = .ok (.iload_n 1, 1) := by decide +kernel
theorem dX2_errorOf_1 : decode cX2_errorOf 1 = .ok (.iload_n 2, 1) := by decide +kernel
theorem dX2_errorOf_2 : decode cX2_errorOf 2 = .ok (.invokestatic 47, 3) := by decide +kernel
theorem dX2_errorOf_5 : decode cX2_errorOf 5 = .ok (.ifCond .eq 17, 3) := by decide +kernel
theorem dX2_errorOf_8 : decode cX2_errorOf 8 = .ok (.aload_n 0, 1) := by decide +kernel
theorem dX2_errorOf_9 : decode cX2_errorOf 9 = .ok (.getfield 27, 3) := by decide +kernel
theorem dX2_errorOf_12 : decode cX2_errorOf 12 = .ok (.iload_n 1, 1) := by decide +kernel
theorem dX2_errorOf_13 : decode cX2_errorOf 13 = .ok (.bipush 10, 2) := by decide +kernel
theorem dX2_errorOf_15 : decode cX2_errorOf 15 = .ok (.imul, 1) := by decide +kernel
theorem dX2_errorOf_16 : decode cX2_errorOf 16 = .ok (.iload_n 2, 1) := by decide +kernel
theorem dX2_errorOf_17 : decode cX2_errorOf 17 = .ok (.iadd, 1) := by decide +kernel
theorem dX2_errorOf_18 : decode cX2_errorOf 18 = .ok (.iaload, 1) := by decide +kernel
theorem dX2_errorOf_19 : decode cX2_errorOf 19 = .ok (.goto 4, 3) := by decide +kernel
theorem dX2_errorOf_22 : decode cX2_errorOf 22 = .ok (.iconst 0, 1) := by decide +kernel
theorem dX2_errorOf_23 : decode cX2_errorOf 23 = .ok (.ireturn, 1) := by decide +kernel
theorem dX2_storedValue_0 : decode cX2_storedValue 0 = .ok (.aload_n 0, 1) := by decide +kernel
theorem dX2_storedValue_1 : decode cX2_storedValue 1 = .ok (.iload_n 1, 1) := by decide +kernel
theorem dX2_storedValue_2 : decode cX2_storedValue 2 = .ok (.iload_n 2, 1) := by decide +kernel
theorem dX2_storedValue_3 : decode cX2_storedValue 3 = .ok (.invokevirtual 51, 3) := by decide +kernel
theorem dX2_storedValue_6 : decode cX2_storedValue 6 = .ok (.aload_n 0, 1) := by decide +kernel
theorem dX2_storedValue_7 : decode cX2_storedValue 7 = .ok (.iload_n 1, 1) := by decide +kernel
theorem dX2_storedValue_8 : decode cX2_storedValue 8 = .ok (.iload_n 2, 1) := by decide +kernel
theorem dX2_storedValue_9 : decode cX2_storedValue 9 = .ok (.invokevirtual 55, 3) := by decide +kernel
theorem dX2_storedValue_12 : decode cX2_storedValue 12 = .ok (.iadd, 1) := by decide +kernel
theorem dX2_storedValue_13 : decode cX2_storedValue 13 = .ok (.sipush 257, 3) := by decide +kernel
theorem dX2_storedValue_16 : decode cX2_storedValue 16 = .ok (.irem, 1) := by decide +kernel
theorem dX2_storedValue_17 : decode cX2_storedValue 17 = .ok (.ireturn, 1) := by decide +kernel
theorem dX2_isStored_0 : decode cX2_isStored 0 = .ok (.aload_n 0, 1) := by decide +kernel
theorem dX2_isStored_1 : decode cX2_isStored 1 = .ok (.iload_n 1, 1) := by decide +kernel
theorem dX2_isStored_2 : decode cX2_isStored 2 = .ok (.iload_n 2, 1) := by decide +kernel
theorem dX2_isStored_3 : decode cX2_isStored 3 = .ok (.invokevirtual 58, 3) := by decide +kernel
theorem dX2_isStored_6 : decode cX2_isStored 6 = .ok (.iconst (-1), 1) := by decide +kernel
theorem dX2_isStored_7 : decode cX2_isStored 7 = .ok (.if_icmp .eq 7, 3) := by decide +kernel
theorem dX2_isStored_10 : decode cX2_isStored 10 = .ok (.iconst 1, 1) := by decide +kernel
theorem dX2_isStored_11 : decode cX2_isStored 11 = .ok (.goto 4, 3) := by decide +kernel
theorem dX2_isStored_14 : decode cX2_isStored 14 = .ok (.iconst 0, 1) := by decide +kernel
theorem dX2_isStored_15 : decode cX2_isStored 15 = .ok (.ireturn, 1) := by decide +kernel
theorem dX2_isSpoiled_0 : decode cX2_isSpoiled 0 = .ok (.aload_n 0, 1) := by decide +kernel
theorem dX2_isSpoiled_1 : decode cX2_isSpoiled 1 = .ok (.iload_n 1, 1) := by decide +kernel
theorem dX2_isSpoiled_2 : decode cX2_isSpoiled 2 = .ok (.iload_n 2, 1) := by decide +kernel
theorem dX2_isSpoiled_3 : decode cX2_isSpoiled 3 = .ok (.invokevirtual 61, 3) := by decide +kernel
theorem dX2_isSpoiled_6 : decode cX2_isSpoiled 6 = .ok (.ifCond .eq 16, 3) := by decide +kernel
theorem dX2_isSpoiled_9 : decode cX2_isSpoiled 9 = .ok (.aload_n 0, 1) := by decide +kernel
theorem dX2_isSpoiled_10 : decode cX2_isSpoiled 10 = .ok (.iload_n 1, 1) := by decide +kernel
theorem dX2_isSpoiled_11 : decode cX2_isSpoiled 11 = .ok (.iload_n 2, 1) := by decide +kernel
theorem dX2_isSpoiled_12 : decode cX2_isSpoiled 12 = .ok (.invokevirtual 55, 3) := by decide +kernel
theorem dX2_isSpoiled_15 : decode cX2_isSpoiled 15 = .ok (.ifCond .eq 7, 3) := by decide +kernel
theorem dX2_isSpoiled_18 : decode cX2_isSpoiled 18 = .ok (.iconst 1, 1) := by decide +kernel
theorem dX2_isSpoiled_19 : decode cX2_isSpoiled 19 = .ok (.goto 4, 3) := by decide +kernel
theorem dX2_isSpoiled_22 : decode cX2_isSpoiled 22 = .ok (.iconst 0, 1) := by decide +kernel
theorem dX2_isSpoiled_23 : decode cX2_isSpoiled 23 = .ok (.ireturn, 1) := by decide +kernel
theorem dX2_fragmentOn_0 : decode cX2_fragmentOn 0 = .ok (.iload_n 1, 1) := by decide +kernel
theorem dX2_fragmentOn_1 : decode cX2_fragmentOn 1 = .ok (.ifCond .lt 14, 3) := by decide +kernel
theorem dX2_fragmentOn_4 : decode cX2_fragmentOn 4 = .ok (.iload_n 1, 1) := by decide +kernel
theorem dX2_fragmentOn_5 : decode cX2_fragmentOn 5 = .ok (.bipush 8, 2) := by decide +kernel
theorem dX2_fragmentOn_7 : decode cX2_fragmentOn 7 = .ok (.if_icmp .ge 8, 3) := by decide +kernel
theorem dX2_fragmentOn_10 : decode cX2_fragmentOn 10 = .ok (.iload_n 2, 1) := by decide +kernel
theorem dX2_fragmentOn_11 : decode cX2_fragmentOn 11 = .ok (.iconst (-1), 1) := by decide +kernel
theorem dX2_fragmentOn_12 : decode cX2_fragmentOn 12 = .ok (.if_icmp .ne 5, 3) := by decide +kernel
theorem dX2_fragmentOn_15 : decode cX2_fragmentOn 15 = .ok (.iconst (-1), 1) := by decide +kernel
theorem dX2_fragmentOn_16 : decode cX2_fragmentOn 16 = .ok (.ireturn, 1) := by decide +kernel
theorem dX2_fragmentOn_17 : decode cX2_fragmentOn 17 = .ok (.iload_n 1, 1) := by decide +kernel
theorem dX2_fragmentOn_18 : decode cX2_fragmentOn 18 = .ok (.bipush 10, 2) := by decide +kernel
theorem dX2_fragmentOn_20 : decode cX2_fragmentOn 20 = .ok (.imul, 1) := by decide +kernel
theorem dX2_fragmentOn_21 : decode cX2_fragmentOn 21 = .ok (.istore_n 3, 1) := by decide +kernel
theorem dX2_fragmentOn_22 : decode cX2_fragmentOn 22 = .ok (.iconst 0, 1) := by decide +kernel
theorem dX2_fragmentOn_23 : decode cX2_fragmentOn 23 = .ok (.istore 4, 2) := by decide +kernel
theorem dX2_fragmentOn_25 : decode cX2_fragmentOn 25 = .ok (.iload 4, 2) := by decide +kernel
theorem dX2_fragmentOn_27 : decode cX2_fragmentOn 27 = .ok (.bipush 10, 2) := by decide +kernel
theorem dX2_fragmentOn_29 : decode cX2_fragmentOn 29 = .ok (.if_icmp .ge 25, 3) := by decide +kernel
theorem dX2_fragmentOn_32 : decode cX2_fragmentOn 32 = .ok (.aload_n 0, 1) := by decide +kernel
theorem dX2_fragmentOn_33 : decode cX2_fragmentOn 33 = .ok (.getfield 24, 3) := by decide +kernel
theorem dX2_fragmentOn_36 : decode cX2_fragmentOn 36 = .ok (.iload_n 3, 1) := by decide +kernel
theorem dX2_fragmentOn_37 : decode cX2_fragmentOn 37 = .ok (.iload 4, 2) := by decide +kernel
theorem dX2_fragmentOn_39 : decode cX2_fragmentOn 39 = .ok (.iadd, 1) := by decide +kernel
theorem dX2_fragmentOn_40 : decode cX2_fragmentOn 40 = .ok (.iaload, 1) := by decide +kernel
theorem dX2_fragmentOn_41 : decode cX2_fragmentOn 41 = .ok (.iload_n 2, 1) := by decide +kernel
theorem dX2_fragmentOn_42 : decode cX2_fragmentOn 42 = .ok (.if_icmp .ne 6, 3) := by decide +kernel
theorem dX2_fragmentOn_45 : decode cX2_fragmentOn 45 = .ok (.iload 4, 2) := by decide +kernel
theorem dX2_fragmentOn_47 : decode cX2_fragmentOn 47 = .ok (.ireturn, 1) := by decide +kernel
theorem dX2_fragmentOn_48 : decode cX2_fragmentOn 48 = .ok (.iinc 4 1, 3) := by decide +kernel
theorem dX2_fragmentOn_51 : decode cX2_fragmentOn 51 = .ok (.goto (-26), 3) := by decide +kernel
theorem dX2_fragmentOn_54 : decode cX2_fragmentOn 54 = .ok (.iconst (-1), 1) := by decide +kernel
theorem dX2_fragmentOn_55 : decode cX2_fragmentOn 55 = .ok (.ireturn, 1) := by decide +kernel
theorem dX2_number_0 : decode cX2_number 0 = .ok (.iconst 0, 1) := by decide +kernel
theorem dX2_number_1 : decode cX2_number 1 = .ok (.istore_n 1, 1) := by decide +kernel
theorem dX2_number_2 : decode cX2_number 2 = .ok (.iconst 0, 1) := by decide +kernel
theorem dX2_number_3 : decode cX2_number 3 = .ok (.istore_n 2, 1) := by decide +kernel
theorem dX2_number_4 : decode cX2_number 4 = .ok (.iload_n 2, 1) := by decide +kernel
theorem dX2_number_5 : decode cX2_number 5 = .ok (.bipush 8, 2) := by decide +kernel
theorem dX2_number_7 : decode cX2_number 7 = .ok (.if_icmp .ge 20, 3) := by decide +kernel
theorem dX2_number_10 : decode cX2_number 10 = .ok (.aload_n 0, 1) := by decide +kernel
theorem dX2_number_11 : decode cX2_number 11 = .ok (.iload_n 2, 1) := by decide +kernel
theorem dX2_number_12 : decode cX2_number 12 = .ok (.invokevirtual 64, 3) := by decide +kernel
theorem dX2_number_15 : decode cX2_number 15 = .ok (.ifCond .eq 6, 3) := by decide +kernel
theorem dX2_number_18 : decode cX2_number 18 = .ok (.iinc 1 1, 3) := by decide +kernel
theorem dX2_number_21 : decode cX2_number 21 = .ok (.iinc 2 1, 3) := by decide +kernel
theorem dX2_number_24 : decode cX2_number 24 = .ok (.goto (-20), 3) := by decide +kernel
theorem dX2_number_27 : decode cX2_number 27 = .ok (.iload_n 1, 1) := by decide +kernel
theorem dX2_number_28 : decode cX2_number 28 = .ok (.ireturn, 1) := by decide +kernel
theorem dX2_lowestUnused_0 : decode cX2_lowestUnused 0 = .ok (.iconst 0, 1) := by decide +kernel
theorem dX2_lowestUnused_1 : decode cX2_lowestUnused 1 = .ok (.istore_n 1, 1) := by decide +kernel
theorem dX2_lowestUnused_2 : decode cX2_lowestUnused 2 = .ok (.iload_n 1, 1) := by decide +kernel
theorem dX2_lowestUnused_3 : decode cX2_lowestUnused 3 = .ok (.bipush 8, 2) := by decide +kernel
theorem dX2_lowestUnused_5 : decode cX2_lowestUnused 5 = .ok (.if_icmp .ge 19, 3) := by decide +kernel
theorem dX2_lowestUnused_8 : decode cX2_lowestUnused 8 = .ok (.aload_n 0, 1) := by decide +kernel
theorem dX2_lowestUnused_9 : decode cX2_lowestUnused 9 = .ok (.iload_n 1, 1) := by decide +kernel
theorem dX2_lowestUnused_10 : decode cX2_lowestUnused 10 = .ok (.invokevirtual 64, 3) := by decide +kernel
theorem dX2_lowestUnused_13 : decode cX2_lowestUnused 13 = .ok (.ifCond .ne 5, 3) := by decide +kernel
theorem dX2_lowestUnused_16 : decode cX2_lowestUnused 16 = .ok (.iload_n 1, 1) := by decide +kernel
theorem dX2_lowestUnused_17 : decode cX2_lowestUnused 17 = .ok (.ireturn, 1) := by decide +kernel
theorem dX2_lowestUnused_18 : decode cX2_lowestUnused 18 = .ok (.iinc 1 1, 3) := by decide +kernel
theorem dX2_lowestUnused_21 : decode cX2_lowestUnused 21 = .ok (.goto (-19), 3) := by decide +kernel
theorem dX2_lowestUnused_24 : decode cX2_lowestUnused 24 = .ok (.iconst (-1), 1) := by decide +kernel
theorem dX2_lowestUnused_25 : decode cX2_lowestUnused 25 = .ok (.ireturn, 1) := by decide +kernel
theorem dX2_ownedBy_0 : decode cX2_ownedBy 0 = .ok (.iconst 0, 1) := by decide +kernel
theorem dX2_ownedBy_1 : decode cX2_ownedBy 1 = .ok (.istore_n 2, 1) := by decide +kernel
theorem dX2_ownedBy_2 : decode cX2_ownedBy 2 = .ok (.iconst 0, 1) := by decide +kernel
theorem dX2_ownedBy_3 : decode cX2_ownedBy 3 = .ok (.istore_n 3, 1) := by decide +kernel
theorem dX2_ownedBy_4 : decode cX2_ownedBy 4 = .ok (.iload_n 3, 1) := by decide +kernel
theorem dX2_ownedBy_5 : decode cX2_ownedBy 5 = .ok (.bipush 8, 2) := by decide +kernel
theorem dX2_ownedBy_7 : decode cX2_ownedBy 7 = .ok (.if_icmp .ge 29, 3) := by decide +kernel
theorem dX2_ownedBy_10 : decode cX2_ownedBy 10 = .ok (.aload_n 0, 1) := by decide +kernel
theorem dX2_ownedBy_11 : decode cX2_ownedBy 11 = .ok (.iload_n 3, 1) := by decide +kernel
theorem dX2_ownedBy_12 : decode cX2_ownedBy 12 = .ok (.invokevirtual 64, 3) := by decide +kernel
theorem dX2_ownedBy_15 : decode cX2_ownedBy 15 = .ok (.ifCond .eq 15, 3) := by decide +kernel
theorem dX2_ownedBy_18 : decode cX2_ownedBy 18 = .ok (.aload_n 0, 1) := by decide +kernel
theorem dX2_ownedBy_19 : decode cX2_ownedBy 19 = .ok (.iload_n 3, 1) := by decide +kernel
theorem dX2_ownedBy_20 : decode cX2_ownedBy 20 = .ok (.invokevirtual 68, 3) := by decide +kernel
theorem dX2_ownedBy_23 : decode cX2_ownedBy 23 = .ok (.iload_n 1, 1) := by decide +kernel
theorem dX2_ownedBy_24 : decode cX2_ownedBy 24 = .ok (.if_icmp .ne 6, 3) := by decide +kernel
theorem dX2_ownedBy_27 : decode cX2_ownedBy 27 = .ok (.iinc 2 1, 3) := by decide +kernel
theorem dX2_ownedBy_30 : decode cX2_ownedBy 30 = .ok (.iinc 3 1, 3) := by decide +kernel
theorem dX2_ownedBy_33 : decode cX2_ownedBy 33 = .ok (.goto (-29), 3) := by decide +kernel
theorem dX2_ownedBy_36 : decode cX2_ownedBy 36 = .ok (.iload_n 2, 1) := by decide +kernel
theorem dX2_ownedBy_37 : decode cX2_ownedBy 37 = .ok (.ireturn, 1) := by decide +kernel
theorem dX2_storedNumber_0 : decode cX2_storedNumber 0 = .ok (.iconst 0, 1) := by decide +kernel
theorem dX2_storedNumber_1 : decode cX2_storedNumber 1 = .ok (.istore_n 2, 1) := by decide +kernel
theorem dX2_storedNumber_2 : decode cX2_storedNumber 2 = .ok (.aload_n 0, 1) := by decide +kernel
theorem dX2_storedNumber_3 : decode cX2_storedNumber 3 = .ok (.iload_n 1, 1) := by decide +kernel
theorem dX2_storedNumber_4 : decode cX2_storedNumber 4 = .ok (.invokevirtual 40, 3) := by decide +kernel
theorem dX2_storedNumber_7 : decode cX2_storedNumber 7 = .ok (.istore_n 3, 1) := by decide +kernel
theorem dX2_storedNumber_8 : decode cX2_storedNumber 8 = .ok (.iconst 0, 1) := by decide +kernel
theorem dX2_storedNumber_9 : decode cX2_storedNumber 9 = .ok (.istore 4, 2) := by decide +kernel
theorem dX2_storedNumber_11 : decode cX2_storedNumber 11 = .ok (.iload 4, 2) := by decide +kernel
theorem dX2_storedNumber_13 : decode cX2_storedNumber 13 = .ok (.iload_n 3, 1) := by decide +kernel
theorem dX2_storedNumber_14 : decode cX2_storedNumber 14 = .ok (.if_icmp .ge 22, 3) := by decide +kernel
theorem dX2_storedNumber_17 : decode cX2_storedNumber 17 = .ok (.aload_n 0, 1) := by decide +kernel
theorem dX2_storedNumber_18 : decode cX2_storedNumber 18 = .ok (.iload_n 1, 1) := by decide +kernel
theorem dX2_storedNumber_19 : decode cX2_storedNumber 19 = .ok (.iload 4, 2) := by decide +kernel
theorem dX2_storedNumber_21 : decode cX2_storedNumber 21 = .ok (.invokevirtual 61, 3) := by decide +kernel
theorem dX2_storedNumber_24 : decode cX2_storedNumber 24 = .ok (.ifCond .eq 6, 3) := by decide +kernel
theorem dX2_storedNumber_27 : decode cX2_storedNumber 27 = .ok (.iinc 2 1, 3) := by decide +kernel
theorem dX2_storedNumber_30 : decode cX2_storedNumber 30 = .ok (.iinc 4 1, 3) := by decide +kernel
theorem dX2_storedNumber_33 : decode cX2_storedNumber 33 = .ok (.goto (-22), 3) := by decide +kernel
theorem dX2_storedNumber_36 : decode cX2_storedNumber 36 = .ok (.iload_n 2, 1) := by decide +kernel
theorem dX2_storedNumber_37 : decode cX2_storedNumber 37 = .ok (.ireturn, 1) := by decide +kernel
theorem dX2_spoiledNumber_0 : decode cX2_spoiledNumber 0 = .ok (.iconst 0, 1) := by decide +kernel
theorem dX2_spoiledNumber_1 : decode cX2_spoiledNumber 1 = .ok (.istore_n 2, 1) := by decide +kernel
theorem dX2_spoiledNumber_2 : decode cX2_spoiledNumber 2 = .ok (.aload_n 0, 1) := by decide +kernel
theorem dX2_spoiledNumber_3 : decode cX2_spoiledNumber 3 = .ok (.iload_n 1, 1) := by decide +kernel
theorem dX2_spoiledNumber_4 : decode cX2_spoiledNumber 4 = .ok (.invokevirtual 40, 3) := by decide +kernel
theorem dX2_spoiledNumber_7 : decode cX2_spoiledNumber 7 = .ok (.istore_n 3, 1) := by decide +kernel
theorem dX2_spoiledNumber_8 : decode cX2_spoiledNumber 8 = .ok (.iconst 0, 1) := by decide +kernel
theorem dX2_spoiledNumber_9 : decode cX2_spoiledNumber 9 = .ok (.istore 4, 2) := by decide +kernel
theorem dX2_spoiledNumber_11 : decode cX2_spoiledNumber 11 = .ok (.iload 4, 2) := by decide +kernel
theorem dX2_spoiledNumber_13 : decode cX2_spoiledNumber 13 = .ok (.iload_n 3, 1) := by decide +kernel
theorem dX2_spoiledNumber_14 : decode cX2_spoiledNumber 14 = .ok (.if_icmp .ge 22, 3) := by decide +kernel
theorem dX2_spoiledNumber_17 : decode cX2_spoiledNumber 17 = .ok (.aload_n 0, 1) := by decide +kernel
theorem dX2_spoiledNumber_18 : decode cX2_spoiledNumber 18 = .ok (.iload_n 1, 1) := by decide +kernel
theorem dX2_spoiledNumber_19 : decode cX2_spoiledNumber 19 = .ok (.iload 4, 2) := by decide +kernel
theorem dX2_spoiledNumber_21 : decode cX2_spoiledNumber 21 = .ok (.invokevirtual 71, 3) := by decide +kernel
theorem dX2_spoiledNumber_24 : decode cX2_spoiledNumber 24 = .ok (.ifCond .eq 6, 3) := by decide +kernel
theorem dX2_spoiledNumber_27 : decode cX2_spoiledNumber 27 = .ok (.iinc 2 1, 3) := by decide +kernel
theorem dX2_spoiledNumber_30 : decode cX2_spoiledNumber 30 = .ok (.iinc 4 1, 3) := by decide +kernel
theorem dX2_spoiledNumber_33 : decode cX2_spoiledNumber 33 = .ok (.goto (-22), 3) := by decide +kernel
theorem dX2_spoiledNumber_36 : decode cX2_spoiledNumber 36 = .ok (.iload_n 2, 1) := by decide +kernel
theorem dX2_spoiledNumber_37 : decode cX2_spoiledNumber 37 = .ok (.ireturn, 1) := by decide +kernel
theorem dX2_allStored_0 : decode cX2_allStored 0 = .ok (.iconst 0, 1) := by decide +kernel
theorem dX2_allStored_1 : decode cX2_allStored 1 = .ok (.istore_n 1, 1) := by decide +kernel
theorem dX2_allStored_2 : decode cX2_allStored 2 = .ok (.iconst 0, 1) := by decide +kernel
theorem dX2_allStored_3 : decode cX2_allStored 3 = .ok (.istore_n 2, 1) := by decide +kernel
theorem dX2_allStored_4 : decode cX2_allStored 4 = .ok (.iload_n 2, 1) := by decide +kernel
theorem dX2_allStored_5 : decode cX2_allStored 5 = .ok (.bipush 8, 2) := by decide +kernel
theorem dX2_allStored_7 : decode cX2_allStored 7 = .ok (.if_icmp .ge 17, 3) := by decide +kernel
theorem dX2_allStored_10 : decode cX2_allStored 10 = .ok (.iload_n 1, 1) := by decide +kernel
theorem dX2_allStored_11 : decode cX2_allStored 11 = .ok (.aload_n 0, 1) := by decide +kernel
theorem dX2_allStored_12 : decode cX2_allStored 12 = .ok (.iload_n 2, 1) := by decide +kernel
theorem dX2_allStored_13 : decode cX2_allStored 13 = .ok (.invokevirtual 74, 3) := by decide +kernel
theorem dX2_allStored_16 : decode cX2_allStored 16 = .ok (.iadd, 1) := by decide +kernel
theorem dX2_allStored_17 : decode cX2_allStored 17 = .ok (.istore_n 1, 1) := by decide +kernel
theorem dX2_allStored_18 : decode cX2_allStored 18 = .ok (.iinc 2 1, 3) := by decide +kernel
theorem dX2_allStored_21 : decode cX2_allStored 21 = .ok (.goto (-17), 3) := by decide +kernel
theorem dX2_allStored_24 : decode cX2_allStored 24 = .ok (.iload_n 1, 1) := by decide +kernel
theorem dX2_allStored_25 : decode cX2_allStored 25 = .ok (.ireturn, 1) := by decide +kernel
theorem dX2_allSpoiled_0 : decode cX2_allSpoiled 0 = .ok (.iconst 0, 1) := by decide +kernel
theorem dX2_allSpoiled_1 : decode cX2_allSpoiled 1 = .ok (.istore_n 1, 1) := by decide +kernel
theorem dX2_allSpoiled_2 : decode cX2_allSpoiled 2 = .ok (.iconst 0, 1) := by decide +kernel
theorem dX2_allSpoiled_3 : decode cX2_allSpoiled 3 = .ok (.istore_n 2, 1) := by decide +kernel
theorem dX2_allSpoiled_4 : decode cX2_allSpoiled 4 = .ok (.iload_n 2, 1) := by decide +kernel
theorem dX2_allSpoiled_5 : decode cX2_allSpoiled 5 = .ok (.bipush 8, 2) := by decide +kernel
theorem dX2_allSpoiled_7 : decode cX2_allSpoiled 7 = .ok (.if_icmp .ge 17, 3) := by decide +kernel
theorem dX2_allSpoiled_10 : decode cX2_allSpoiled 10 = .ok (.iload_n 1, 1) := by decide +kernel
theorem dX2_allSpoiled_11 : decode cX2_allSpoiled 11 = .ok (.aload_n 0, 1) := by decide +kernel
theorem dX2_allSpoiled_12 : decode cX2_allSpoiled 12 = .ok (.iload_n 2, 1) := by decide +kernel
theorem dX2_allSpoiled_13 : decode cX2_allSpoiled 13 = .ok (.invokevirtual 77, 3) := by decide +kernel
theorem dX2_allSpoiled_16 : decode cX2_allSpoiled 16 = .ok (.iadd, 1) := by decide +kernel
theorem dX2_allSpoiled_17 : decode cX2_allSpoiled 17 = .ok (.istore_n 1, 1) := by decide +kernel
theorem dX2_allSpoiled_18 : decode cX2_allSpoiled 18 = .ok (.iinc 2 1, 3) := by decide +kernel
theorem dX2_allSpoiled_21 : decode cX2_allSpoiled 21 = .ok (.goto (-17), 3) := by decide +kernel
theorem dX2_allSpoiled_24 : decode cX2_allSpoiled 24 = .ok (.iload_n 1, 1) := by decide +kernel
theorem dX2_allSpoiled_25 : decode cX2_allSpoiled 25 = .ok (.ireturn, 1) := by decide +kernel
theorem dX2_isDecodingSet_0 : decode cX2_isDecodingSet 0 = .ok (.aload_n 0, 1) := by decide +kernel
theorem dX2_isDecodingSet_1 : decode cX2_isDecodingSet 1 = .ok (.iload_n 1, 1) := by decide +kernel
theorem dX2_isDecodingSet_2 : decode cX2_isDecodingSet 2 = .ok (.invokevirtual 64, 3) := by decide +kernel
theorem dX2_isDecodingSet_5 : decode cX2_isDecodingSet 5 = .ok (.ifCond .eq 34, 3) := by decide +kernel
theorem dX2_isDecodingSet_8 : decode cX2_isDecodingSet 8 = .ok (.iload_n 2, 1) := by decide +kernel
theorem dX2_isDecodingSet_9 : decode cX2_isDecodingSet 9 = .ok (.ifCond .lt 30, 3) := by decide +kernel
theorem dX2_isDecodingSet_12 : decode cX2_isDecodingSet 12 = .ok (.iload_n 2, 1) := by decide +kernel
theorem dX2_isDecodingSet_13 : decode cX2_isDecodingSet 13 = .ok (.iconst 1, 1) := by decide +kernel
theorem dX2_isDecodingSet_14 : decode cX2_isDecodingSet 14 = .ok (.aload_n 0, 1) := by decide +kernel
theorem dX2_isDecodingSet_15 : decode cX2_isDecodingSet 15 = .ok (.iload_n 1, 1) := by decide +kernel
theorem dX2_isDecodingSet_16 : decode cX2_isDecodingSet 16 = .ok (.invokevirtual 40, 3) := by decide +kernel
theorem dX2_isDecodingSet_19 : decode cX2_isDecodingSet 19 = .ok (.ishl, 1) := by decide +kernel
theorem dX2_isDecodingSet_20 : decode cX2_isDecodingSet 20 = .ok (.if_icmp .ge 19, 3) := by decide +kernel
theorem dX2_isDecodingSet_23 : decode cX2_isDecodingSet 23 = .ok (.iload_n 2, 1) := by decide +kernel
theorem dX2_isDecodingSet_24 : decode cX2_isDecodingSet 24 = .ok (.invokestatic 80, 3) := by decide +kernel
theorem dX2_isDecodingSet_27 : decode cX2_isDecodingSet 27 = .ok (.aload_n 0, 1) := by decide +kernel
theorem dX2_isDecodingSet_28 : decode cX2_isDecodingSet 28 = .ok (.iload_n 1, 1) := by decide +kernel
theorem dX2_isDecodingSet_29 : decode cX2_isDecodingSet 29 = .ok (.invokevirtual 44, 3) := by decide +kernel
theorem dX2_isDecodingSet_32 : decode cX2_isDecodingSet 32 = .ok (.if_icmp .ne 7, 3) := by decide +kernel
theorem dX2_isDecodingSet_35 : decode cX2_isDecodingSet 35 = .ok (.iconst 1, 1) := by decide +kernel
theorem dX2_isDecodingSet_36 : decode cX2_isDecodingSet 36 = .ok (.goto 4, 3) := by decide +kernel
theorem dX2_isDecodingSet_39 : decode cX2_isDecodingSet 39 = .ok (.iconst 0, 1) := by decide +kernel
theorem dX2_isDecodingSet_40 : decode cX2_isDecodingSet 40 = .ok (.ireturn, 1) := by decide +kernel
theorem dX2_isStoredSet_0 : decode cX2_isStoredSet 0 = .ok (.aload_n 0, 1) := by decide +kernel
theorem dX2_isStoredSet_1 : decode cX2_isStoredSet 1 = .ok (.iload_n 1, 1) := by decide +kernel
theorem dX2_isStoredSet_2 : decode cX2_isStoredSet 2 = .ok (.invokevirtual 40, 3) := by decide +kernel
theorem dX2_isStoredSet_5 : decode cX2_isStoredSet 5 = .ok (.istore_n 3, 1) := by decide +kernel
theorem dX2_isStoredSet_6 : decode cX2_isStoredSet 6 = .ok (.iconst 0, 1) := by decide +kernel
theorem dX2_isStoredSet_7 : decode cX2_isStoredSet 7 = .ok (.istore 4, 2) := by decide +kernel
theorem dX2_isStoredSet_9 : decode cX2_isStoredSet 9 = .ok (.iload 4, 2) := by decide +kernel
theorem dX2_isStoredSet_11 : decode cX2_isStoredSet 11 = .ok (.iload_n 3, 1) := by decide +kernel
theorem dX2_isStoredSet_12 : decode cX2_isStoredSet 12 = .ok (.if_icmp .ge 31, 3) := by decide +kernel
theorem dX2_isStoredSet_15 : decode cX2_isStoredSet 15 = .ok (.iload_n 2, 1) := by decide +kernel
theorem dX2_isStoredSet_16 : decode cX2_isStoredSet 16 = .ok (.iload 4, 2) := by decide +kernel
theorem dX2_isStoredSet_18 : decode cX2_isStoredSet 18 = .ok (.ishr, 1) := by decide +kernel
theorem dX2_isStoredSet_19 : decode cX2_isStoredSet 19 = .ok (.iconst 1, 1) := by decide +kernel
theorem dX2_isStoredSet_20 : decode cX2_isStoredSet 20 = .ok (.iand, 1) := by decide +kernel
theorem dX2_isStoredSet_21 : decode cX2_isStoredSet 21 = .ok (.iconst 1, 1) := by decide +kernel
theorem dX2_isStoredSet_22 : decode cX2_isStoredSet 22 = .ok (.if_icmp .ne 15, 3) := by decide +kernel
theorem dX2_isStoredSet_25 : decode cX2_isStoredSet 25 = .ok (.aload_n 0, 1) := by decide +kernel
theorem dX2_isStoredSet_26 : decode cX2_isStoredSet 26 = .ok (.iload_n 1, 1) := by decide +kernel
theorem dX2_isStoredSet_27 : decode cX2_isStoredSet 27 = .ok (.iload 4, 2) := by decide +kernel
theorem dX2_isStoredSet_29 : decode cX2_isStoredSet 29 = .ok (.invokevirtual 61, 3) := by decide +kernel
theorem dX2_isStoredSet_32 : decode cX2_isStoredSet 32 = .ok (.ifCond .ne 5, 3) := by decide +kernel
theorem dX2_isStoredSet_35 : decode cX2_isStoredSet 35 = .ok (.iconst 0, 1) := by decide +kernel
theorem dX2_isStoredSet_36 : decode cX2_isStoredSet 36 = .ok (.ireturn, 1) := by decide +kernel
theorem dX2_isStoredSet_37 : decode cX2_isStoredSet 37 = .ok (.iinc 4 1, 3) := by decide +kernel
theorem dX2_isStoredSet_40 : decode cX2_isStoredSet 40 = .ok (.goto (-31), 3) := by decide +kernel
theorem dX2_isStoredSet_43 : decode cX2_isStoredSet 43 = .ok (.iconst 1, 1) := by decide +kernel
theorem dX2_isStoredSet_44 : decode cX2_isStoredSet 44 = .ok (.ireturn, 1) := by decide +kernel
theorem dX2_add_0 : decode cX2_add 0 = .ok (.iload 4, 2) := by decide +kernel
theorem dX2_add_2 : decode cX2_add 2 = .ok (.aload_n 3, 1) := by decide +kernel
theorem dX2_add_3 : decode cX2_add 3 = .ok (.arraylength, 1) := by decide +kernel
theorem dX2_add_4 : decode cX2_add 4 = .ok (.invokestatic 85, 3) := by decide +kernel
theorem dX2_add_7 : decode cX2_add 7 = .ok (.bipush 6, 2) := by decide +kernel
theorem dX2_add_9 : decode cX2_add 9 = .ok (.invokestatic 85, 3) := by decide +kernel
theorem dX2_add_12 : decode cX2_add 12 = .ok (.istore 6, 2) := by decide +kernel
theorem dX2_add_14 : decode cX2_add 14 = .ok (.iload_n 1, 1) := by decide +kernel
theorem dX2_add_15 : decode cX2_add 15 = .ok (.ifCond .lt 20, 3) := by decide +kernel
theorem dX2_add_18 : decode cX2_add 18 = .ok (.iload_n 1, 1) := by decide +kernel
theorem dX2_add_19 : decode cX2_add 19 = .ok (.bipush 8, 2) := by decide +kernel
theorem dX2_add_21 : decode cX2_add 21 = .ok (.if_icmp .ge 14, 3) := by decide +kernel
theorem dX2_add_24 : decode cX2_add 24 = .ok (.iload 5, 2) := by decide +kernel
theorem dX2_add_26 : decode cX2_add 26 = .ok (.ifCond .lt 9, 3) := by decide +kernel
theorem dX2_add_29 : decode cX2_add 29 = .ok (.iload 5, 2) := by decide +kernel
theorem dX2_add_31 : decode cX2_add 31 = .ok (.iconst 4, 1) := by decide +kernel
theorem dX2_add_32 : decode cX2_add 32 = .ok (.if_icmp .le 4, 3) := by decide +kernel
theorem dX2_add_35 : decode cX2_add 35 = .ok (.return_, 1) := by decide +kernel
theorem dX2_add_36 : decode cX2_add 36 = .ok (.aload_n 0, 1) := by decide +kernel
theorem dX2_add_37 : decode cX2_add 37 = .ok (.getfield 18, 3) := by decide +kernel
theorem dX2_add_40 : decode cX2_add 40 = .ok (.iload_n 1, 1) := by decide +kernel
theorem dX2_add_41 : decode cX2_add 41 = .ok (.iload_n 2, 1) := by decide +kernel
theorem dX2_add_42 : decode cX2_add 42 = .ok (.iastore, 1) := by decide +kernel
theorem dX2_add_43 : decode cX2_add 43 = .ok (.aload_n 0, 1) := by decide +kernel
theorem dX2_add_44 : decode cX2_add 44 = .ok (.getfield 9, 3) := by decide +kernel
theorem dX2_add_47 : decode cX2_add 47 = .ok (.iload_n 1, 1) := by decide +kernel
theorem dX2_add_48 : decode cX2_add 48 = .ok (.iload 6, 2) := by decide +kernel
theorem dX2_add_50 : decode cX2_add 50 = .ok (.iastore, 1) := by decide +kernel
theorem dX2_add_51 : decode cX2_add 51 = .ok (.aload_n 0, 1) := by decide +kernel
theorem dX2_add_52 : decode cX2_add 52 = .ok (.getfield 15, 3) := by decide +kernel
theorem dX2_add_55 : decode cX2_add 55 = .ok (.iload_n 1, 1) := by decide +kernel
theorem dX2_add_56 : decode cX2_add 56 = .ok (.iload 5, 2) := by decide +kernel
theorem dX2_add_58 : decode cX2_add 58 = .ok (.iastore, 1) := by decide +kernel
theorem dX2_add_59 : decode cX2_add 59 = .ok (.iload_n 1, 1) := by decide +kernel
theorem dX2_add_60 : decode cX2_add 60 = .ok (.bipush 10, 2) := by decide +kernel
theorem dX2_add_62 : decode cX2_add 62 = .ok (.imul, 1) := by decide +kernel
theorem dX2_add_63 : decode cX2_add 63 = .ok (.istore 7, 2) := by decide +kernel
theorem dX2_add_65 : decode cX2_add 65 = .ok (.iconst 0, 1) := by decide +kernel
theorem dX2_add_66 : decode cX2_add 66 = .ok (.istore 8, 2) := by decide +kernel
theorem dX2_add_68 : decode cX2_add 68 = .ok (.iload 8, 2) := by decide +kernel
theorem dX2_add_70 : decode cX2_add 70 = .ok (.iload 6, 2) := by decide +kernel
theorem dX2_add_72 : decode cX2_add 72 = .ok (.if_icmp .ge 23, 3) := by decide +kernel
theorem dX2_add_75 : decode cX2_add 75 = .ok (.aload_n 0, 1) := by decide +kernel
theorem dX2_add_76 : decode cX2_add 76 = .ok (.getfield 21, 3) := by decide +kernel
theorem dX2_add_79 : decode cX2_add 79 = .ok (.iload 7, 2) := by decide +kernel
theorem dX2_add_81 : decode cX2_add 81 = .ok (.iload 8, 2) := by decide +kernel
theorem dX2_add_83 : decode cX2_add 83 = .ok (.iadd, 1) := by decide +kernel
theorem dX2_add_84 : decode cX2_add 84 = .ok (.aload_n 3, 1) := by decide +kernel
theorem dX2_add_85 : decode cX2_add 85 = .ok (.iload 8, 2) := by decide +kernel
theorem dX2_add_87 : decode cX2_add 87 = .ok (.iaload, 1) := by decide +kernel
theorem dX2_add_88 : decode cX2_add 88 = .ok (.iastore, 1) := by decide +kernel
theorem dX2_add_89 : decode cX2_add 89 = .ok (.iinc 8 1, 3) := by decide +kernel
theorem dX2_add_92 : decode cX2_add 92 = .ok (.goto (-24), 3) := by decide +kernel
theorem dX2_add_95 : decode cX2_add 95 = .ok (.iconst 0, 1) := by decide +kernel
theorem dX2_add_96 : decode cX2_add 96 = .ok (.istore 8, 2) := by decide +kernel
theorem dX2_add_98 : decode cX2_add 98 = .ok (.iload 8, 2) := by decide +kernel
theorem dX2_add_100 : decode cX2_add 100 = .ok (.iload 5, 2) := by decide +kernel
theorem dX2_add_102 : decode cX2_add 102 = .ok (.if_icmp .ge 30, 3) := by decide +kernel
theorem dX2_add_105 : decode cX2_add 105 = .ok (.aload_n 0, 1) := by decide +kernel
theorem dX2_add_106 : decode cX2_add 106 = .ok (.getfield 21, 3) := by decide +kernel
theorem dX2_add_109 : decode cX2_add 109 = .ok (.iload 7, 2) := by decide +kernel
theorem dX2_add_111 : decode cX2_add 111 = .ok (.iload 6, 2) := by decide +kernel
theorem dX2_add_113 : decode cX2_add 113 = .ok (.iadd, 1) := by decide +kernel
theorem dX2_add_114 : decode cX2_add 114 = .ok (.iload 8, 2) := by decide +kernel
theorem dX2_add_116 : decode cX2_add 116 = .ok (.iadd, 1) := by decide +kernel
theorem dX2_add_117 : decode cX2_add 117 = .ok (.aload_n 3, 1) := by decide +kernel
theorem dX2_add_118 : decode cX2_add 118 = .ok (.iload 6, 2) := by decide +kernel
theorem dX2_add_120 : decode cX2_add 120 = .ok (.iload 8, 2) := by decide +kernel
theorem dX2_add_122 : decode cX2_add 122 = .ok (.invokestatic 90, 3) := by decide +kernel
theorem dX2_add_125 : decode cX2_add 125 = .ok (.iastore, 1) := by decide +kernel
theorem dX2_add_126 : decode cX2_add 126 = .ok (.iinc 8 1, 3) := by decide +kernel
theorem dX2_add_129 : decode cX2_add 129 = .ok (.goto (-31), 3) := by decide +kernel
theorem dX2_add_132 : decode cX2_add 132 = .ok (.return_, 1) := by decide +kernel
theorem dX2_parityWord_0 : decode cX2_parityWord 0 = .ok (.iconst 0, 1) := by decide +kernel
theorem dX2_parityWord_1 : decode cX2_parityWord 1 = .ok (.istore_n 3, 1) := by decide +kernel
theorem dX2_parityWord_2 : decode cX2_parityWord 2 = .ok (.iconst 0, 1) := by decide +kernel
theorem dX2_parityWord_3 : decode cX2_parityWord 3 = .ok (.istore 4, 2) := by decide +kernel
theorem dX2_parityWord_5 : decode cX2_parityWord 5 = .ok (.iload 4, 2) := by decide +kernel
theorem dX2_parityWord_7 : decode cX2_parityWord 7 = .ok (.iload_n 1, 1) := by decide +kernel
theorem dX2_parityWord_8 : decode cX2_parityWord 8 = .ok (.if_icmp .ge 32, 3) := by decide +kernel
theorem dX2_parityWord_11 : decode cX2_parityWord 11 = .ok (.iload 4, 2) := by decide +kernel
theorem dX2_parityWord_13 : decode cX2_parityWord 13 = .ok (.aload_n 0, 1) := by decide +kernel
theorem dX2_parityWord_14 : decode cX2_parityWord 14 = .ok (.arraylength, 1) := by decide +kernel
theorem dX2_parityWord_15 : decode cX2_parityWord 15 = .ok (.if_icmp .ge 25, 3) := by decide +kernel
theorem dX2_parityWord_18 : decode cX2_parityWord 18 = .ok (.iload_n 3, 1) := by decide +kernel
theorem dX2_parityWord_19 : decode cX2_parityWord 19 = .ok (.aload_n 0, 1) := by decide +kernel
theorem dX2_parityWord_20 : decode cX2_parityWord 20 = .ok (.iload 4, 2) := by decide +kernel
theorem dX2_parityWord_22 : decode cX2_parityWord 22 = .ok (.iaload, 1) := by decide +kernel
theorem dX2_parityWord_23 : decode cX2_parityWord 23 = .ok (.iload 4, 2) := by decide +kernel
theorem dX2_parityWord_25 : decode cX2_parityWord 25 = .ok (.iconst 1, 1) := by decide +kernel
theorem dX2_parityWord_26 : decode cX2_parityWord 26 = .ok (.iadd, 1) := by decide +kernel
theorem dX2_parityWord_27 : decode cX2_parityWord 27 = .ok (.iload_n 2, 1) := by decide +kernel
theorem dX2_parityWord_28 : decode cX2_parityWord 28 = .ok (.invokestatic 94, 3) := by decide +kernel
theorem dX2_parityWord_31 : decode cX2_parityWord 31 = .ok (.imul, 1) := by decide +kernel
theorem dX2_parityWord_32 : decode cX2_parityWord 32 = .ok (.iadd, 1) := by decide +kernel
theorem dX2_parityWord_33 : decode cX2_parityWord 33 = .ok (.istore_n 3, 1) := by decide +kernel
theorem dX2_parityWord_34 : decode cX2_parityWord 34 = .ok (.iinc 4 1, 3) := by decide +kernel
theorem dX2_parityWord_37 : decode cX2_parityWord 37 = .ok (.goto (-32), 3) := by decide +kernel
theorem dX2_parityWord_40 : decode cX2_parityWord 40 = .ok (.iload_n 3, 1) := by decide +kernel
theorem dX2_parityWord_41 : decode cX2_parityWord 41 = .ok (.sipush 257, 3) := by decide +kernel
theorem dX2_parityWord_44 : decode cX2_parityWord 44 = .ok (.irem, 1) := by decide +kernel
theorem dX2_parityWord_45 : decode cX2_parityWord 45 = .ok (.ireturn, 1) := by decide +kernel
theorem dX2_remove_0 : decode cX2_remove 0 = .ok (.aload_n 0, 1) := by decide +kernel
theorem dX2_remove_1 : decode cX2_remove 1 = .ok (.iload_n 1, 1) := by decide +kernel
theorem dX2_remove_2 : decode cX2_remove 2 = .ok (.invokevirtual 64, 3) := by decide +kernel
theorem dX2_remove_5 : decode cX2_remove 5 = .ok (.ifCond .eq 24, 3) := by decide +kernel
theorem dX2_remove_8 : decode cX2_remove 8 = .ok (.aload_n 0, 1) := by decide +kernel
theorem dX2_remove_9 : decode cX2_remove 9 = .ok (.getfield 9, 3) := by decide +kernel
theorem dX2_remove_12 : decode cX2_remove 12 = .ok (.iload_n 1, 1) := by decide +kernel
theorem dX2_remove_13 : decode cX2_remove 13 = .ok (.iconst 0, 1) := by decide +kernel
theorem dX2_remove_14 : decode cX2_remove 14 = .ok (.iastore, 1) := by decide +kernel
theorem dX2_remove_15 : decode cX2_remove 15 = .ok (.aload_n 0, 1) := by decide +kernel
theorem dX2_remove_16 : decode cX2_remove 16 = .ok (.getfield 15, 3) := by decide +kernel
theorem dX2_remove_19 : decode cX2_remove 19 = .ok (.iload_n 1, 1) := by decide +kernel
theorem dX2_remove_20 : decode cX2_remove 20 = .ok (.iconst 0, 1) := by decide +kernel
theorem dX2_remove_21 : decode cX2_remove 21 = .ok (.iastore, 1) := by decide +kernel
theorem dX2_remove_22 : decode cX2_remove 22 = .ok (.aload_n 0, 1) := by decide +kernel
theorem dX2_remove_23 : decode cX2_remove 23 = .ok (.getfield 18, 3) := by decide +kernel
theorem dX2_remove_26 : decode cX2_remove 26 = .ok (.iload_n 1, 1) := by decide +kernel
theorem dX2_remove_27 : decode cX2_remove 27 = .ok (.iconst (-1), 1) := by decide +kernel
theorem dX2_remove_28 : decode cX2_remove 28 = .ok (.iastore, 1) := by decide +kernel
theorem dX2_remove_29 : decode cX2_remove 29 = .ok (.return_, 1) := by decide +kernel
theorem dX2_setFragment_0 : decode cX2_setFragment 0 = .ok (.iload_n 1, 1) := by decide +kernel
theorem dX2_setFragment_1 : decode cX2_setFragment 1 = .ok (.iload_n 2, 1) := by decide +kernel
theorem dX2_setFragment_2 : decode cX2_setFragment 2 = .ok (.invokestatic 47, 3) := by decide +kernel
theorem dX2_setFragment_5 : decode cX2_setFragment 5 = .ok (.ifCond .eq 28, 3) := by decide +kernel
theorem dX2_setFragment_8 : decode cX2_setFragment 8 = .ok (.aload_n 0, 1) := by decide +kernel
theorem dX2_setFragment_9 : decode cX2_setFragment 9 = .ok (.getfield 24, 3) := by decide +kernel
theorem dX2_setFragment_12 : decode cX2_setFragment 12 = .ok (.iload_n 1, 1) := by decide +kernel
theorem dX2_setFragment_13 : decode cX2_setFragment 13 = .ok (.bipush 10, 2) := by decide +kernel
theorem dX2_setFragment_15 : decode cX2_setFragment 15 = .ok (.imul, 1) := by decide +kernel
theorem dX2_setFragment_16 : decode cX2_setFragment 16 = .ok (.iload_n 2, 1) := by decide +kernel
theorem dX2_setFragment_17 : decode cX2_setFragment 17 = .ok (.iadd, 1) := by decide +kernel
theorem dX2_setFragment_18 : decode cX2_setFragment 18 = .ok (.iload_n 3, 1) := by decide +kernel
theorem dX2_setFragment_19 : decode cX2_setFragment 19 = .ok (.iastore, 1) := by decide +kernel
theorem dX2_setFragment_20 : decode cX2_setFragment 20 = .ok (.aload_n 0, 1) := by decide +kernel
theorem dX2_setFragment_21 : decode cX2_setFragment 21 = .ok (.getfield 27, 3) := by decide +kernel
theorem dX2_setFragment_24 : decode cX2_setFragment 24 = .ok (.iload_n 1, 1) := by decide +kernel
theorem dX2_setFragment_25 : decode cX2_setFragment 25 = .ok (.bipush 10, 2) := by decide +kernel
theorem dX2_setFragment_27 : decode cX2_setFragment 27 = .ok (.imul, 1) := by decide +kernel
theorem dX2_setFragment_28 : decode cX2_setFragment 28 = .ok (.iload_n 2, 1) := by decide +kernel
theorem dX2_setFragment_29 : decode cX2_setFragment 29 = .ok (.iadd, 1) := by decide +kernel
theorem dX2_setFragment_30 : decode cX2_setFragment 30 = .ok (.iload 4, 2) := by decide +kernel
theorem dX2_setFragment_32 : decode cX2_setFragment 32 = .ok (.iastore, 1) := by decide +kernel
theorem dX2_setFragment_33 : decode cX2_setFragment 33 = .ok (.return_, 1) := by decide +kernel
theorem dX2_addError_0 : decode cX2_addError 0 = .ok (.iload_n 1, 1) := by decide +kernel
theorem dX2_addError_1 : decode cX2_addError 1 = .ok (.iload_n 2, 1) := by decide +kernel
theorem dX2_addError_2 : decode cX2_addError 2 = .ok (.invokestatic 47, 3) := by decide +kernel
theorem dX2_addError_5 : decode cX2_addError 5 = .ok (.ifCond .eq 31, 3) := by decide +kernel
theorem dX2_addError_8 : decode cX2_addError 8 = .ok (.iload_n 1, 1) := by decide +kernel
theorem dX2_addError_9 : decode cX2_addError 9 = .ok (.bipush 10, 2) := by decide +kernel
theorem dX2_addError_11 : decode cX2_addError 11 = .ok (.imul, 1) := by decide +kernel
theorem dX2_addError_12 : decode cX2_addError 12 = .ok (.iload_n 2, 1) := by decide +kernel
theorem dX2_addError_13 : decode cX2_addError 13 = .ok (.iadd, 1) := by decide +kernel
theorem dX2_addError_14 : decode cX2_addError 14 = .ok (.istore 4, 2) := by decide +kernel
theorem dX2_addError_16 : decode cX2_addError 16 = .ok (.aload_n 0, 1) := by decide +kernel
theorem dX2_addError_17 : decode cX2_addError 17 = .ok (.getfield 27, 3) := by decide +kernel
theorem dX2_addError_20 : decode cX2_addError 20 = .ok (.iload 4, 2) := by decide +kernel
theorem dX2_addError_22 : decode cX2_addError 22 = .ok (.aload_n 0, 1) := by decide +kernel
theorem dX2_addError_23 : decode cX2_addError 23 = .ok (.getfield 27, 3) := by decide +kernel
theorem dX2_addError_26 : decode cX2_addError 26 = .ok (.iload 4, 2) := by decide +kernel
theorem dX2_addError_28 : decode cX2_addError 28 = .ok (.iaload, 1) := by decide +kernel
theorem dX2_addError_29 : decode cX2_addError 29 = .ok (.iload_n 3, 1) := by decide +kernel
theorem dX2_addError_30 : decode cX2_addError 30 = .ok (.iadd, 1) := by decide +kernel
theorem dX2_addError_31 : decode cX2_addError 31 = .ok (.sipush 257, 3) := by decide +kernel
theorem dX2_addError_34 : decode cX2_addError 34 = .ok (.irem, 1) := by decide +kernel
theorem dX2_addError_35 : decode cX2_addError 35 = .ok (.iastore, 1) := by decide +kernel
theorem dX2_addError_36 : decode cX2_addError 36 = .ok (.return_, 1) := by decide +kernel
theorem dX3_init_0 : decode cX3_init 0 = .ok (.aload_n 0, 1) := by decide +kernel
theorem dX3_init_1 : decode cX3_init 1 = .ok (.invokespecial 3, 3) := by decide +kernel
theorem dX3_init_4 : decode cX3_init 4 = .ok (.aload_n 0, 1) := by decide +kernel
theorem dX3_init_5 : decode cX3_init 5 = .ok (.iconst 5, 1) := by decide +kernel
theorem dX3_init_6 : decode cX3_init 6 = .ok (.anewarray 9, 3) := by decide +kernel
theorem dX3_init_9 : decode cX3_init 9 = .ok (.putfield 11, 3) := by decide +kernel
theorem dX3_init_12 : decode cX3_init 12 = .ok (.iconst 0, 1) := by decide +kernel
theorem dX3_init_13 : decode cX3_init 13 = .ok (.istore_n 1, 1) := by decide +kernel
theorem dX3_init_14 : decode cX3_init 14 = .ok (.iload_n 1, 1) := by decide +kernel
theorem dX3_init_15 : decode cX3_init 15 = .ok (.iconst 5, 1) := by decide +kernel
theorem dX3_init_16 : decode cX3_init 16 = .ok (.if_icmp .ge 22, 3) := by decide +kernel
theorem dX3_init_19 : decode cX3_init 19 = .ok (.aload_n 0, 1) := by decide +kernel
theorem dX3_init_20 : decode cX3_init 20 = .ok (.getfield 11, 3) := by decide +kernel
theorem dX3_init_23 : decode cX3_init 23 = .ok (.iload_n 1, 1) := by decide +kernel
theorem dX3_init_24 : decode cX3_init 24 = .ok (.new 9, 3) := by decide +kernel
theorem dX3_init_27 : decode cX3_init 27 = .ok (.dup, 1) := by decide +kernel
theorem dX3_init_28 : decode cX3_init 28 = .ok (.invokespecial 17, 3) := by decide +kernel
theorem dX3_init_31 : decode cX3_init 31 = .ok (.aastore, 1) := by decide +kernel
theorem dX3_init_32 : decode cX3_init 32 = .ok (.iinc 1 1, 3) := by decide +kernel
theorem dX3_init_35 : decode cX3_init 35 = .ok (.goto (-21), 3) := by decide +kernel
theorem dX3_init_38 : decode cX3_init 38 = .ok (.return_, 1) := by decide +kernel
theorem dX3_record_0 : decode cX3_record 0 = .ok (.aload_n 0, 1) := by decide +kernel
theorem dX3_record_1 : decode cX3_record 1 = .ok (.getfield 18, 3) := by decide +kernel
theorem dX3_record_4 : decode cX3_record 4 = .ok (.iconst 5, 1) := by decide +kernel
theorem dX3_record_5 : decode cX3_record 5 = .ok (.if_icmp .lt 7, 3) := by decide +kernel
theorem dX3_record_8 : decode cX3_record 8 = .ok (.aload_n 0, 1) := by decide +kernel
theorem dX3_record_9 : decode cX3_record 9 = .ok (.invokevirtual 22, 3) := by decide +kernel
theorem dX3_record_12 : decode cX3_record 12 = .ok (.aload_n 0, 1) := by decide +kernel
theorem dX3_record_13 : decode cX3_record 13 = .ok (.getfield 18, 3) := by decide +kernel
theorem dX3_record_16 : decode cX3_record 16 = .ok (.ifCond .lt 34, 3) := by decide +kernel
theorem dX3_record_19 : decode cX3_record 19 = .ok (.aload_n 0, 1) := by decide +kernel
theorem dX3_record_20 : decode cX3_record 20 = .ok (.getfield 18, 3) := by decide +kernel
theorem dX3_record_23 : decode cX3_record 23 = .ok (.iconst 5, 1) := by decide +kernel
theorem dX3_record_24 : decode cX3_record 24 = .ok (.if_icmp .ge 26, 3) := by decide +kernel
theorem dX3_record_27 : decode cX3_record 27 = .ok (.aload_n 0, 1) := by decide +kernel
theorem dX3_record_28 : decode cX3_record 28 = .ok (.getfield 11, 3) := by decide +kernel
theorem dX3_record_31 : decode cX3_record 31 = .ok (.aload_n 0, 1) := by decide +kernel
theorem dX3_record_32 : decode cX3_record 32 = .ok (.getfield 18, 3) := by decide +kernel
theorem dX3_record_35 : decode cX3_record 35 = .ok (.aaload, 1) := by decide +kernel
theorem dX3_record_36 : decode cX3_record 36 = .ok (.aload_n 1, 1) := by decide +kernel
theorem dX3_record_37 : decode cX3_record 37 = .ok (.invokevirtual 25, 3) := by decide +kernel
theorem dX3_record_40 : decode cX3_record 40 = .ok (.aload_n 0, 1) := by decide +kernel
theorem dX3_record_41 : decode cX3_record 41 = .ok (.dup, 1) := by decide +kernel
theorem dX3_record_42 : decode cX3_record 42 = .ok (.getfield 18, 3) := by decide +kernel
theorem dX3_record_45 : decode cX3_record 45 = .ok (.iconst 1, 1) := by decide +kernel
theorem dX3_record_46 : decode cX3_record 46 = .ok (.iadd, 1) := by decide +kernel
theorem dX3_record_47 : decode cX3_record 47 = .ok (.putfield 18, 3) := by decide +kernel
theorem dX3_record_50 : decode cX3_record 50 = .ok (.return_, 1) := by decide +kernel
theorem dX3_dropOldest_0 : decode cX3_dropOldest 0 = .ok (.aload_n 0, 1) := by decide +kernel
theorem dX3_dropOldest_1 : decode cX3_dropOldest 1 = .ok (.getfield 11, 3) := by decide +kernel
theorem dX3_dropOldest_4 : decode cX3_dropOldest 4 = .ok (.iconst 0, 1) := by decide +kernel
theorem dX3_dropOldest_5 : decode cX3_dropOldest 5 = .ok (.aaload, 1) := by decide +kernel
theorem dX3_dropOldest_6 : decode cX3_dropOldest 6 = .ok (.astore_n 1, 1) := by decide +kernel
theorem dX3_dropOldest_7 : decode cX3_dropOldest 7 = .ok (.iconst 1, 1) := by decide +kernel
theorem dX3_dropOldest_8 : decode cX3_dropOldest 8 = .ok (.istore_n 2, 1) := by decide +kernel
theorem dX3_dropOldest_9 : decode cX3_dropOldest 9 = .ok (.iload_n 2, 1) := by decide +kernel
theorem dX3_dropOldest_10 : decode cX3_dropOldest 10 = .ok (.iconst 5, 1) := by decide +kernel
theorem dX3_dropOldest_11 : decode cX3_dropOldest 11 = .ok (.if_icmp .ge 23, 3) := by decide +kernel
theorem dX3_dropOldest_14 : decode cX3_dropOldest 14 = .ok (.aload_n 0, 1) := by decide +kernel
theorem dX3_dropOldest_15 : decode cX3_dropOldest 15 = .ok (.getfield 11, 3) := by decide +kernel
theorem dX3_dropOldest_18 : decode cX3_dropOldest 18 = .ok (.iload_n 2, 1) := by decide +kernel
theorem dX3_dropOldest_19 : decode cX3_dropOldest 19 = .ok (.iconst 1, 1) := by decide +kernel
theorem dX3_dropOldest_20 : decode cX3_dropOldest 20 = .ok (.isub, 1) := by decide +kernel
theorem dX3_dropOldest_21 : decode cX3_dropOldest 21 = .ok (.aload_n 0, 1) := by decide +kernel
theorem dX3_dropOldest_22 : decode cX3_dropOldest 22 = .ok (.getfield 11, 3) := by decide +kernel
theorem dX3_dropOldest_25 : decode cX3_dropOldest 25 = .ok (.iload_n 2, 1) := by decide +kernel
theorem dX3_dropOldest_26 : decode cX3_dropOldest 26 = .ok (.aaload, 1) := by decide +kernel
theorem dX3_dropOldest_27 : decode cX3_dropOldest 27 = .ok (.aastore, 1) := by decide +kernel
theorem dX3_dropOldest_28 : decode cX3_dropOldest 28 = .ok (.iinc 2 1, 3) := by decide +kernel
theorem dX3_dropOldest_31 : decode cX3_dropOldest 31 = .ok (.goto (-22), 3) := by decide +kernel
theorem dX3_dropOldest_34 : decode cX3_dropOldest 34 = .ok (.aload_n 0, 1) := by decide +kernel
theorem dX3_dropOldest_35 : decode cX3_dropOldest 35 = .ok (.getfield 11, 3) := by decide +kernel
theorem dX3_dropOldest_38 : decode cX3_dropOldest 38 = .ok (.iconst 4, 1) := by decide +kernel
theorem dX3_dropOldest_39 : decode cX3_dropOldest 39 = .ok (.aload_n 1, 1) := by decide +kernel
theorem dX3_dropOldest_40 : decode cX3_dropOldest 40 = .ok (.aastore, 1) := by decide +kernel
theorem dX3_dropOldest_41 : decode cX3_dropOldest 41 = .ok (.aload_n 0, 1) := by decide +kernel
theorem dX3_dropOldest_42 : decode cX3_dropOldest 42 = .ok (.iconst 4, 1) := by decide +kernel
theorem dX3_dropOldest_43 : decode cX3_dropOldest 43 = .ok (.putfield 18, 3) := by decide +kernel
theorem dX3_dropOldest_46 : decode cX3_dropOldest 46 = .ok (.return_, 1) := by decide +kernel
theorem dX3_restoreLatest_0 : decode cX3_restoreLatest 0 = .ok (.aload_n 0, 1) := by decide +kernel
theorem dX3_restoreLatest_1 : decode cX3_restoreLatest 1 = .ok (.getfield 18, 3) := by decide +kernel
theorem dX3_restoreLatest_4 : decode cX3_restoreLatest 4 = .ok (.ifCond .le 34, 3) := by decide +kernel
theorem dX3_restoreLatest_7 : decode cX3_restoreLatest 7 = .ok (.aload_n 0, 1) := by decide +kernel
theorem dX3_restoreLatest_8 : decode cX3_restoreLatest 8 = .ok (.getfield 18, 3) := by decide +kernel
theorem dX3_restoreLatest_11 : decode cX3_restoreLatest 11 = .ok (.iconst 5, 1) := by decide +kernel
theorem dX3_restoreLatest_12 : decode cX3_restoreLatest 12 = .ok (.if_icmp .gt 26, 3) := by decide +kernel
theorem dX3_restoreLatest_15 : decode cX3_restoreLatest 15 = .ok (.aload_n 0, 1) := by decide +kernel
theorem dX3_restoreLatest_16 : decode cX3_restoreLatest 16 = .ok (.dup, 1) := by decide +kernel
theorem dX3_restoreLatest_17 : decode cX3_restoreLatest 17 = .ok (.getfield 18, 3) := by decide +kernel
theorem dX3_restoreLatest_20 : decode cX3_restoreLatest 20 = .ok (.iconst 1, 1) := by decide +kernel
theorem dX3_restoreLatest_21 : decode cX3_restoreLatest 21 = .ok (.isub, 1) := by decide +kernel
theorem dX3_restoreLatest_22 : decode cX3_restoreLatest 22 = .ok (.putfield 18, 3) := by decide +kernel
theorem dX3_restoreLatest_25 : decode cX3_restoreLatest 25 = .ok (.aload_n 1, 1) := by decide +kernel
theorem dX3_restoreLatest_26 : decode cX3_restoreLatest 26 = .ok (.aload_n 0, 1) := by decide +kernel
theorem dX3_restoreLatest_27 : decode cX3_restoreLatest 27 = .ok (.getfield 11, 3) := by decide +kernel
theorem dX3_restoreLatest_30 : decode cX3_restoreLatest 30 = .ok (.aload_n 0, 1) := by decide +kernel
theorem dX3_restoreLatest_31 : decode cX3_restoreLatest 31 = .ok (.getfield 18, 3) := by decide +kernel
theorem dX3_restoreLatest_34 : decode cX3_restoreLatest 34 = .ok (.aaload, 1) := by decide +kernel
theorem dX3_restoreLatest_35 : decode cX3_restoreLatest 35 = .ok (.invokevirtual 25, 3) := by decide +kernel
theorem dX3_restoreLatest_38 : decode cX3_restoreLatest 38 = .ok (.return_, 1) := by decide +kernel
theorem dX4_init_0 : decode cX4_init 0 = .ok (.aload_n 0, 1) := by decide +kernel
theorem dX4_init_1 : decode cX4_init 1 = .ok (.invokespecial 3, 3) := by decide +kernel
theorem dX4_init_4 : decode cX4_init 4 = .ok (.aload_n 0, 1) := by decide +kernel
theorem dX4_init_5 : decode cX4_init 5 = .ok (.bipush 12, 2) := by decide +kernel
theorem dX4_init_7 : decode cX4_init 7 = .ok (.newarray .int, 2) := by decide +kernel
theorem dX4_init_9 : decode cX4_init 9 = .ok (.putfield 9, 3) := by decide +kernel
theorem dX4_init_12 : decode cX4_init 12 = .ok (.aload_n 0, 1) := by decide +kernel
theorem dX4_init_13 : decode cX4_init 13 = .ok (.bipush 12, 2) := by decide +kernel
theorem dX4_init_15 : decode cX4_init 15 = .ok (.newarray .int, 2) := by decide +kernel
theorem dX4_init_17 : decode cX4_init 17 = .ok (.putfield 15, 3) := by decide +kernel
theorem dX4_init_20 : decode cX4_init 20 = .ok (.aload_n 0, 1) := by decide +kernel
theorem dX4_init_21 : decode cX4_init 21 = .ok (.bipush 12, 2) := by decide +kernel
theorem dX4_init_23 : decode cX4_init 23 = .ok (.newarray .int, 2) := by decide +kernel
theorem dX4_init_25 : decode cX4_init 25 = .ok (.putfield 18, 3) := by decide +kernel
theorem dX4_init_28 : decode cX4_init 28 = .ok (.aload_n 0, 1) := by decide +kernel
theorem dX4_init_29 : decode cX4_init 29 = .ok (.bipush 12, 2) := by decide +kernel
theorem dX4_init_31 : decode cX4_init 31 = .ok (.newarray .int, 2) := by decide +kernel
theorem dX4_init_33 : decode cX4_init 33 = .ok (.putfield 21, 3) := by decide +kernel
theorem dX4_init_36 : decode cX4_init 36 = .ok (.aload_n 0, 1) := by decide +kernel
theorem dX4_init_37 : decode cX4_init 37 = .ok (.sipush 144, 3) := by decide +kernel
theorem dX4_init_40 : decode cX4_init 40 = .ok (.newarray .int, 2) := by decide +kernel
theorem dX4_init_42 : decode cX4_init 42 = .ok (.putfield 24, 3) := by decide +kernel
theorem dX4_init_45 : decode cX4_init 45 = .ok (.return_, 1) := by decide +kernel
theorem dX4_copyFrom_0 : decode cX4_copyFrom 0 = .ok (.aload_n 1, 1) := by decide +kernel
theorem dX4_copyFrom_1 : decode cX4_copyFrom 1 = .ok (.getfield 9, 3) := by decide +kernel
theorem dX4_copyFrom_4 : decode cX4_copyFrom 4 = .ok (.aload_n 0, 1) := by decide +kernel
theorem dX4_copyFrom_5 : decode cX4_copyFrom 5 = .ok (.getfield 9, 3) := by decide +kernel
theorem dX4_copyFrom_8 : decode cX4_copyFrom 8 = .ok (.invokestatic 27, 3) := by decide +kernel
theorem dX4_copyFrom_11 : decode cX4_copyFrom 11 = .ok (.aload_n 1, 1) := by decide +kernel
theorem dX4_copyFrom_12 : decode cX4_copyFrom 12 = .ok (.getfield 15, 3) := by decide +kernel
theorem dX4_copyFrom_15 : decode cX4_copyFrom 15 = .ok (.aload_n 0, 1) := by decide +kernel
theorem dX4_copyFrom_16 : decode cX4_copyFrom 16 = .ok (.getfield 15, 3) := by decide +kernel
theorem dX4_copyFrom_19 : decode cX4_copyFrom 19 = .ok (.invokestatic 27, 3) := by decide +kernel
theorem dX4_copyFrom_22 : decode cX4_copyFrom 22 = .ok (.aload_n 1, 1) := by decide +kernel
theorem dX4_copyFrom_23 : decode cX4_copyFrom 23 = .ok (.getfield 18, 3) := by decide +kernel
theorem dX4_copyFrom_26 : decode cX4_copyFrom 26 = .ok (.aload_n 0, 1) := by decide +kernel
theorem dX4_copyFrom_27 : decode cX4_copyFrom 27 = .ok (.getfield 18, 3) := by decide +kernel
theorem dX4_copyFrom_30 : decode cX4_copyFrom 30 = .ok (.invokestatic 27, 3) := by decide +kernel
theorem dX4_copyFrom_33 : decode cX4_copyFrom 33 = .ok (.aload_n 1, 1) := by decide +kernel
theorem dX4_copyFrom_34 : decode cX4_copyFrom 34 = .ok (.getfield 21, 3) := by decide +kernel
theorem dX4_copyFrom_37 : decode cX4_copyFrom 37 = .ok (.aload_n 0, 1) := by decide +kernel
theorem dX4_copyFrom_38 : decode cX4_copyFrom 38 = .ok (.getfield 21, 3) := by decide +kernel
theorem dX4_copyFrom_41 : decode cX4_copyFrom 41 = .ok (.invokestatic 27, 3) := by decide +kernel
theorem dX4_copyFrom_44 : decode cX4_copyFrom 44 = .ok (.aload_n 1, 1) := by decide +kernel
theorem dX4_copyFrom_45 : decode cX4_copyFrom 45 = .ok (.getfield 24, 3) := by decide +kernel
theorem dX4_copyFrom_48 : decode cX4_copyFrom 48 = .ok (.aload_n 0, 1) := by decide +kernel
theorem dX4_copyFrom_49 : decode cX4_copyFrom 49 = .ok (.getfield 24, 3) := by decide +kernel
theorem dX4_copyFrom_52 : decode cX4_copyFrom 52 = .ok (.invokestatic 27, 3) := by decide +kernel
theorem dX4_copyFrom_55 : decode cX4_copyFrom 55 = .ok (.return_, 1) := by decide +kernel
theorem dX4_exists_0 : decode cX4_exists 0 = .ok (.iload_n 1, 1) := by decide +kernel
theorem dX4_exists_1 : decode cX4_exists 1 = .ok (.ifCond .lt 22, 3) := by decide +kernel
theorem dX4_exists_4 : decode cX4_exists 4 = .ok (.iload_n 1, 1) := by decide +kernel
theorem dX4_exists_5 : decode cX4_exists 5 = .ok (.bipush 12, 2) := by decide +kernel
theorem dX4_exists_7 : decode cX4_exists 7 = .ok (.if_icmp .ge 16, 3) := by decide +kernel
theorem dX4_exists_10 : decode cX4_exists 10 = .ok (.aload_n 0, 1) := by decide +kernel
theorem dX4_exists_11 : decode cX4_exists 11 = .ok (.getfield 9, 3) := by decide +kernel
theorem dX4_exists_14 : decode cX4_exists 14 = .ok (.iload_n 1, 1) := by decide +kernel
theorem dX4_exists_15 : decode cX4_exists 15 = .ok (.iaload, 1) := by decide +kernel
theorem dX4_exists_16 : decode cX4_exists 16 = .ok (.ifCond .le 7, 3) := by decide +kernel
theorem dX4_exists_19 : decode cX4_exists 19 = .ok (.iconst 1, 1) := by decide +kernel
theorem dX4_exists_20 : decode cX4_exists 20 = .ok (.goto 4, 3) := by decide +kernel
theorem dX4_exists_23 : decode cX4_exists 23 = .ok (.iconst 0, 1) := by decide +kernel
theorem dX4_exists_24 : decode cX4_exists 24 = .ok (.ireturn, 1) := by decide +kernel
theorem dX4_areTwo_0 : decode cX4_areTwo 0 = .ok (.iload_n 1, 1) := by decide +kernel
theorem dX4_areTwo_1 : decode cX4_areTwo 1 = .ok (.iload_n 2, 1) := by decide +kernel
theorem dX4_areTwo_2 : decode cX4_areTwo 2 = .ok (.if_icmp .eq 23, 3) := by decide +kernel
theorem dX4_areTwo_5 : decode cX4_areTwo 5 = .ok (.aload_n 0, 1) := by decide +kernel
theorem dX4_areTwo_6 : decode cX4_areTwo 6 = .ok (.iload_n 1, 1) := by decide +kernel
theorem dX4_areTwo_7 : decode cX4_areTwo 7 = .ok (.invokevirtual 31, 3) := by decide +kernel
theorem dX4_areTwo_10 : decode cX4_areTwo 10 = .ok (.ifCond .eq 15, 3) := by decide +kernel
theorem dX4_areTwo_13 : decode cX4_areTwo 13 = .ok (.aload_n 0, 1) := by decide +kernel
theorem dX4_areTwo_14 : decode cX4_areTwo 14 = .ok (.iload_n 2, 1) := by decide +kernel
theorem dX4_areTwo_15 : decode cX4_areTwo 15 = .ok (.invokevirtual 31, 3) := by decide +kernel
theorem dX4_areTwo_18 : decode cX4_areTwo 18 = .ok (.ifCond .eq 7, 3) := by decide +kernel
theorem dX4_areTwo_21 : decode cX4_areTwo 21 = .ok (.iconst 1, 1) := by decide +kernel
theorem dX4_areTwo_22 : decode cX4_areTwo 22 = .ok (.goto 4, 3) := by decide +kernel
theorem dX4_areTwo_25 : decode cX4_areTwo 25 = .ok (.iconst 0, 1) := by decide +kernel
theorem dX4_areTwo_26 : decode cX4_areTwo 26 = .ok (.ireturn, 1) := by decide +kernel
theorem dX4_isOnline_0 : decode cX4_isOnline 0 = .ok (.iload_n 1, 1) := by decide +kernel
theorem dX4_isOnline_1 : decode cX4_isOnline 1 = .ok (.ifCond .lt 23, 3) := by decide +kernel
theorem dX4_isOnline_4 : decode cX4_isOnline 4 = .ok (.iload_n 1, 1) := by decide +kernel
theorem dX4_isOnline_5 : decode cX4_isOnline 5 = .ok (.bipush 12, 2) := by decide +kernel
theorem dX4_isOnline_7 : decode cX4_isOnline 7 = .ok (.if_icmp .ge 17, 3) := by decide +kernel
theorem dX4_isOnline_10 : decode cX4_isOnline 10 = .ok (.aload_n 0, 1) := by decide +kernel
theorem dX4_isOnline_11 : decode cX4_isOnline 11 = .ok (.getfield 15, 3) := by decide +kernel
theorem dX4_isOnline_14 : decode cX4_isOnline 14 = .ok (.iload_n 1, 1) := by decide +kernel
theorem dX4_isOnline_15 : decode cX4_isOnline 15 = .ok (.iaload, 1) := by decide +kernel
theorem dX4_isOnline_16 : decode cX4_isOnline 16 = .ok (.iconst 1, 1) := by decide +kernel
theorem dX4_isOnline_17 : decode cX4_isOnline 17 = .ok (.if_icmp .ne 7, 3) := by decide +kernel
theorem dX4_isOnline_20 : decode cX4_isOnline 20 = .ok (.iconst 1, 1) := by decide +kernel
theorem dX4_isOnline_21 : decode cX4_isOnline 21 = .ok (.goto 4, 3) := by decide +kernel
theorem dX4_isOnline_24 : decode cX4_isOnline 24 = .ok (.iconst 0, 1) := by decide +kernel
theorem dX4_isOnline_25 : decode cX4_isOnline 25 = .ok (.ireturn, 1) := by decide +kernel
theorem dX4_freeSpace_0 : decode cX4_freeSpace 0 = .ok (.iload_n 1, 1) := by decide +kernel
theorem dX4_freeSpace_1 : decode cX4_freeSpace 1 = .ok (.ifCond .lt 25, 3) := by decide +kernel
theorem dX4_freeSpace_4 : decode cX4_freeSpace 4 = .ok (.iload_n 1, 1) := by decide +kernel
theorem dX4_freeSpace_5 : decode cX4_freeSpace 5 = .ok (.bipush 12, 2) := by decide +kernel
theorem dX4_freeSpace_7 : decode cX4_freeSpace 7 = .ok (.if_icmp .ge 19, 3) := by decide +kernel
theorem dX4_freeSpace_10 : decode cX4_freeSpace 10 = .ok (.aload_n 0, 1) := by decide +kernel
theorem dX4_freeSpace_11 : decode cX4_freeSpace 11 = .ok (.getfield 9, 3) := by decide +kernel
theorem dX4_freeSpace_14 : decode cX4_freeSpace 14 = .ok (.iload_n 1, 1) := by decide +kernel
theorem dX4_freeSpace_15 : decode cX4_freeSpace 15 = .ok (.iaload, 1) := by decide +kernel
theorem dX4_freeSpace_16 : decode cX4_freeSpace 16 = .ok (.aload_n 0, 1) := by decide +kernel
theorem dX4_freeSpace_17 : decode cX4_freeSpace 17 = .ok (.getfield 21, 3) := by decide +kernel
theorem dX4_freeSpace_20 : decode cX4_freeSpace 20 = .ok (.iload_n 1, 1) := by decide +kernel
theorem dX4_freeSpace_21 : decode cX4_freeSpace 21 = .ok (.iaload, 1) := by decide +kernel
theorem dX4_freeSpace_22 : decode cX4_freeSpace 22 = .ok (.isub, 1) := by decide +kernel
theorem dX4_freeSpace_23 : decode cX4_freeSpace 23 = .ok (.goto 4, 3) := by decide +kernel
theorem dX4_freeSpace_26 : decode cX4_freeSpace 26 = .ok (.iconst 0, 1) := by decide +kernel
theorem dX4_freeSpace_27 : decode cX4_freeSpace 27 = .ok (.ireturn, 1) := by decide +kernel
theorem dX4_number_0 : decode cX4_number 0 = .ok (.iconst 0, 1) := by decide +kernel
theorem dX4_number_1 : decode cX4_number 1 = .ok (.istore_n 1, 1) := by decide +kernel
theorem dX4_number_2 : decode cX4_number 2 = .ok (.iconst 0, 1) := by decide +kernel
theorem dX4_number_3 : decode cX4_number 3 = .ok (.istore_n 2, 1) := by decide +kernel
theorem dX4_number_4 : decode cX4_number 4 = .ok (.iload_n 2, 1) := by decide +kernel
theorem dX4_number_5 : decode cX4_number 5 = .ok (.bipush 12, 2) := by decide +kernel
theorem dX4_number_7 : decode cX4_number 7 = .ok (.if_icmp .ge 20, 3) := by decide +kernel
theorem dX4_number_10 : decode cX4_number 10 = .ok (.aload_n 0, 1) := by decide +kernel
theorem dX4_number_11 : decode cX4_number 11 = .ok (.iload_n 2, 1) := by decide +kernel
theorem dX4_number_12 : decode cX4_number 12 = .ok (.invokevirtual 31, 3) := by decide +kernel
theorem dX4_number_15 : decode cX4_number 15 = .ok (.ifCond .eq 6, 3) := by decide +kernel
theorem dX4_number_18 : decode cX4_number 18 = .ok (.iinc 1 1, 3) := by decide +kernel
theorem dX4_number_21 : decode cX4_number 21 = .ok (.iinc 2 1, 3) := by decide +kernel
theorem dX4_number_24 : decode cX4_number 24 = .ok (.goto (-20), 3) := by decide +kernel
theorem dX4_number_27 : decode cX4_number 27 = .ok (.iload_n 1, 1) := by decide +kernel
theorem dX4_number_28 : decode cX4_number 28 = .ok (.ireturn, 1) := by decide +kernel
theorem dX4_lowestUnused_0 : decode cX4_lowestUnused 0 = .ok (.iconst 0, 1) := by decide +kernel
theorem dX4_lowestUnused_1 : decode cX4_lowestUnused 1 = .ok (.istore_n 1, 1) := by decide +kernel
theorem dX4_lowestUnused_2 : decode cX4_lowestUnused 2 = .ok (.iload_n 1, 1) := by decide +kernel
theorem dX4_lowestUnused_3 : decode cX4_lowestUnused 3 = .ok (.bipush 12, 2) := by decide +kernel
theorem dX4_lowestUnused_5 : decode cX4_lowestUnused 5 = .ok (.if_icmp .ge 19, 3) := by decide +kernel
theorem dX4_lowestUnused_8 : decode cX4_lowestUnused 8 = .ok (.aload_n 0, 1) := by decide +kernel
theorem dX4_lowestUnused_9 : decode cX4_lowestUnused 9 = .ok (.iload_n 1, 1) := by decide +kernel
theorem dX4_lowestUnused_10 : decode cX4_lowestUnused 10 = .ok (.invokevirtual 31, 3) := by decide +kernel
theorem dX4_lowestUnused_13 : decode cX4_lowestUnused 13 = .ok (.ifCond .ne 5, 3) := by decide +kernel
theorem dX4_lowestUnused_16 : decode cX4_lowestUnused 16 = .ok (.iload_n 1, 1) := by decide +kernel
theorem dX4_lowestUnused_17 : decode cX4_lowestUnused 17 = .ok (.ireturn, 1) := by decide +kernel
theorem dX4_lowestUnused_18 : decode cX4_lowestUnused 18 = .ok (.iinc 1 1, 3) := by decide +kernel
theorem dX4_lowestUnused_21 : decode cX4_lowestUnused 21 = .ok (.goto (-19), 3) := by decide +kernel
theorem dX4_lowestUnused_24 : decode cX4_lowestUnused 24 = .ok (.iconst (-1), 1) := by decide +kernel
theorem dX4_lowestUnused_25 : decode cX4_lowestUnused 25 = .ok (.ireturn, 1) := by decide +kernel
theorem dX4_onlineFreeSpace_0 : decode cX4_onlineFreeSpace 0 = .ok (.iconst 0, 1) := by decide +kernel
theorem dX4_onlineFreeSpace_1 : decode cX4_onlineFreeSpace 1 = .ok (.istore_n 1, 1) := by decide +kernel
theorem dX4_onlineFreeSpace_2 : decode cX4_onlineFreeSpace 2 = .ok (.iconst 0, 1) := by decide +kernel
theorem dX4_onlineFreeSpace_3 : decode cX4_onlineFreeSpace 3 = .ok (.istore_n 2, 1) := by decide +kernel
theorem dX4_onlineFreeSpace_4 : decode cX4_onlineFreeSpace 4 = .ok (.iload_n 2, 1) := by decide +kernel
theorem dX4_onlineFreeSpace_5 : decode cX4_onlineFreeSpace 5 = .ok (.bipush 12, 2) := by decide +kernel
theorem dX4_onlineFreeSpace_7 : decode cX4_onlineFreeSpace 7 = .ok (.if_icmp .ge 25, 3) := by decide +kernel
theorem dX4_onlineFreeSpace_10 : decode cX4_onlineFreeSpace 10 = .ok (.aload_n 0, 1) := by decide +kernel
theorem dX4_onlineFreeSpace_11 : decode cX4_onlineFreeSpace 11 = .ok (.iload_n 2, 1) := by decide +kernel
theorem dX4_onlineFreeSpace_12 : decode cX4_onlineFreeSpace 12 = .ok (.invokevirtual 35, 3) := by decide +kernel
theorem dX4_onlineFreeSpace_15 : decode cX4_onlineFreeSpace 15 = .ok (.ifCond .eq 11, 3) := by decide +kernel
theorem dX4_onlineFreeSpace_18 : decode cX4_onlineFreeSpace 18 = .ok (.iload_n 1, 1) := by decide +kernel
theorem dX4_onlineFreeSpace_19 : decode cX4_onlineFreeSpace 19 = .ok (.aload_n 0, 1) := by decide +kernel
theorem dX4_onlineFreeSpace_20 : decode cX4_onlineFreeSpace 20 = .ok (.iload_n 2, 1) := by decide +kernel
theorem dX4_onlineFreeSpace_21 : decode cX4_onlineFreeSpace 21 = .ok (.invokevirtual 38, 3) := by decide +kernel
theorem dX4_onlineFreeSpace_24 : decode cX4_onlineFreeSpace 24 = .ok (.iadd, 1) := by decide +kernel
theorem dX4_onlineFreeSpace_25 : decode cX4_onlineFreeSpace 25 = .ok (.istore_n 1, 1) := by decide +kernel
theorem dX4_onlineFreeSpace_26 : decode cX4_onlineFreeSpace 26 = .ok (.iinc 2 1, 3) := by decide +kernel
theorem dX4_onlineFreeSpace_29 : decode cX4_onlineFreeSpace 29 = .ok (.goto (-25), 3) := by decide +kernel
theorem dX4_onlineFreeSpace_32 : decode cX4_onlineFreeSpace 32 = .ok (.iload_n 1, 1) := by decide +kernel
theorem dX4_onlineFreeSpace_33 : decode cX4_onlineFreeSpace 33 = .ok (.ireturn, 1) := by decide +kernel
theorem dX4_add_0 : decode cX4_add 0 = .ok (.iload_n 1, 1) := by decide +kernel
theorem dX4_add_1 : decode cX4_add 1 = .ok (.ifCond .lt 9, 3) := by decide +kernel
theorem dX4_add_4 : decode cX4_add 4 = .ok (.iload_n 1, 1) := by decide +kernel
theorem dX4_add_5 : decode cX4_add 5 = .ok (.bipush 12, 2) := by decide +kernel
theorem dX4_add_7 : decode cX4_add 7 = .ok (.if_icmp .lt 4, 3) := by decide +kernel
theorem dX4_add_10 : decode cX4_add 10 = .ok (.return_, 1) := by decide +kernel
theorem dX4_add_11 : decode cX4_add 11 = .ok (.aload_n 0, 1) := by decide +kernel
theorem dX4_add_12 : decode cX4_add 12 = .ok (.getfield 9, 3) := by decide +kernel
theorem dX4_add_15 : decode cX4_add 15 = .ok (.iload_n 1, 1) := by decide +kernel
theorem dX4_add_16 : decode cX4_add 16 = .ok (.iload_n 2, 1) := by decide +kernel
theorem dX4_add_17 : decode cX4_add 17 = .ok (.iastore, 1) := by decide +kernel
theorem dX4_add_18 : decode cX4_add 18 = .ok (.aload_n 0, 1) := by decide +kernel
theorem dX4_add_19 : decode cX4_add 19 = .ok (.getfield 15, 3) := by decide +kernel
theorem dX4_add_22 : decode cX4_add 22 = .ok (.iload_n 1, 1) := by decide +kernel
theorem dX4_add_23 : decode cX4_add 23 = .ok (.iconst 1, 1) := by decide +kernel
theorem dX4_add_24 : decode cX4_add 24 = .ok (.iastore, 1) := by decide +kernel
theorem dX4_add_25 : decode cX4_add 25 = .ok (.aload_n 0, 1) := by decide +kernel
theorem dX4_add_26 : decode cX4_add 26 = .ok (.getfield 18, 3) := by decide +kernel
theorem dX4_add_29 : decode cX4_add 29 = .ok (.iload_n 1, 1) := by decide +kernel
theorem dX4_add_30 : decode cX4_add 30 = .ok (.bipush 50, 2) := by decide +kernel
theorem dX4_add_32 : decode cX4_add 32 = .ok (.iastore, 1) := by decide +kernel
theorem dX4_add_33 : decode cX4_add 33 = .ok (.return_, 1) := by decide +kernel
theorem dX4_remove_0 : decode cX4_remove 0 = .ok (.aload_n 0, 1) := by decide +kernel
theorem dX4_remove_1 : decode cX4_remove 1 = .ok (.iload_n 1, 1) := by decide +kernel
theorem dX4_remove_2 : decode cX4_remove 2 = .ok (.invokevirtual 31, 3) := by decide +kernel
theorem dX4_remove_5 : decode cX4_remove 5 = .ok (.ifCond .ne 4, 3) := by decide +kernel
theorem dX4_remove_8 : decode cX4_remove 8 = .ok (.return_, 1) := by decide +kernel
theorem dX4_remove_9 : decode cX4_remove 9 = .ok (.iconst 0, 1) := by decide +kernel
theorem dX4_remove_10 : decode cX4_remove 10 = .ok (.istore_n 2, 1) := by decide +kernel
theorem dX4_remove_11 : decode cX4_remove 11 = .ok (.iload_n 2, 1) := by decide +kernel
theorem dX4_remove_12 : decode cX4_remove 12 = .ok (.bipush 12, 2) := by decide +kernel
theorem dX4_remove_14 : decode cX4_remove 14 = .ok (.if_icmp .ge 33, 3) := by decide +kernel
theorem dX4_remove_17 : decode cX4_remove 17 = .ok (.aload_n 0, 1) := by decide +kernel
theorem dX4_remove_18 : decode cX4_remove 18 = .ok (.getfield 24, 3) := by decide +kernel
theorem dX4_remove_21 : decode cX4_remove 21 = .ok (.iload_n 1, 1) := by decide +kernel
theorem dX4_remove_22 : decode cX4_remove 22 = .ok (.bipush 12, 2) := by decide +kernel
theorem dX4_remove_24 : decode cX4_remove 24 = .ok (.imul, 1) := by decide +kernel
theorem dX4_remove_25 : decode cX4_remove 25 = .ok (.iload_n 2, 1) := by decide +kernel
theorem dX4_remove_26 : decode cX4_remove 26 = .ok (.iadd, 1) := by decide +kernel
theorem dX4_remove_27 : decode cX4_remove 27 = .ok (.iconst 0, 1) := by decide +kernel
theorem dX4_remove_28 : decode cX4_remove 28 = .ok (.iastore, 1) := by decide +kernel
theorem dX4_remove_29 : decode cX4_remove 29 = .ok (.aload_n 0, 1) := by decide +kernel
theorem dX4_remove_30 : decode cX4_remove 30 = .ok (.getfield 24, 3) := by decide +kernel
theorem dX4_remove_33 : decode cX4_remove 33 = .ok (.iload_n 2, 1) := by decide +kernel
theorem dX4_remove_34 : decode cX4_remove 34 = .ok (.bipush 12, 2) := by decide +kernel
theorem dX4_remove_36 : decode cX4_remove 36 = .ok (.imul, 1) := by decide +kernel
theorem dX4_remove_37 : decode cX4_remove 37 = .ok (.iload_n 1, 1) := by decide +kernel
theorem dX4_remove_38 : decode cX4_remove 38 = .ok (.iadd, 1) := by decide +kernel
theorem dX4_remove_39 : decode cX4_remove 39 = .ok (.iconst 0, 1) := by decide +kernel
theorem dX4_remove_40 : decode cX4_remove 40 = .ok (.iastore, 1) := by decide +kernel
theorem dX4_remove_41 : decode cX4_remove 41 = .ok (.iinc 2 1, 3) := by decide +kernel
theorem dX4_remove_44 : decode cX4_remove 44 = .ok (.goto (-33), 3) := by decide +kernel
theorem dX4_remove_47 : decode cX4_remove 47 = .ok (.aload_n 0, 1) := by decide +kernel
theorem dX4_remove_48 : decode cX4_remove 48 = .ok (.getfield 9, 3) := by decide +kernel
theorem dX4_remove_51 : decode cX4_remove 51 = .ok (.iload_n 1, 1) := by decide +kernel
theorem dX4_remove_52 : decode cX4_remove 52 = .ok (.iconst 0, 1) := by decide +kernel
theorem dX4_remove_53 : decode cX4_remove 53 = .ok (.iastore, 1) := by decide +kernel
theorem dX4_remove_54 : decode cX4_remove 54 = .ok (.aload_n 0, 1) := by decide +kernel
theorem dX4_remove_55 : decode cX4_remove 55 = .ok (.getfield 15, 3) := by decide +kernel
theorem dX4_remove_58 : decode cX4_remove 58 = .ok (.iload_n 1, 1) := by decide +kernel
theorem dX4_remove_59 : decode cX4_remove 59 = .ok (.iconst 0, 1) := by decide +kernel
theorem dX4_remove_60 : decode cX4_remove 60 = .ok (.iastore, 1) := by decide +kernel
theorem dX4_remove_61 : decode cX4_remove 61 = .ok (.aload_n 0, 1) := by decide +kernel
theorem dX4_remove_62 : decode cX4_remove 62 = .ok (.getfield 18, 3) := by decide +kernel
theorem dX4_remove_65 : decode cX4_remove 65 = .ok (.iload_n 1, 1) := by decide +kernel
theorem dX4_remove_66 : decode cX4_remove 66 = .ok (.iconst 0, 1) := by decide +kernel
theorem dX4_remove_67 : decode cX4_remove 67 = .ok (.iastore, 1) := by decide +kernel
theorem dX4_remove_68 : decode cX4_remove 68 = .ok (.aload_n 0, 1) := by decide +kernel
theorem dX4_remove_69 : decode cX4_remove 69 = .ok (.getfield 21, 3) := by decide +kernel
theorem dX4_remove_72 : decode cX4_remove 72 = .ok (.iload_n 1, 1) := by decide +kernel
theorem dX4_remove_73 : decode cX4_remove 73 = .ok (.iconst 0, 1) := by decide +kernel
theorem dX4_remove_74 : decode cX4_remove 74 = .ok (.iastore, 1) := by decide +kernel
theorem dX4_remove_75 : decode cX4_remove 75 = .ok (.return_, 1) := by decide +kernel
theorem dX4_addLoad_0 : decode cX4_addLoad 0 = .ok (.aload_n 0, 1) := by decide +kernel
theorem dX4_addLoad_1 : decode cX4_addLoad 1 = .ok (.iload_n 1, 1) := by decide +kernel
theorem dX4_addLoad_2 : decode cX4_addLoad 2 = .ok (.invokevirtual 31, 3) := by decide +kernel
theorem dX4_addLoad_5 : decode cX4_addLoad 5 = .ok (.ifCond .eq 13, 3) := by decide +kernel
theorem dX4_addLoad_8 : decode cX4_addLoad 8 = .ok (.aload_n 0, 1) := by decide +kernel
theorem dX4_addLoad_9 : decode cX4_addLoad 9 = .ok (.getfield 21, 3) := by decide +kernel
theorem dX4_addLoad_12 : decode cX4_addLoad 12 = .ok (.iload_n 1, 1) := by decide +kernel
theorem dX4_addLoad_13 : decode cX4_addLoad 13 = .ok (.dup2, 1) := by decide +kernel
theorem dX4_addLoad_14 : decode cX4_addLoad 14 = .ok (.iaload, 1) := by decide +kernel
theorem dX4_addLoad_15 : decode cX4_addLoad 15 = .ok (.iload_n 2, 1) := by decide +kernel
theorem dX4_addLoad_16 : decode cX4_addLoad 16 = .ok (.iadd, 1) := by decide +kernel
theorem dX4_addLoad_17 : decode cX4_addLoad 17 = .ok (.iastore, 1) := by decide +kernel
theorem dX4_addLoad_18 : decode cX4_addLoad 18 = .ok (.return_, 1) := by decide +kernel
theorem dX4_raiseTrust_0 : decode cX4_raiseTrust 0 = .ok (.aload_n 0, 1) := by decide +kernel
theorem dX4_raiseTrust_1 : decode cX4_raiseTrust 1 = .ok (.iload_n 1, 1) := by decide +kernel
theorem dX4_raiseTrust_2 : decode cX4_raiseTrust 2 = .ok (.invokevirtual 31, 3) := by decide +kernel
theorem dX4_raiseTrust_5 : decode cX4_raiseTrust 5 = .ok (.ifCond .eq 22, 3) := by decide +kernel
theorem dX4_raiseTrust_8 : decode cX4_raiseTrust 8 = .ok (.aload_n 0, 1) := by decide +kernel
theorem dX4_raiseTrust_9 : decode cX4_raiseTrust 9 = .ok (.getfield 18, 3) := by decide +kernel
theorem dX4_raiseTrust_12 : decode cX4_raiseTrust 12 = .ok (.iload_n 1, 1) := by decide +kernel
theorem dX4_raiseTrust_13 : decode cX4_raiseTrust 13 = .ok (.aload_n 0, 1) := by decide +kernel
theorem dX4_raiseTrust_14 : decode cX4_raiseTrust 14 = .ok (.getfield 18, 3) := by decide +kernel
theorem dX4_raiseTrust_17 : decode cX4_raiseTrust 17 = .ok (.iload_n 1, 1) := by decide +kernel
theorem dX4_raiseTrust_18 : decode cX4_raiseTrust 18 = .ok (.iaload, 1) := by decide +kernel
theorem dX4_raiseTrust_19 : decode cX4_raiseTrust 19 = .ok (.iconst 5, 1) := by decide +kernel
theorem dX4_raiseTrust_20 : decode cX4_raiseTrust 20 = .ok (.iadd, 1) := by decide +kernel
theorem dX4_raiseTrust_21 : decode cX4_raiseTrust 21 = .ok (.bipush 100, 2) := by decide +kernel
theorem dX4_raiseTrust_23 : decode cX4_raiseTrust 23 = .ok (.invokestatic 42, 3) := by decide +kernel
theorem dX4_raiseTrust_26 : decode cX4_raiseTrust 26 = .ok (.iastore, 1) := by decide +kernel
theorem dX4_raiseTrust_27 : decode cX4_raiseTrust 27 = .ok (.return_, 1) := by decide +kernel
theorem dX4_halveTrust_0 : decode cX4_halveTrust 0 = .ok (.aload_n 0, 1) := by decide +kernel
theorem dX4_halveTrust_1 : decode cX4_halveTrust 1 = .ok (.iload_n 1, 1) := by decide +kernel
theorem dX4_halveTrust_2 : decode cX4_halveTrust 2 = .ok (.invokevirtual 31, 3) := by decide +kernel
theorem dX4_halveTrust_5 : decode cX4_halveTrust 5 = .ok (.ifCond .eq 17, 3) := by decide +kernel
theorem dX4_halveTrust_8 : decode cX4_halveTrust 8 = .ok (.aload_n 0, 1) := by decide +kernel
theorem dX4_halveTrust_9 : decode cX4_halveTrust 9 = .ok (.getfield 18, 3) := by decide +kernel
theorem dX4_halveTrust_12 : decode cX4_halveTrust 12 = .ok (.iload_n 1, 1) := by decide +kernel
theorem dX4_halveTrust_13 : decode cX4_halveTrust 13 = .ok (.aload_n 0, 1) := by decide +kernel
theorem dX4_halveTrust_14 : decode cX4_halveTrust 14 = .ok (.getfield 18, 3) := by decide +kernel
theorem dX4_halveTrust_17 : decode cX4_halveTrust 17 = .ok (.iload_n 1, 1) := by decide +kernel
theorem dX4_halveTrust_18 : decode cX4_halveTrust 18 = .ok (.iaload, 1) := by decide +kernel
theorem dX4_halveTrust_19 : decode cX4_halveTrust 19 = .ok (.iconst 2, 1) := by decide +kernel
theorem dX4_halveTrust_20 : decode cX4_halveTrust 20 = .ok (.idiv, 1) := by decide +kernel
theorem dX4_halveTrust_21 : decode cX4_halveTrust 21 = .ok (.iastore, 1) := by decide +kernel
theorem dX4_halveTrust_22 : decode cX4_halveTrust 22 = .ok (.return_, 1) := by decide +kernel
theorem dX4_isBetterPlace_0 : decode cX4_isBetterPlace 0 = .ok (.aload_n 0, 1) := by decide +kernel
theorem dX4_isBetterPlace_1 : decode cX4_isBetterPlace 1 = .ok (.iload_n 2, 1) := by decide +kernel
theorem dX4_isBetterPlace_2 : decode cX4_isBetterPlace 2 = .ok (.invokevirtual 31, 3) := by decide +kernel
theorem dX4_isBetterPlace_5 : decode cX4_isBetterPlace 5 = .ok (.ifCond .ne 5, 3) := by decide +kernel
theorem dX4_isBetterPlace_8 : decode cX4_isBetterPlace 8 = .ok (.iconst 1, 1) := by decide +kernel
theorem dX4_isBetterPlace_9 : decode cX4_isBetterPlace 9 = .ok (.ireturn, 1) := by decide +kernel
theorem dX4_isBetterPlace_10 : decode cX4_isBetterPlace 10 = .ok (.aload_n 0, 1) := by decide +kernel
theorem dX4_isBetterPlace_11 : decode cX4_isBetterPlace 11 = .ok (.iload_n 1, 1) := by decide +kernel
theorem dX4_isBetterPlace_12 : decode cX4_isBetterPlace 12 = .ok (.invokevirtual 31, 3) := by decide +kernel
theorem dX4_isBetterPlace_15 : decode cX4_isBetterPlace 15 = .ok (.ifCond .ne 5, 3) := by decide +kernel
theorem dX4_isBetterPlace_18 : decode cX4_isBetterPlace 18 = .ok (.iconst 0, 1) := by decide +kernel
theorem dX4_isBetterPlace_19 : decode cX4_isBetterPlace 19 = .ok (.ireturn, 1) := by decide +kernel
theorem dX4_isBetterPlace_20 : decode cX4_isBetterPlace 20 = .ok (.aload_n 0, 1) := by decide +kernel
theorem dX4_isBetterPlace_21 : decode cX4_isBetterPlace 21 = .ok (.getfield 18, 3) := by decide +kernel
theorem dX4_isBetterPlace_24 : decode cX4_isBetterPlace 24 = .ok (.iload_n 1, 1) := by decide +kernel
theorem dX4_isBetterPlace_25 : decode cX4_isBetterPlace 25 = .ok (.iaload, 1) := by decide +kernel
theorem dX4_isBetterPlace_26 : decode cX4_isBetterPlace 26 = .ok (.aload_n 0, 1) := by decide +kernel
theorem dX4_isBetterPlace_27 : decode cX4_isBetterPlace 27 = .ok (.getfield 18, 3) := by decide +kernel
theorem dX4_isBetterPlace_30 : decode cX4_isBetterPlace 30 = .ok (.iload_n 2, 1) := by decide +kernel
theorem dX4_isBetterPlace_31 : decode cX4_isBetterPlace 31 = .ok (.iaload, 1) := by decide +kernel
theorem dX4_isBetterPlace_32 : decode cX4_isBetterPlace 32 = .ok (.if_icmp .eq 24, 3) := by decide +kernel
theorem dX4_isBetterPlace_35 : decode cX4_isBetterPlace 35 = .ok (.aload_n 0, 1) := by decide +kernel
theorem dX4_isBetterPlace_36 : decode cX4_isBetterPlace 36 = .ok (.getfield 18, 3) := by decide +kernel
theorem dX4_isBetterPlace_39 : decode cX4_isBetterPlace 39 = .ok (.iload_n 1, 1) := by decide +kernel
theorem dX4_isBetterPlace_40 : decode cX4_isBetterPlace 40 = .ok (.iaload, 1) := by decide +kernel
theorem dX4_isBetterPlace_41 : decode cX4_isBetterPlace 41 = .ok (.aload_n 0, 1) := by decide +kernel
theorem dX4_isBetterPlace_42 : decode cX4_isBetterPlace 42 = .ok (.getfield 18, 3) := by decide +kernel
theorem dX4_isBetterPlace_45 : decode cX4_isBetterPlace 45 = .ok (.iload_n 2, 1) := by decide +kernel
theorem dX4_isBetterPlace_46 : decode cX4_isBetterPlace 46 = .ok (.iaload, 1) := by decide +kernel
theorem dX4_isBetterPlace_47 : decode cX4_isBetterPlace 47 = .ok (.if_icmp .le 7, 3) := by decide +kernel
theorem dX4_isBetterPlace_50 : decode cX4_isBetterPlace 50 = .ok (.iconst 1, 1) := by decide +kernel
theorem dX4_isBetterPlace_51 : decode cX4_isBetterPlace 51 = .ok (.goto 4, 3) := by decide +kernel
theorem dX4_isBetterPlace_54 : decode cX4_isBetterPlace 54 = .ok (.iconst 0, 1) := by decide +kernel
theorem dX4_isBetterPlace_55 : decode cX4_isBetterPlace 55 = .ok (.ireturn, 1) := by decide +kernel
theorem dX4_isBetterPlace_56 : decode cX4_isBetterPlace 56 = .ok (.aload_n 0, 1) := by decide +kernel
theorem dX4_isBetterPlace_57 : decode cX4_isBetterPlace 57 = .ok (.iload_n 1, 1) := by decide +kernel
theorem dX4_isBetterPlace_58 : decode cX4_isBetterPlace 58 = .ok (.invokevirtual 38, 3) := by decide +kernel
theorem dX4_isBetterPlace_61 : decode cX4_isBetterPlace 61 = .ok (.aload_n 0, 1) := by decide +kernel
theorem dX4_isBetterPlace_62 : decode cX4_isBetterPlace 62 = .ok (.iload_n 2, 1) := by decide +kernel
theorem dX4_isBetterPlace_63 : decode cX4_isBetterPlace 63 = .ok (.invokevirtual 38, 3) := by decide +kernel
theorem dX4_isBetterPlace_66 : decode cX4_isBetterPlace 66 = .ok (.if_icmp .le 7, 3) := by decide +kernel
theorem dX4_isBetterPlace_69 : decode cX4_isBetterPlace 69 = .ok (.iconst 1, 1) := by decide +kernel
theorem dX4_isBetterPlace_70 : decode cX4_isBetterPlace 70 = .ok (.goto 4, 3) := by decide +kernel
theorem dX4_isBetterPlace_73 : decode cX4_isBetterPlace 73 = .ok (.iconst 0, 1) := by decide +kernel
theorem dX4_isBetterPlace_74 : decode cX4_isBetterPlace 74 = .ok (.ireturn, 1) := by decide +kernel
theorem dX4_owe_0 : decode cX4_owe 0 = .ok (.iload_n 1, 1) := by decide +kernel
theorem dX4_owe_1 : decode cX4_owe 1 = .ok (.iload_n 2, 1) := by decide +kernel
theorem dX4_owe_2 : decode cX4_owe 2 = .ok (.if_icmp .eq 49, 3) := by decide +kernel
theorem dX4_owe_5 : decode cX4_owe 5 = .ok (.aload_n 0, 1) := by decide +kernel
theorem dX4_owe_6 : decode cX4_owe 6 = .ok (.iload_n 1, 1) := by decide +kernel
theorem dX4_owe_7 : decode cX4_owe 7 = .ok (.invokevirtual 31, 3) := by decide +kernel
theorem dX4_owe_10 : decode cX4_owe 10 = .ok (.ifCond .eq 41, 3) := by decide +kernel
theorem dX4_owe_13 : decode cX4_owe 13 = .ok (.aload_n 0, 1) := by decide +kernel
theorem dX4_owe_14 : decode cX4_owe 14 = .ok (.iload_n 2, 1) := by decide +kernel
theorem dX4_owe_15 : decode cX4_owe 15 = .ok (.invokevirtual 31, 3) := by decide +kernel
theorem dX4_owe_18 : decode cX4_owe 18 = .ok (.ifCond .eq 33, 3) := by decide +kernel
theorem dX4_owe_21 : decode cX4_owe 21 = .ok (.aload_n 0, 1) := by decide +kernel
theorem dX4_owe_22 : decode cX4_owe 22 = .ok (.getfield 24, 3) := by decide +kernel
theorem dX4_owe_25 : decode cX4_owe 25 = .ok (.iload_n 1, 1) := by decide +kernel
theorem dX4_owe_26 : decode cX4_owe 26 = .ok (.bipush 12, 2) := by decide +kernel
theorem dX4_owe_28 : decode cX4_owe 28 = .ok (.imul, 1) := by decide +kernel
theorem dX4_owe_29 : decode cX4_owe 29 = .ok (.iload_n 2, 1) := by decide +kernel
theorem dX4_owe_30 : decode cX4_owe 30 = .ok (.iadd, 1) := by decide +kernel
theorem dX4_owe_31 : decode cX4_owe 31 = .ok (.dup2, 1) := by decide +kernel
theorem dX4_owe_32 : decode cX4_owe 32 = .ok (.iaload, 1) := by decide +kernel
theorem dX4_owe_33 : decode cX4_owe 33 = .ok (.iload_n 3, 1) := by decide +kernel
theorem dX4_owe_34 : decode cX4_owe 34 = .ok (.iadd, 1) := by decide +kernel
theorem dX4_owe_35 : decode cX4_owe 35 = .ok (.iastore, 1) := by decide +kernel
theorem dX4_owe_36 : decode cX4_owe 36 = .ok (.aload_n 0, 1) := by decide +kernel
theorem dX4_owe_37 : decode cX4_owe 37 = .ok (.getfield 24, 3) := by decide +kernel
theorem dX4_owe_40 : decode cX4_owe 40 = .ok (.iload_n 2, 1) := by decide +kernel
theorem dX4_owe_41 : decode cX4_owe 41 = .ok (.bipush 12, 2) := by decide +kernel
theorem dX4_owe_43 : decode cX4_owe 43 = .ok (.imul, 1) := by decide +kernel
theorem dX4_owe_44 : decode cX4_owe 44 = .ok (.iload_n 1, 1) := by decide +kernel
theorem dX4_owe_45 : decode cX4_owe 45 = .ok (.iadd, 1) := by decide +kernel
theorem dX4_owe_46 : decode cX4_owe 46 = .ok (.dup2, 1) := by decide +kernel
theorem dX4_owe_47 : decode cX4_owe 47 = .ok (.iaload, 1) := by decide +kernel
theorem dX4_owe_48 : decode cX4_owe 48 = .ok (.iload_n 3, 1) := by decide +kernel
theorem dX4_owe_49 : decode cX4_owe 49 = .ok (.isub, 1) := by decide +kernel
theorem dX4_owe_50 : decode cX4_owe 50 = .ok (.iastore, 1) := by decide +kernel
theorem dX4_owe_51 : decode cX4_owe 51 = .ok (.return_, 1) := by decide +kernel
theorem dX4_owedBy_0 : decode cX4_owedBy 0 = .ok (.aload_n 0, 1) := by decide +kernel
theorem dX4_owedBy_1 : decode cX4_owedBy 1 = .ok (.iload_n 1, 1) := by decide +kernel
theorem dX4_owedBy_2 : decode cX4_owedBy 2 = .ok (.iload_n 2, 1) := by decide +kernel
theorem dX4_owedBy_3 : decode cX4_owedBy 3 = .ok (.invokevirtual 48, 3) := by decide +kernel
theorem dX4_owedBy_6 : decode cX4_owedBy 6 = .ok (.ifCond .eq 17, 3) := by decide +kernel
theorem dX4_owedBy_9 : decode cX4_owedBy 9 = .ok (.aload_n 0, 1) := by decide +kernel
theorem dX4_owedBy_10 : decode cX4_owedBy 10 = .ok (.getfield 24, 3) := by decide +kernel
theorem dX4_owedBy_13 : decode cX4_owedBy 13 = .ok (.iload_n 1, 1) := by decide +kernel
theorem dX4_owedBy_14 : decode cX4_owedBy 14 = .ok (.bipush 12, 2) := by decide +kernel
theorem dX4_owedBy_16 : decode cX4_owedBy 16 = .ok (.imul, 1) := by decide +kernel
theorem dX4_owedBy_17 : decode cX4_owedBy 17 = .ok (.iload_n 2, 1) := by decide +kernel
theorem dX4_owedBy_18 : decode cX4_owedBy 18 = .ok (.iadd, 1) := by decide +kernel
theorem dX4_owedBy_19 : decode cX4_owedBy 19 = .ok (.iaload, 1) := by decide +kernel
theorem dX4_owedBy_20 : decode cX4_owedBy 20 = .ok (.goto 4, 3) := by decide +kernel
theorem dX4_owedBy_23 : decode cX4_owedBy 23 = .ok (.iconst 0, 1) := by decide +kernel
theorem dX4_owedBy_24 : decode cX4_owedBy 24 = .ok (.ireturn, 1) := by decide +kernel
theorem dX4_sumOwedBy_0 : decode cX4_sumOwedBy 0 = .ok (.iconst 0, 1) := by decide +kernel
theorem dX4_sumOwedBy_1 : decode cX4_sumOwedBy 1 = .ok (.istore_n 2, 1) := by decide +kernel
theorem dX4_sumOwedBy_2 : decode cX4_sumOwedBy 2 = .ok (.iconst 0, 1) := by decide +kernel
theorem dX4_sumOwedBy_3 : decode cX4_sumOwedBy 3 = .ok (.istore_n 3, 1) := by decide +kernel
theorem dX4_sumOwedBy_4 : decode cX4_sumOwedBy 4 = .ok (.iload_n 3, 1) := by decide +kernel
theorem dX4_sumOwedBy_5 : decode cX4_sumOwedBy 5 = .ok (.bipush 12, 2) := by decide +kernel
theorem dX4_sumOwedBy_7 : decode cX4_sumOwedBy 7 = .ok (.if_icmp .ge 18, 3) := by decide +kernel
theorem dX4_sumOwedBy_10 : decode cX4_sumOwedBy 10 = .ok (.iload_n 2, 1) := by decide +kernel
theorem dX4_sumOwedBy_11 : decode cX4_sumOwedBy 11 = .ok (.aload_n 0, 1) := by decide +kernel
theorem dX4_sumOwedBy_12 : decode cX4_sumOwedBy 12 = .ok (.iload_n 1, 1) := by decide +kernel
theorem dX4_sumOwedBy_13 : decode cX4_sumOwedBy 13 = .ok (.iload_n 3, 1) := by decide +kernel
theorem dX4_sumOwedBy_14 : decode cX4_sumOwedBy 14 = .ok (.invokevirtual 52, 3) := by decide +kernel
theorem dX4_sumOwedBy_17 : decode cX4_sumOwedBy 17 = .ok (.iadd, 1) := by decide +kernel
theorem dX4_sumOwedBy_18 : decode cX4_sumOwedBy 18 = .ok (.istore_n 2, 1) := by decide +kernel
theorem dX4_sumOwedBy_19 : decode cX4_sumOwedBy 19 = .ok (.iinc 3 1, 3) := by decide +kernel
theorem dX4_sumOwedBy_22 : decode cX4_sumOwedBy 22 = .ok (.goto (-18), 3) := by decide +kernel
theorem dX4_sumOwedBy_25 : decode cX4_sumOwedBy 25 = .ok (.iload_n 2, 1) := by decide +kernel
theorem dX4_sumOwedBy_26 : decode cX4_sumOwedBy 26 = .ok (.ireturn, 1) := by decide +kernel
theorem dX4_sumOfDebts_0 : decode cX4_sumOfDebts 0 = .ok (.iconst 0, 1) := by decide +kernel
theorem dX4_sumOfDebts_1 : decode cX4_sumOfDebts 1 = .ok (.istore_n 1, 1) := by decide +kernel
theorem dX4_sumOfDebts_2 : decode cX4_sumOfDebts 2 = .ok (.iconst 0, 1) := by decide +kernel
theorem dX4_sumOfDebts_3 : decode cX4_sumOfDebts 3 = .ok (.istore_n 2, 1) := by decide +kernel
theorem dX4_sumOfDebts_4 : decode cX4_sumOfDebts 4 = .ok (.iload_n 2, 1) := by decide +kernel
theorem dX4_sumOfDebts_5 : decode cX4_sumOfDebts 5 = .ok (.sipush 144, 3) := by decide +kernel
theorem dX4_sumOfDebts_8 : decode cX4_sumOfDebts 8 = .ok (.if_icmp .ge 22, 3) := by decide +kernel
theorem dX4_sumOfDebts_11 : decode cX4_sumOfDebts 11 = .ok (.iload_n 1, 1) := by decide +kernel
theorem dX4_sumOfDebts_12 : decode cX4_sumOfDebts 12 = .ok (.aload_n 0, 1) := by decide +kernel
theorem dX4_sumOfDebts_13 : decode cX4_sumOfDebts 13 = .ok (.getfield 24, 3) := by decide +kernel
theorem dX4_sumOfDebts_16 : decode cX4_sumOfDebts 16 = .ok (.iload_n 2, 1) := by decide +kernel
theorem dX4_sumOfDebts_17 : decode cX4_sumOfDebts 17 = .ok (.iaload, 1) := by decide +kernel
theorem dX4_sumOfDebts_18 : decode cX4_sumOfDebts 18 = .ok (.iconst 0, 1) := by decide +kernel
theorem dX4_sumOfDebts_19 : decode cX4_sumOfDebts 19 = .ok (.invokestatic 55, 3) := by decide +kernel
theorem dX4_sumOfDebts_22 : decode cX4_sumOfDebts 22 = .ok (.iadd, 1) := by decide +kernel
theorem dX4_sumOfDebts_23 : decode cX4_sumOfDebts 23 = .ok (.istore_n 1, 1) := by decide +kernel
theorem dX4_sumOfDebts_24 : decode cX4_sumOfDebts 24 = .ok (.iinc 2 1, 3) := by decide +kernel
theorem dX4_sumOfDebts_27 : decode cX4_sumOfDebts 27 = .ok (.goto (-23), 3) := by decide +kernel
theorem dX4_sumOfDebts_30 : decode cX4_sumOfDebts 30 = .ok (.iload_n 1, 1) := by decide +kernel
theorem dX4_sumOfDebts_31 : decode cX4_sumOfDebts 31 = .ok (.ireturn, 1) := by decide +kernel
theorem dX5_init_0 : decode cX5_init 0 = .ok (.aload_n 0, 1) := by decide +kernel
theorem dX5_init_1 : decode cX5_init 1 = .ok (.invokespecial 3, 3) := by decide +kernel
theorem dX5_init_4 : decode cX5_init 4 = .ok (.aload_n 0, 1) := by decide +kernel
theorem dX5_init_5 : decode cX5_init 5 = .ok (.new 9, 3) := by decide +kernel
theorem dX5_init_8 : decode cX5_init 8 = .ok (.dup, 1) := by decide +kernel
theorem dX5_init_9 : decode cX5_init 9 = .ok (.invokespecial 11, 3) := by decide +kernel
theorem dX5_init_12 : decode cX5_init 12 = .ok (.putfield 12, 3) := by decide +kernel
theorem dX5_init_15 : decode cX5_init 15 = .ok (.aload_n 0, 1) := by decide +kernel
theorem dX5_init_16 : decode cX5_init 16 = .ok (.new 18, 3) := by decide +kernel
theorem dX5_init_19 : decode cX5_init 19 = .ok (.dup, 1) := by decide +kernel
theorem dX5_init_20 : decode cX5_init 20 = .ok (.invokespecial 20, 3) := by decide +kernel
theorem dX5_init_23 : decode cX5_init 23 = .ok (.putfield 21, 3) := by decide +kernel
theorem dX5_init_26 : decode cX5_init 26 = .ok (.aload_n 0, 1) := by decide +kernel
theorem dX5_init_27 : decode cX5_init 27 = .ok (.bipush 6, 2) := by decide +kernel
theorem dX5_init_29 : decode cX5_init 29 = .ok (.newarray .int, 2) := by decide +kernel
theorem dX5_init_31 : decode cX5_init 31 = .ok (.putfield 25, 3) := by decide +kernel
theorem dX5_init_34 : decode cX5_init 34 = .ok (.return_, 1) := by decide +kernel
theorem dX5_copyFrom_0 : decode cX5_copyFrom 0 = .ok (.aload_n 0, 1) := by decide +kernel
theorem dX5_copyFrom_1 : decode cX5_copyFrom 1 = .ok (.getfield 12, 3) := by decide +kernel
theorem dX5_copyFrom_4 : decode cX5_copyFrom 4 = .ok (.aload_n 1, 1) := by decide +kernel
theorem dX5_copyFrom_5 : decode cX5_copyFrom 5 = .ok (.getfield 12, 3) := by decide +kernel
theorem dX5_copyFrom_8 : decode cX5_copyFrom 8 = .ok (.invokevirtual 29, 3) := by decide +kernel
theorem dX5_copyFrom_11 : decode cX5_copyFrom 11 = .ok (.aload_n 0, 1) := by decide +kernel
theorem dX5_copyFrom_12 : decode cX5_copyFrom 12 = .ok (.getfield 21, 3) := by decide +kernel
theorem dX5_copyFrom_15 : decode cX5_copyFrom 15 = .ok (.aload_n 1, 1) := by decide +kernel
theorem dX5_copyFrom_16 : decode cX5_copyFrom 16 = .ok (.getfield 21, 3) := by decide +kernel
theorem dX5_copyFrom_19 : decode cX5_copyFrom 19 = .ok (.invokevirtual 33, 3) := by decide +kernel
theorem dX5_copyFrom_22 : decode cX5_copyFrom 22 = .ok (.aload_n 1, 1) := by decide +kernel
theorem dX5_copyFrom_23 : decode cX5_copyFrom 23 = .ok (.getfield 25, 3) := by decide +kernel
theorem dX5_copyFrom_26 : decode cX5_copyFrom 26 = .ok (.aload_n 0, 1) := by decide +kernel
theorem dX5_copyFrom_27 : decode cX5_copyFrom 27 = .ok (.getfield 25, 3) := by decide +kernel
theorem dX5_copyFrom_30 : decode cX5_copyFrom 30 = .ok (.invokestatic 36, 3) := by decide +kernel
theorem dX5_copyFrom_33 : decode cX5_copyFrom 33 = .ok (.aload_n 0, 1) := by decide +kernel
theorem dX5_copyFrom_34 : decode cX5_copyFrom 34 = .ok (.aload_n 1, 1) := by decide +kernel
theorem dX5_copyFrom_35 : decode cX5_copyFrom 35 = .ok (.getfield 40, 3) := by decide +kernel
theorem dX5_copyFrom_38 : decode cX5_copyFrom 38 = .ok (.putfield 40, 3) := by decide +kernel
theorem dX5_copyFrom_41 : decode cX5_copyFrom 41 = .ok (.return_, 1) := by decide +kernel
theorem dX5_addWaiting_0 : decode cX5_addWaiting 0 = .ok (.aload_n 0, 1) := by decide +kernel
theorem dX5_addWaiting_1 : decode cX5_addWaiting 1 = .ok (.getfield 40, 3) := by decide +kernel
theorem dX5_addWaiting_4 : decode cX5_addWaiting 4 = .ok (.ifCond .lt 32, 3) := by decide +kernel
theorem dX5_addWaiting_7 : decode cX5_addWaiting 7 = .ok (.aload_n 0, 1) := by decide +kernel
theorem dX5_addWaiting_8 : decode cX5_addWaiting 8 = .ok (.getfield 40, 3) := by decide +kernel
theorem dX5_addWaiting_11 : decode cX5_addWaiting 11 = .ok (.bipush 6, 2) := by decide +kernel
theorem dX5_addWaiting_13 : decode cX5_addWaiting 13 = .ok (.if_icmp .ge 23, 3) := by decide +kernel
theorem dX5_addWaiting_16 : decode cX5_addWaiting 16 = .ok (.aload_n 0, 1) := by decide +kernel
theorem dX5_addWaiting_17 : decode cX5_addWaiting 17 = .ok (.getfield 25, 3) := by decide +kernel
theorem dX5_addWaiting_20 : decode cX5_addWaiting 20 = .ok (.aload_n 0, 1) := by decide +kernel
theorem dX5_addWaiting_21 : decode cX5_addWaiting 21 = .ok (.getfield 40, 3) := by decide +kernel
theorem dX5_addWaiting_24 : decode cX5_addWaiting 24 = .ok (.iload_n 1, 1) := by decide +kernel
theorem dX5_addWaiting_25 : decode cX5_addWaiting 25 = .ok (.iastore, 1) := by decide +kernel
theorem dX5_addWaiting_26 : decode cX5_addWaiting 26 = .ok (.aload_n 0, 1) := by decide +kernel
theorem dX5_addWaiting_27 : decode cX5_addWaiting 27 = .ok (.dup, 1) := by decide +kernel
theorem dX5_addWaiting_28 : decode cX5_addWaiting 28 = .ok (.getfield 40, 3) := by decide +kernel
theorem dX5_addWaiting_31 : decode cX5_addWaiting 31 = .ok (.iconst 1, 1) := by decide +kernel
theorem dX5_addWaiting_32 : decode cX5_addWaiting 32 = .ok (.iadd, 1) := by decide +kernel
theorem dX5_addWaiting_33 : decode cX5_addWaiting 33 = .ok (.putfield 40, 3) := by decide +kernel
theorem dX5_addWaiting_36 : decode cX5_addWaiting 36 = .ok (.aload_n 0, 1) := by decide +kernel
theorem dX5_addWaiting_37 : decode cX5_addWaiting 37 = .ok (.getfield 40, 3) := by decide +kernel
theorem dX5_addWaiting_40 : decode cX5_addWaiting 40 = .ok (.ireturn, 1) := by decide +kernel
theorem dX5_isGood_0 : decode cX5_isGood 0 = .ok (.aload_n 0, 1) := by decide +kernel
theorem dX5_isGood_1 : decode cX5_isGood 1 = .ok (.getfield 21, 3) := by decide +kernel
theorem dX5_isGood_4 : decode cX5_isGood 4 = .ok (.iload_n 1, 1) := by decide +kernel
theorem dX5_isGood_5 : decode cX5_isGood 5 = .ok (.iload_n 2, 1) := by decide +kernel
theorem dX5_isGood_6 : decode cX5_isGood 6 = .ok (.invokevirtual 44, 3) := by decide +kernel
theorem dX5_isGood_9 : decode cX5_isGood 9 = .ok (.ifCond .ne 26, 3) := by decide +kernel
theorem dX5_isGood_12 : decode cX5_isGood 12 = .ok (.aload_n 0, 1) := by decide +kernel
theorem dX5_isGood_13 : decode cX5_isGood 13 = .ok (.getfield 12, 3) := by decide +kernel
theorem dX5_isGood_16 : decode cX5_isGood 16 = .ok (.aload_n 0, 1) := by decide +kernel
theorem dX5_isGood_17 : decode cX5_isGood 17 = .ok (.getfield 21, 3) := by decide +kernel
theorem dX5_isGood_20 : decode cX5_isGood 20 = .ok (.iload_n 1, 1) := by decide +kernel
theorem dX5_isGood_21 : decode cX5_isGood 21 = .ok (.iload_n 2, 1) := by decide +kernel
theorem dX5_isGood_22 : decode cX5_isGood 22 = .ok (.invokevirtual 48, 3) := by decide +kernel
theorem dX5_isGood_25 : decode cX5_isGood 25 = .ok (.invokevirtual 51, 3) := by decide +kernel
theorem dX5_isGood_28 : decode cX5_isGood 28 = .ok (.ifCond .eq 7, 3) := by decide +kernel
theorem dX5_isGood_31 : decode cX5_isGood 31 = .ok (.iconst 1, 1) := by decide +kernel
theorem dX5_isGood_32 : decode cX5_isGood 32 = .ok (.goto 4, 3) := by decide +kernel
theorem dX5_isGood_35 : decode cX5_isGood 35 = .ok (.iconst 0, 1) := by decide +kernel
theorem dX5_isGood_36 : decode cX5_isGood 36 = .ok (.ireturn, 1) := by decide +kernel
theorem dX5_goodNumber_0 : decode cX5_goodNumber 0 = .ok (.iconst 0, 1) := by decide +kernel
theorem dX5_goodNumber_1 : decode cX5_goodNumber 1 = .ok (.istore_n 2, 1) := by decide +kernel
theorem dX5_goodNumber_2 : decode cX5_goodNumber 2 = .ok (.aload_n 0, 1) := by decide +kernel
theorem dX5_goodNumber_3 : decode cX5_goodNumber 3 = .ok (.getfield 21, 3) := by decide +kernel
theorem dX5_goodNumber_6 : decode cX5_goodNumber 6 = .ok (.iload_n 1, 1) := by decide +kernel
theorem dX5_goodNumber_7 : decode cX5_goodNumber 7 = .ok (.invokevirtual 55, 3) := by decide +kernel
theorem dX5_goodNumber_10 : decode cX5_goodNumber 10 = .ok (.istore_n 3, 1) := by decide +kernel
theorem dX5_goodNumber_11 : decode cX5_goodNumber 11 = .ok (.iconst 0, 1) := by decide +kernel
theorem dX5_goodNumber_12 : decode cX5_goodNumber 12 = .ok (.istore 4, 2) := by decide +kernel
theorem dX5_goodNumber_14 : decode cX5_goodNumber 14 = .ok (.iload 4, 2) := by decide +kernel
theorem dX5_goodNumber_16 : decode cX5_goodNumber 16 = .ok (.iload_n 3, 1) := by decide +kernel
theorem dX5_goodNumber_17 : decode cX5_goodNumber 17 = .ok (.if_icmp .ge 22, 3) := by decide +kernel
theorem dX5_goodNumber_20 : decode cX5_goodNumber 20 = .ok (.aload_n 0, 1) := by decide +kernel
theorem dX5_goodNumber_21 : decode cX5_goodNumber 21 = .ok (.iload_n 1, 1) := by decide +kernel
theorem dX5_goodNumber_22 : decode cX5_goodNumber 22 = .ok (.iload 4, 2) := by decide +kernel
theorem dX5_goodNumber_24 : decode cX5_goodNumber 24 = .ok (.invokevirtual 59, 3) := by decide +kernel
theorem dX5_goodNumber_27 : decode cX5_goodNumber 27 = .ok (.ifCond .eq 6, 3) := by decide +kernel
theorem dX5_goodNumber_30 : decode cX5_goodNumber 30 = .ok (.iinc 2 1, 3) := by decide +kernel
theorem dX5_goodNumber_33 : decode cX5_goodNumber 33 = .ok (.iinc 4 1, 3) := by decide +kernel
theorem dX5_goodNumber_36 : decode cX5_goodNumber 36 = .ok (.goto (-22), 3) := by decide +kernel
theorem dX5_goodNumber_39 : decode cX5_goodNumber 39 = .ok (.iload_n 2, 1) := by decide +kernel
theorem dX5_goodNumber_40 : decode cX5_goodNumber 40 = .ok (.ireturn, 1) := by decide +kernel
theorem dX5_reserveOf_0 : decode cX5_reserveOf 0 = .ok (.aload_n 0, 1) := by decide +kernel
theorem dX5_reserveOf_1 : decode cX5_reserveOf 1 = .ok (.iload_n 1, 1) := by decide +kernel
theorem dX5_reserveOf_2 : decode cX5_reserveOf 2 = .ok (.invokevirtual 63, 3) := by decide +kernel
theorem dX5_reserveOf_5 : decode cX5_reserveOf 5 = .ok (.aload_n 0, 1) := by decide +kernel
theorem dX5_reserveOf_6 : decode cX5_reserveOf 6 = .ok (.getfield 21, 3) := by decide +kernel
theorem dX5_reserveOf_9 : decode cX5_reserveOf 9 = .ok (.iload_n 1, 1) := by decide +kernel
theorem dX5_reserveOf_10 : decode cX5_reserveOf 10 = .ok (.invokevirtual 66, 3) := by decide +kernel
theorem dX5_reserveOf_13 : decode cX5_reserveOf 13 = .ok (.isub, 1) := by decide +kernel
theorem dX5_reserveOf_14 : decode cX5_reserveOf 14 = .ok (.ireturn, 1) := by decide +kernel
theorem dX5_isSafe_0 : decode cX5_isSafe 0 = .ok (.aload_n 0, 1) := by decide +kernel
theorem dX5_isSafe_1 : decode cX5_isSafe 1 = .ok (.getfield 21, 3) := by decide +kernel
theorem dX5_isSafe_4 : decode cX5_isSafe 4 = .ok (.iload_n 1, 1) := by decide +kernel
theorem dX5_isSafe_5 : decode cX5_isSafe 5 = .ok (.invokevirtual 69, 3) := by decide +kernel
theorem dX5_isSafe_8 : decode cX5_isSafe 8 = .ok (.ifCond .eq 23, 3) := by decide +kernel
theorem dX5_isSafe_11 : decode cX5_isSafe 11 = .ok (.aload_n 0, 1) := by decide +kernel
theorem dX5_isSafe_12 : decode cX5_isSafe 12 = .ok (.iload_n 1, 1) := by decide +kernel
theorem dX5_isSafe_13 : decode cX5_isSafe 13 = .ok (.invokevirtual 63, 3) := by decide +kernel
theorem dX5_isSafe_16 : decode cX5_isSafe 16 = .ok (.aload_n 0, 1) := by decide +kernel
theorem dX5_isSafe_17 : decode cX5_isSafe 17 = .ok (.getfield 21, 3) := by decide +kernel
theorem dX5_isSafe_20 : decode cX5_isSafe 20 = .ok (.iload_n 1, 1) := by decide +kernel
theorem dX5_isSafe_21 : decode cX5_isSafe 21 = .ok (.invokevirtual 66, 3) := by decide +kernel
theorem dX5_isSafe_24 : decode cX5_isSafe 24 = .ok (.if_icmp .lt 7, 3) := by decide +kernel
theorem dX5_isSafe_27 : decode cX5_isSafe 27 = .ok (.iconst 1, 1) := by decide +kernel
theorem dX5_isSafe_28 : decode cX5_isSafe 28 = .ok (.goto 4, 3) := by decide +kernel
theorem dX5_isSafe_31 : decode cX5_isSafe 31 = .ok (.iconst 0, 1) := by decide +kernel
theorem dX5_isSafe_32 : decode cX5_isSafe 32 = .ok (.ireturn, 1) := by decide +kernel
theorem dX5_safeNumber_0 : decode cX5_safeNumber 0 = .ok (.iconst 0, 1) := by decide +kernel
theorem dX5_safeNumber_1 : decode cX5_safeNumber 1 = .ok (.istore_n 1, 1) := by decide +kernel
theorem dX5_safeNumber_2 : decode cX5_safeNumber 2 = .ok (.iconst 0, 1) := by decide +kernel
theorem dX5_safeNumber_3 : decode cX5_safeNumber 3 = .ok (.istore_n 2, 1) := by decide +kernel
theorem dX5_safeNumber_4 : decode cX5_safeNumber 4 = .ok (.iload_n 2, 1) := by decide +kernel
theorem dX5_safeNumber_5 : decode cX5_safeNumber 5 = .ok (.bipush 8, 2) := by decide +kernel
theorem dX5_safeNumber_7 : decode cX5_safeNumber 7 = .ok (.if_icmp .ge 20, 3) := by decide +kernel
theorem dX5_safeNumber_10 : decode cX5_safeNumber 10 = .ok (.aload_n 0, 1) := by decide +kernel
theorem dX5_safeNumber_11 : decode cX5_safeNumber 11 = .ok (.iload_n 2, 1) := by decide +kernel
theorem dX5_safeNumber_12 : decode cX5_safeNumber 12 = .ok (.invokevirtual 72, 3) := by decide +kernel
theorem dX5_safeNumber_15 : decode cX5_safeNumber 15 = .ok (.ifCond .eq 6, 3) := by decide +kernel
theorem dX5_safeNumber_18 : decode cX5_safeNumber 18 = .ok (.iinc 1 1, 3) := by decide +kernel
theorem dX5_safeNumber_21 : decode cX5_safeNumber 21 = .ok (.iinc 2 1, 3) := by decide +kernel
theorem dX5_safeNumber_24 : decode cX5_safeNumber 24 = .ok (.goto (-20), 3) := by decide +kernel
theorem dX5_safeNumber_27 : decode cX5_safeNumber 27 = .ok (.iload_n 1, 1) := by decide +kernel
theorem dX5_safeNumber_28 : decode cX5_safeNumber 28 = .ok (.ireturn, 1) := by decide +kernel
theorem dX5_findPlace_0 : decode cX5_findPlace 0 = .ok (.iconst (-1), 1) := by decide +kernel
theorem dX5_findPlace_1 : decode cX5_findPlace 1 = .ok (.istore_n 2, 1) := by decide +kernel
theorem dX5_findPlace_2 : decode cX5_findPlace 2 = .ok (.iconst 0, 1) := by decide +kernel
theorem dX5_findPlace_3 : decode cX5_findPlace 3 = .ok (.istore_n 3, 1) := by decide +kernel
theorem dX5_findPlace_4 : decode cX5_findPlace 4 = .ok (.iload_n 3, 1) := by decide +kernel
theorem dX5_findPlace_5 : decode cX5_findPlace 5 = .ok (.bipush 12, 2) := by decide +kernel
theorem dX5_findPlace_7 : decode cX5_findPlace 7 = .ok (.if_icmp .ge 58, 3) := by decide +kernel
theorem dX5_findPlace_10 : decode cX5_findPlace 10 = .ok (.aload_n 0, 1) := by decide +kernel
theorem dX5_findPlace_11 : decode cX5_findPlace 11 = .ok (.getfield 12, 3) := by decide +kernel
theorem dX5_findPlace_14 : decode cX5_findPlace 14 = .ok (.iload_n 3, 1) := by decide +kernel
theorem dX5_findPlace_15 : decode cX5_findPlace 15 = .ok (.invokevirtual 51, 3) := by decide +kernel
theorem dX5_findPlace_18 : decode cX5_findPlace 18 = .ok (.ifCond .eq 41, 3) := by decide +kernel
theorem dX5_findPlace_21 : decode cX5_findPlace 21 = .ok (.aload_n 0, 1) := by decide +kernel
theorem dX5_findPlace_22 : decode cX5_findPlace 22 = .ok (.getfield 12, 3) := by decide +kernel
theorem dX5_findPlace_25 : decode cX5_findPlace 25 = .ok (.iload_n 3, 1) := by decide +kernel
theorem dX5_findPlace_26 : decode cX5_findPlace 26 = .ok (.invokevirtual 75, 3) := by decide +kernel
theorem dX5_findPlace_29 : decode cX5_findPlace 29 = .ok (.ifCond .le 30, 3) := by decide +kernel
theorem dX5_findPlace_32 : decode cX5_findPlace 32 = .ok (.aload_n 0, 1) := by decide +kernel
theorem dX5_findPlace_33 : decode cX5_findPlace 33 = .ok (.getfield 21, 3) := by decide +kernel
theorem dX5_findPlace_36 : decode cX5_findPlace 36 = .ok (.iload_n 1, 1) := by decide +kernel
theorem dX5_findPlace_37 : decode cX5_findPlace 37 = .ok (.iload_n 3, 1) := by decide +kernel
theorem dX5_findPlace_38 : decode cX5_findPlace 38 = .ok (.invokevirtual 78, 3) := by decide +kernel
theorem dX5_findPlace_41 : decode cX5_findPlace 41 = .ok (.iconst (-1), 1) := by decide +kernel
theorem dX5_findPlace_42 : decode cX5_findPlace 42 = .ok (.if_icmp .ne 17, 3) := by decide +kernel
theorem dX5_findPlace_45 : decode cX5_findPlace 45 = .ok (.aload_n 0, 1) := by decide +kernel
theorem dX5_findPlace_46 : decode cX5_findPlace 46 = .ok (.getfield 12, 3) := by decide +kernel
theorem dX5_findPlace_49 : decode cX5_findPlace 49 = .ok (.iload_n 3, 1) := by decide +kernel
theorem dX5_findPlace_50 : decode cX5_findPlace 50 = .ok (.iload_n 2, 1) := by decide +kernel
theorem dX5_findPlace_51 : decode cX5_findPlace 51 = .ok (.invokevirtual 81, 3) := by decide +kernel
theorem dX5_findPlace_54 : decode cX5_findPlace 54 = .ok (.ifCond .eq 5, 3) := by decide +kernel
theorem dX5_findPlace_57 : decode cX5_findPlace 57 = .ok (.iload_n 3, 1) := by decide +kernel
theorem dX5_findPlace_58 : decode cX5_findPlace 58 = .ok (.istore_n 2, 1) := by decide +kernel
theorem dX5_findPlace_59 : decode cX5_findPlace 59 = .ok (.iinc 3 1, 3) := by decide +kernel
theorem dX5_findPlace_62 : decode cX5_findPlace 62 = .ok (.goto (-58), 3) := by decide +kernel
theorem dX5_findPlace_65 : decode cX5_findPlace 65 = .ok (.iload_n 2, 1) := by decide +kernel
theorem dX5_findPlace_66 : decode cX5_findPlace 66 = .ok (.ireturn, 1) := by decide +kernel
theorem dX5_putOn_0 : decode cX5_putOn 0 = .ok (.aload_n 0, 1) := by decide +kernel
theorem dX5_putOn_1 : decode cX5_putOn 1 = .ok (.getfield 21, 3) := by decide +kernel
theorem dX5_putOn_4 : decode cX5_putOn 4 = .ok (.iload_n 1, 1) := by decide +kernel
theorem dX5_putOn_5 : decode cX5_putOn 5 = .ok (.iload_n 2, 1) := by decide +kernel
theorem dX5_putOn_6 : decode cX5_putOn 6 = .ok (.iload_n 3, 1) := by decide +kernel
theorem dX5_putOn_7 : decode cX5_putOn 7 = .ok (.iload 4, 2) := by decide +kernel
theorem dX5_putOn_9 : decode cX5_putOn 9 = .ok (.invokevirtual 84, 3) := by decide +kernel
theorem dX5_putOn_12 : decode cX5_putOn 12 = .ok (.aload_n 0, 1) := by decide +kernel
theorem dX5_putOn_13 : decode cX5_putOn 13 = .ok (.getfield 12, 3) := by decide +kernel
theorem dX5_putOn_16 : decode cX5_putOn 16 = .ok (.iload_n 3, 1) := by decide +kernel
theorem dX5_putOn_17 : decode cX5_putOn 17 = .ok (.iconst 1, 1) := by decide +kernel
theorem dX5_putOn_18 : decode cX5_putOn 18 = .ok (.invokevirtual 88, 3) := by decide +kernel
theorem dX5_putOn_21 : decode cX5_putOn 21 = .ok (.aload_n 0, 1) := by decide +kernel
theorem dX5_putOn_22 : decode cX5_putOn 22 = .ok (.getfield 12, 3) := by decide +kernel
theorem dX5_putOn_25 : decode cX5_putOn 25 = .ok (.aload_n 0, 1) := by decide +kernel
theorem dX5_putOn_26 : decode cX5_putOn 26 = .ok (.getfield 21, 3) := by decide +kernel
theorem dX5_putOn_29 : decode cX5_putOn 29 = .ok (.iload_n 1, 1) := by decide +kernel
theorem dX5_putOn_30 : decode cX5_putOn 30 = .ok (.invokevirtual 92, 3) := by decide +kernel
theorem dX5_putOn_33 : decode cX5_putOn 33 = .ok (.iload_n 3, 1) := by decide +kernel
theorem dX5_putOn_34 : decode cX5_putOn 34 = .ok (.iconst 1, 1) := by decide +kernel
theorem dX5_putOn_35 : decode cX5_putOn 35 = .ok (.invokevirtual 95, 3) := by decide +kernel
theorem dX5_putOn_38 : decode cX5_putOn 38 = .ok (.return_, 1) := by decide +kernel
theorem dX5_takeOff_0 : decode cX5_takeOff 0 = .ok (.aload_n 0, 1) := by decide +kernel
theorem dX5_takeOff_1 : decode cX5_takeOff 1 = .ok (.getfield 12, 3) := by decide +kernel
theorem dX5_takeOff_4 : decode cX5_takeOff 4 = .ok (.aload_n 0, 1) := by decide +kernel
theorem dX5_takeOff_5 : decode cX5_takeOff 5 = .ok (.getfield 21, 3) := by decide +kernel
theorem dX5_takeOff_8 : decode cX5_takeOff 8 = .ok (.iload_n 1, 1) := by decide +kernel
theorem dX5_takeOff_9 : decode cX5_takeOff 9 = .ok (.iload_n 2, 1) := by decide +kernel
theorem dX5_takeOff_10 : decode cX5_takeOff 10 = .ok (.invokevirtual 48, 3) := by decide +kernel
theorem dX5_takeOff_13 : decode cX5_takeOff 13 = .ok (.iconst (-1), 1) := by decide +kernel
theorem dX5_takeOff_14 : decode cX5_takeOff 14 = .ok (.invokevirtual 88, 3) := by decide +kernel
theorem dX5_takeOff_17 : decode cX5_takeOff 17 = .ok (.aload_n 0, 1) := by decide +kernel
theorem dX5_takeOff_18 : decode cX5_takeOff 18 = .ok (.getfield 21, 3) := by decide +kernel
theorem dX5_takeOff_21 : decode cX5_takeOff 21 = .ok (.iload_n 1, 1) := by decide +kernel
theorem dX5_takeOff_22 : decode cX5_takeOff 22 = .ok (.iload_n 2, 1) := by decide +kernel
theorem dX5_takeOff_23 : decode cX5_takeOff 23 = .ok (.iconst (-1), 1) := by decide +kernel
theorem dX5_takeOff_24 : decode cX5_takeOff 24 = .ok (.iconst 0, 1) := by decide +kernel
theorem dX5_takeOff_25 : decode cX5_takeOff 25 = .ok (.invokevirtual 84, 3) := by decide +kernel
theorem dX5_takeOff_28 : decode cX5_takeOff 28 = .ok (.return_, 1) := by decide +kernel
theorem dX5_makeFile_0 : decode cX5_makeFile 0 = .ok (.aload_n 0, 1) := by decide +kernel
theorem dX5_makeFile_1 : decode cX5_makeFile 1 = .ok (.getfield 21, 3) := by decide +kernel
theorem dX5_makeFile_4 : decode cX5_makeFile 4 = .ok (.iload_n 1, 1) := by decide +kernel
theorem dX5_makeFile_5 : decode cX5_makeFile 5 = .ok (.iload_n 2, 1) := by decide +kernel
theorem dX5_makeFile_6 : decode cX5_makeFile 6 = .ok (.aload_n 0, 1) := by decide +kernel
theorem dX5_makeFile_7 : decode cX5_makeFile 7 = .ok (.getfield 25, 3) := by decide +kernel
theorem dX5_makeFile_10 : decode cX5_makeFile 10 = .ok (.aload_n 0, 1) := by decide +kernel
theorem dX5_makeFile_11 : decode cX5_makeFile 11 = .ok (.getfield 40, 3) := by decide +kernel
theorem dX5_makeFile_14 : decode cX5_makeFile 14 = .ok (.iload_n 3, 1) := by decide +kernel
theorem dX5_makeFile_15 : decode cX5_makeFile 15 = .ok (.invokevirtual 99, 3) := by decide +kernel
theorem dX5_makeFile_18 : decode cX5_makeFile 18 = .ok (.aload_n 0, 1) := by decide +kernel
theorem dX5_makeFile_19 : decode cX5_makeFile 19 = .ok (.iconst 0, 1) := by decide +kernel
theorem dX5_makeFile_20 : decode cX5_makeFile 20 = .ok (.putfield 40, 3) := by decide +kernel
theorem dX5_makeFile_23 : decode cX5_makeFile 23 = .ok (.aload_n 0, 1) := by decide +kernel
theorem dX5_makeFile_24 : decode cX5_makeFile 24 = .ok (.getfield 21, 3) := by decide +kernel
theorem dX5_makeFile_27 : decode cX5_makeFile 27 = .ok (.iload_n 1, 1) := by decide +kernel
theorem dX5_makeFile_28 : decode cX5_makeFile 28 = .ok (.invokevirtual 55, 3) := by decide +kernel
theorem dX5_makeFile_31 : decode cX5_makeFile 31 = .ok (.istore 4, 2) := by decide +kernel
theorem dX5_makeFile_33 : decode cX5_makeFile 33 = .ok (.iconst 0, 1) := by decide +kernel
theorem dX5_makeFile_34 : decode cX5_makeFile 34 = .ok (.istore 5, 2) := by decide +kernel
theorem dX5_makeFile_36 : decode cX5_makeFile 36 = .ok (.iload 5, 2) := by decide +kernel
theorem dX5_makeFile_38 : decode cX5_makeFile 38 = .ok (.iload 4, 2) := by decide +kernel
theorem dX5_makeFile_40 : decode cX5_makeFile 40 = .ok (.if_icmp .ge 32, 3) := by decide +kernel
theorem dX5_makeFile_43 : decode cX5_makeFile 43 = .ok (.aload_n 0, 1) := by decide +kernel
theorem dX5_makeFile_44 : decode cX5_makeFile 44 = .ok (.iload_n 1, 1) := by decide +kernel
theorem dX5_makeFile_45 : decode cX5_makeFile 45 = .ok (.invokevirtual 103, 3) := by decide +kernel
theorem dX5_makeFile_48 : decode cX5_makeFile 48 = .ok (.istore 6, 2) := by decide +kernel
theorem dX5_makeFile_50 : decode cX5_makeFile 50 = .ok (.iload 6, 2) := by decide +kernel
theorem dX5_makeFile_52 : decode cX5_makeFile 52 = .ok (.iconst (-1), 1) := by decide +kernel
theorem dX5_makeFile_53 : decode cX5_makeFile 53 = .ok (.if_icmp .eq 13, 3) := by decide +kernel
theorem dX5_makeFile_56 : decode cX5_makeFile 56 = .ok (.aload_n 0, 1) := by decide +kernel
theorem dX5_makeFile_57 : decode cX5_makeFile 57 = .ok (.iload_n 1, 1) := by decide +kernel
theorem dX5_makeFile_58 : decode cX5_makeFile 58 = .ok (.iload 5, 2) := by decide +kernel
theorem dX5_makeFile_60 : decode cX5_makeFile 60 = .ok (.iload 6, 2) := by decide +kernel
theorem dX5_makeFile_62 : decode cX5_makeFile 62 = .ok (.iconst 0, 1) := by decide +kernel
theorem dX5_makeFile_63 : decode cX5_makeFile 63 = .ok (.invokevirtual 106, 3) := by decide +kernel
theorem dX5_makeFile_66 : decode cX5_makeFile 66 = .ok (.iinc 5 1, 3) := by decide +kernel
theorem dX5_makeFile_69 : decode cX5_makeFile 69 = .ok (.goto (-33), 3) := by decide +kernel
theorem dX5_makeFile_72 : decode cX5_makeFile 72 = .ok (.return_, 1) := by decide +kernel
theorem dX5_removeFile_0 : decode cX5_removeFile 0 = .ok (.aload_n 0, 1) := by decide +kernel
theorem dX5_removeFile_1 : decode cX5_removeFile 1 = .ok (.getfield 21, 3) := by decide +kernel
theorem dX5_removeFile_4 : decode cX5_removeFile 4 = .ok (.iload_n 1, 1) := by decide +kernel
theorem dX5_removeFile_5 : decode cX5_removeFile 5 = .ok (.invokevirtual 55, 3) := by decide +kernel
theorem dX5_removeFile_8 : decode cX5_removeFile 8 = .ok (.istore_n 2, 1) := by decide +kernel
theorem dX5_removeFile_9 : decode cX5_removeFile 9 = .ok (.iconst 0, 1) := by decide +kernel
theorem dX5_removeFile_10 : decode cX5_removeFile 10 = .ok (.istore_n 3, 1) := by decide +kernel
theorem dX5_removeFile_11 : decode cX5_removeFile 11 = .ok (.iload_n 3, 1) := by decide +kernel
theorem dX5_removeFile_12 : decode cX5_removeFile 12 = .ok (.iload_n 2, 1) := by decide +kernel
theorem dX5_removeFile_13 : decode cX5_removeFile 13 = .ok (.if_icmp .ge 15, 3) := by decide +kernel
theorem dX5_removeFile_16 : decode cX5_removeFile 16 = .ok (.aload_n 0, 1) := by decide +kernel
theorem dX5_removeFile_17 : decode cX5_removeFile 17 = .ok (.iload_n 1, 1) := by decide +kernel
theorem dX5_removeFile_18 : decode cX5_removeFile 18 = .ok (.iload_n 3, 1) := by decide +kernel
theorem dX5_removeFile_19 : decode cX5_removeFile 19 = .ok (.invokevirtual 109, 3) := by decide +kernel
theorem dX5_removeFile_22 : decode cX5_removeFile 22 = .ok (.iinc 3 1, 3) := by decide +kernel
theorem dX5_removeFile_25 : decode cX5_removeFile 25 = .ok (.goto (-14), 3) := by decide +kernel
theorem dX5_removeFile_28 : decode cX5_removeFile 28 = .ok (.aload_n 0, 1) := by decide +kernel
theorem dX5_removeFile_29 : decode cX5_removeFile 29 = .ok (.getfield 21, 3) := by decide +kernel
theorem dX5_removeFile_32 : decode cX5_removeFile 32 = .ok (.iload_n 1, 1) := by decide +kernel
theorem dX5_removeFile_33 : decode cX5_removeFile 33 = .ok (.invokevirtual 112, 3) := by decide +kernel
theorem dX5_removeFile_36 : decode cX5_removeFile 36 = .ok (.return_, 1) := by decide +kernel
theorem dX5_mayLeave_0 : decode cX5_mayLeave 0 = .ok (.aload_n 0, 1) := by decide +kernel
theorem dX5_mayLeave_1 : decode cX5_mayLeave 1 = .ok (.getfield 12, 3) := by decide +kernel
theorem dX5_mayLeave_4 : decode cX5_mayLeave 4 = .ok (.iload_n 1, 1) := by decide +kernel
theorem dX5_mayLeave_5 : decode cX5_mayLeave 5 = .ok (.invokevirtual 51, 3) := by decide +kernel
theorem dX5_mayLeave_8 : decode cX5_mayLeave 8 = .ok (.ifCond .eq 18, 3) := by decide +kernel
theorem dX5_mayLeave_11 : decode cX5_mayLeave 11 = .ok (.aload_n 0, 1) := by decide +kernel
theorem dX5_mayLeave_12 : decode cX5_mayLeave 12 = .ok (.getfield 21, 3) := by decide +kernel
theorem dX5_mayLeave_15 : decode cX5_mayLeave 15 = .ok (.iload_n 1, 1) := by decide +kernel
theorem dX5_mayLeave_16 : decode cX5_mayLeave 16 = .ok (.invokevirtual 116, 3) := by decide +kernel
theorem dX5_mayLeave_19 : decode cX5_mayLeave 19 = .ok (.ifCond .ne 7, 3) := by decide +kernel
theorem dX5_mayLeave_22 : decode cX5_mayLeave 22 = .ok (.iconst 1, 1) := by decide +kernel
theorem dX5_mayLeave_23 : decode cX5_mayLeave 23 = .ok (.goto 4, 3) := by decide +kernel
theorem dX5_mayLeave_26 : decode cX5_mayLeave 26 = .ok (.iconst 0, 1) := by decide +kernel
theorem dX5_mayLeave_27 : decode cX5_mayLeave 27 = .ok (.ireturn, 1) := by decide +kernel
theorem dX5_leaveInOrder_0 : decode cX5_leaveInOrder 0 = .ok (.iconst 0, 1) := by decide +kernel
theorem dX5_leaveInOrder_1 : decode cX5_leaveInOrder 1 = .ok (.istore_n 2, 1) := by decide +kernel
theorem dX5_leaveInOrder_2 : decode cX5_leaveInOrder 2 = .ok (.iconst 0, 1) := by decide +kernel
theorem dX5_leaveInOrder_3 : decode cX5_leaveInOrder 3 = .ok (.istore_n 3, 1) := by decide +kernel
theorem dX5_leaveInOrder_4 : decode cX5_leaveInOrder 4 = .ok (.iload_n 3, 1) := by decide +kernel
theorem dX5_leaveInOrder_5 : decode cX5_leaveInOrder 5 = .ok (.bipush 8, 2) := by decide +kernel
theorem dX5_leaveInOrder_7 : decode cX5_leaveInOrder 7 = .ok (.if_icmp .ge 39, 3) := by decide +kernel
theorem dX5_leaveInOrder_10 : decode cX5_leaveInOrder 10 = .ok (.aload_n 0, 1) := by decide +kernel
theorem dX5_leaveInOrder_11 : decode cX5_leaveInOrder 11 = .ok (.getfield 21, 3) := by decide +kernel
theorem dX5_leaveInOrder_14 : decode cX5_leaveInOrder 14 = .ok (.iload_n 3, 1) := by decide +kernel
theorem dX5_leaveInOrder_15 : decode cX5_leaveInOrder 15 = .ok (.iload_n 1, 1) := by decide +kernel
theorem dX5_leaveInOrder_16 : decode cX5_leaveInOrder 16 = .ok (.invokevirtual 78, 3) := by decide +kernel
theorem dX5_leaveInOrder_19 : decode cX5_leaveInOrder 19 = .ok (.istore 4, 2) := by decide +kernel
theorem dX5_leaveInOrder_21 : decode cX5_leaveInOrder 21 = .ok (.iload 4, 2) := by decide +kernel
theorem dX5_leaveInOrder_23 : decode cX5_leaveInOrder 23 = .ok (.iconst (-1), 1) := by decide +kernel
theorem dX5_leaveInOrder_24 : decode cX5_leaveInOrder 24 = .ok (.if_icmp .eq 16, 3) := by decide +kernel
theorem dX5_leaveInOrder_27 : decode cX5_leaveInOrder 27 = .ok (.aload_n 0, 1) := by decide +kernel
theorem dX5_leaveInOrder_28 : decode cX5_leaveInOrder 28 = .ok (.iload_n 3, 1) := by decide +kernel
theorem dX5_leaveInOrder_29 : decode cX5_leaveInOrder 29 = .ok (.iload 4, 2) := by decide +kernel
theorem dX5_leaveInOrder_31 : decode cX5_leaveInOrder 31 = .ok (.invokevirtual 119, 3) := by decide +kernel
theorem dX5_leaveInOrder_34 : decode cX5_leaveInOrder 34 = .ok (.ifCond .ne 6, 3) := by decide +kernel
theorem dX5_leaveInOrder_37 : decode cX5_leaveInOrder 37 = .ok (.iinc 2 1, 3) := by decide +kernel
theorem dX5_leaveInOrder_40 : decode cX5_leaveInOrder 40 = .ok (.iinc 3 1, 3) := by decide +kernel
theorem dX5_leaveInOrder_43 : decode cX5_leaveInOrder 43 = .ok (.goto (-39), 3) := by decide +kernel
theorem dX5_leaveInOrder_46 : decode cX5_leaveInOrder 46 = .ok (.aload_n 0, 1) := by decide +kernel
theorem dX5_leaveInOrder_47 : decode cX5_leaveInOrder 47 = .ok (.getfield 12, 3) := by decide +kernel
theorem dX5_leaveInOrder_50 : decode cX5_leaveInOrder 50 = .ok (.iload_n 1, 1) := by decide +kernel
theorem dX5_leaveInOrder_51 : decode cX5_leaveInOrder 51 = .ok (.invokevirtual 122, 3) := by decide +kernel
theorem dX5_leaveInOrder_54 : decode cX5_leaveInOrder 54 = .ok (.iload_n 2, 1) := by decide +kernel
theorem dX5_leaveInOrder_55 : decode cX5_leaveInOrder 55 = .ok (.ireturn, 1) := by decide +kernel
theorem dX5_move_0 : decode cX5_move 0 = .ok (.aload_n 0, 1) := by decide +kernel
theorem dX5_move_1 : decode cX5_move 1 = .ok (.iload_n 1, 1) := by decide +kernel
theorem dX5_move_2 : decode cX5_move 2 = .ok (.invokevirtual 103, 3) := by decide +kernel
theorem dX5_move_5 : decode cX5_move 5 = .ok (.istore_n 3, 1) := by decide +kernel
theorem dX5_move_6 : decode cX5_move 6 = .ok (.aload_n 0, 1) := by decide +kernel
theorem dX5_move_7 : decode cX5_move 7 = .ok (.getfield 21, 3) := by decide +kernel
theorem dX5_move_10 : decode cX5_move 10 = .ok (.iload_n 1, 1) := by decide +kernel
theorem dX5_move_11 : decode cX5_move 11 = .ok (.iload_n 2, 1) := by decide +kernel
theorem dX5_move_12 : decode cX5_move 12 = .ok (.invokevirtual 44, 3) := by decide +kernel
theorem dX5_move_15 : decode cX5_move 15 = .ok (.istore 4, 2) := by decide +kernel
theorem dX5_move_17 : decode cX5_move 17 = .ok (.aload_n 0, 1) := by decide +kernel
theorem dX5_move_18 : decode cX5_move 18 = .ok (.iload_n 1, 1) := by decide +kernel
theorem dX5_move_19 : decode cX5_move 19 = .ok (.iload_n 2, 1) := by decide +kernel
theorem dX5_move_20 : decode cX5_move 20 = .ok (.invokevirtual 109, 3) := by decide +kernel
theorem dX5_move_23 : decode cX5_move 23 = .ok (.iload_n 3, 1) := by decide +kernel
theorem dX5_move_24 : decode cX5_move 24 = .ok (.iconst (-1), 1) := by decide +kernel
theorem dX5_move_25 : decode cX5_move 25 = .ok (.if_icmp .ne 5, 3) := by decide +kernel
theorem dX5_move_28 : decode cX5_move 28 = .ok (.iconst 0, 1) := by decide +kernel
theorem dX5_move_29 : decode cX5_move 29 = .ok (.ireturn, 1) := by decide +kernel
theorem dX5_move_30 : decode cX5_move 30 = .ok (.aload_n 0, 1) := by decide +kernel
theorem dX5_move_31 : decode cX5_move 31 = .ok (.iload_n 1, 1) := by decide +kernel
theorem dX5_move_32 : decode cX5_move 32 = .ok (.iload_n 2, 1) := by decide +kernel
theorem dX5_move_33 : decode cX5_move 33 = .ok (.iload_n 3, 1) := by decide +kernel
theorem dX5_move_34 : decode cX5_move 34 = .ok (.iload 4, 2) := by decide +kernel
theorem dX5_move_36 : decode cX5_move 36 = .ok (.invokevirtual 106, 3) := by decide +kernel
theorem dX5_move_39 : decode cX5_move 39 = .ok (.iconst 1, 1) := by decide +kernel
theorem dX5_move_40 : decode cX5_move 40 = .ok (.ireturn, 1) := by decide +kernel
theorem dX5_removeCrashed_0 : decode cX5_removeCrashed 0 = .ok (.iconst 0, 1) := by decide +kernel
theorem dX5_removeCrashed_1 : decode cX5_removeCrashed 1 = .ok (.istore_n 2, 1) := by decide +kernel
theorem dX5_removeCrashed_2 : decode cX5_removeCrashed 2 = .ok (.iconst 0, 1) := by decide +kernel
theorem dX5_removeCrashed_3 : decode cX5_removeCrashed 3 = .ok (.istore_n 3, 1) := by decide +kernel
theorem dX5_removeCrashed_4 : decode cX5_removeCrashed 4 = .ok (.iload_n 3, 1) := by decide +kernel
theorem dX5_removeCrashed_5 : decode cX5_removeCrashed 5 = .ok (.bipush 8, 2) := by decide +kernel
theorem dX5_removeCrashed_7 : decode cX5_removeCrashed 7 = .ok (.if_icmp .ge 56, 3) := by decide +kernel
theorem dX5_removeCrashed_10 : decode cX5_removeCrashed 10 = .ok (.aload_n 0, 1) := by decide +kernel
theorem dX5_removeCrashed_11 : decode cX5_removeCrashed 11 = .ok (.getfield 21, 3) := by decide +kernel
theorem dX5_removeCrashed_14 : decode cX5_removeCrashed 14 = .ok (.iload_n 3, 1) := by decide +kernel
theorem dX5_removeCrashed_15 : decode cX5_removeCrashed 15 = .ok (.iload_n 1, 1) := by decide +kernel
theorem dX5_removeCrashed_16 : decode cX5_removeCrashed 16 = .ok (.invokevirtual 78, 3) := by decide +kernel
theorem dX5_removeCrashed_19 : decode cX5_removeCrashed 19 = .ok (.istore 4, 2) := by decide +kernel
theorem dX5_removeCrashed_21 : decode cX5_removeCrashed 21 = .ok (.aload_n 0, 1) := by decide +kernel
theorem dX5_removeCrashed_22 : decode cX5_removeCrashed 22 = .ok (.getfield 21, 3) := by decide +kernel
theorem dX5_removeCrashed_25 : decode cX5_removeCrashed 25 = .ok (.iload_n 3, 1) := by decide +kernel
theorem dX5_removeCrashed_26 : decode cX5_removeCrashed 26 = .ok (.invokevirtual 92, 3) := by decide +kernel
theorem dX5_removeCrashed_29 : decode cX5_removeCrashed 29 = .ok (.iload_n 1, 1) := by decide +kernel
theorem dX5_removeCrashed_30 : decode cX5_removeCrashed 30 = .ok (.if_icmp .ne 11, 3) := by decide +kernel
theorem dX5_removeCrashed_33 : decode cX5_removeCrashed 33 = .ok (.aload_n 0, 1) := by decide +kernel
theorem dX5_removeCrashed_34 : decode cX5_removeCrashed 34 = .ok (.iload_n 3, 1) := by decide +kernel
theorem dX5_removeCrashed_35 : decode cX5_removeCrashed 35 = .ok (.invokevirtual 123, 3) := by decide +kernel
theorem dX5_removeCrashed_38 : decode cX5_removeCrashed 38 = .ok (.goto 19, 3) := by decide +kernel
theorem dX5_removeCrashed_41 : decode cX5_removeCrashed 41 = .ok (.iload 4, 2) := by decide +kernel
theorem dX5_removeCrashed_43 : decode cX5_removeCrashed 43 = .ok (.iconst (-1), 1) := by decide +kernel
theorem dX5_removeCrashed_44 : decode cX5_removeCrashed 44 = .ok (.if_icmp .eq 13, 3) := by decide +kernel
theorem dX5_removeCrashed_47 : decode cX5_removeCrashed 47 = .ok (.aload_n 0, 1) := by decide +kernel
theorem dX5_removeCrashed_48 : decode cX5_removeCrashed 48 = .ok (.iload_n 3, 1) := by decide +kernel
theorem dX5_removeCrashed_49 : decode cX5_removeCrashed 49 = .ok (.iload 4, 2) := by decide +kernel
theorem dX5_removeCrashed_51 : decode cX5_removeCrashed 51 = .ok (.invokevirtual 109, 3) := by decide +kernel
theorem dX5_removeCrashed_54 : decode cX5_removeCrashed 54 = .ok (.iinc 2 1, 3) := by decide +kernel
theorem dX5_removeCrashed_57 : decode cX5_removeCrashed 57 = .ok (.iinc 3 1, 3) := by decide +kernel
theorem dX5_removeCrashed_60 : decode cX5_removeCrashed 60 = .ok (.goto (-56), 3) := by decide +kernel
theorem dX5_removeCrashed_63 : decode cX5_removeCrashed 63 = .ok (.aload_n 0, 1) := by decide +kernel
theorem dX5_removeCrashed_64 : decode cX5_removeCrashed 64 = .ok (.getfield 12, 3) := by decide +kernel
theorem dX5_removeCrashed_67 : decode cX5_removeCrashed 67 = .ok (.iload_n 1, 1) := by decide +kernel
theorem dX5_removeCrashed_68 : decode cX5_removeCrashed 68 = .ok (.invokevirtual 122, 3) := by decide +kernel
theorem dX5_removeCrashed_71 : decode cX5_removeCrashed 71 = .ok (.iload_n 2, 1) := by decide +kernel
theorem dX5_removeCrashed_72 : decode cX5_removeCrashed 72 = .ok (.ireturn, 1) := by decide +kernel
theorem dX5_renewFile_0 : decode cX5_renewFile 0 = .ok (.iconst 0, 1) := by decide +kernel
theorem dX5_renewFile_1 : decode cX5_renewFile 1 = .ok (.istore_n 2, 1) := by decide +kernel
theorem dX5_renewFile_2 : decode cX5_renewFile 2 = .ok (.aload_n 0, 1) := by decide +kernel
theorem dX5_renewFile_3 : decode cX5_renewFile 3 = .ok (.getfield 21, 3) := by decide +kernel
theorem dX5_renewFile_6 : decode cX5_renewFile 6 = .ok (.iload_n 1, 1) := by decide +kernel
theorem dX5_renewFile_7 : decode cX5_renewFile 7 = .ok (.invokevirtual 55, 3) := by decide +kernel
theorem dX5_renewFile_10 : decode cX5_renewFile 10 = .ok (.istore_n 3, 1) := by decide +kernel
theorem dX5_renewFile_11 : decode cX5_renewFile 11 = .ok (.iconst 0, 1) := by decide +kernel
theorem dX5_renewFile_12 : decode cX5_renewFile 12 = .ok (.istore 4, 2) := by decide +kernel
theorem dX5_renewFile_14 : decode cX5_renewFile 14 = .ok (.iload 4, 2) := by decide +kernel
theorem dX5_renewFile_16 : decode cX5_renewFile 16 = .ok (.iload_n 3, 1) := by decide +kernel
theorem dX5_renewFile_17 : decode cX5_renewFile 17 = .ok (.if_icmp .ge 32, 3) := by decide +kernel
theorem dX5_renewFile_20 : decode cX5_renewFile 20 = .ok (.aload_n 0, 1) := by decide +kernel
theorem dX5_renewFile_21 : decode cX5_renewFile 21 = .ok (.iload_n 1, 1) := by decide +kernel
theorem dX5_renewFile_22 : decode cX5_renewFile 22 = .ok (.iload 4, 2) := by decide +kernel
theorem dX5_renewFile_24 : decode cX5_renewFile 24 = .ok (.invokevirtual 59, 3) := by decide +kernel
theorem dX5_renewFile_27 : decode cX5_renewFile 27 = .ok (.ifCond .ne 16, 3) := by decide +kernel
theorem dX5_renewFile_30 : decode cX5_renewFile 30 = .ok (.aload_n 0, 1) := by decide +kernel
theorem dX5_renewFile_31 : decode cX5_renewFile 31 = .ok (.iload_n 1, 1) := by decide +kernel
theorem dX5_renewFile_32 : decode cX5_renewFile 32 = .ok (.iload 4, 2) := by decide +kernel
theorem dX5_renewFile_34 : decode cX5_renewFile 34 = .ok (.invokevirtual 126, 3) := by decide +kernel
theorem dX5_renewFile_37 : decode cX5_renewFile 37 = .ok (.ifCond .eq 6, 3) := by decide +kernel
theorem dX5_renewFile_40 : decode cX5_renewFile 40 = .ok (.iinc 2 1, 3) := by decide +kernel
theorem dX5_renewFile_43 : decode cX5_renewFile 43 = .ok (.iinc 4 1, 3) := by decide +kernel
theorem dX5_renewFile_46 : decode cX5_renewFile 46 = .ok (.goto (-32), 3) := by decide +kernel
theorem dX5_renewFile_49 : decode cX5_renewFile 49 = .ok (.iload_n 2, 1) := by decide +kernel
theorem dX5_renewFile_50 : decode cX5_renewFile 50 = .ok (.ireturn, 1) := by decide +kernel
theorem dX5_renew_0 : decode cX5_renew 0 = .ok (.aload_n 0, 1) := by decide +kernel
theorem dX5_renew_1 : decode cX5_renew 1 = .ok (.iload_n 1, 1) := by decide +kernel
theorem dX5_renew_2 : decode cX5_renew 2 = .ok (.iload_n 2, 1) := by decide +kernel
theorem dX5_renew_3 : decode cX5_renew 3 = .ok (.invokevirtual 109, 3) := by decide +kernel
theorem dX5_renew_6 : decode cX5_renew 6 = .ok (.aload_n 0, 1) := by decide +kernel
theorem dX5_renew_7 : decode cX5_renew 7 = .ok (.iload_n 1, 1) := by decide +kernel
theorem dX5_renew_8 : decode cX5_renew 8 = .ok (.invokevirtual 103, 3) := by decide +kernel
theorem dX5_renew_11 : decode cX5_renew 11 = .ok (.istore_n 3, 1) := by decide +kernel
theorem dX5_renew_12 : decode cX5_renew 12 = .ok (.iload_n 3, 1) := by decide +kernel
theorem dX5_renew_13 : decode cX5_renew 13 = .ok (.iconst (-1), 1) := by decide +kernel
theorem dX5_renew_14 : decode cX5_renew 14 = .ok (.if_icmp .ne 5, 3) := by decide +kernel
theorem dX5_renew_17 : decode cX5_renew 17 = .ok (.iconst 0, 1) := by decide +kernel
theorem dX5_renew_18 : decode cX5_renew 18 = .ok (.ireturn, 1) := by decide +kernel
theorem dX5_renew_19 : decode cX5_renew 19 = .ok (.aload_n 0, 1) := by decide +kernel
theorem dX5_renew_20 : decode cX5_renew 20 = .ok (.iload_n 1, 1) := by decide +kernel
theorem dX5_renew_21 : decode cX5_renew 21 = .ok (.invokevirtual 129, 3) := by decide +kernel
theorem dX5_renew_24 : decode cX5_renew 24 = .ok (.aload_n 0, 1) := by decide +kernel
theorem dX5_renew_25 : decode cX5_renew 25 = .ok (.iload_n 1, 1) := by decide +kernel
theorem dX5_renew_26 : decode cX5_renew 26 = .ok (.iload_n 2, 1) := by decide +kernel
theorem dX5_renew_27 : decode cX5_renew 27 = .ok (.iload_n 3, 1) := by decide +kernel
theorem dX5_renew_28 : decode cX5_renew 28 = .ok (.iconst 0, 1) := by decide +kernel
theorem dX5_renew_29 : decode cX5_renew 29 = .ok (.invokevirtual 106, 3) := by decide +kernel
theorem dX5_renew_32 : decode cX5_renew 32 = .ok (.iconst 1, 1) := by decide +kernel
theorem dX5_renew_33 : decode cX5_renew 33 = .ok (.ireturn, 1) := by decide +kernel
theorem dX5_oweReaders_0 : decode cX5_oweReaders 0 = .ok (.aload_n 0, 1) := by decide +kernel
theorem dX5_oweReaders_1 : decode cX5_oweReaders 1 = .ok (.getfield 21, 3) := by decide +kernel
theorem dX5_oweReaders_4 : decode cX5_oweReaders 4 = .ok (.iload_n 1, 1) := by decide +kernel
theorem dX5_oweReaders_5 : decode cX5_oweReaders 5 = .ok (.invokevirtual 55, 3) := by decide +kernel
theorem dX5_oweReaders_8 : decode cX5_oweReaders 8 = .ok (.istore_n 2, 1) := by decide +kernel
theorem dX5_oweReaders_9 : decode cX5_oweReaders 9 = .ok (.aload_n 0, 1) := by decide +kernel
theorem dX5_oweReaders_10 : decode cX5_oweReaders 10 = .ok (.getfield 21, 3) := by decide +kernel
theorem dX5_oweReaders_13 : decode cX5_oweReaders 13 = .ok (.iload_n 1, 1) := by decide +kernel
theorem dX5_oweReaders_14 : decode cX5_oweReaders 14 = .ok (.invokevirtual 66, 3) := by decide +kernel
theorem dX5_oweReaders_17 : decode cX5_oweReaders 17 = .ok (.istore_n 3, 1) := by decide +kernel
theorem dX5_oweReaders_18 : decode cX5_oweReaders 18 = .ok (.iconst 0, 1) := by decide +kernel
theorem dX5_oweReaders_19 : decode cX5_oweReaders 19 = .ok (.istore 4, 2) := by decide +kernel
theorem dX5_oweReaders_21 : decode cX5_oweReaders 21 = .ok (.iload 4, 2) := by decide +kernel
theorem dX5_oweReaders_23 : decode cX5_oweReaders 23 = .ok (.iload_n 2, 1) := by decide +kernel
theorem dX5_oweReaders_24 : decode cX5_oweReaders 24 = .ok (.if_icmp .ge 52, 3) := by decide +kernel
theorem dX5_oweReaders_27 : decode cX5_oweReaders 27 = .ok (.iload_n 3, 1) := by decide +kernel
theorem dX5_oweReaders_28 : decode cX5_oweReaders 28 = .ok (.ifCond .le 48, 3) := by decide +kernel
theorem dX5_oweReaders_31 : decode cX5_oweReaders 31 = .ok (.aload_n 0, 1) := by decide +kernel
theorem dX5_oweReaders_32 : decode cX5_oweReaders 32 = .ok (.iload_n 1, 1) := by decide +kernel
theorem dX5_oweReaders_33 : decode cX5_oweReaders 33 = .ok (.iload 4, 2) := by decide +kernel
theorem dX5_oweReaders_35 : decode cX5_oweReaders 35 = .ok (.invokevirtual 59, 3) := by decide +kernel
theorem dX5_oweReaders_38 : decode cX5_oweReaders 38 = .ok (.ifCond .eq 32, 3) := by decide +kernel
theorem dX5_oweReaders_41 : decode cX5_oweReaders 41 = .ok (.aload_n 0, 1) := by decide +kernel
theorem dX5_oweReaders_42 : decode cX5_oweReaders 42 = .ok (.getfield 12, 3) := by decide +kernel
theorem dX5_oweReaders_45 : decode cX5_oweReaders 45 = .ok (.aload_n 0, 1) := by decide +kernel
theorem dX5_oweReaders_46 : decode cX5_oweReaders 46 = .ok (.getfield 21, 3) := by decide +kernel
theorem dX5_oweReaders_49 : decode cX5_oweReaders 49 = .ok (.iload_n 1, 1) := by decide +kernel
theorem dX5_oweReaders_50 : decode cX5_oweReaders 50 = .ok (.invokevirtual 92, 3) := by decide +kernel
theorem dX5_oweReaders_53 : decode cX5_oweReaders 53 = .ok (.aload_n 0, 1) := by decide +kernel
theorem dX5_oweReaders_54 : decode cX5_oweReaders 54 = .ok (.getfield 21, 3) := by decide +kernel
theorem dX5_oweReaders_57 : decode cX5_oweReaders 57 = .ok (.iload_n 1, 1) := by decide +kernel
theorem dX5_oweReaders_58 : decode cX5_oweReaders 58 = .ok (.iload 4, 2) := by decide +kernel
theorem dX5_oweReaders_60 : decode cX5_oweReaders 60 = .ok (.invokevirtual 48, 3) := by decide +kernel
theorem dX5_oweReaders_63 : decode cX5_oweReaders 63 = .ok (.iconst 1, 1) := by decide +kernel
theorem dX5_oweReaders_64 : decode cX5_oweReaders 64 = .ok (.invokevirtual 95, 3) := by decide +kernel
theorem dX5_oweReaders_67 : decode cX5_oweReaders 67 = .ok (.iinc 3 (-1), 3) := by decide +kernel
theorem dX5_oweReaders_70 : decode cX5_oweReaders 70 = .ok (.iinc 4 1, 3) := by decide +kernel
theorem dX5_oweReaders_73 : decode cX5_oweReaders 73 = .ok (.goto (-52), 3) := by decide +kernel
theorem dX5_oweReaders_76 : decode cX5_oweReaders 76 = .ok (.return_, 1) := by decide +kernel
theorem dX5_needsPeer_0 : decode cX5_needsPeer 0 = .ok (.aload_n 0, 1) := by decide +kernel
theorem dX5_needsPeer_1 : decode cX5_needsPeer 1 = .ok (.iload_n 1, 1) := by decide +kernel
theorem dX5_needsPeer_2 : decode cX5_needsPeer 2 = .ok (.invokevirtual 72, 3) := by decide +kernel
theorem dX5_needsPeer_5 : decode cX5_needsPeer 5 = .ok (.ifCond .eq 11, 3) := by decide +kernel
theorem dX5_needsPeer_8 : decode cX5_needsPeer 8 = .ok (.aload_n 0, 1) := by decide +kernel
theorem dX5_needsPeer_9 : decode cX5_needsPeer 9 = .ok (.iload_n 1, 1) := by decide +kernel
theorem dX5_needsPeer_10 : decode cX5_needsPeer 10 = .ok (.invokevirtual 132, 3) := by decide +kernel
theorem dX5_needsPeer_13 : decode cX5_needsPeer 13 = .ok (.ifCond .le 5, 3) := by decide +kernel
theorem dX5_needsPeer_16 : decode cX5_needsPeer 16 = .ok (.iconst 0, 1) := by decide +kernel
theorem dX5_needsPeer_17 : decode cX5_needsPeer 17 = .ok (.ireturn, 1) := by decide +kernel
theorem dX5_needsPeer_18 : decode cX5_needsPeer 18 = .ok (.aload_n 0, 1) := by decide +kernel
theorem dX5_needsPeer_19 : decode cX5_needsPeer 19 = .ok (.iload_n 1, 1) := by decide +kernel
theorem dX5_needsPeer_20 : decode cX5_needsPeer 20 = .ok (.aload_n 0, 1) := by decide +kernel
theorem dX5_needsPeer_21 : decode cX5_needsPeer 21 = .ok (.getfield 21, 3) := by decide +kernel
theorem dX5_needsPeer_24 : decode cX5_needsPeer 24 = .ok (.iload_n 1, 1) := by decide +kernel
theorem dX5_needsPeer_25 : decode cX5_needsPeer 25 = .ok (.iload_n 2, 1) := by decide +kernel
theorem dX5_needsPeer_26 : decode cX5_needsPeer 26 = .ok (.invokevirtual 78, 3) := by decide +kernel
theorem dX5_needsPeer_29 : decode cX5_needsPeer 29 = .ok (.invokevirtual 59, 3) := by decide +kernel
theorem dX5_needsPeer_32 : decode cX5_needsPeer 32 = .ok (.ireturn, 1) := by decide +kernel
theorem dX5_bearsCrashes_0 : decode cX5_bearsCrashes 0 = .ok (.iconst 0, 1) := by decide +kernel
theorem dX5_bearsCrashes_1 : decode cX5_bearsCrashes 1 = .ok (.istore_n 2, 1) := by decide +kernel
theorem dX5_bearsCrashes_2 : decode cX5_bearsCrashes 2 = .ok (.iload_n 2, 1) := by decide +kernel
theorem dX5_bearsCrashes_3 : decode cX5_bearsCrashes 3 = .ok (.bipush 8, 2) := by decide +kernel
theorem dX5_bearsCrashes_5 : decode cX5_bearsCrashes 5 = .ok (.if_icmp .ge 28, 3) := by decide +kernel
theorem dX5_bearsCrashes_8 : decode cX5_bearsCrashes 8 = .ok (.aload_n 0, 1) := by decide +kernel
theorem dX5_bearsCrashes_9 : decode cX5_bearsCrashes 9 = .ok (.iload_n 2, 1) := by decide +kernel
theorem dX5_bearsCrashes_10 : decode cX5_bearsCrashes 10 = .ok (.invokevirtual 72, 3) := by decide +kernel
theorem dX5_bearsCrashes_13 : decode cX5_bearsCrashes 13 = .ok (.ifCond .eq 14, 3) := by decide +kernel
theorem dX5_bearsCrashes_16 : decode cX5_bearsCrashes 16 = .ok (.aload_n 0, 1) := by decide +kernel
theorem dX5_bearsCrashes_17 : decode cX5_bearsCrashes 17 = .ok (.iload_n 2, 1) := by decide +kernel
theorem dX5_bearsCrashes_18 : decode cX5_bearsCrashes 18 = .ok (.iload_n 1, 1) := by decide +kernel
theorem dX5_bearsCrashes_19 : decode cX5_bearsCrashes 19 = .ok (.invokevirtual 135, 3) := by decide +kernel
theorem dX5_bearsCrashes_22 : decode cX5_bearsCrashes 22 = .ok (.ifCond .eq 5, 3) := by decide +kernel
theorem dX5_bearsCrashes_25 : decode cX5_bearsCrashes 25 = .ok (.iconst 0, 1) := by decide +kernel
theorem dX5_bearsCrashes_26 : decode cX5_bearsCrashes 26 = .ok (.ireturn, 1) := by decide +kernel
theorem dX5_bearsCrashes_27 : decode cX5_bearsCrashes 27 = .ok (.iinc 2 1, 3) := by decide +kernel
theorem dX5_bearsCrashes_30 : decode cX5_bearsCrashes 30 = .ok (.goto (-28), 3) := by decide +kernel
theorem dX5_bearsCrashes_33 : decode cX5_bearsCrashes 33 = .ok (.iconst 1, 1) := by decide +kernel
theorem dX5_bearsCrashes_34 : decode cX5_bearsCrashes 34 = .ok (.ireturn, 1) := by decide +kernel
theorem dX5_canBreak_0 : decode cX5_canBreak 0 = .ok (.iload_n 2, 1) := by decide +kernel
theorem dX5_canBreak_1 : decode cX5_canBreak 1 = .ok (.aload_n 0, 1) := by decide +kernel
theorem dX5_canBreak_2 : decode cX5_canBreak 2 = .ok (.getfield 12, 3) := by decide +kernel
theorem dX5_canBreak_5 : decode cX5_canBreak 5 = .ok (.invokevirtual 138, 3) := by decide +kernel
theorem dX5_canBreak_8 : decode cX5_canBreak 8 = .ok (.if_icmp .lt 5, 3) := by decide +kernel
theorem dX5_canBreak_11 : decode cX5_canBreak 11 = .ok (.iconst 0, 1) := by decide +kernel
theorem dX5_canBreak_12 : decode cX5_canBreak 12 = .ok (.ireturn, 1) := by decide +kernel
theorem dX5_canBreak_13 : decode cX5_canBreak 13 = .ok (.aload_n 0, 1) := by decide +kernel
theorem dX5_canBreak_14 : decode cX5_canBreak 14 = .ok (.iload_n 1, 1) := by decide +kernel
theorem dX5_canBreak_15 : decode cX5_canBreak 15 = .ok (.invokevirtual 63, 3) := by decide +kernel
theorem dX5_canBreak_18 : decode cX5_canBreak 18 = .ok (.istore_n 3, 1) := by decide +kernel
theorem dX5_canBreak_19 : decode cX5_canBreak 19 = .ok (.aload_n 0, 1) := by decide +kernel
theorem dX5_canBreak_20 : decode cX5_canBreak 20 = .ok (.getfield 21, 3) := by decide +kernel
theorem dX5_canBreak_23 : decode cX5_canBreak 23 = .ok (.iload_n 1, 1) := by decide +kernel
theorem dX5_canBreak_24 : decode cX5_canBreak 24 = .ok (.aload_n 0, 1) := by decide +kernel
theorem dX5_canBreak_25 : decode cX5_canBreak 25 = .ok (.getfield 21, 3) := by decide +kernel
theorem dX5_canBreak_28 : decode cX5_canBreak 28 = .ok (.iload_n 1, 1) := by decide +kernel
theorem dX5_canBreak_29 : decode cX5_canBreak 29 = .ok (.invokevirtual 92, 3) := by decide +kernel
theorem dX5_canBreak_32 : decode cX5_canBreak 32 = .ok (.invokevirtual 78, 3) := by decide +kernel
theorem dX5_canBreak_35 : decode cX5_canBreak 35 = .ok (.istore 4, 2) := by decide +kernel
theorem dX5_canBreak_37 : decode cX5_canBreak 37 = .ok (.aload_n 0, 1) := by decide +kernel
theorem dX5_canBreak_38 : decode cX5_canBreak 38 = .ok (.iload_n 1, 1) := by decide +kernel
theorem dX5_canBreak_39 : decode cX5_canBreak 39 = .ok (.iload 4, 2) := by decide +kernel
theorem dX5_canBreak_41 : decode cX5_canBreak 41 = .ok (.invokevirtual 59, 3) := by decide +kernel
theorem dX5_canBreak_44 : decode cX5_canBreak 44 = .ok (.ifCond .eq 9, 3) := by decide +kernel
theorem dX5_canBreak_47 : decode cX5_canBreak 47 = .ok (.iload_n 3, 1) := by decide +kernel
theorem dX5_canBreak_48 : decode cX5_canBreak 48 = .ok (.iconst 1, 1) := by decide +kernel
theorem dX5_canBreak_49 : decode cX5_canBreak 49 = .ok (.isub, 1) := by decide +kernel
theorem dX5_canBreak_50 : decode cX5_canBreak 50 = .ok (.goto 4, 3) := by decide +kernel
theorem dX5_canBreak_53 : decode cX5_canBreak 53 = .ok (.iload_n 3, 1) := by decide +kernel
theorem dX5_canBreak_54 : decode cX5_canBreak 54 = .ok (.istore 5, 2) := by decide +kernel
theorem dX5_canBreak_56 : decode cX5_canBreak 56 = .ok (.iload_n 2, 1) := by decide +kernel
theorem dX5_canBreak_57 : decode cX5_canBreak 57 = .ok (.iload 5, 2) := by decide +kernel
theorem dX5_canBreak_59 : decode cX5_canBreak 59 = .ok (.invokestatic 142, 3) := by decide +kernel
theorem dX5_canBreak_62 : decode cX5_canBreak 62 = .ok (.iload_n 3, 1) := by decide +kernel
theorem dX5_canBreak_63 : decode cX5_canBreak 63 = .ok (.aload_n 0, 1) := by decide +kernel
theorem dX5_canBreak_64 : decode cX5_canBreak 64 = .ok (.getfield 21, 3) := by decide +kernel
theorem dX5_canBreak_67 : decode cX5_canBreak 67 = .ok (.iload_n 1, 1) := by decide +kernel
theorem dX5_canBreak_68 : decode cX5_canBreak 68 = .ok (.invokevirtual 66, 3) := by decide +kernel
theorem dX5_canBreak_71 : decode cX5_canBreak 71 = .ok (.isub, 1) := by decide +kernel
theorem dX5_canBreak_72 : decode cX5_canBreak 72 = .ok (.if_icmp .le 7, 3) := by decide +kernel
theorem dX5_canBreak_75 : decode cX5_canBreak 75 = .ok (.iconst 1, 1) := by decide +kernel
theorem dX5_canBreak_76 : decode cX5_canBreak 76 = .ok (.goto 4, 3) := by decide +kernel
theorem dX5_canBreak_79 : decode cX5_canBreak 79 = .ok (.iconst 0, 1) := by decide +kernel
theorem dX5_canBreak_80 : decode cX5_canBreak 80 = .ok (.ireturn, 1) := by decide +kernel
theorem dX6_init_0 : decode cX6_init 0 = .ok (.aload_n 0, 1) := by decide +kernel
theorem dX6_init_1 : decode cX6_init 1 = .ok (.invokespecial 3, 3) := by decide +kernel
theorem dX6_init_4 : decode cX6_init 4 = .ok (.aload_n 0, 1) := by decide +kernel
theorem dX6_init_5 : decode cX6_init 5 = .ok (.new 9, 3) := by decide +kernel
theorem dX6_init_8 : decode cX6_init 8 = .ok (.dup, 1) := by decide +kernel
theorem dX6_init_9 : decode cX6_init 9 = .ok (.invokespecial 11, 3) := by decide +kernel
theorem dX6_init_12 : decode cX6_init 12 = .ok (.putfield 12, 3) := by decide +kernel
theorem dX6_init_15 : decode cX6_init 15 = .ok (.aload_n 0, 1) := by decide +kernel
theorem dX6_init_16 : decode cX6_init 16 = .ok (.new 16, 3) := by decide +kernel
theorem dX6_init_19 : decode cX6_init 19 = .ok (.dup, 1) := by decide +kernel
theorem dX6_init_20 : decode cX6_init 20 = .ok (.invokespecial 18, 3) := by decide +kernel
theorem dX6_init_23 : decode cX6_init 23 = .ok (.putfield 19, 3) := by decide +kernel
theorem dX6_init_26 : decode cX6_init 26 = .ok (.aload_n 0, 1) := by decide +kernel
theorem dX6_init_27 : decode cX6_init 27 = .ok (.new 23, 3) := by decide +kernel
theorem dX6_init_30 : decode cX6_init 30 = .ok (.dup, 1) := by decide +kernel
theorem dX6_init_31 : decode cX6_init 31 = .ok (.invokespecial 25, 3) := by decide +kernel
theorem dX6_init_34 : decode cX6_init 34 = .ok (.putfield 26, 3) := by decide +kernel
theorem dX6_init_37 : decode cX6_init 37 = .ok (.aload_n 0, 1) := by decide +kernel
theorem dX6_init_38 : decode cX6_init 38 = .ok (.new 30, 3) := by decide +kernel
theorem dX6_init_41 : decode cX6_init 41 = .ok (.dup, 1) := by decide +kernel
theorem dX6_init_42 : decode cX6_init 42 = .ok (.invokespecial 32, 3) := by decide +kernel
theorem dX6_init_45 : decode cX6_init 45 = .ok (.putfield 33, 3) := by decide +kernel
theorem dX6_init_48 : decode cX6_init 48 = .ok (.aload_n 0, 1) := by decide +kernel
theorem dX6_init_49 : decode cX6_init 49 = .ok (.new 9, 3) := by decide +kernel
theorem dX6_init_52 : decode cX6_init 52 = .ok (.dup, 1) := by decide +kernel
theorem dX6_init_53 : decode cX6_init 53 = .ok (.invokespecial 11, 3) := by decide +kernel
theorem dX6_init_56 : decode cX6_init 56 = .ok (.putfield 37, 3) := by decide +kernel
theorem dX6_init_59 : decode cX6_init 59 = .ok (.aload_n 0, 1) := by decide +kernel
theorem dX6_init_60 : decode cX6_init 60 = .ok (.new 9, 3) := by decide +kernel
theorem dX6_init_63 : decode cX6_init 63 = .ok (.dup, 1) := by decide +kernel
theorem dX6_init_64 : decode cX6_init 64 = .ok (.invokespecial 11, 3) := by decide +kernel
theorem dX6_init_67 : decode cX6_init 67 = .ok (.putfield 40, 3) := by decide +kernel
theorem dX6_init_70 : decode cX6_init 70 = .ok (.return_, 1) := by decide +kernel
theorem dX6_join_0 : decode cX6_join 0 = .ok (.iload_n 1, 1) := by decide +kernel
theorem dX6_join_1 : decode cX6_join 1 = .ok (.iconst 1, 1) := by decide +kernel
theorem dX6_join_2 : decode cX6_join 2 = .ok (.if_icmp .lt 9, 3) := by decide +kernel
theorem dX6_join_5 : decode cX6_join 5 = .ok (.iload_n 1, 1) := by decide +kernel
theorem dX6_join_6 : decode cX6_join 6 = .ok (.bipush 40, 2) := by decide +kernel
theorem dX6_join_8 : decode cX6_join 8 = .ok (.if_icmp .le 7, 3) := by decide +kernel
theorem dX6_join_11 : decode cX6_join 11 = .ok (.sipush (-10001), 3) := by decide +kernel
theorem dX6_join_14 : decode cX6_join 14 = .ok (.ireturn, 1) := by decide +kernel
theorem dX6_join_15 : decode cX6_join 15 = .ok (.aload_n 0, 1) := by decide +kernel
theorem dX6_join_16 : decode cX6_join 16 = .ok (.getfield 12, 3) := by decide +kernel
theorem dX6_join_19 : decode cX6_join 19 = .ok (.getfield 43, 3) := by decide +kernel
theorem dX6_join_22 : decode cX6_join 22 = .ok (.invokevirtual 47, 3) := by decide +kernel
theorem dX6_join_25 : decode cX6_join 25 = .ok (.istore_n 2, 1) := by decide +kernel
theorem dX6_join_26 : decode cX6_join 26 = .ok (.iload_n 2, 1) := by decide +kernel
theorem dX6_join_27 : decode cX6_join 27 = .ok (.iconst (-1), 1) := by decide +kernel
theorem dX6_join_28 : decode cX6_join 28 = .ok (.if_icmp .ne 7, 3) := by decide +kernel
theorem dX6_join_31 : decode cX6_join 31 = .ok (.sipush (-10003), 3) := by decide +kernel
theorem dX6_join_34 : decode cX6_join 34 = .ok (.ireturn, 1) := by decide +kernel
theorem dX6_join_35 : decode cX6_join 35 = .ok (.aload_n 0, 1) := by decide +kernel
theorem dX6_join_36 : decode cX6_join 36 = .ok (.getfield 19, 3) := by decide +kernel
theorem dX6_join_39 : decode cX6_join 39 = .ok (.aload_n 0, 1) := by decide +kernel
theorem dX6_join_40 : decode cX6_join 40 = .ok (.getfield 12, 3) := by decide +kernel
theorem dX6_join_43 : decode cX6_join 43 = .ok (.invokevirtual 53, 3) := by decide +kernel
theorem dX6_join_46 : decode cX6_join 46 = .ok (.aload_n 0, 1) := by decide +kernel
theorem dX6_join_47 : decode cX6_join 47 = .ok (.getfield 12, 3) := by decide +kernel
theorem dX6_join_50 : decode cX6_join 50 = .ok (.getfield 43, 3) := by decide +kernel
theorem dX6_join_53 : decode cX6_join 53 = .ok (.iload_n 2, 1) := by decide +kernel
theorem dX6_join_54 : decode cX6_join 54 = .ok (.iload_n 1, 1) := by decide +kernel
theorem dX6_join_55 : decode cX6_join 55 = .ok (.invokevirtual 57, 3) := by decide +kernel
theorem dX6_join_58 : decode cX6_join 58 = .ok (.iload_n 2, 1) := by decide +kernel
theorem dX6_join_59 : decode cX6_join 59 = .ok (.ireturn, 1) := by decide +kernel
theorem dX6_leave_0 : decode cX6_leave 0 = .ok (.aload_n 0, 1) := by decide +kernel
theorem dX6_leave_1 : decode cX6_leave 1 = .ok (.getfield 12, 3) := by decide +kernel
theorem dX6_leave_4 : decode cX6_leave 4 = .ok (.getfield 43, 3) := by decide +kernel
theorem dX6_leave_7 : decode cX6_leave 7 = .ok (.iload_n 1, 1) := by decide +kernel
theorem dX6_leave_8 : decode cX6_leave 8 = .ok (.invokevirtual 61, 3) := by decide +kernel
theorem dX6_leave_11 : decode cX6_leave 11 = .ok (.ifCond .ne 7, 3) := by decide +kernel
theorem dX6_leave_14 : decode cX6_leave 14 = .ok (.sipush (-10001), 3) := by decide +kernel
theorem dX6_leave_17 : decode cX6_leave 17 = .ok (.ireturn, 1) := by decide +kernel
theorem dX6_leave_18 : decode cX6_leave 18 = .ok (.aload_n 0, 1) := by decide +kernel
theorem dX6_leave_19 : decode cX6_leave 19 = .ok (.getfield 12, 3) := by decide +kernel
theorem dX6_leave_22 : decode cX6_leave 22 = .ok (.iload_n 1, 1) := by decide +kernel
theorem dX6_leave_23 : decode cX6_leave 23 = .ok (.invokevirtual 65, 3) := by decide +kernel
theorem dX6_leave_26 : decode cX6_leave 26 = .ok (.ifCond .ne 7, 3) := by decide +kernel
theorem dX6_leave_29 : decode cX6_leave 29 = .ok (.sipush (-10002), 3) := by decide +kernel
theorem dX6_leave_32 : decode cX6_leave 32 = .ok (.ireturn, 1) := by decide +kernel
theorem dX6_leave_33 : decode cX6_leave 33 = .ok (.aload_n 0, 1) := by decide +kernel
theorem dX6_leave_34 : decode cX6_leave 34 = .ok (.getfield 19, 3) := by decide +kernel
theorem dX6_leave_37 : decode cX6_leave 37 = .ok (.aload_n 0, 1) := by decide +kernel
theorem dX6_leave_38 : decode cX6_leave 38 = .ok (.getfield 12, 3) := by decide +kernel
theorem dX6_leave_41 : decode cX6_leave 41 = .ok (.invokevirtual 53, 3) := by decide +kernel
theorem dX6_leave_44 : decode cX6_leave 44 = .ok (.aload_n 0, 1) := by decide +kernel
theorem dX6_leave_45 : decode cX6_leave 45 = .ok (.getfield 12, 3) := by decide +kernel
theorem dX6_leave_48 : decode cX6_leave 48 = .ok (.iload_n 1, 1) := by decide +kernel
theorem dX6_leave_49 : decode cX6_leave 49 = .ok (.invokevirtual 68, 3) := by decide +kernel
theorem dX6_leave_52 : decode cX6_leave 52 = .ok (.ireturn, 1) := by decide +kernel
theorem dX6_crash_0 : decode cX6_crash 0 = .ok (.aload_n 0, 1) := by decide +kernel
theorem dX6_crash_1 : decode cX6_crash 1 = .ok (.getfield 12, 3) := by decide +kernel
theorem dX6_crash_4 : decode cX6_crash 4 = .ok (.getfield 43, 3) := by decide +kernel
theorem dX6_crash_7 : decode cX6_crash 7 = .ok (.iload_n 1, 1) := by decide +kernel
theorem dX6_crash_8 : decode cX6_crash 8 = .ok (.invokevirtual 61, 3) := by decide +kernel
theorem dX6_crash_11 : decode cX6_crash 11 = .ok (.ifCond .ne 7, 3) := by decide +kernel
theorem dX6_crash_14 : decode cX6_crash 14 = .ok (.sipush (-10001), 3) := by decide +kernel
theorem dX6_crash_17 : decode cX6_crash 17 = .ok (.ireturn, 1) := by decide +kernel
theorem dX6_crash_18 : decode cX6_crash 18 = .ok (.aload_n 0, 1) := by decide +kernel
theorem dX6_crash_19 : decode cX6_crash 19 = .ok (.getfield 19, 3) := by decide +kernel
theorem dX6_crash_22 : decode cX6_crash 22 = .ok (.aload_n 0, 1) := by decide +kernel
theorem dX6_crash_23 : decode cX6_crash 23 = .ok (.getfield 12, 3) := by decide +kernel
theorem dX6_crash_26 : decode cX6_crash 26 = .ok (.invokevirtual 53, 3) := by decide +kernel
theorem dX6_crash_29 : decode cX6_crash 29 = .ok (.aload_n 0, 1) := by decide +kernel
theorem dX6_crash_30 : decode cX6_crash 30 = .ok (.getfield 12, 3) := by decide +kernel
theorem dX6_crash_33 : decode cX6_crash 33 = .ok (.iload_n 1, 1) := by decide +kernel
theorem dX6_crash_34 : decode cX6_crash 34 = .ok (.invokevirtual 72, 3) := by decide +kernel
theorem dX6_crash_37 : decode cX6_crash 37 = .ok (.ireturn, 1) := by decide +kernel
theorem dX6_setOnline_0 : decode cX6_setOnline 0 = .ok (.aload_n 0, 1) := by decide +kernel
theorem dX6_setOnline_1 : decode cX6_setOnline 1 = .ok (.getfield 12, 3) := by decide +kernel
theorem dX6_setOnline_4 : decode cX6_setOnline 4 = .ok (.getfield 43, 3) := by decide +kernel
theorem dX6_setOnline_7 : decode cX6_setOnline 7 = .ok (.iload_n 1, 1) := by decide +kernel
theorem dX6_setOnline_8 : decode cX6_setOnline 8 = .ok (.invokevirtual 61, 3) := by decide +kernel
theorem dX6_setOnline_11 : decode cX6_setOnline 11 = .ok (.ifCond .eq 12, 3) := by decide +kernel
theorem dX6_setOnline_14 : decode cX6_setOnline 14 = .ok (.iload_n 2, 1) := by decide +kernel
theorem dX6_setOnline_15 : decode cX6_setOnline 15 = .ok (.ifCond .lt 8, 3) := by decide +kernel
theorem dX6_setOnline_18 : decode cX6_setOnline 18 = .ok (.iload_n 2, 1) := by decide +kernel
theorem dX6_setOnline_19 : decode cX6_setOnline 19 = .ok (.iconst 1, 1) := by decide +kernel
theorem dX6_setOnline_20 : decode cX6_setOnline 20 = .ok (.if_icmp .le 7, 3) := by decide +kernel
theorem dX6_setOnline_23 : decode cX6_setOnline 23 = .ok (.sipush (-10001), 3) := by decide +kernel
theorem dX6_setOnline_26 : decode cX6_setOnline 26 = .ok (.ireturn, 1) := by decide +kernel
theorem dX6_setOnline_27 : decode cX6_setOnline 27 = .ok (.aload_n 0, 1) := by decide +kernel
theorem dX6_setOnline_28 : decode cX6_setOnline 28 = .ok (.getfield 19, 3) := by decide +kernel
theorem dX6_setOnline_31 : decode cX6_setOnline 31 = .ok (.aload_n 0, 1) := by decide +kernel
theorem dX6_setOnline_32 : decode cX6_setOnline 32 = .ok (.getfield 12, 3) := by decide +kernel
theorem dX6_setOnline_35 : decode cX6_setOnline 35 = .ok (.invokevirtual 53, 3) := by decide +kernel
theorem dX6_setOnline_38 : decode cX6_setOnline 38 = .ok (.aload_n 0, 1) := by decide +kernel
theorem dX6_setOnline_39 : decode cX6_setOnline 39 = .ok (.getfield 12, 3) := by decide +kernel
theorem dX6_setOnline_42 : decode cX6_setOnline 42 = .ok (.getfield 43, 3) := by decide +kernel
theorem dX6_setOnline_45 : decode cX6_setOnline 45 = .ok (.getfield 75, 3) := by decide +kernel
theorem dX6_setOnline_48 : decode cX6_setOnline 48 = .ok (.iload_n 1, 1) := by decide +kernel
theorem dX6_setOnline_49 : decode cX6_setOnline 49 = .ok (.iaload, 1) := by decide +kernel
theorem dX6_setOnline_50 : decode cX6_setOnline 50 = .ok (.istore_n 3, 1) := by decide +kernel
theorem dX6_setOnline_51 : decode cX6_setOnline 51 = .ok (.aload_n 0, 1) := by decide +kernel
theorem dX6_setOnline_52 : decode cX6_setOnline 52 = .ok (.getfield 12, 3) := by decide +kernel
theorem dX6_setOnline_55 : decode cX6_setOnline 55 = .ok (.getfield 43, 3) := by decide +kernel
theorem dX6_setOnline_58 : decode cX6_setOnline 58 = .ok (.getfield 75, 3) := by decide +kernel
theorem dX6_setOnline_61 : decode cX6_setOnline 61 = .ok (.iload_n 1, 1) := by decide +kernel
theorem dX6_setOnline_62 : decode cX6_setOnline 62 = .ok (.iload_n 2, 1) := by decide +kernel
theorem dX6_setOnline_63 : decode cX6_setOnline 63 = .ok (.iastore, 1) := by decide +kernel
theorem dX6_setOnline_64 : decode cX6_setOnline 64 = .ok (.iload_n 3, 1) := by decide +kernel
theorem dX6_setOnline_65 : decode cX6_setOnline 65 = .ok (.ireturn, 1) := by decide +kernel
theorem dX6_pay_0 : decode cX6_pay 0 = .ok (.aload_n 0, 1) := by decide +kernel
theorem dX6_pay_1 : decode cX6_pay 1 = .ok (.getfield 12, 3) := by decide +kernel
theorem dX6_pay_4 : decode cX6_pay 4 = .ok (.getfield 43, 3) := by decide +kernel
theorem dX6_pay_7 : decode cX6_pay 7 = .ok (.iload_n 1, 1) := by decide +kernel
theorem dX6_pay_8 : decode cX6_pay 8 = .ok (.iload_n 2, 1) := by decide +kernel
theorem dX6_pay_9 : decode cX6_pay 9 = .ok (.invokevirtual 79, 3) := by decide +kernel
theorem dX6_pay_12 : decode cX6_pay 12 = .ok (.ifCond .eq 15, 3) := by decide +kernel
theorem dX6_pay_15 : decode cX6_pay 15 = .ok (.iload_n 3, 1) := by decide +kernel
theorem dX6_pay_16 : decode cX6_pay 16 = .ok (.iconst 1, 1) := by decide +kernel
theorem dX6_pay_17 : decode cX6_pay 17 = .ok (.if_icmp .lt 10, 3) := by decide +kernel
theorem dX6_pay_20 : decode cX6_pay 20 = .ok (.iload_n 3, 1) := by decide +kernel
theorem dX6_pay_21 : decode cX6_pay 21 = .ok (.sipush 1000, 3) := by decide +kernel
theorem dX6_pay_24 : decode cX6_pay 24 = .ok (.if_icmp .le 7, 3) := by decide +kernel
theorem dX6_pay_27 : decode cX6_pay 27 = .ok (.sipush (-10001), 3) := by decide +kernel
theorem dX6_pay_30 : decode cX6_pay 30 = .ok (.ireturn, 1) := by decide +kernel
theorem dX6_pay_31 : decode cX6_pay 31 = .ok (.aload_n 0, 1) := by decide +kernel
theorem dX6_pay_32 : decode cX6_pay 32 = .ok (.getfield 12, 3) := by decide +kernel
theorem dX6_pay_35 : decode cX6_pay 35 = .ok (.getfield 43, 3) := by decide +kernel
theorem dX6_pay_38 : decode cX6_pay 38 = .ok (.iload_n 1, 1) := by decide +kernel
theorem dX6_pay_39 : decode cX6_pay 39 = .ok (.iload_n 2, 1) := by decide +kernel
theorem dX6_pay_40 : decode cX6_pay 40 = .ok (.invokevirtual 83, 3) := by decide +kernel
theorem dX6_pay_43 : decode cX6_pay 43 = .ok (.iload_n 3, 1) := by decide +kernel
theorem dX6_pay_44 : decode cX6_pay 44 = .ok (.if_icmp .ge 7, 3) := by decide +kernel
theorem dX6_pay_47 : decode cX6_pay 47 = .ok (.sipush (-10002), 3) := by decide +kernel
theorem dX6_pay_50 : decode cX6_pay 50 = .ok (.ireturn, 1) := by decide +kernel
theorem dX6_pay_51 : decode cX6_pay 51 = .ok (.aload_n 0, 1) := by decide +kernel
theorem dX6_pay_52 : decode cX6_pay 52 = .ok (.getfield 19, 3) := by decide +kernel
theorem dX6_pay_55 : decode cX6_pay 55 = .ok (.aload_n 0, 1) := by decide +kernel
theorem dX6_pay_56 : decode cX6_pay 56 = .ok (.getfield 12, 3) := by decide +kernel
theorem dX6_pay_59 : decode cX6_pay 59 = .ok (.invokevirtual 53, 3) := by decide +kernel
theorem dX6_pay_62 : decode cX6_pay 62 = .ok (.aload_n 0, 1) := by decide +kernel
theorem dX6_pay_63 : decode cX6_pay 63 = .ok (.getfield 12, 3) := by decide +kernel
theorem dX6_pay_66 : decode cX6_pay 66 = .ok (.getfield 43, 3) := by decide +kernel
theorem dX6_pay_69 : decode cX6_pay 69 = .ok (.iload_n 1, 1) := by decide +kernel
theorem dX6_pay_70 : decode cX6_pay 70 = .ok (.iload_n 2, 1) := by decide +kernel
theorem dX6_pay_71 : decode cX6_pay 71 = .ok (.iload_n 3, 1) := by decide +kernel
theorem dX6_pay_72 : decode cX6_pay 72 = .ok (.ineg, 1) := by decide +kernel
theorem dX6_pay_73 : decode cX6_pay 73 = .ok (.invokevirtual 87, 3) := by decide +kernel
theorem dX6_pay_76 : decode cX6_pay 76 = .ok (.aload_n 0, 1) := by decide +kernel
theorem dX6_pay_77 : decode cX6_pay 77 = .ok (.getfield 12, 3) := by decide +kernel
theorem dX6_pay_80 : decode cX6_pay 80 = .ok (.getfield 43, 3) := by decide +kernel
theorem dX6_pay_83 : decode cX6_pay 83 = .ok (.iload_n 1, 1) := by decide +kernel
theorem dX6_pay_84 : decode cX6_pay 84 = .ok (.iload_n 2, 1) := by decide +kernel
theorem dX6_pay_85 : decode cX6_pay 85 = .ok (.invokevirtual 83, 3) := by decide +kernel
theorem dX6_pay_88 : decode cX6_pay 88 = .ok (.ireturn, 1) := by decide +kernel
theorem dX6_peerInfo_0 : decode cX6_peerInfo 0 = .ok (.aload_n 0, 1) := by decide +kernel
theorem dX6_peerInfo_1 : decode cX6_peerInfo 1 = .ok (.getfield 12, 3) := by decide +kernel
theorem dX6_peerInfo_4 : decode cX6_peerInfo 4 = .ok (.getfield 43, 3) := by decide +kernel
theorem dX6_peerInfo_7 : decode cX6_peerInfo 7 = .ok (.iload_n 1, 1) := by decide +kernel
theorem dX6_peerInfo_8 : decode cX6_peerInfo 8 = .ok (.invokevirtual 61, 3) := by decide +kernel
theorem dX6_peerInfo_11 : decode cX6_peerInfo 11 = .ok (.ifCond .ne 7, 3) := by decide +kernel
theorem dX6_peerInfo_14 : decode cX6_peerInfo 14 = .ok (.sipush (-10001), 3) := by decide +kernel
theorem dX6_peerInfo_17 : decode cX6_peerInfo 17 = .ok (.ireturn, 1) := by decide +kernel
theorem dX6_peerInfo_18 : decode cX6_peerInfo 18 = .ok (.iload_n 2, 1) := by decide +kernel
theorem dX6_peerInfo_19 : decode cX6_peerInfo 19 = .ok (.tableswitch 112 0 5 #[37, 50, 62, 75, 88, 100], 37) := by decide +kernel
theorem dX6_peerInfo_56 : decode cX6_peerInfo 56 = .ok (.aload_n 0, 1) := by decide +kernel
theorem dX6_peerInfo_57 : decode cX6_peerInfo 57 = .ok (.getfield 12, 3) := by decide +kernel
theorem dX6_peerInfo_60 : decode cX6_peerInfo 60 = .ok (.getfield 43, 3) := by decide +kernel
theorem dX6_peerInfo_63 : decode cX6_peerInfo 63 = .ok (.getfield 91, 3) := by decide +kernel
theorem dX6_peerInfo_66 : decode cX6_peerInfo 66 = .ok (.iload_n 1, 1) := by decide +kernel
theorem dX6_peerInfo_67 : decode cX6_peerInfo 67 = .ok (.iaload, 1) := by decide +kernel
theorem dX6_peerInfo_68 : decode cX6_peerInfo 68 = .ok (.ireturn, 1) := by decide +kernel
theorem dX6_peerInfo_69 : decode cX6_peerInfo 69 = .ok (.aload_n 0, 1) := by decide +kernel
theorem dX6_peerInfo_70 : decode cX6_peerInfo 70 = .ok (.getfield 12, 3) := by decide +kernel
theorem dX6_peerInfo_73 : decode cX6_peerInfo 73 = .ok (.getfield 43, 3) := by decide +kernel
theorem dX6_peerInfo_76 : decode cX6_peerInfo 76 = .ok (.iload_n 1, 1) := by decide +kernel
theorem dX6_peerInfo_77 : decode cX6_peerInfo 77 = .ok (.invokevirtual 94, 3) := by decide +kernel
theorem dX6_peerInfo_80 : decode cX6_peerInfo 80 = .ok (.ireturn, 1) := by decide +kernel
theorem dX6_peerInfo_81 : decode cX6_peerInfo 81 = .ok (.aload_n 0, 1) := by decide +kernel
theorem dX6_peerInfo_82 : decode cX6_peerInfo 82 = .ok (.getfield 12, 3) := by decide +kernel
theorem dX6_peerInfo_85 : decode cX6_peerInfo 85 = .ok (.getfield 43, 3) := by decide +kernel
theorem dX6_peerInfo_88 : decode cX6_peerInfo 88 = .ok (.getfield 75, 3) := by decide +kernel
theorem dX6_peerInfo_91 : decode cX6_peerInfo 91 = .ok (.iload_n 1, 1) := by decide +kernel
theorem dX6_peerInfo_92 : decode cX6_peerInfo 92 = .ok (.iaload, 1) := by decide +kernel
theorem dX6_peerInfo_93 : decode cX6_peerInfo 93 = .ok (.ireturn, 1) := by decide +kernel
theorem dX6_peerInfo_94 : decode cX6_peerInfo 94 = .ok (.aload_n 0, 1) := by decide +kernel
theorem dX6_peerInfo_95 : decode cX6_peerInfo 95 = .ok (.getfield 12, 3) := by decide +kernel
theorem dX6_peerInfo_98 : decode cX6_peerInfo 98 = .ok (.getfield 43, 3) := by decide +kernel
theorem dX6_peerInfo_101 : decode cX6_peerInfo 101 = .ok (.getfield 97, 3) := by decide +kernel
theorem dX6_peerInfo_104 : decode cX6_peerInfo 104 = .ok (.iload_n 1, 1) := by decide +kernel
theorem dX6_peerInfo_105 : decode cX6_peerInfo 105 = .ok (.iaload, 1) := by decide +kernel
theorem dX6_peerInfo_106 : decode cX6_peerInfo 106 = .ok (.ireturn, 1) := by decide +kernel
theorem dX6_peerInfo_107 : decode cX6_peerInfo 107 = .ok (.aload_n 0, 1) := by decide +kernel
theorem dX6_peerInfo_108 : decode cX6_peerInfo 108 = .ok (.getfield 12, 3) := by decide +kernel
theorem dX6_peerInfo_111 : decode cX6_peerInfo 111 = .ok (.getfield 100, 3) := by decide +kernel
theorem dX6_peerInfo_114 : decode cX6_peerInfo 114 = .ok (.iload_n 1, 1) := by decide +kernel
theorem dX6_peerInfo_115 : decode cX6_peerInfo 115 = .ok (.invokevirtual 104, 3) := by decide +kernel
theorem dX6_peerInfo_118 : decode cX6_peerInfo 118 = .ok (.ireturn, 1) := by decide +kernel
theorem dX6_peerInfo_119 : decode cX6_peerInfo 119 = .ok (.aload_n 0, 1) := by decide +kernel
theorem dX6_peerInfo_120 : decode cX6_peerInfo 120 = .ok (.getfield 12, 3) := by decide +kernel
theorem dX6_peerInfo_123 : decode cX6_peerInfo 123 = .ok (.getfield 43, 3) := by decide +kernel
theorem dX6_peerInfo_126 : decode cX6_peerInfo 126 = .ok (.iload_n 1, 1) := by decide +kernel
theorem dX6_peerInfo_127 : decode cX6_peerInfo 127 = .ok (.invokevirtual 109, 3) := by decide +kernel
theorem dX6_peerInfo_130 : decode cX6_peerInfo 130 = .ok (.ireturn, 1) := by decide +kernel
theorem dX6_peerInfo_131 : decode cX6_peerInfo 131 = .ok (.sipush (-10001), 3) := by decide +kernel
theorem dX6_peerInfo_134 : decode cX6_peerInfo 134 = .ok (.ireturn, 1) := by decide +kernel
theorem dX6_balance_0 : decode cX6_balance 0 = .ok (.aload_n 0, 1) := by decide +kernel
theorem dX6_balance_1 : decode cX6_balance 1 = .ok (.getfield 12, 3) := by decide +kernel
theorem dX6_balance_4 : decode cX6_balance 4 = .ok (.getfield 43, 3) := by decide +kernel
theorem dX6_balance_7 : decode cX6_balance 7 = .ok (.iload_n 1, 1) := by decide +kernel
theorem dX6_balance_8 : decode cX6_balance 8 = .ok (.iload_n 2, 1) := by decide +kernel
theorem dX6_balance_9 : decode cX6_balance 9 = .ok (.invokevirtual 79, 3) := by decide +kernel
theorem dX6_balance_12 : decode cX6_balance 12 = .ok (.ifCond .ne 7, 3) := by decide +kernel
theorem dX6_balance_15 : decode cX6_balance 15 = .ok (.sipush (-10001), 3) := by decide +kernel
theorem dX6_balance_18 : decode cX6_balance 18 = .ok (.ireturn, 1) := by decide +kernel
theorem dX6_balance_19 : decode cX6_balance 19 = .ok (.aload_n 0, 1) := by decide +kernel
theorem dX6_balance_20 : decode cX6_balance 20 = .ok (.getfield 12, 3) := by decide +kernel
theorem dX6_balance_23 : decode cX6_balance 23 = .ok (.getfield 43, 3) := by decide +kernel
theorem dX6_balance_26 : decode cX6_balance 26 = .ok (.iload_n 1, 1) := by decide +kernel
theorem dX6_balance_27 : decode cX6_balance 27 = .ok (.iload_n 2, 1) := by decide +kernel
theorem dX6_balance_28 : decode cX6_balance 28 = .ok (.invokevirtual 83, 3) := by decide +kernel
theorem dX6_balance_31 : decode cX6_balance 31 = .ok (.ireturn, 1) := by decide +kernel
theorem dX6_word_0 : decode cX6_word 0 = .ok (.iload_n 1, 1) := by decide +kernel
theorem dX6_word_1 : decode cX6_word 1 = .ok (.ifCond .lt 10, 3) := by decide +kernel
theorem dX6_word_4 : decode cX6_word 4 = .ok (.iload_n 1, 1) := by decide +kernel
theorem dX6_word_5 : decode cX6_word 5 = .ok (.sipush 255, 3) := by decide +kernel
theorem dX6_word_8 : decode cX6_word 8 = .ok (.if_icmp .le 7, 3) := by decide +kernel
theorem dX6_word_11 : decode cX6_word 11 = .ok (.sipush (-10001), 3) := by decide +kernel
theorem dX6_word_14 : decode cX6_word 14 = .ok (.ireturn, 1) := by decide +kernel
theorem dX6_word_15 : decode cX6_word 15 = .ok (.aload_n 0, 1) := by decide +kernel
theorem dX6_word_16 : decode cX6_word 16 = .ok (.getfield 12, 3) := by decide +kernel
theorem dX6_word_19 : decode cX6_word 19 = .ok (.getfield 112, 3) := by decide +kernel
theorem dX6_word_22 : decode cX6_word 22 = .ok (.bipush 6, 2) := by decide +kernel
theorem dX6_word_24 : decode cX6_word 24 = .ok (.if_icmp .lt 7, 3) := by decide +kernel
theorem dX6_word_27 : decode cX6_word 27 = .ok (.sipush (-10003), 3) := by decide +kernel
theorem dX6_word_30 : decode cX6_word 30 = .ok (.ireturn, 1) := by decide +kernel
theorem dX6_word_31 : decode cX6_word 31 = .ok (.aload_n 0, 1) := by decide +kernel
theorem dX6_word_32 : decode cX6_word 32 = .ok (.getfield 12, 3) := by decide +kernel
theorem dX6_word_35 : decode cX6_word 35 = .ok (.iload_n 1, 1) := by decide +kernel
theorem dX6_word_36 : decode cX6_word 36 = .ok (.invokevirtual 116, 3) := by decide +kernel
theorem dX6_word_39 : decode cX6_word 39 = .ok (.ireturn, 1) := by decide +kernel
theorem dX6_store_0 : decode cX6_store 0 = .ok (.aload_n 0, 1) := by decide +kernel
theorem dX6_store_1 : decode cX6_store 1 = .ok (.getfield 12, 3) := by decide +kernel
theorem dX6_store_4 : decode cX6_store 4 = .ok (.getfield 43, 3) := by decide +kernel
theorem dX6_store_7 : decode cX6_store 7 = .ok (.iload_n 1, 1) := by decide +kernel
theorem dX6_store_8 : decode cX6_store 8 = .ok (.invokevirtual 61, 3) := by decide +kernel
theorem dX6_store_11 : decode cX6_store 11 = .ok (.ifCond .eq 12, 3) := by decide +kernel
theorem dX6_store_14 : decode cX6_store 14 = .ok (.iload_n 2, 1) := by decide +kernel
theorem dX6_store_15 : decode cX6_store 15 = .ok (.ifCond .lt 8, 3) := by decide +kernel
theorem dX6_store_18 : decode cX6_store 18 = .ok (.iload_n 2, 1) := by decide +kernel
theorem dX6_store_19 : decode cX6_store 19 = .ok (.iconst 4, 1) := by decide +kernel
theorem dX6_store_20 : decode cX6_store 20 = .ok (.if_icmp .le 7, 3) := by decide +kernel
theorem dX6_store_23 : decode cX6_store 23 = .ok (.sipush (-10001), 3) := by decide +kernel
theorem dX6_store_26 : decode cX6_store 26 = .ok (.ireturn, 1) := by decide +kernel
theorem dX6_store_27 : decode cX6_store 27 = .ok (.aload_n 0, 1) := by decide +kernel
theorem dX6_store_28 : decode cX6_store 28 = .ok (.getfield 12, 3) := by decide +kernel
theorem dX6_store_31 : decode cX6_store 31 = .ok (.getfield 112, 3) := by decide +kernel
theorem dX6_store_34 : decode cX6_store 34 = .ok (.ifCond .eq 17, 3) := by decide +kernel
theorem dX6_store_37 : decode cX6_store 37 = .ok (.aload_n 0, 1) := by decide +kernel
theorem dX6_store_38 : decode cX6_store 38 = .ok (.getfield 12, 3) := by decide +kernel
theorem dX6_store_41 : decode cX6_store 41 = .ok (.getfield 43, 3) := by decide +kernel
theorem dX6_store_44 : decode cX6_store 44 = .ok (.iload_n 1, 1) := by decide +kernel
theorem dX6_store_45 : decode cX6_store 45 = .ok (.invokevirtual 119, 3) := by decide +kernel
theorem dX6_store_48 : decode cX6_store 48 = .ok (.ifCond .ne 7, 3) := by decide +kernel
theorem dX6_store_51 : decode cX6_store 51 = .ok (.sipush (-10002), 3) := by decide +kernel
theorem dX6_store_54 : decode cX6_store 54 = .ok (.ireturn, 1) := by decide +kernel
theorem dX6_store_55 : decode cX6_store 55 = .ok (.aload_n 0, 1) := by decide +kernel
theorem dX6_store_56 : decode cX6_store 56 = .ok (.getfield 12, 3) := by decide +kernel
theorem dX6_store_59 : decode cX6_store 59 = .ok (.getfield 100, 3) := by decide +kernel
theorem dX6_store_62 : decode cX6_store 62 = .ok (.invokevirtual 122, 3) := by decide +kernel
theorem dX6_store_65 : decode cX6_store 65 = .ok (.istore_n 3, 1) := by decide +kernel
theorem dX6_store_66 : decode cX6_store 66 = .ok (.iload_n 3, 1) := by decide +kernel
theorem dX6_store_67 : decode cX6_store 67 = .ok (.iconst (-1), 1) := by decide +kernel
theorem dX6_store_68 : decode cX6_store 68 = .ok (.if_icmp .ne 7, 3) := by decide +kernel
theorem dX6_store_71 : decode cX6_store 71 = .ok (.sipush (-10003), 3) := by decide +kernel
theorem dX6_store_74 : decode cX6_store 74 = .ok (.ireturn, 1) := by decide +kernel
theorem dX6_store_75 : decode cX6_store 75 = .ok (.aload_n 0, 1) := by decide +kernel
theorem dX6_store_76 : decode cX6_store 76 = .ok (.getfield 19, 3) := by decide +kernel
theorem dX6_store_79 : decode cX6_store 79 = .ok (.aload_n 0, 1) := by decide +kernel
theorem dX6_store_80 : decode cX6_store 80 = .ok (.getfield 12, 3) := by decide +kernel
theorem dX6_store_83 : decode cX6_store 83 = .ok (.invokevirtual 53, 3) := by decide +kernel
theorem dX6_store_86 : decode cX6_store 86 = .ok (.aload_n 0, 1) := by decide +kernel
theorem dX6_store_87 : decode cX6_store 87 = .ok (.getfield 12, 3) := by decide +kernel
theorem dX6_store_90 : decode cX6_store 90 = .ok (.iload_n 3, 1) := by decide +kernel
theorem dX6_store_91 : decode cX6_store 91 = .ok (.iload_n 1, 1) := by decide +kernel
theorem dX6_store_92 : decode cX6_store 92 = .ok (.iload_n 2, 1) := by decide +kernel
theorem dX6_store_93 : decode cX6_store 93 = .ok (.invokevirtual 123, 3) := by decide +kernel
theorem dX6_store_96 : decode cX6_store 96 = .ok (.iload_n 3, 1) := by decide +kernel
theorem dX6_store_97 : decode cX6_store 97 = .ok (.ireturn, 1) := by decide +kernel
theorem dX6_delete_0 : decode cX6_delete 0 = .ok (.aload_n 0, 1) := by decide +kernel
theorem dX6_delete_1 : decode cX6_delete 1 = .ok (.getfield 12, 3) := by decide +kernel
theorem dX6_delete_4 : decode cX6_delete 4 = .ok (.getfield 100, 3) := by decide +kernel
theorem dX6_delete_7 : decode cX6_delete 7 = .ok (.iload_n 1, 1) := by decide +kernel
theorem dX6_delete_8 : decode cX6_delete 8 = .ok (.invokevirtual 126, 3) := by decide +kernel
theorem dX6_delete_11 : decode cX6_delete 11 = .ok (.ifCond .ne 7, 3) := by decide +kernel
theorem dX6_delete_14 : decode cX6_delete 14 = .ok (.sipush (-10001), 3) := by decide +kernel
theorem dX6_delete_17 : decode cX6_delete 17 = .ok (.ireturn, 1) := by decide +kernel
theorem dX6_delete_18 : decode cX6_delete 18 = .ok (.aload_n 0, 1) := by decide +kernel
theorem dX6_delete_19 : decode cX6_delete 19 = .ok (.getfield 19, 3) := by decide +kernel
theorem dX6_delete_22 : decode cX6_delete 22 = .ok (.aload_n 0, 1) := by decide +kernel
theorem dX6_delete_23 : decode cX6_delete 23 = .ok (.getfield 12, 3) := by decide +kernel
theorem dX6_delete_26 : decode cX6_delete 26 = .ok (.invokevirtual 53, 3) := by decide +kernel
theorem dX6_delete_29 : decode cX6_delete 29 = .ok (.aload_n 0, 1) := by decide +kernel
theorem dX6_delete_30 : decode cX6_delete 30 = .ok (.getfield 12, 3) := by decide +kernel
theorem dX6_delete_33 : decode cX6_delete 33 = .ok (.iload_n 1, 1) := by decide +kernel
theorem dX6_delete_34 : decode cX6_delete 34 = .ok (.invokevirtual 127, 3) := by decide +kernel
theorem dX6_delete_37 : decode cX6_delete 37 = .ok (.aload_n 0, 1) := by decide +kernel
theorem dX6_delete_38 : decode cX6_delete 38 = .ok (.getfield 12, 3) := by decide +kernel
theorem dX6_delete_41 : decode cX6_delete 41 = .ok (.getfield 100, 3) := by decide +kernel
theorem dX6_delete_44 : decode cX6_delete 44 = .ok (.invokevirtual 131, 3) := by decide +kernel
theorem dX6_delete_47 : decode cX6_delete 47 = .ok (.ireturn, 1) := by decide +kernel
theorem dX6_fileInfo_0 : decode cX6_fileInfo 0 = .ok (.aload_n 0, 1) := by decide +kernel
theorem dX6_fileInfo_1 : decode cX6_fileInfo 1 = .ok (.getfield 12, 3) := by decide +kernel
theorem dX6_fileInfo_4 : decode cX6_fileInfo 4 = .ok (.getfield 100, 3) := by decide +kernel
theorem dX6_fileInfo_7 : decode cX6_fileInfo 7 = .ok (.iload_n 1, 1) := by decide +kernel
theorem dX6_fileInfo_8 : decode cX6_fileInfo 8 = .ok (.invokevirtual 126, 3) := by decide +kernel
theorem dX6_fileInfo_11 : decode cX6_fileInfo 11 = .ok (.ifCond .ne 7, 3) := by decide +kernel
theorem dX6_fileInfo_14 : decode cX6_fileInfo 14 = .ok (.sipush (-10001), 3) := by decide +kernel
theorem dX6_fileInfo_17 : decode cX6_fileInfo 17 = .ok (.ireturn, 1) := by decide +kernel
theorem dX6_fileInfo_18 : decode cX6_fileInfo 18 = .ok (.iload_n 2, 1) := by decide +kernel
theorem dX6_fileInfo_19 : decode cX6_fileInfo 19 = .ok (.tableswitch 126 0 6 #[41, 54, 66, 79, 91, 100, 117], 41) := by decide +kernel
theorem dX6_fileInfo_60 : decode cX6_fileInfo 60 = .ok (.aload_n 0, 1) := by decide +kernel
theorem dX6_fileInfo_61 : decode cX6_fileInfo 61 = .ok (.getfield 12, 3) := by decide +kernel
theorem dX6_fileInfo_64 : decode cX6_fileInfo 64 = .ok (.getfield 100, 3) := by decide +kernel
theorem dX6_fileInfo_67 : decode cX6_fileInfo 67 = .ok (.getfield 134, 3) := by decide +kernel
theorem dX6_fileInfo_70 : decode cX6_fileInfo 70 = .ok (.iload_n 1, 1) := by decide +kernel
theorem dX6_fileInfo_71 : decode cX6_fileInfo 71 = .ok (.iaload, 1) := by decide +kernel
theorem dX6_fileInfo_72 : decode cX6_fileInfo 72 = .ok (.ireturn, 1) := by decide +kernel
theorem dX6_fileInfo_73 : decode cX6_fileInfo 73 = .ok (.aload_n 0, 1) := by decide +kernel
theorem dX6_fileInfo_74 : decode cX6_fileInfo 74 = .ok (.getfield 12, 3) := by decide +kernel
theorem dX6_fileInfo_77 : decode cX6_fileInfo 77 = .ok (.getfield 100, 3) := by decide +kernel
theorem dX6_fileInfo_80 : decode cX6_fileInfo 80 = .ok (.iload_n 1, 1) := by decide +kernel
theorem dX6_fileInfo_81 : decode cX6_fileInfo 81 = .ok (.invokevirtual 137, 3) := by decide +kernel
theorem dX6_fileInfo_84 : decode cX6_fileInfo 84 = .ok (.ireturn, 1) := by decide +kernel
theorem dX6_fileInfo_85 : decode cX6_fileInfo 85 = .ok (.aload_n 0, 1) := by decide +kernel
theorem dX6_fileInfo_86 : decode cX6_fileInfo 86 = .ok (.getfield 12, 3) := by decide +kernel
theorem dX6_fileInfo_89 : decode cX6_fileInfo 89 = .ok (.getfield 100, 3) := by decide +kernel
theorem dX6_fileInfo_92 : decode cX6_fileInfo 92 = .ok (.getfield 140, 3) := by decide +kernel
theorem dX6_fileInfo_95 : decode cX6_fileInfo 95 = .ok (.iload_n 1, 1) := by decide +kernel
theorem dX6_fileInfo_96 : decode cX6_fileInfo 96 = .ok (.iaload, 1) := by decide +kernel
theorem dX6_fileInfo_97 : decode cX6_fileInfo 97 = .ok (.ireturn, 1) := by decide +kernel
theorem dX6_fileInfo_98 : decode cX6_fileInfo 98 = .ok (.aload_n 0, 1) := by decide +kernel
theorem dX6_fileInfo_99 : decode cX6_fileInfo 99 = .ok (.getfield 12, 3) := by decide +kernel
theorem dX6_fileInfo_102 : decode cX6_fileInfo 102 = .ok (.getfield 100, 3) := by decide +kernel
theorem dX6_fileInfo_105 : decode cX6_fileInfo 105 = .ok (.iload_n 1, 1) := by decide +kernel
theorem dX6_fileInfo_106 : decode cX6_fileInfo 106 = .ok (.invokevirtual 143, 3) := by decide +kernel
theorem dX6_fileInfo_109 : decode cX6_fileInfo 109 = .ok (.ireturn, 1) := by decide +kernel
theorem dX6_fileInfo_110 : decode cX6_fileInfo 110 = .ok (.aload_n 0, 1) := by decide +kernel
theorem dX6_fileInfo_111 : decode cX6_fileInfo 111 = .ok (.getfield 12, 3) := by decide +kernel
theorem dX6_fileInfo_114 : decode cX6_fileInfo 114 = .ok (.iload_n 1, 1) := by decide +kernel
theorem dX6_fileInfo_115 : decode cX6_fileInfo 115 = .ok (.invokevirtual 146, 3) := by decide +kernel
theorem dX6_fileInfo_118 : decode cX6_fileInfo 118 = .ok (.ireturn, 1) := by decide +kernel
theorem dX6_fileInfo_119 : decode cX6_fileInfo 119 = .ok (.aload_n 0, 1) := by decide +kernel
theorem dX6_fileInfo_120 : decode cX6_fileInfo 120 = .ok (.getfield 12, 3) := by decide +kernel
theorem dX6_fileInfo_123 : decode cX6_fileInfo 123 = .ok (.iload_n 1, 1) := by decide +kernel
theorem dX6_fileInfo_124 : decode cX6_fileInfo 124 = .ok (.invokevirtual 149, 3) := by decide +kernel
theorem dX6_fileInfo_127 : decode cX6_fileInfo 127 = .ok (.ifCond .eq 7, 3) := by decide +kernel
theorem dX6_fileInfo_130 : decode cX6_fileInfo 130 = .ok (.iconst 1, 1) := by decide +kernel
theorem dX6_fileInfo_131 : decode cX6_fileInfo 131 = .ok (.goto 4, 3) := by decide +kernel
theorem dX6_fileInfo_134 : decode cX6_fileInfo 134 = .ok (.iconst 0, 1) := by decide +kernel
theorem dX6_fileInfo_135 : decode cX6_fileInfo 135 = .ok (.ireturn, 1) := by decide +kernel
theorem dX6_fileInfo_136 : decode cX6_fileInfo 136 = .ok (.aload_n 0, 1) := by decide +kernel
theorem dX6_fileInfo_137 : decode cX6_fileInfo 137 = .ok (.getfield 12, 3) := by decide +kernel
theorem dX6_fileInfo_140 : decode cX6_fileInfo 140 = .ok (.iload_n 1, 1) := by decide +kernel
theorem dX6_fileInfo_141 : decode cX6_fileInfo 141 = .ok (.invokevirtual 152, 3) := by decide +kernel
theorem dX6_fileInfo_144 : decode cX6_fileInfo 144 = .ok (.ireturn, 1) := by decide +kernel
theorem dX6_fileInfo_145 : decode cX6_fileInfo 145 = .ok (.sipush (-10001), 3) := by decide +kernel
theorem dX6_fileInfo_148 : decode cX6_fileInfo 148 = .ok (.ireturn, 1) := by decide +kernel
theorem dX6_fragment_0 : decode cX6_fragment 0 = .ok (.aload_n 0, 1) := by decide +kernel
theorem dX6_fragment_1 : decode cX6_fragment 1 = .ok (.getfield 12, 3) := by decide +kernel
theorem dX6_fragment_4 : decode cX6_fragment 4 = .ok (.getfield 100, 3) := by decide +kernel
theorem dX6_fragment_7 : decode cX6_fragment 7 = .ok (.iload_n 1, 1) := by decide +kernel
theorem dX6_fragment_8 : decode cX6_fragment 8 = .ok (.iload_n 2, 1) := by decide +kernel
theorem dX6_fragment_9 : decode cX6_fragment 9 = .ok (.invokevirtual 155, 3) := by decide +kernel
theorem dX6_fragment_12 : decode cX6_fragment 12 = .ok (.ifCond .eq 12, 3) := by decide +kernel
theorem dX6_fragment_15 : decode cX6_fragment 15 = .ok (.iload_n 3, 1) := by decide +kernel
theorem dX6_fragment_16 : decode cX6_fragment 16 = .ok (.ifCond .lt 8, 3) := by decide +kernel
theorem dX6_fragment_19 : decode cX6_fragment 19 = .ok (.iload_n 3, 1) := by decide +kernel
theorem dX6_fragment_20 : decode cX6_fragment 20 = .ok (.iconst 1, 1) := by decide +kernel
theorem dX6_fragment_21 : decode cX6_fragment 21 = .ok (.if_icmp .le 7, 3) := by decide +kernel
theorem dX6_fragment_24 : decode cX6_fragment 24 = .ok (.sipush (-10001), 3) := by decide +kernel
theorem dX6_fragment_27 : decode cX6_fragment 27 = .ok (.ireturn, 1) := by decide +kernel
theorem dX6_fragment_28 : decode cX6_fragment 28 = .ok (.aload_n 0, 1) := by decide +kernel
theorem dX6_fragment_29 : decode cX6_fragment 29 = .ok (.getfield 12, 3) := by decide +kernel
theorem dX6_fragment_32 : decode cX6_fragment 32 = .ok (.getfield 100, 3) := by decide +kernel
theorem dX6_fragment_35 : decode cX6_fragment 35 = .ok (.iload_n 1, 1) := by decide +kernel
theorem dX6_fragment_36 : decode cX6_fragment 36 = .ok (.iload_n 2, 1) := by decide +kernel
theorem dX6_fragment_37 : decode cX6_fragment 37 = .ok (.invokevirtual 158, 3) := by decide +kernel
theorem dX6_fragment_40 : decode cX6_fragment 40 = .ok (.istore 4, 2) := by decide +kernel
theorem dX6_fragment_42 : decode cX6_fragment 42 = .ok (.iload 4, 2) := by decide +kernel
theorem dX6_fragment_44 : decode cX6_fragment 44 = .ok (.iconst (-1), 1) := by decide +kernel
theorem dX6_fragment_45 : decode cX6_fragment 45 = .ok (.if_icmp .ne 7, 3) := by decide +kernel
theorem dX6_fragment_48 : decode cX6_fragment 48 = .ok (.sipush (-10004), 3) := by decide +kernel
theorem dX6_fragment_51 : decode cX6_fragment 51 = .ok (.ireturn, 1) := by decide +kernel
theorem dX6_fragment_52 : decode cX6_fragment 52 = .ok (.iload_n 3, 1) := by decide +kernel
theorem dX6_fragment_53 : decode cX6_fragment 53 = .ok (.ifCond .ne 8, 3) := by decide +kernel
theorem dX6_fragment_56 : decode cX6_fragment 56 = .ok (.iload 4, 2) := by decide +kernel
theorem dX6_fragment_58 : decode cX6_fragment 58 = .ok (.goto 15, 3) := by decide +kernel
theorem dX6_fragment_61 : decode cX6_fragment 61 = .ok (.aload_n 0, 1) := by decide +kernel
theorem dX6_fragment_62 : decode cX6_fragment 62 = .ok (.getfield 12, 3) := by decide +kernel
theorem dX6_fragment_65 : decode cX6_fragment 65 = .ok (.getfield 100, 3) := by decide +kernel
theorem dX6_fragment_68 : decode cX6_fragment 68 = .ok (.iload_n 1, 1) := by decide +kernel
theorem dX6_fragment_69 : decode cX6_fragment 69 = .ok (.iload_n 2, 1) := by decide +kernel
theorem dX6_fragment_70 : decode cX6_fragment 70 = .ok (.invokevirtual 161, 3) := by decide +kernel
theorem dX6_fragment_73 : decode cX6_fragment 73 = .ok (.ireturn, 1) := by decide +kernel
theorem dX6_read_0 : decode cX6_read 0 = .ok (.aload_n 0, 1) := by decide +kernel
theorem dX6_read_1 : decode cX6_read 1 = .ok (.getfield 12, 3) := by decide +kernel
theorem dX6_read_4 : decode cX6_read 4 = .ok (.getfield 100, 3) := by decide +kernel
theorem dX6_read_7 : decode cX6_read 7 = .ok (.iload_n 1, 1) := by decide +kernel
theorem dX6_read_8 : decode cX6_read 8 = .ok (.iload_n 2, 1) := by decide +kernel
theorem dX6_read_9 : decode cX6_read 9 = .ok (.invokevirtual 164, 3) := by decide +kernel
theorem dX6_read_12 : decode cX6_read 12 = .ok (.ifCond .ne 7, 3) := by decide +kernel
theorem dX6_read_15 : decode cX6_read 15 = .ok (.sipush (-10001), 3) := by decide +kernel
theorem dX6_read_18 : decode cX6_read 18 = .ok (.ireturn, 1) := by decide +kernel
theorem dX6_read_19 : decode cX6_read 19 = .ok (.aload_n 0, 1) := by decide +kernel
theorem dX6_read_20 : decode cX6_read 20 = .ok (.getfield 12, 3) := by decide +kernel
theorem dX6_read_23 : decode cX6_read 23 = .ok (.iload_n 1, 1) := by decide +kernel
theorem dX6_read_24 : decode cX6_read 24 = .ok (.invokevirtual 149, 3) := by decide +kernel
theorem dX6_read_27 : decode cX6_read 27 = .ok (.ifCond .ne 19, 3) := by decide +kernel
theorem dX6_read_30 : decode cX6_read 30 = .ok (.aload_n 0, 1) := by decide +kernel
theorem dX6_read_31 : decode cX6_read 31 = .ok (.getfield 12, 3) := by decide +kernel
theorem dX6_read_34 : decode cX6_read 34 = .ok (.iload_n 1, 1) := by decide +kernel
theorem dX6_read_35 : decode cX6_read 35 = .ok (.iload_n 2, 1) := by decide +kernel
theorem dX6_read_36 : decode cX6_read 36 = .ok (.invokevirtual 167, 3) := by decide +kernel
theorem dX6_read_39 : decode cX6_read 39 = .ok (.ifCond .ne 7, 3) := by decide +kernel
theorem dX6_read_42 : decode cX6_read 42 = .ok (.sipush (-10002), 3) := by decide +kernel
theorem dX6_read_45 : decode cX6_read 45 = .ok (.ireturn, 1) := by decide +kernel
theorem dX6_read_46 : decode cX6_read 46 = .ok (.aload_n 0, 1) := by decide +kernel
theorem dX6_read_47 : decode cX6_read 47 = .ok (.getfield 12, 3) := by decide +kernel
theorem dX6_read_50 : decode cX6_read 50 = .ok (.getfield 100, 3) := by decide +kernel
theorem dX6_read_53 : decode cX6_read 53 = .ok (.iload_n 1, 1) := by decide +kernel
theorem dX6_read_54 : decode cX6_read 54 = .ok (.iload_n 2, 1) := by decide +kernel
theorem dX6_read_55 : decode cX6_read 55 = .ok (.invokevirtual 170, 3) := by decide +kernel
theorem dX6_read_58 : decode cX6_read 58 = .ok (.ireturn, 1) := by decide +kernel
theorem dX6_decode_0 : decode cX6_decode 0 = .ok (.aload_n 0, 1) := by decide +kernel
theorem dX6_decode_1 : decode cX6_decode 1 = .ok (.getfield 12, 3) := by decide +kernel
theorem dX6_decode_4 : decode cX6_decode 4 = .ok (.getfield 100, 3) := by decide +kernel
theorem dX6_decode_7 : decode cX6_decode 7 = .ok (.iload_n 1, 1) := by decide +kernel
theorem dX6_decode_8 : decode cX6_decode 8 = .ok (.iload_n 3, 1) := by decide +kernel
theorem dX6_decode_9 : decode cX6_decode 9 = .ok (.invokevirtual 164, 3) := by decide +kernel
theorem dX6_decode_12 : decode cX6_decode 12 = .ok (.ifCond .eq 18, 3) := by decide +kernel
theorem dX6_decode_15 : decode cX6_decode 15 = .ok (.aload_n 0, 1) := by decide +kernel
theorem dX6_decode_16 : decode cX6_decode 16 = .ok (.getfield 12, 3) := by decide +kernel
theorem dX6_decode_19 : decode cX6_decode 19 = .ok (.getfield 100, 3) := by decide +kernel
theorem dX6_decode_22 : decode cX6_decode 22 = .ok (.iload_n 1, 1) := by decide +kernel
theorem dX6_decode_23 : decode cX6_decode 23 = .ok (.iload_n 2, 1) := by decide +kernel
theorem dX6_decode_24 : decode cX6_decode 24 = .ok (.invokevirtual 173, 3) := by decide +kernel
theorem dX6_decode_27 : decode cX6_decode 27 = .ok (.ifCond .ne 7, 3) := by decide +kernel
theorem dX6_decode_30 : decode cX6_decode 30 = .ok (.sipush (-10001), 3) := by decide +kernel
theorem dX6_decode_33 : decode cX6_decode 33 = .ok (.ireturn, 1) := by decide +kernel
theorem dX6_decode_34 : decode cX6_decode 34 = .ok (.aload_n 0, 1) := by decide +kernel
theorem dX6_decode_35 : decode cX6_decode 35 = .ok (.getfield 12, 3) := by decide +kernel
theorem dX6_decode_38 : decode cX6_decode 38 = .ok (.getfield 100, 3) := by decide +kernel
theorem dX6_decode_41 : decode cX6_decode 41 = .ok (.iload_n 1, 1) := by decide +kernel
theorem dX6_decode_42 : decode cX6_decode 42 = .ok (.iload_n 2, 1) := by decide +kernel
theorem dX6_decode_43 : decode cX6_decode 43 = .ok (.invokevirtual 176, 3) := by decide +kernel
theorem dX6_decode_46 : decode cX6_decode 46 = .ok (.ifCond .ne 7, 3) := by decide +kernel
theorem dX6_decode_49 : decode cX6_decode 49 = .ok (.sipush (-10004), 3) := by decide +kernel
theorem dX6_decode_52 : decode cX6_decode 52 = .ok (.ireturn, 1) := by decide +kernel
theorem dX6_decode_53 : decode cX6_decode 53 = .ok (.aload_n 0, 1) := by decide +kernel
theorem dX6_decode_54 : decode cX6_decode 54 = .ok (.getfield 33, 3) := by decide +kernel
theorem dX6_decode_57 : decode cX6_decode 57 = .ok (.aload_n 0, 1) := by decide +kernel
theorem dX6_decode_58 : decode cX6_decode 58 = .ok (.getfield 12, 3) := by decide +kernel
theorem dX6_decode_61 : decode cX6_decode 61 = .ok (.getfield 100, 3) := by decide +kernel
theorem dX6_decode_64 : decode cX6_decode 64 = .ok (.iload_n 1, 1) := by decide +kernel
theorem dX6_decode_65 : decode cX6_decode 65 = .ok (.iload_n 2, 1) := by decide +kernel
theorem dX6_decode_66 : decode cX6_decode 66 = .ok (.iload_n 3, 1) := by decide +kernel
theorem dX6_decode_67 : decode cX6_decode 67 = .ok (.invokevirtual 179, 3) := by decide +kernel
theorem dX6_decode_70 : decode cX6_decode 70 = .ok (.ireturn, 1) := by decide +kernel
theorem dX6_spoil_0 : decode cX6_spoil 0 = .ok (.aload_n 0, 1) := by decide +kernel
theorem dX6_spoil_1 : decode cX6_spoil 1 = .ok (.getfield 12, 3) := by decide +kernel
theorem dX6_spoil_4 : decode cX6_spoil 4 = .ok (.getfield 100, 3) := by decide +kernel
theorem dX6_spoil_7 : decode cX6_spoil 7 = .ok (.iload_n 1, 1) := by decide +kernel
theorem dX6_spoil_8 : decode cX6_spoil 8 = .ok (.iload_n 2, 1) := by decide +kernel
theorem dX6_spoil_9 : decode cX6_spoil 9 = .ok (.invokevirtual 155, 3) := by decide +kernel
theorem dX6_spoil_12 : decode cX6_spoil 12 = .ok (.ifCond .eq 15, 3) := by decide +kernel
theorem dX6_spoil_15 : decode cX6_spoil 15 = .ok (.iload_n 3, 1) := by decide +kernel
theorem dX6_spoil_16 : decode cX6_spoil 16 = .ok (.iconst 1, 1) := by decide +kernel
theorem dX6_spoil_17 : decode cX6_spoil 17 = .ok (.if_icmp .lt 10, 3) := by decide +kernel
theorem dX6_spoil_20 : decode cX6_spoil 20 = .ok (.iload_n 3, 1) := by decide +kernel
theorem dX6_spoil_21 : decode cX6_spoil 21 = .ok (.sipush 257, 3) := by decide +kernel
theorem dX6_spoil_24 : decode cX6_spoil 24 = .ok (.if_icmp .lt 7, 3) := by decide +kernel
theorem dX6_spoil_27 : decode cX6_spoil 27 = .ok (.sipush (-10001), 3) := by decide +kernel
theorem dX6_spoil_30 : decode cX6_spoil 30 = .ok (.ireturn, 1) := by decide +kernel
theorem dX6_spoil_31 : decode cX6_spoil 31 = .ok (.aload_n 0, 1) := by decide +kernel
theorem dX6_spoil_32 : decode cX6_spoil 32 = .ok (.getfield 12, 3) := by decide +kernel
theorem dX6_spoil_35 : decode cX6_spoil 35 = .ok (.getfield 100, 3) := by decide +kernel
theorem dX6_spoil_38 : decode cX6_spoil 38 = .ok (.iload_n 1, 1) := by decide +kernel
theorem dX6_spoil_39 : decode cX6_spoil 39 = .ok (.iload_n 2, 1) := by decide +kernel
theorem dX6_spoil_40 : decode cX6_spoil 40 = .ok (.invokevirtual 158, 3) := by decide +kernel
theorem dX6_spoil_43 : decode cX6_spoil 43 = .ok (.iconst (-1), 1) := by decide +kernel
theorem dX6_spoil_44 : decode cX6_spoil 44 = .ok (.if_icmp .ne 7, 3) := by decide +kernel
theorem dX6_spoil_47 : decode cX6_spoil 47 = .ok (.sipush (-10002), 3) := by decide +kernel
theorem dX6_spoil_50 : decode cX6_spoil 50 = .ok (.ireturn, 1) := by decide +kernel
theorem dX6_spoil_51 : decode cX6_spoil 51 = .ok (.aload_n 0, 1) := by decide +kernel
theorem dX6_spoil_52 : decode cX6_spoil 52 = .ok (.getfield 19, 3) := by decide +kernel
theorem dX6_spoil_55 : decode cX6_spoil 55 = .ok (.aload_n 0, 1) := by decide +kernel
theorem dX6_spoil_56 : decode cX6_spoil 56 = .ok (.getfield 12, 3) := by decide +kernel
theorem dX6_spoil_59 : decode cX6_spoil 59 = .ok (.invokevirtual 53, 3) := by decide +kernel
theorem dX6_spoil_62 : decode cX6_spoil 62 = .ok (.aload_n 0, 1) := by decide +kernel
theorem dX6_spoil_63 : decode cX6_spoil 63 = .ok (.getfield 12, 3) := by decide +kernel
theorem dX6_spoil_66 : decode cX6_spoil 66 = .ok (.getfield 100, 3) := by decide +kernel
theorem dX6_spoil_69 : decode cX6_spoil 69 = .ok (.iload_n 1, 1) := by decide +kernel
theorem dX6_spoil_70 : decode cX6_spoil 70 = .ok (.iload_n 2, 1) := by decide +kernel
theorem dX6_spoil_71 : decode cX6_spoil 71 = .ok (.iload_n 3, 1) := by decide +kernel
theorem dX6_spoil_72 : decode cX6_spoil 72 = .ok (.invokevirtual 183, 3) := by decide +kernel
theorem dX6_spoil_75 : decode cX6_spoil 75 = .ok (.aload_n 0, 1) := by decide +kernel
theorem dX6_spoil_76 : decode cX6_spoil 76 = .ok (.getfield 12, 3) := by decide +kernel
theorem dX6_spoil_79 : decode cX6_spoil 79 = .ok (.getfield 100, 3) := by decide +kernel
theorem dX6_spoil_82 : decode cX6_spoil 82 = .ok (.iload_n 1, 1) := by decide +kernel
theorem dX6_spoil_83 : decode cX6_spoil 83 = .ok (.iload_n 2, 1) := by decide +kernel
theorem dX6_spoil_84 : decode cX6_spoil 84 = .ok (.invokevirtual 186, 3) := by decide +kernel
theorem dX6_spoil_87 : decode cX6_spoil 87 = .ok (.ifCond .ne 7, 3) := by decide +kernel
theorem dX6_spoil_90 : decode cX6_spoil 90 = .ok (.iconst 0, 1) := by decide +kernel
theorem dX6_spoil_91 : decode cX6_spoil 91 = .ok (.goto 4, 3) := by decide +kernel
theorem dX6_spoil_94 : decode cX6_spoil 94 = .ok (.iconst 1, 1) := by decide +kernel
theorem dX6_spoil_95 : decode cX6_spoil 95 = .ok (.ireturn, 1) := by decide +kernel
theorem dX6_audit_0 : decode cX6_audit 0 = .ok (.aload_n 0, 1) := by decide +kernel
theorem dX6_audit_1 : decode cX6_audit 1 = .ok (.getfield 12, 3) := by decide +kernel
theorem dX6_audit_4 : decode cX6_audit 4 = .ok (.getfield 43, 3) := by decide +kernel
theorem dX6_audit_7 : decode cX6_audit 7 = .ok (.iload_n 1, 1) := by decide +kernel
theorem dX6_audit_8 : decode cX6_audit 8 = .ok (.iload_n 2, 1) := by decide +kernel
theorem dX6_audit_9 : decode cX6_audit 9 = .ok (.invokevirtual 79, 3) := by decide +kernel
theorem dX6_audit_12 : decode cX6_audit 12 = .ok (.ifCond .eq 14, 3) := by decide +kernel
theorem dX6_audit_15 : decode cX6_audit 15 = .ok (.iload_n 3, 1) := by decide +kernel
theorem dX6_audit_16 : decode cX6_audit 16 = .ok (.ifCond .lt 10, 3) := by decide +kernel
theorem dX6_audit_19 : decode cX6_audit 19 = .ok (.iload_n 3, 1) := by decide +kernel
theorem dX6_audit_20 : decode cX6_audit 20 = .ok (.sipush 257, 3) := by decide +kernel
theorem dX6_audit_23 : decode cX6_audit 23 = .ok (.if_icmp .lt 7, 3) := by decide +kernel
theorem dX6_audit_26 : decode cX6_audit 26 = .ok (.sipush (-10001), 3) := by decide +kernel
theorem dX6_audit_29 : decode cX6_audit 29 = .ok (.ireturn, 1) := by decide +kernel
theorem dX6_audit_30 : decode cX6_audit 30 = .ok (.aload_n 0, 1) := by decide +kernel
theorem dX6_audit_31 : decode cX6_audit 31 = .ok (.getfield 12, 3) := by decide +kernel
theorem dX6_audit_34 : decode cX6_audit 34 = .ok (.getfield 43, 3) := by decide +kernel
theorem dX6_audit_37 : decode cX6_audit 37 = .ok (.iload_n 1, 1) := by decide +kernel
theorem dX6_audit_38 : decode cX6_audit 38 = .ok (.invokevirtual 119, 3) := by decide +kernel
theorem dX6_audit_41 : decode cX6_audit 41 = .ok (.ifCond .eq 17, 3) := by decide +kernel
theorem dX6_audit_44 : decode cX6_audit 44 = .ok (.aload_n 0, 1) := by decide +kernel
theorem dX6_audit_45 : decode cX6_audit 45 = .ok (.getfield 12, 3) := by decide +kernel
theorem dX6_audit_48 : decode cX6_audit 48 = .ok (.getfield 43, 3) := by decide +kernel
theorem dX6_audit_51 : decode cX6_audit 51 = .ok (.iload_n 2, 1) := by decide +kernel
theorem dX6_audit_52 : decode cX6_audit 52 = .ok (.invokevirtual 119, 3) := by decide +kernel
theorem dX6_audit_55 : decode cX6_audit 55 = .ok (.ifCond .ne 7, 3) := by decide +kernel
theorem dX6_audit_58 : decode cX6_audit 58 = .ok (.sipush (-10002), 3) := by decide +kernel
theorem dX6_audit_61 : decode cX6_audit 61 = .ok (.ireturn, 1) := by decide +kernel
theorem dX6_audit_62 : decode cX6_audit 62 = .ok (.aload_n 0, 1) := by decide +kernel
theorem dX6_audit_63 : decode cX6_audit 63 = .ok (.getfield 19, 3) := by decide +kernel
theorem dX6_audit_66 : decode cX6_audit 66 = .ok (.aload_n 0, 1) := by decide +kernel
theorem dX6_audit_67 : decode cX6_audit 67 = .ok (.getfield 12, 3) := by decide +kernel
theorem dX6_audit_70 : decode cX6_audit 70 = .ok (.invokevirtual 53, 3) := by decide +kernel
theorem dX6_audit_73 : decode cX6_audit 73 = .ok (.aload_n 0, 1) := by decide +kernel
theorem dX6_audit_74 : decode cX6_audit 74 = .ok (.getfield 26, 3) := by decide +kernel
theorem dX6_audit_77 : decode cX6_audit 77 = .ok (.aload_n 0, 1) := by decide +kernel
theorem dX6_audit_78 : decode cX6_audit 78 = .ok (.getfield 12, 3) := by decide +kernel
theorem dX6_audit_81 : decode cX6_audit 81 = .ok (.getfield 100, 3) := by decide +kernel
theorem dX6_audit_84 : decode cX6_audit 84 = .ok (.iload_n 1, 1) := by decide +kernel
theorem dX6_audit_85 : decode cX6_audit 85 = .ok (.iload_n 2, 1) := by decide +kernel
theorem dX6_audit_86 : decode cX6_audit 86 = .ok (.invokevirtual 189, 3) := by decide +kernel
theorem dX6_audit_89 : decode cX6_audit 89 = .ok (.aload_n 0, 1) := by decide +kernel
theorem dX6_audit_90 : decode cX6_audit 90 = .ok (.getfield 26, 3) := by decide +kernel
theorem dX6_audit_93 : decode cX6_audit 93 = .ok (.iload_n 3, 1) := by decide +kernel
theorem dX6_audit_94 : decode cX6_audit 94 = .ok (.invokevirtual 193, 3) := by decide +kernel
theorem dX6_audit_97 : decode cX6_audit 97 = .ok (.istore 4, 2) := by decide +kernel
theorem dX6_audit_99 : decode cX6_audit 99 = .ok (.iload 4, 2) := by decide +kernel
theorem dX6_audit_101 : decode cX6_audit 101 = .ok (.ifCond .ne 17, 3) := by decide +kernel
theorem dX6_audit_104 : decode cX6_audit 104 = .ok (.aload_n 0, 1) := by decide +kernel
theorem dX6_audit_105 : decode cX6_audit 105 = .ok (.getfield 12, 3) := by decide +kernel
theorem dX6_audit_108 : decode cX6_audit 108 = .ok (.getfield 43, 3) := by decide +kernel
theorem dX6_audit_111 : decode cX6_audit 111 = .ok (.iload_n 2, 1) := by decide +kernel
theorem dX6_audit_112 : decode cX6_audit 112 = .ok (.invokevirtual 196, 3) := by decide +kernel
theorem dX6_audit_115 : decode cX6_audit 115 = .ok (.goto 24, 3) := by decide +kernel
theorem dX6_audit_118 : decode cX6_audit 118 = .ok (.aload_n 0, 1) := by decide +kernel
theorem dX6_audit_119 : decode cX6_audit 119 = .ok (.getfield 26, 3) := by decide +kernel
theorem dX6_audit_122 : decode cX6_audit 122 = .ok (.getfield 199, 3) := by decide +kernel
theorem dX6_audit_125 : decode cX6_audit 125 = .ok (.ifCond .le 14, 3) := by decide +kernel
theorem dX6_audit_128 : decode cX6_audit 128 = .ok (.aload_n 0, 1) := by decide +kernel
theorem dX6_audit_129 : decode cX6_audit 129 = .ok (.getfield 12, 3) := by decide +kernel
theorem dX6_audit_132 : decode cX6_audit 132 = .ok (.getfield 43, 3) := by decide +kernel
theorem dX6_audit_135 : decode cX6_audit 135 = .ok (.iload_n 2, 1) := by decide +kernel
theorem dX6_audit_136 : decode cX6_audit 136 = .ok (.invokevirtual 201, 3) := by decide +kernel
theorem dX6_audit_139 : decode cX6_audit 139 = .ok (.iload 4, 2) := by decide +kernel
theorem dX6_audit_141 : decode cX6_audit 141 = .ok (.ifCond .eq 7, 3) := by decide +kernel
theorem dX6_audit_144 : decode cX6_audit 144 = .ok (.iconst 1, 1) := by decide +kernel
theorem dX6_audit_145 : decode cX6_audit 145 = .ok (.goto 4, 3) := by decide +kernel
theorem dX6_audit_148 : decode cX6_audit 148 = .ok (.iconst 0, 1) := by decide +kernel
theorem dX6_audit_149 : decode cX6_audit 149 = .ok (.ireturn, 1) := by decide +kernel
theorem dX6_passingSeeds_0 : decode cX6_passingSeeds 0 = .ok (.aload_n 0, 1) := by decide +kernel
theorem dX6_passingSeeds_1 : decode cX6_passingSeeds 1 = .ok (.getfield 12, 3) := by decide +kernel
theorem dX6_passingSeeds_4 : decode cX6_passingSeeds 4 = .ok (.getfield 43, 3) := by decide +kernel
theorem dX6_passingSeeds_7 : decode cX6_passingSeeds 7 = .ok (.iload_n 1, 1) := by decide +kernel
theorem dX6_passingSeeds_8 : decode cX6_passingSeeds 8 = .ok (.iload_n 2, 1) := by decide +kernel
theorem dX6_passingSeeds_9 : decode cX6_passingSeeds 9 = .ok (.invokevirtual 79, 3) := by decide +kernel
theorem dX6_passingSeeds_12 : decode cX6_passingSeeds 12 = .ok (.ifCond .ne 7, 3) := by decide +kernel
theorem dX6_passingSeeds_15 : decode cX6_passingSeeds 15 = .ok (.sipush (-10001), 3) := by decide +kernel
theorem dX6_passingSeeds_18 : decode cX6_passingSeeds 18 = .ok (.ireturn, 1) := by decide +kernel
theorem dX6_passingSeeds_19 : decode cX6_passingSeeds 19 = .ok (.aload_n 0, 1) := by decide +kernel
theorem dX6_passingSeeds_20 : decode cX6_passingSeeds 20 = .ok (.getfield 26, 3) := by decide +kernel
theorem dX6_passingSeeds_23 : decode cX6_passingSeeds 23 = .ok (.aload_n 0, 1) := by decide +kernel
theorem dX6_passingSeeds_24 : decode cX6_passingSeeds 24 = .ok (.getfield 12, 3) := by decide +kernel
theorem dX6_passingSeeds_27 : decode cX6_passingSeeds 27 = .ok (.getfield 100, 3) := by decide +kernel
theorem dX6_passingSeeds_30 : decode cX6_passingSeeds 30 = .ok (.iload_n 1, 1) := by decide +kernel
theorem dX6_passingSeeds_31 : decode cX6_passingSeeds 31 = .ok (.iload_n 2, 1) := by decide +kernel
theorem dX6_passingSeeds_32 : decode cX6_passingSeeds 32 = .ok (.invokevirtual 189, 3) := by decide +kernel
theorem dX6_passingSeeds_35 : decode cX6_passingSeeds 35 = .ok (.iconst 0, 1) := by decide +kernel
theorem dX6_passingSeeds_36 : decode cX6_passingSeeds 36 = .ok (.istore_n 3, 1) := by decide +kernel
theorem dX6_passingSeeds_37 : decode cX6_passingSeeds 37 = .ok (.iconst 0, 1) := by decide +kernel
theorem dX6_passingSeeds_38 : decode cX6_passingSeeds 38 = .ok (.istore 4, 2) := by decide +kernel
theorem dX6_passingSeeds_40 : decode cX6_passingSeeds 40 = .ok (.iload 4, 2) := by decide +kernel
theorem dX6_passingSeeds_42 : decode cX6_passingSeeds 42 = .ok (.sipush 257, 3) := by decide +kernel
theorem dX6_passingSeeds_45 : decode cX6_passingSeeds 45 = .ok (.if_icmp .ge 24, 3) := by decide +kernel
theorem dX6_passingSeeds_48 : decode cX6_passingSeeds 48 = .ok (.aload_n 0, 1) := by decide +kernel
theorem dX6_passingSeeds_49 : decode cX6_passingSeeds 49 = .ok (.getfield 26, 3) := by decide +kernel
theorem dX6_passingSeeds_52 : decode cX6_passingSeeds 52 = .ok (.iload 4, 2) := by decide +kernel
theorem dX6_passingSeeds_54 : decode cX6_passingSeeds 54 = .ok (.invokevirtual 193, 3) := by decide +kernel
theorem dX6_passingSeeds_57 : decode cX6_passingSeeds 57 = .ok (.ifCond .eq 6, 3) := by decide +kernel
theorem dX6_passingSeeds_60 : decode cX6_passingSeeds 60 = .ok (.iinc 3 1, 3) := by decide +kernel
theorem dX6_passingSeeds_63 : decode cX6_passingSeeds 63 = .ok (.iinc 4 1, 3) := by decide +kernel
theorem dX6_passingSeeds_66 : decode cX6_passingSeeds 66 = .ok (.goto (-26), 3) := by decide +kernel
theorem dX6_passingSeeds_69 : decode cX6_passingSeeds 69 = .ok (.iload_n 3, 1) := by decide +kernel
theorem dX6_passingSeeds_70 : decode cX6_passingSeeds 70 = .ok (.ireturn, 1) := by decide +kernel
theorem dX6_repair_0 : decode cX6_repair 0 = .ok (.aload_n 0, 1) := by decide +kernel
theorem dX6_repair_1 : decode cX6_repair 1 = .ok (.getfield 12, 3) := by decide +kernel
theorem dX6_repair_4 : decode cX6_repair 4 = .ok (.getfield 100, 3) := by decide +kernel
theorem dX6_repair_7 : decode cX6_repair 7 = .ok (.iload_n 1, 1) := by decide +kernel
theorem dX6_repair_8 : decode cX6_repair 8 = .ok (.invokevirtual 126, 3) := by decide +kernel
theorem dX6_repair_11 : decode cX6_repair 11 = .ok (.ifCond .ne 7, 3) := by decide +kernel
theorem dX6_repair_14 : decode cX6_repair 14 = .ok (.sipush (-10001), 3) := by decide +kernel
theorem dX6_repair_17 : decode cX6_repair 17 = .ok (.ireturn, 1) := by decide +kernel
theorem dX6_repair_18 : decode cX6_repair 18 = .ok (.aload_n 0, 1) := by decide +kernel
theorem dX6_repair_19 : decode cX6_repair 19 = .ok (.getfield 12, 3) := by decide +kernel
theorem dX6_repair_22 : decode cX6_repair 22 = .ok (.iload_n 1, 1) := by decide +kernel
theorem dX6_repair_23 : decode cX6_repair 23 = .ok (.invokevirtual 149, 3) := by decide +kernel
theorem dX6_repair_26 : decode cX6_repair 26 = .ok (.ifCond .ne 7, 3) := by decide +kernel
theorem dX6_repair_29 : decode cX6_repair 29 = .ok (.sipush (-10002), 3) := by decide +kernel
theorem dX6_repair_32 : decode cX6_repair 32 = .ok (.ireturn, 1) := by decide +kernel
theorem dX6_repair_33 : decode cX6_repair 33 = .ok (.aload_n 0, 1) := by decide +kernel
theorem dX6_repair_34 : decode cX6_repair 34 = .ok (.getfield 19, 3) := by decide +kernel
theorem dX6_repair_37 : decode cX6_repair 37 = .ok (.aload_n 0, 1) := by decide +kernel
theorem dX6_repair_38 : decode cX6_repair 38 = .ok (.getfield 12, 3) := by decide +kernel
theorem dX6_repair_41 : decode cX6_repair 41 = .ok (.invokevirtual 53, 3) := by decide +kernel
theorem dX6_repair_44 : decode cX6_repair 44 = .ok (.aload_n 0, 1) := by decide +kernel
theorem dX6_repair_45 : decode cX6_repair 45 = .ok (.getfield 12, 3) := by decide +kernel
theorem dX6_repair_48 : decode cX6_repair 48 = .ok (.iload_n 1, 1) := by decide +kernel
theorem dX6_repair_49 : decode cX6_repair 49 = .ok (.invokevirtual 204, 3) := by decide +kernel
theorem dX6_repair_52 : decode cX6_repair 52 = .ok (.ireturn, 1) := by decide +kernel
theorem dX6_repairAll_0 : decode cX6_repairAll 0 = .ok (.iload_n 1, 1) := by decide +kernel
theorem dX6_repairAll_1 : decode cX6_repairAll 1 = .ok (.ifCond .lt 8, 3) := by decide +kernel
theorem dX6_repairAll_4 : decode cX6_repairAll 4 = .ok (.iload_n 1, 1) := by decide +kernel
theorem dX6_repairAll_5 : decode cX6_repairAll 5 = .ok (.iconst 5, 1) := by decide +kernel
theorem dX6_repairAll_6 : decode cX6_repairAll 6 = .ok (.if_icmp .le 7, 3) := by decide +kernel
theorem dX6_repairAll_9 : decode cX6_repairAll 9 = .ok (.sipush (-10001), 3) := by decide +kernel
theorem dX6_repairAll_12 : decode cX6_repairAll 12 = .ok (.ireturn, 1) := by decide +kernel
theorem dX6_repairAll_13 : decode cX6_repairAll 13 = .ok (.aload_n 0, 1) := by decide +kernel
theorem dX6_repairAll_14 : decode cX6_repairAll 14 = .ok (.getfield 19, 3) := by decide +kernel
theorem dX6_repairAll_17 : decode cX6_repairAll 17 = .ok (.aload_n 0, 1) := by decide +kernel
theorem dX6_repairAll_18 : decode cX6_repairAll 18 = .ok (.getfield 12, 3) := by decide +kernel
theorem dX6_repairAll_21 : decode cX6_repairAll 21 = .ok (.invokevirtual 53, 3) := by decide +kernel
theorem dX6_repairAll_24 : decode cX6_repairAll 24 = .ok (.iconst 0, 1) := by decide +kernel
theorem dX6_repairAll_25 : decode cX6_repairAll 25 = .ok (.istore_n 2, 1) := by decide +kernel
theorem dX6_repairAll_26 : decode cX6_repairAll 26 = .ok (.iconst 0, 1) := by decide +kernel
theorem dX6_repairAll_27 : decode cX6_repairAll 27 = .ok (.istore_n 3, 1) := by decide +kernel
theorem dX6_repairAll_28 : decode cX6_repairAll 28 = .ok (.iload_n 3, 1) := by decide +kernel
theorem dX6_repairAll_29 : decode cX6_repairAll 29 = .ok (.bipush 8, 2) := by decide +kernel
theorem dX6_repairAll_31 : decode cX6_repairAll 31 = .ok (.if_icmp .ge 43, 3) := by decide +kernel
theorem dX6_repairAll_34 : decode cX6_repairAll 34 = .ok (.aload_n 0, 1) := by decide +kernel
theorem dX6_repairAll_35 : decode cX6_repairAll 35 = .ok (.getfield 12, 3) := by decide +kernel
theorem dX6_repairAll_38 : decode cX6_repairAll 38 = .ok (.iload_n 3, 1) := by decide +kernel
theorem dX6_repairAll_39 : decode cX6_repairAll 39 = .ok (.invokevirtual 149, 3) := by decide +kernel
theorem dX6_repairAll_42 : decode cX6_repairAll 42 = .ok (.ifCond .eq 26, 3) := by decide +kernel
theorem dX6_repairAll_45 : decode cX6_repairAll 45 = .ok (.aload_n 0, 1) := by decide +kernel
theorem dX6_repairAll_46 : decode cX6_repairAll 46 = .ok (.getfield 12, 3) := by decide +kernel
theorem dX6_repairAll_49 : decode cX6_repairAll 49 = .ok (.iload_n 3, 1) := by decide +kernel
theorem dX6_repairAll_50 : decode cX6_repairAll 50 = .ok (.invokevirtual 152, 3) := by decide +kernel
theorem dX6_repairAll_53 : decode cX6_repairAll 53 = .ok (.iload_n 1, 1) := by decide +kernel
theorem dX6_repairAll_54 : decode cX6_repairAll 54 = .ok (.if_icmp .ge 14, 3) := by decide +kernel
theorem dX6_repairAll_57 : decode cX6_repairAll 57 = .ok (.iload_n 2, 1) := by decide +kernel
theorem dX6_repairAll_58 : decode cX6_repairAll 58 = .ok (.aload_n 0, 1) := by decide +kernel
theorem dX6_repairAll_59 : decode cX6_repairAll 59 = .ok (.getfield 12, 3) := by decide +kernel
theorem dX6_repairAll_62 : decode cX6_repairAll 62 = .ok (.iload_n 3, 1) := by decide +kernel
theorem dX6_repairAll_63 : decode cX6_repairAll 63 = .ok (.invokevirtual 204, 3) := by decide +kernel
theorem dX6_repairAll_66 : decode cX6_repairAll 66 = .ok (.iadd, 1) := by decide +kernel
theorem dX6_repairAll_67 : decode cX6_repairAll 67 = .ok (.istore_n 2, 1) := by decide +kernel
theorem dX6_repairAll_68 : decode cX6_repairAll 68 = .ok (.iinc 3 1, 3) := by decide +kernel
theorem dX6_repairAll_71 : decode cX6_repairAll 71 = .ok (.goto (-43), 3) := by decide +kernel
theorem dX6_repairAll_74 : decode cX6_repairAll 74 = .ok (.iload_n 2, 1) := by decide +kernel
theorem dX6_repairAll_75 : decode cX6_repairAll 75 = .ok (.ireturn, 1) := by decide +kernel
theorem dX6_undo_0 : decode cX6_undo 0 = .ok (.aload_n 0, 1) := by decide +kernel
theorem dX6_undo_1 : decode cX6_undo 1 = .ok (.getfield 19, 3) := by decide +kernel
theorem dX6_undo_4 : decode cX6_undo 4 = .ok (.getfield 207, 3) := by decide +kernel
theorem dX6_undo_7 : decode cX6_undo 7 = .ok (.ifCond .ne 7, 3) := by decide +kernel
theorem dX6_undo_10 : decode cX6_undo 10 = .ok (.sipush (-10002), 3) := by decide +kernel
theorem dX6_undo_13 : decode cX6_undo 13 = .ok (.ireturn, 1) := by decide +kernel
theorem dX6_undo_14 : decode cX6_undo 14 = .ok (.aload_n 0, 1) := by decide +kernel
theorem dX6_undo_15 : decode cX6_undo 15 = .ok (.getfield 19, 3) := by decide +kernel
theorem dX6_undo_18 : decode cX6_undo 18 = .ok (.aload_n 0, 1) := by decide +kernel
theorem dX6_undo_19 : decode cX6_undo 19 = .ok (.getfield 12, 3) := by decide +kernel
theorem dX6_undo_22 : decode cX6_undo 22 = .ok (.invokevirtual 208, 3) := by decide +kernel
theorem dX6_undo_25 : decode cX6_undo 25 = .ok (.aload_n 0, 1) := by decide +kernel
theorem dX6_undo_26 : decode cX6_undo 26 = .ok (.getfield 19, 3) := by decide +kernel
theorem dX6_undo_29 : decode cX6_undo 29 = .ok (.getfield 207, 3) := by decide +kernel
theorem dX6_undo_32 : decode cX6_undo 32 = .ok (.ireturn, 1) := by decide +kernel
theorem dX6_tolerance_0 : decode cX6_tolerance 0 = .ok (.aload_n 0, 1) := by decide +kernel
theorem dX6_tolerance_1 : decode cX6_tolerance 1 = .ok (.getfield 12, 3) := by decide +kernel
theorem dX6_tolerance_4 : decode cX6_tolerance 4 = .ok (.getfield 43, 3) := by decide +kernel
theorem dX6_tolerance_7 : decode cX6_tolerance 7 = .ok (.invokevirtual 211, 3) := by decide +kernel
theorem dX6_tolerance_10 : decode cX6_tolerance 10 = .ok (.istore_n 1, 1) := by decide +kernel
theorem dX6_tolerance_11 : decode cX6_tolerance 11 = .ok (.iload_n 1, 1) := by decide +kernel
theorem dX6_tolerance_12 : decode cX6_tolerance 12 = .ok (.ifCond .ne 7, 3) := by decide +kernel
theorem dX6_tolerance_15 : decode cX6_tolerance 15 = .ok (.sipush (-10002), 3) := by decide +kernel
theorem dX6_tolerance_18 : decode cX6_tolerance 18 = .ok (.ireturn, 1) := by decide +kernel
theorem dX6_tolerance_19 : decode cX6_tolerance 19 = .ok (.iconst 4, 1) := by decide +kernel
theorem dX6_tolerance_20 : decode cX6_tolerance 20 = .ok (.iload_n 1, 1) := by decide +kernel
theorem dX6_tolerance_21 : decode cX6_tolerance 21 = .ok (.invokestatic 212, 3) := by decide +kernel
theorem dX6_tolerance_24 : decode cX6_tolerance 24 = .ok (.istore_n 2, 1) := by decide +kernel
theorem dX6_tolerance_25 : decode cX6_tolerance 25 = .ok (.iload_n 2, 1) := by decide +kernel
theorem dX6_tolerance_26 : decode cX6_tolerance 26 = .ok (.ifCond .le 22, 3) := by decide +kernel
theorem dX6_tolerance_29 : decode cX6_tolerance 29 = .ok (.aload_n 0, 1) := by decide +kernel
theorem dX6_tolerance_30 : decode cX6_tolerance 30 = .ok (.getfield 12, 3) := by decide +kernel
theorem dX6_tolerance_33 : decode cX6_tolerance 33 = .ok (.iload_n 2, 1) := by decide +kernel
theorem dX6_tolerance_34 : decode cX6_tolerance 34 = .ok (.invokevirtual 217, 3) := by decide +kernel
theorem dX6_tolerance_37 : decode cX6_tolerance 37 = .ok (.ifCond .eq 5, 3) := by decide +kernel
theorem dX6_tolerance_40 : decode cX6_tolerance 40 = .ok (.iload_n 2, 1) := by decide +kernel
theorem dX6_tolerance_41 : decode cX6_tolerance 41 = .ok (.ireturn, 1) := by decide +kernel
theorem dX6_tolerance_42 : decode cX6_tolerance 42 = .ok (.iinc 2 (-1), 3) := by decide +kernel
theorem dX6_tolerance_45 : decode cX6_tolerance 45 = .ok (.goto (-20), 3) := by decide +kernel
theorem dX6_tolerance_48 : decode cX6_tolerance 48 = .ok (.iconst 0, 1) := by decide +kernel
theorem dX6_tolerance_49 : decode cX6_tolerance 49 = .ok (.ireturn, 1) := by decide +kernel
theorem dX6_endangered_0 : decode cX6_endangered 0 = .ok (.aload_n 0, 1) := by decide +kernel
theorem dX6_endangered_1 : decode cX6_endangered 1 = .ok (.getfield 12, 3) := by decide +kernel
theorem dX6_endangered_4 : decode cX6_endangered 4 = .ok (.getfield 43, 3) := by decide +kernel
theorem dX6_endangered_7 : decode cX6_endangered 7 = .ok (.iload_n 1, 1) := by decide +kernel
theorem dX6_endangered_8 : decode cX6_endangered 8 = .ok (.invokevirtual 61, 3) := by decide +kernel
theorem dX6_endangered_11 : decode cX6_endangered 11 = .ok (.ifCond .ne 7, 3) := by decide +kernel
theorem dX6_endangered_14 : decode cX6_endangered 14 = .ok (.sipush (-10001), 3) := by decide +kernel
theorem dX6_endangered_17 : decode cX6_endangered 17 = .ok (.ireturn, 1) := by decide +kernel
theorem dX6_endangered_18 : decode cX6_endangered 18 = .ok (.iconst 0, 1) := by decide +kernel
theorem dX6_endangered_19 : decode cX6_endangered 19 = .ok (.istore_n 2, 1) := by decide +kernel
theorem dX6_endangered_20 : decode cX6_endangered 20 = .ok (.iconst 0, 1) := by decide +kernel
theorem dX6_endangered_21 : decode cX6_endangered 21 = .ok (.istore_n 3, 1) := by decide +kernel
theorem dX6_endangered_22 : decode cX6_endangered 22 = .ok (.iload_n 3, 1) := by decide +kernel
theorem dX6_endangered_23 : decode cX6_endangered 23 = .ok (.bipush 8, 2) := by decide +kernel
theorem dX6_endangered_25 : decode cX6_endangered 25 = .ok (.if_icmp .ge 24, 3) := by decide +kernel
theorem dX6_endangered_28 : decode cX6_endangered 28 = .ok (.aload_n 0, 1) := by decide +kernel
theorem dX6_endangered_29 : decode cX6_endangered 29 = .ok (.getfield 12, 3) := by decide +kernel
theorem dX6_endangered_32 : decode cX6_endangered 32 = .ok (.iload_n 3, 1) := by decide +kernel
theorem dX6_endangered_33 : decode cX6_endangered 33 = .ok (.iload_n 1, 1) := by decide +kernel
theorem dX6_endangered_34 : decode cX6_endangered 34 = .ok (.invokevirtual 220, 3) := by decide +kernel
theorem dX6_endangered_37 : decode cX6_endangered 37 = .ok (.ifCond .eq 6, 3) := by decide +kernel
theorem dX6_endangered_40 : decode cX6_endangered 40 = .ok (.iinc 2 1, 3) := by decide +kernel
theorem dX6_endangered_43 : decode cX6_endangered 43 = .ok (.iinc 3 1, 3) := by decide +kernel
theorem dX6_endangered_46 : decode cX6_endangered 46 = .ok (.goto (-24), 3) := by decide +kernel
theorem dX6_endangered_49 : decode cX6_endangered 49 = .ok (.iload_n 2, 1) := by decide +kernel
theorem dX6_endangered_50 : decode cX6_endangered 50 = .ok (.ireturn, 1) := by decide +kernel
theorem dX6_leavers_0 : decode cX6_leavers 0 = .ok (.aload_n 0, 1) := by decide +kernel
theorem dX6_leavers_1 : decode cX6_leavers 1 = .ok (.getfield 37, 3) := by decide +kernel
theorem dX6_leavers_4 : decode cX6_leavers 4 = .ok (.aload_n 0, 1) := by decide +kernel
theorem dX6_leavers_5 : decode cX6_leavers 5 = .ok (.getfield 12, 3) := by decide +kernel
theorem dX6_leavers_8 : decode cX6_leavers 8 = .ok (.invokevirtual 223, 3) := by decide +kernel
theorem dX6_leavers_11 : decode cX6_leavers 11 = .ok (.iconst 0, 1) := by decide +kernel
theorem dX6_leavers_12 : decode cX6_leavers 12 = .ok (.istore_n 1, 1) := by decide +kernel
theorem dX6_leavers_13 : decode cX6_leavers 13 = .ok (.iload_n 1, 1) := by decide +kernel
theorem dX6_leavers_14 : decode cX6_leavers 14 = .ok (.bipush 12, 2) := by decide +kernel
theorem dX6_leavers_16 : decode cX6_leavers 16 = .ok (.if_icmp .ge 16, 3) := by decide +kernel
theorem dX6_leavers_19 : decode cX6_leavers 19 = .ok (.aload_n 0, 1) := by decide +kernel
theorem dX6_leavers_20 : decode cX6_leavers 20 = .ok (.invokevirtual 226, 3) := by decide +kernel
theorem dX6_leavers_23 : decode cX6_leavers 23 = .ok (.ifCond .eq 9, 3) := by decide +kernel
theorem dX6_leavers_26 : decode cX6_leavers 26 = .ok (.iinc 1 1, 3) := by decide +kernel
theorem dX6_leavers_29 : decode cX6_leavers 29 = .ok (.goto (-16), 3) := by decide +kernel
theorem dX6_leavers_32 : decode cX6_leavers 32 = .ok (.iload_n 1, 1) := by decide +kernel
theorem dX6_leavers_33 : decode cX6_leavers 33 = .ok (.ireturn, 1) := by decide +kernel
theorem dX6_count_0 : decode cX6_count 0 = .ok (.iload_n 1, 1) := by decide +kernel
theorem dX6_count_1 : decode cX6_count 1 = .ok (.tableswitch 141 0 8 #[51, 62, 73, 81, 92, 103, 114, 122, 130], 51) := by decide +kernel
theorem dX6_count_52 : decode cX6_count 52 = .ok (.aload_n 0, 1) := by decide +kernel
theorem dX6_count_53 : decode cX6_count 53 = .ok (.getfield 12, 3) := by decide +kernel
theorem dX6_count_56 : decode cX6_count 56 = .ok (.getfield 43, 3) := by decide +kernel
theorem dX6_count_59 : decode cX6_count 59 = .ok (.invokevirtual 211, 3) := by decide +kernel
theorem dX6_count_62 : decode cX6_count 62 = .ok (.ireturn, 1) := by decide +kernel
theorem dX6_count_63 : decode cX6_count 63 = .ok (.aload_n 0, 1) := by decide +kernel
theorem dX6_count_64 : decode cX6_count 64 = .ok (.getfield 12, 3) := by decide +kernel
theorem dX6_count_67 : decode cX6_count 67 = .ok (.getfield 100, 3) := by decide +kernel
theorem dX6_count_70 : decode cX6_count 70 = .ok (.invokevirtual 131, 3) := by decide +kernel
theorem dX6_count_73 : decode cX6_count 73 = .ok (.ireturn, 1) := by decide +kernel
theorem dX6_count_74 : decode cX6_count 74 = .ok (.aload_n 0, 1) := by decide +kernel
theorem dX6_count_75 : decode cX6_count 75 = .ok (.getfield 12, 3) := by decide +kernel
theorem dX6_count_78 : decode cX6_count 78 = .ok (.invokevirtual 230, 3) := by decide +kernel
theorem dX6_count_81 : decode cX6_count 81 = .ok (.ireturn, 1) := by decide +kernel
theorem dX6_count_82 : decode cX6_count 82 = .ok (.aload_n 0, 1) := by decide +kernel
theorem dX6_count_83 : decode cX6_count 83 = .ok (.getfield 12, 3) := by decide +kernel
theorem dX6_count_86 : decode cX6_count 86 = .ok (.getfield 100, 3) := by decide +kernel
theorem dX6_count_89 : decode cX6_count 89 = .ok (.invokevirtual 233, 3) := by decide +kernel
theorem dX6_count_92 : decode cX6_count 92 = .ok (.ireturn, 1) := by decide +kernel
theorem dX6_count_93 : decode cX6_count 93 = .ok (.aload_n 0, 1) := by decide +kernel
theorem dX6_count_94 : decode cX6_count 94 = .ok (.getfield 12, 3) := by decide +kernel
theorem dX6_count_97 : decode cX6_count 97 = .ok (.getfield 100, 3) := by decide +kernel
theorem dX6_count_100 : decode cX6_count 100 = .ok (.invokevirtual 236, 3) := by decide +kernel
theorem dX6_count_103 : decode cX6_count 103 = .ok (.ireturn, 1) := by decide +kernel
theorem dX6_count_104 : decode cX6_count 104 = .ok (.aload_n 0, 1) := by decide +kernel
theorem dX6_count_105 : decode cX6_count 105 = .ok (.getfield 12, 3) := by decide +kernel
theorem dX6_count_108 : decode cX6_count 108 = .ok (.getfield 43, 3) := by decide +kernel
theorem dX6_count_111 : decode cX6_count 111 = .ok (.invokevirtual 239, 3) := by decide +kernel
theorem dX6_count_114 : decode cX6_count 114 = .ok (.ireturn, 1) := by decide +kernel
theorem dX6_count_115 : decode cX6_count 115 = .ok (.aload_n 0, 1) := by decide +kernel
theorem dX6_count_116 : decode cX6_count 116 = .ok (.getfield 12, 3) := by decide +kernel
theorem dX6_count_119 : decode cX6_count 119 = .ok (.getfield 112, 3) := by decide +kernel
theorem dX6_count_122 : decode cX6_count 122 = .ok (.ireturn, 1) := by decide +kernel
theorem dX6_count_123 : decode cX6_count 123 = .ok (.aload_n 0, 1) := by decide +kernel
theorem dX6_count_124 : decode cX6_count 124 = .ok (.getfield 19, 3) := by decide +kernel
theorem dX6_count_127 : decode cX6_count 127 = .ok (.getfield 207, 3) := by decide +kernel
theorem dX6_count_130 : decode cX6_count 130 = .ok (.ireturn, 1) := by decide +kernel
theorem dX6_count_131 : decode cX6_count 131 = .ok (.aload_n 0, 1) := by decide +kernel
theorem dX6_count_132 : decode cX6_count 132 = .ok (.getfield 12, 3) := by decide +kernel
theorem dX6_count_135 : decode cX6_count 135 = .ok (.getfield 43, 3) := by decide +kernel
theorem dX6_count_138 : decode cX6_count 138 = .ok (.invokevirtual 242, 3) := by decide +kernel
theorem dX6_count_141 : decode cX6_count 141 = .ok (.ireturn, 1) := by decide +kernel
theorem dX6_count_142 : decode cX6_count 142 = .ok (.sipush (-10001), 3) := by decide +kernel
theorem dX6_count_145 : decode cX6_count 145 = .ok (.ireturn, 1) := by decide +kernel
theorem dX6_planNextLeaver_0 : decode cX6_planNextLeaver 0 = .ok (.iconst 0, 1) := by decide +kernel
theorem dX6_planNextLeaver_1 : decode cX6_planNextLeaver 1 = .ok (.istore_n 1, 1) := by decide +kernel
theorem dX6_planNextLeaver_2 : decode cX6_planNextLeaver 2 = .ok (.iload_n 1, 1) := by decide +kernel
theorem dX6_planNextLeaver_3 : decode cX6_planNextLeaver 3 = .ok (.bipush 12, 2) := by decide +kernel
theorem dX6_planNextLeaver_5 : decode cX6_planNextLeaver 5 = .ok (.if_icmp .ge 69, 3) := by decide +kernel
theorem dX6_planNextLeaver_8 : decode cX6_planNextLeaver 8 = .ok (.aload_n 0, 1) := by decide +kernel
theorem dX6_planNextLeaver_9 : decode cX6_planNextLeaver 9 = .ok (.getfield 37, 3) := by decide +kernel
theorem dX6_planNextLeaver_12 : decode cX6_planNextLeaver 12 = .ok (.getfield 43, 3) := by decide +kernel
theorem dX6_planNextLeaver_15 : decode cX6_planNextLeaver 15 = .ok (.iload_n 1, 1) := by decide +kernel
theorem dX6_planNextLeaver_16 : decode cX6_planNextLeaver 16 = .ok (.invokevirtual 61, 3) := by decide +kernel
theorem dX6_planNextLeaver_19 : decode cX6_planNextLeaver 19 = .ok (.ifCond .eq 49, 3) := by decide +kernel
theorem dX6_planNextLeaver_22 : decode cX6_planNextLeaver 22 = .ok (.aload_n 0, 1) := by decide +kernel
theorem dX6_planNextLeaver_23 : decode cX6_planNextLeaver 23 = .ok (.getfield 37, 3) := by decide +kernel
theorem dX6_planNextLeaver_26 : decode cX6_planNextLeaver 26 = .ok (.iload_n 1, 1) := by decide +kernel
theorem dX6_planNextLeaver_27 : decode cX6_planNextLeaver 27 = .ok (.invokevirtual 65, 3) := by decide +kernel
theorem dX6_planNextLeaver_30 : decode cX6_planNextLeaver 30 = .ok (.ifCond .eq 38, 3) := by decide +kernel
theorem dX6_planNextLeaver_33 : decode cX6_planNextLeaver 33 = .ok (.aload_n 0, 1) := by decide +kernel
theorem dX6_planNextLeaver_34 : decode cX6_planNextLeaver 34 = .ok (.getfield 40, 3) := by decide +kernel
theorem dX6_planNextLeaver_37 : decode cX6_planNextLeaver 37 = .ok (.aload_n 0, 1) := by decide +kernel
theorem dX6_planNextLeaver_38 : decode cX6_planNextLeaver 38 = .ok (.getfield 37, 3) := by decide +kernel
theorem dX6_planNextLeaver_41 : decode cX6_planNextLeaver 41 = .ok (.invokevirtual 223, 3) := by decide +kernel
theorem dX6_planNextLeaver_44 : decode cX6_planNextLeaver 44 = .ok (.aload_n 0, 1) := by decide +kernel
theorem dX6_planNextLeaver_45 : decode cX6_planNextLeaver 45 = .ok (.getfield 40, 3) := by decide +kernel
theorem dX6_planNextLeaver_48 : decode cX6_planNextLeaver 48 = .ok (.iload_n 1, 1) := by decide +kernel
theorem dX6_planNextLeaver_49 : decode cX6_planNextLeaver 49 = .ok (.invokevirtual 68, 3) := by decide +kernel
theorem dX6_planNextLeaver_52 : decode cX6_planNextLeaver 52 = .ok (.ifCond .ne 16, 3) := by decide +kernel
theorem dX6_planNextLeaver_55 : decode cX6_planNextLeaver 55 = .ok (.aload_n 0, 1) := by decide +kernel
theorem dX6_planNextLeaver_56 : decode cX6_planNextLeaver 56 = .ok (.getfield 37, 3) := by decide +kernel
theorem dX6_planNextLeaver_59 : decode cX6_planNextLeaver 59 = .ok (.aload_n 0, 1) := by decide +kernel
theorem dX6_planNextLeaver_60 : decode cX6_planNextLeaver 60 = .ok (.getfield 40, 3) := by decide +kernel
theorem dX6_planNextLeaver_63 : decode cX6_planNextLeaver 63 = .ok (.invokevirtual 223, 3) := by decide +kernel
theorem dX6_planNextLeaver_66 : decode cX6_planNextLeaver 66 = .ok (.iconst 1, 1) := by decide +kernel
theorem dX6_planNextLeaver_67 : decode cX6_planNextLeaver 67 = .ok (.ireturn, 1) := by decide +kernel
theorem dX6_planNextLeaver_68 : decode cX6_planNextLeaver 68 = .ok (.iinc 1 1, 3) := by decide +kernel
theorem dX6_planNextLeaver_71 : decode cX6_planNextLeaver 71 = .ok (.goto (-69), 3) := by decide +kernel
theorem dX6_planNextLeaver_74 : decode cX6_planNextLeaver 74 = .ok (.iconst 0, 1) := by decide +kernel
theorem dX6_planNextLeaver_75 : decode cX6_planNextLeaver 75 = .ok (.ireturn, 1) := by decide +kernel
theorem dX6_power_0 : decode cX6_power 0 = .ok (.iconst 1, 1) := by decide +kernel
theorem dX6_power_1 : decode cX6_power 1 = .ok (.istore_n 2, 1) := by decide +kernel
theorem dX6_power_2 : decode cX6_power 2 = .ok (.iload_n 0, 1) := by decide +kernel
theorem dX6_power_3 : decode cX6_power 3 = .ok (.istore_n 3, 1) := by decide +kernel
theorem dX6_power_4 : decode cX6_power 4 = .ok (.iconst 0, 1) := by decide +kernel
theorem dX6_power_5 : decode cX6_power 5 = .ok (.istore 4, 2) := by decide +kernel
theorem dX6_power_7 : decode cX6_power 7 = .ok (.iload 4, 2) := by decide +kernel
theorem dX6_power_9 : decode cX6_power 9 = .ok (.bipush 8, 2) := by decide +kernel
theorem dX6_power_11 : decode cX6_power 11 = .ok (.if_icmp .ge 35, 3) := by decide +kernel
theorem dX6_power_14 : decode cX6_power 14 = .ok (.iload_n 1, 1) := by decide +kernel
theorem dX6_power_15 : decode cX6_power 15 = .ok (.iload 4, 2) := by decide +kernel
theorem dX6_power_17 : decode cX6_power 17 = .ok (.ishr, 1) := by decide +kernel
theorem dX6_power_18 : decode cX6_power 18 = .ok (.iconst 1, 1) := by decide +kernel
theorem dX6_power_19 : decode cX6_power 19 = .ok (.iand, 1) := by decide +kernel
theorem dX6_power_20 : decode cX6_power 20 = .ok (.iconst 1, 1) := by decide +kernel
theorem dX6_power_21 : decode cX6_power 21 = .ok (.if_icmp .ne 11, 3) := by decide +kernel
theorem dX6_power_24 : decode cX6_power 24 = .ok (.iload_n 2, 1) := by decide +kernel
theorem dX6_power_25 : decode cX6_power 25 = .ok (.iload_n 3, 1) := by decide +kernel
theorem dX6_power_26 : decode cX6_power 26 = .ok (.imul, 1) := by decide +kernel
theorem dX6_power_27 : decode cX6_power 27 = .ok (.sipush 257, 3) := by decide +kernel
theorem dX6_power_30 : decode cX6_power 30 = .ok (.irem, 1) := by decide +kernel
theorem dX6_power_31 : decode cX6_power 31 = .ok (.istore_n 2, 1) := by decide +kernel
theorem dX6_power_32 : decode cX6_power 32 = .ok (.iload_n 3, 1) := by decide +kernel
theorem dX6_power_33 : decode cX6_power 33 = .ok (.iload_n 3, 1) := by decide +kernel
theorem dX6_power_34 : decode cX6_power 34 = .ok (.imul, 1) := by decide +kernel
theorem dX6_power_35 : decode cX6_power 35 = .ok (.sipush 257, 3) := by decide +kernel
theorem dX6_power_38 : decode cX6_power 38 = .ok (.irem, 1) := by decide +kernel
theorem dX6_power_39 : decode cX6_power 39 = .ok (.istore_n 3, 1) := by decide +kernel
theorem dX6_power_40 : decode cX6_power 40 = .ok (.iinc 4 1, 3) := by decide +kernel
theorem dX6_power_43 : decode cX6_power 43 = .ok (.goto (-36), 3) := by decide +kernel
theorem dX6_power_46 : decode cX6_power 46 = .ok (.iload_n 2, 1) := by decide +kernel
theorem dX6_power_47 : decode cX6_power 47 = .ok (.ireturn, 1) := by decide +kernel
theorem dX6_copyRow_0 : decode cX6_copyRow 0 = .ok (.aload_n 0, 1) := by decide +kernel
theorem dX6_copyRow_1 : decode cX6_copyRow 1 = .ok (.iconst 0, 1) := by decide +kernel
theorem dX6_copyRow_2 : decode cX6_copyRow 2 = .ok (.aload_n 1, 1) := by decide +kernel
theorem dX6_copyRow_3 : decode cX6_copyRow 3 = .ok (.iconst 0, 1) := by decide +kernel
theorem dX6_copyRow_4 : decode cX6_copyRow 4 = .ok (.aload_n 0, 1) := by decide +kernel
theorem dX6_copyRow_5 : decode cX6_copyRow 5 = .ok (.arraylength, 1) := by decide +kernel
theorem dX6_copyRow_6 : decode cX6_copyRow 6 = .ok (.aload_n 1, 1) := by decide +kernel
theorem dX6_copyRow_7 : decode cX6_copyRow 7 = .ok (.arraylength, 1) := by decide +kernel
theorem dX6_copyRow_8 : decode cX6_copyRow 8 = .ok (.invokestatic 212, 3) := by decide +kernel
theorem dX6_copyRow_11 : decode cX6_copyRow 11 = .ok (.invokestatic 245, 3) := by decide +kernel
theorem dX6_copyRow_14 : decode cX6_copyRow 14 = .ok (.return_, 1) := by decide +kernel
theorem dJ6_bitCount_0f7a4_0 : decode cJ6_bitCount_0f7a4 0 = .ok (.iload_n 0, 1) := by decide +kernel
theorem dJ6_bitCount_0f7a4_1 : decode cJ6_bitCount_0f7a4 1 = .ok (.iload_n 0, 1) := by decide +kernel
theorem dJ6_bitCount_0f7a4_2 : decode cJ6_bitCount_0f7a4 2 = .ok (.iconst 1, 1) := by decide +kernel
theorem dJ6_bitCount_0f7a4_3 : decode cJ6_bitCount_0f7a4 3 = .ok (.iushr, 1) := by decide +kernel
theorem dJ6_bitCount_0f7a4_4 : decode cJ6_bitCount_0f7a4 4 = .ok (.ldc_w 265, 3) := by decide +kernel
theorem dJ6_bitCount_0f7a4_7 : decode cJ6_bitCount_0f7a4 7 = .ok (.iand, 1) := by decide +kernel
theorem dJ6_bitCount_0f7a4_8 : decode cJ6_bitCount_0f7a4 8 = .ok (.isub, 1) := by decide +kernel
theorem dJ6_bitCount_0f7a4_9 : decode cJ6_bitCount_0f7a4 9 = .ok (.istore_n 0, 1) := by decide +kernel
theorem dJ6_bitCount_0f7a4_10 : decode cJ6_bitCount_0f7a4 10 = .ok (.iload_n 0, 1) := by decide +kernel
theorem dJ6_bitCount_0f7a4_11 : decode cJ6_bitCount_0f7a4 11 = .ok (.ldc_w 266, 3) := by decide +kernel
theorem dJ6_bitCount_0f7a4_14 : decode cJ6_bitCount_0f7a4 14 = .ok (.iand, 1) := by decide +kernel
theorem dJ6_bitCount_0f7a4_15 : decode cJ6_bitCount_0f7a4 15 = .ok (.iload_n 0, 1) := by decide +kernel
theorem dJ6_bitCount_0f7a4_16 : decode cJ6_bitCount_0f7a4 16 = .ok (.iconst 2, 1) := by decide +kernel
theorem dJ6_bitCount_0f7a4_17 : decode cJ6_bitCount_0f7a4 17 = .ok (.iushr, 1) := by decide +kernel
theorem dJ6_bitCount_0f7a4_18 : decode cJ6_bitCount_0f7a4 18 = .ok (.ldc_w 266, 3) := by decide +kernel
theorem dJ6_bitCount_0f7a4_21 : decode cJ6_bitCount_0f7a4 21 = .ok (.iand, 1) := by decide +kernel
theorem dJ6_bitCount_0f7a4_22 : decode cJ6_bitCount_0f7a4 22 = .ok (.iadd, 1) := by decide +kernel
theorem dJ6_bitCount_0f7a4_23 : decode cJ6_bitCount_0f7a4 23 = .ok (.istore_n 0, 1) := by decide +kernel
theorem dJ6_bitCount_0f7a4_24 : decode cJ6_bitCount_0f7a4 24 = .ok (.iload_n 0, 1) := by decide +kernel
theorem dJ6_bitCount_0f7a4_25 : decode cJ6_bitCount_0f7a4 25 = .ok (.iload_n 0, 1) := by decide +kernel
theorem dJ6_bitCount_0f7a4_26 : decode cJ6_bitCount_0f7a4 26 = .ok (.iconst 4, 1) := by decide +kernel
theorem dJ6_bitCount_0f7a4_27 : decode cJ6_bitCount_0f7a4 27 = .ok (.iushr, 1) := by decide +kernel
theorem dJ6_bitCount_0f7a4_28 : decode cJ6_bitCount_0f7a4 28 = .ok (.iadd, 1) := by decide +kernel
theorem dJ6_bitCount_0f7a4_29 : decode cJ6_bitCount_0f7a4 29 = .ok (.ldc_w 267, 3) := by decide +kernel
theorem dJ6_bitCount_0f7a4_32 : decode cJ6_bitCount_0f7a4 32 = .ok (.iand, 1) := by decide +kernel
theorem dJ6_bitCount_0f7a4_33 : decode cJ6_bitCount_0f7a4 33 = .ok (.istore_n 0, 1) := by decide +kernel
theorem dJ6_bitCount_0f7a4_34 : decode cJ6_bitCount_0f7a4 34 = .ok (.iload_n 0, 1) := by decide +kernel
theorem dJ6_bitCount_0f7a4_35 : decode cJ6_bitCount_0f7a4 35 = .ok (.iload_n 0, 1) := by decide +kernel
theorem dJ6_bitCount_0f7a4_36 : decode cJ6_bitCount_0f7a4 36 = .ok (.bipush 8, 2) := by decide +kernel
theorem dJ6_bitCount_0f7a4_38 : decode cJ6_bitCount_0f7a4 38 = .ok (.iushr, 1) := by decide +kernel
theorem dJ6_bitCount_0f7a4_39 : decode cJ6_bitCount_0f7a4 39 = .ok (.iadd, 1) := by decide +kernel
theorem dJ6_bitCount_0f7a4_40 : decode cJ6_bitCount_0f7a4 40 = .ok (.istore_n 0, 1) := by decide +kernel
theorem dJ6_bitCount_0f7a4_41 : decode cJ6_bitCount_0f7a4 41 = .ok (.iload_n 0, 1) := by decide +kernel
theorem dJ6_bitCount_0f7a4_42 : decode cJ6_bitCount_0f7a4 42 = .ok (.iload_n 0, 1) := by decide +kernel
theorem dJ6_bitCount_0f7a4_43 : decode cJ6_bitCount_0f7a4 43 = .ok (.bipush 16, 2) := by decide +kernel
theorem dJ6_bitCount_0f7a4_45 : decode cJ6_bitCount_0f7a4 45 = .ok (.iushr, 1) := by decide +kernel
theorem dJ6_bitCount_0f7a4_46 : decode cJ6_bitCount_0f7a4 46 = .ok (.iadd, 1) := by decide +kernel
theorem dJ6_bitCount_0f7a4_47 : decode cJ6_bitCount_0f7a4 47 = .ok (.istore_n 0, 1) := by decide +kernel
theorem dJ6_bitCount_0f7a4_48 : decode cJ6_bitCount_0f7a4 48 = .ok (.iload_n 0, 1) := by decide +kernel
theorem dJ6_bitCount_0f7a4_49 : decode cJ6_bitCount_0f7a4 49 = .ok (.bipush 63, 2) := by decide +kernel
theorem dJ6_bitCount_0f7a4_51 : decode cJ6_bitCount_0f7a4 51 = .ok (.iand, 1) := by decide +kernel
theorem dJ6_bitCount_0f7a4_52 : decode cJ6_bitCount_0f7a4 52 = .ok (.ireturn, 1) := by decide +kernel
theorem dJ9_max_7cf53_0 : decode cJ9_max_7cf53 0 = .ok (.iload_n 0, 1) := by decide +kernel
theorem dJ9_max_7cf53_1 : decode cJ9_max_7cf53 1 = .ok (.iload_n 1, 1) := by decide +kernel
theorem dJ9_max_7cf53_2 : decode cJ9_max_7cf53 2 = .ok (.if_icmp .lt 7, 3) := by decide +kernel
theorem dJ9_max_7cf53_5 : decode cJ9_max_7cf53 5 = .ok (.iload_n 0, 1) := by decide +kernel
theorem dJ9_max_7cf53_6 : decode cJ9_max_7cf53 6 = .ok (.goto 4, 3) := by decide +kernel
theorem dJ9_max_7cf53_9 : decode cJ9_max_7cf53 9 = .ok (.iload_n 1, 1) := by decide +kernel
theorem dJ9_max_7cf53_10 : decode cJ9_max_7cf53 10 = .ok (.ireturn, 1) := by decide +kernel
theorem dJ9_min_7cf53_0 : decode cJ9_min_7cf53 0 = .ok (.iload_n 0, 1) := by decide +kernel
theorem dJ9_min_7cf53_1 : decode cJ9_min_7cf53 1 = .ok (.iload_n 1, 1) := by decide +kernel
theorem dJ9_min_7cf53_2 : decode cJ9_min_7cf53 2 = .ok (.if_icmp .gt 7, 3) := by decide +kernel
theorem dJ9_min_7cf53_5 : decode cJ9_min_7cf53 5 = .ok (.iload_n 0, 1) := by decide +kernel
theorem dJ9_min_7cf53_6 : decode cJ9_min_7cf53 6 = .ok (.goto 4, 3) := by decide +kernel
theorem dJ9_min_7cf53_9 : decode cJ9_min_7cf53 9 = .ok (.iload_n 1, 1) := by decide +kernel
theorem dJ9_min_7cf53_10 : decode cJ9_min_7cf53 10 = .ok (.ireturn, 1) := by decide +kernel
theorem dJ7_fill_53178_0 : decode cJ7_fill_53178 0 = .ok (.iconst 0, 1) := by decide +kernel
theorem dJ7_fill_53178_1 : decode cJ7_fill_53178 1 = .ok (.istore_n 2, 1) := by decide +kernel
theorem dJ7_fill_53178_2 : decode cJ7_fill_53178 2 = .ok (.aload_n 0, 1) := by decide +kernel
theorem dJ7_fill_53178_3 : decode cJ7_fill_53178 3 = .ok (.arraylength, 1) := by decide +kernel
theorem dJ7_fill_53178_4 : decode cJ7_fill_53178 4 = .ok (.istore_n 3, 1) := by decide +kernel
theorem dJ7_fill_53178_5 : decode cJ7_fill_53178 5 = .ok (.iload_n 2, 1) := by decide +kernel
theorem dJ7_fill_53178_6 : decode cJ7_fill_53178 6 = .ok (.iload_n 3, 1) := by decide +kernel
theorem dJ7_fill_53178_7 : decode cJ7_fill_53178 7 = .ok (.if_icmp .ge 13, 3) := by decide +kernel
theorem dJ7_fill_53178_10 : decode cJ7_fill_53178 10 = .ok (.aload_n 0, 1) := by decide +kernel
theorem dJ7_fill_53178_11 : decode cJ7_fill_53178 11 = .ok (.iload_n 2, 1) := by decide +kernel
theorem dJ7_fill_53178_12 : decode cJ7_fill_53178 12 = .ok (.iload_n 1, 1) := by decide +kernel
theorem dJ7_fill_53178_13 : decode cJ7_fill_53178 13 = .ok (.iastore, 1) := by decide +kernel
theorem dJ7_fill_53178_14 : decode cJ7_fill_53178 14 = .ok (.iinc 2 1, 3) := by decide +kernel
theorem dJ7_fill_53178_17 : decode cJ7_fill_53178 17 = .ok (.goto (-12), 3) := by decide +kernel
theorem dJ7_fill_53178_20 : decode cJ7_fill_53178 20 = .ok (.return_, 1) := by decide +kernel
