theorem dX9_has_9 : decode cX9_has 9 = .ok (.if_icmp .ge 7, 3) := by decide +kernel
theorem dX9_has_12 : decode cX9_has 12 = .ok (.iconst 1, 1) := by decide +kernel
theorem dX9_has_13 : decode cX9_has 13 = .ok (.goto 4, 3) := by decide +kernel
theorem dX9_has_16 : decode cX9_has 16 = .ok (.iconst 0, 1) := by decide +kernel
theorem dX9_has_17 : decode cX9_has 17 = .ok (.ireturn, 1) := by decide +kernel
theorem dX9_hasRun_0 : decode cX9_hasRun 0 = .ok (.iload_n 1, 1) := by decide +kernel
theorem dX9_hasRun_1 : decode cX9_hasRun 1 = .ok (.ifCond .lt 21, 3) := by decide +kernel
theorem dX9_hasRun_4 : decode cX9_hasRun 4 = .ok (.iload_n 2, 1) := by decide +kernel
theorem dX9_hasRun_5 : decode cX9_hasRun 5 = .ok (.ifCond .lt 17, 3) := by decide +kernel
theorem dX9_hasRun_8 : decode cX9_hasRun 8 = .ok (.iload_n 1, 1) := by decide +kernel
theorem dX9_hasRun_9 : decode cX9_hasRun 9 = .ok (.aload_n 0, 1) := by decide +kernel
theorem dX9_hasRun_10 : decode cX9_hasRun 10 = .ok (.getfield 15, 3) := by decide +kernel
theorem dX9_hasRun_13 : decode cX9_hasRun 13 = .ok (.iload_n 2, 1) := by decide +kernel
theorem dX9_hasRun_14 : decode cX9_hasRun 14 = .ok (.isub, 1) := by decide +kernel
theorem dX9_hasRun_15 : decode cX9_hasRun 15 = .ok (.if_icmp .gt 7, 3) := by decide +kernel
theorem dX9_hasRun_18 : decode cX9_hasRun 18 = .ok (.iconst 1, 1) := by decide +kernel
theorem dX9_hasRun_19 : decode cX9_hasRun 19 = .ok (.goto 4, 3) := by decide +kernel
theorem dX9_hasRun_22 : decode cX9_hasRun 22 = .ok (.iconst 0, 1) := by decide +kernel
theorem dX9_hasRun_23 : decode cX9_hasRun 23 = .ok (.ireturn, 1) := by decide +kernel
theorem dX9_get_0 : decode cX9_get 0 = .ok (.aload_n 0, 1) := by decide +kernel
theorem dX9_get_1 : decode cX9_get 1 = .ok (.iload_n 1, 1) := by decide +kernel
theorem dX9_get_2 : decode cX9_get 2 = .ok (.invokevirtual 25, 3) := by decide +kernel
theorem dX9_get_5 : decode cX9_get 5 = .ok (.ifCond .eq 12, 3) := by decide +kernel
theorem dX9_get_8 : decode cX9_get 8 = .ok (.aload_n 0, 1) := by decide +kernel
theorem dX9_get_9 : decode cX9_get 9 = .ok (.getfield 9, 3) := by decide +kernel
theorem dX9_get_12 : decode cX9_get 12 = .ok (.iload_n 1, 1) := by decide +kernel
theorem dX9_get_13 : decode cX9_get 13 = .ok (.iaload, 1) := by decide +kernel
theorem dX9_get_14 : decode cX9_get 14 = .ok (.goto 4, 3) := by decide +kernel
theorem dX9_get_17 : decode cX9_get 17 = .ok (.iconst 0, 1) := by decide +kernel
theorem dX9_get_18 : decode cX9_get 18 = .ok (.ireturn, 1) := by decide +kernel
theorem dX9_set_0 : decode cX9_set 0 = .ok (.aload_n 0, 1) := by decide +kernel
theorem dX9_set_1 : decode cX9_set 1 = .ok (.iload_n 1, 1) := by decide +kernel
theorem dX9_set_2 : decode cX9_set 2 = .ok (.invokevirtual 25, 3) := by decide +kernel
theorem dX9_set_5 : decode cX9_set 5 = .ok (.ifCond .eq 10, 3) := by decide +kernel
theorem dX9_set_8 : decode cX9_set 8 = .ok (.aload_n 0, 1) := by decide +kernel
theorem dX9_set_9 : decode cX9_set 9 = .ok (.getfield 9, 3) := by decide +kernel
theorem dX9_set_12 : decode cX9_set 12 = .ok (.iload_n 1, 1) := by decide +kernel
theorem dX9_set_13 : decode cX9_set 13 = .ok (.iload_n 2, 1) := by decide +kernel
theorem dX9_set_14 : decode cX9_set 14 = .ok (.iastore, 1) := by decide +kernel
theorem dX9_set_15 : decode cX9_set 15 = .ok (.return_, 1) := by decide +kernel
theorem dX9_sum_0 : decode cX9_sum 0 = .ok (.lconst 0, 1) := by decide +kernel
theorem dX9_sum_1 : decode cX9_sum 1 = .ok (.lstore_n 1, 1) := by decide +kernel
theorem dX9_sum_2 : decode cX9_sum 2 = .ok (.iconst 0, 1) := by decide +kernel
theorem dX9_sum_3 : decode cX9_sum 3 = .ok (.istore_n 3, 1) := by decide +kernel
theorem dX9_sum_4 : decode cX9_sum 4 = .ok (.iload_n 3, 1) := by decide +kernel
theorem dX9_sum_5 : decode cX9_sum 5 = .ok (.aload_n 0, 1) := by decide +kernel
theorem dX9_sum_6 : decode cX9_sum 6 = .ok (.getfield 15, 3) := by decide +kernel
theorem dX9_sum_9 : decode cX9_sum 9 = .ok (.if_icmp .ge 19, 3) := by decide +kernel
theorem dX9_sum_12 : decode cX9_sum 12 = .ok (.lload_n 1, 1) := by decide +kernel
theorem dX9_sum_13 : decode cX9_sum 13 = .ok (.aload_n 0, 1) := by decide +kernel
theorem dX9_sum_14 : decode cX9_sum 14 = .ok (.getfield 9, 3) := by decide +kernel
theorem dX9_sum_17 : decode cX9_sum 17 = .ok (.iload_n 3, 1) := by decide +kernel
theorem dX9_sum_18 : decode cX9_sum 18 = .ok (.iaload, 1) := by decide +kernel
theorem dX9_sum_19 : decode cX9_sum 19 = .ok (.i2l, 1) := by decide +kernel
theorem dX9_sum_20 : decode cX9_sum 20 = .ok (.ladd, 1) := by decide +kernel
theorem dX9_sum_21 : decode cX9_sum 21 = .ok (.lstore_n 1, 1) := by decide +kernel
theorem dX9_sum_22 : decode cX9_sum 22 = .ok (.iinc 3 1, 3) := by decide +kernel
theorem dX9_sum_25 : decode cX9_sum 25 = .ok (.goto (-21), 3) := by decide +kernel
theorem dX9_sum_28 : decode cX9_sum 28 = .ok (.lload_n 1, 1) := by decide +kernel
theorem dX9_sum_29 : decode cX9_sum 29 = .ok (.lreturn, 1) := by decide +kernel
theorem dX9_isAllWithin_0 : decode cX9_isAllWithin 0 = .ok (.iconst 0, 1) := by decide +kernel
theorem dX9_isAllWithin_1 : decode cX9_isAllWithin 1 = .ok (.istore_n 3, 1) := by decide +kernel
theorem dX9_isAllWithin_2 : decode cX9_isAllWithin 2 = .ok (.iload_n 3, 1) := by decide +kernel
theorem dX9_isAllWithin_3 : decode cX9_isAllWithin 3 = .ok (.aload_n 0, 1) := by decide +kernel
theorem dX9_isAllWithin_4 : decode cX9_isAllWithin 4 = .ok (.getfield 15, 3) := by decide +kernel
theorem dX9_isAllWithin_7 : decode cX9_isAllWithin 7 = .ok (.if_icmp .ge 25, 3) := by decide +kernel
theorem dX9_isAllWithin_10 : decode cX9_isAllWithin 10 = .ok (.aload_n 0, 1) := by decide +kernel
theorem dX9_isAllWithin_11 : decode cX9_isAllWithin 11 = .ok (.getfield 9, 3) := by decide +kernel
theorem dX9_isAllWithin_14 : decode cX9_isAllWithin 14 = .ok (.iload_n 3, 1) := by decide +kernel
theorem dX9_isAllWithin_15 : decode cX9_isAllWithin 15 = .ok (.iaload, 1) := by decide +kernel
theorem dX9_isAllWithin_16 : decode cX9_isAllWithin 16 = .ok (.iload_n 1, 1) := by decide +kernel
theorem dX9_isAllWithin_17 : decode cX9_isAllWithin 17 = .ok (.iload_n 2, 1) := by decide +kernel
theorem dX9_isAllWithin_18 : decode cX9_isAllWithin 18 = .ok (.invokestatic 29, 3) := by decide +kernel
theorem dX9_isAllWithin_21 : decode cX9_isAllWithin 21 = .ok (.ifCond .ne 5, 3) := by decide +kernel
theorem dX9_isAllWithin_24 : decode cX9_isAllWithin 24 = .ok (.iconst 0, 1) := by decide +kernel
theorem dX9_isAllWithin_25 : decode cX9_isAllWithin 25 = .ok (.ireturn, 1) := by decide +kernel
theorem dX9_isAllWithin_26 : decode cX9_isAllWithin 26 = .ok (.iinc 3 1, 3) := by decide +kernel
theorem dX9_isAllWithin_29 : decode cX9_isAllWithin 29 = .ok (.goto (-27), 3) := by decide +kernel
theorem dX9_isAllWithin_32 : decode cX9_isAllWithin 32 = .ok (.iconst 1, 1) := by decide +kernel
theorem dX9_isAllWithin_33 : decode cX9_isAllWithin 33 = .ok (.ireturn, 1) := by decide +kernel
theorem dX9_addTo_0 : decode cX9_addTo 0 = .ok (.ldc2_w 33, 3) := by decide +kernel
theorem dX9_addTo_3 : decode cX9_addTo 3 = .ok (.lload_n 1, 1) := by decide +kernel
theorem dX9_addTo_4 : decode cX9_addTo 4 = .ok (.lmul, 1) := by decide +kernel
theorem dX9_addTo_5 : decode cX9_addTo 5 = .ok (.aload_n 0, 1) := by decide +kernel
theorem dX9_addTo_6 : decode cX9_addTo 6 = .ok (.getfield 15, 3) := by decide +kernel
theorem dX9_addTo_9 : decode cX9_addTo 9 = .ok (.i2l, 1) := by decide +kernel
theorem dX9_addTo_10 : decode cX9_addTo 10 = .ok (.ladd, 1) := by decide +kernel
theorem dX9_addTo_11 : decode cX9_addTo 11 = .ok (.lstore_n 3, 1) := by decide +kernel
theorem dX9_addTo_12 : decode cX9_addTo 12 = .ok (.iconst 0, 1) := by decide +kernel
theorem dX9_addTo_13 : decode cX9_addTo 13 = .ok (.istore 5, 2) := by decide +kernel
theorem dX9_addTo_15 : decode cX9_addTo 15 = .ok (.iload 5, 2) := by decide +kernel
theorem dX9_addTo_17 : decode cX9_addTo 17 = .ok (.aload_n 0, 1) := by decide +kernel
theorem dX9_addTo_18 : decode cX9_addTo 18 = .ok (.getfield 15, 3) := by decide +kernel
theorem dX9_addTo_21 : decode cX9_addTo 21 = .ok (.if_icmp .ge 24, 3) := by decide +kernel
theorem dX9_addTo_24 : decode cX9_addTo 24 = .ok (.ldc2_w 33, 3) := by decide +kernel
theorem dX9_addTo_27 : decode cX9_addTo 27 = .ok (.lload_n 3, 1) := by decide +kernel
theorem dX9_addTo_28 : decode cX9_addTo 28 = .ok (.lmul, 1) := by decide +kernel
theorem dX9_addTo_29 : decode cX9_addTo 29 = .ok (.aload_n 0, 1) := by decide +kernel
theorem dX9_addTo_30 : decode cX9_addTo 30 = .ok (.getfield 9, 3) := by decide +kernel
theorem dX9_addTo_33 : decode cX9_addTo 33 = .ok (.iload 5, 2) := by decide +kernel
theorem dX9_addTo_35 : decode cX9_addTo 35 = .ok (.iaload, 1) := by decide +kernel
theorem dX9_addTo_36 : decode cX9_addTo 36 = .ok (.i2l, 1) := by decide +kernel
theorem dX9_addTo_37 : decode cX9_addTo 37 = .ok (.ladd, 1) := by decide +kernel
theorem dX9_addTo_38 : decode cX9_addTo 38 = .ok (.lstore_n 3, 1) := by decide +kernel
theorem dX9_addTo_39 : decode cX9_addTo 39 = .ok (.iinc 5 1, 3) := by decide +kernel
theorem dX9_addTo_42 : decode cX9_addTo 42 = .ok (.goto (-27), 3) := by decide +kernel
theorem dX9_addTo_45 : decode cX9_addTo 45 = .ok (.lload_n 3, 1) := by decide +kernel
theorem dX9_addTo_46 : decode cX9_addTo 46 = .ok (.lreturn, 1) := by decide +kernel
theorem dX10_init_0 : decode cX10_init 0 = .ok (.aload_n 0, 1) := by decide +kernel
theorem dX10_init_1 : decode cX10_init 1 = .ok (.invokespecial 3, 3) := by decide +kernel
theorem dX10_init_4 : decode cX10_init 4 = .ok (.aload_n 0, 1) := by decide +kernel
theorem dX10_init_5 : decode cX10_init 5 = .ok (.bipush 96, 2) := by decide +kernel
theorem dX10_init_7 : decode cX10_init 7 = .ok (.newarray .int, 2) := by decide +kernel
theorem dX10_init_9 : decode cX10_init 9 = .ok (.putfield 9, 3) := by decide +kernel
theorem dX10_init_12 : decode cX10_init 12 = .ok (.aload_n 0, 1) := by decide +kernel
theorem dX10_init_13 : decode cX10_init 13 = .ok (.iconst 0, 1) := by decide +kernel
theorem dX10_init_14 : decode cX10_init 14 = .ok (.putfield 15, 3) := by decide +kernel
theorem dX10_init_17 : decode cX10_init 17 = .ok (.aload_n 0, 1) := by decide +kernel
theorem dX10_init_18 : decode cX10_init 18 = .ok (.bipush 8, 2) := by decide +kernel
theorem dX10_init_20 : decode cX10_init 20 = .ok (.newarray .int, 2) := by decide +kernel
theorem dX10_init_22 : decode cX10_init 22 = .ok (.putfield 19, 3) := by decide +kernel
theorem dX10_init_25 : decode cX10_init 25 = .ok (.aload_n 0, 1) := by decide +kernel
theorem dX10_init_26 : decode cX10_init 26 = .ok (.sipush 256, 3) := by decide +kernel
theorem dX10_init_29 : decode cX10_init 29 = .ok (.newarray .int, 2) := by decide +kernel
theorem dX10_init_31 : decode cX10_init 31 = .ok (.putfield 22, 3) := by decide +kernel
theorem dX10_init_34 : decode cX10_init 34 = .ok (.return_, 1) := by decide +kernel
theorem dX10_gather_0 : decode cX10_gather 0 = .ok (.aload_n 0, 1) := by decide +kernel
theorem dX10_gather_1 : decode cX10_gather 1 = .ok (.iconst 0, 1) := by decide +kernel
theorem dX10_gather_2 : decode cX10_gather 2 = .ok (.putfield 15, 3) := by decide +kernel
theorem dX10_gather_5 : decode cX10_gather 5 = .ok (.iconst 0, 1) := by decide +kernel
theorem dX10_gather_6 : decode cX10_gather 6 = .ok (.istore_n 2, 1) := by decide +kernel
theorem dX10_gather_7 : decode cX10_gather 7 = .ok (.iconst 0, 1) := by decide +kernel
theorem dX10_gather_8 : decode cX10_gather 8 = .ok (.istore_n 3, 1) := by decide +kernel
theorem dX10_gather_9 : decode cX10_gather 9 = .ok (.iload_n 3, 1) := by decide +kernel
theorem dX10_gather_10 : decode cX10_gather 10 = .ok (.aload_n 1, 1) := by decide +kernel
theorem dX10_gather_11 : decode cX10_gather 11 = .ok (.getfield 25, 3) := by decide +kernel
theorem dX10_gather_14 : decode cX10_gather 14 = .ok (.if_icmp .ge 86, 3) := by decide +kernel
theorem dX10_gather_17 : decode cX10_gather 17 = .ok (.aload_n 1, 1) := by decide +kernel
theorem dX10_gather_18 : decode cX10_gather 18 = .ok (.getfield 30, 3) := by decide +kernel
theorem dX10_gather_21 : decode cX10_gather 21 = .ok (.iload_n 3, 1) := by decide +kernel
theorem dX10_gather_22 : decode cX10_gather 22 = .ok (.aaload, 1) := by decide +kernel
theorem dX10_gather_23 : decode cX10_gather 23 = .ok (.getfield 34, 3) := by decide +kernel
theorem dX10_gather_26 : decode cX10_gather 26 = .ok (.istore 4, 2) := by decide +kernel
theorem dX10_gather_28 : decode cX10_gather 28 = .ok (.iconst 0, 1) := by decide +kernel
theorem dX10_gather_29 : decode cX10_gather 29 = .ok (.istore 5, 2) := by decide +kernel
theorem dX10_gather_31 : decode cX10_gather 31 = .ok (.iload 5, 2) := by decide +kernel
theorem dX10_gather_33 : decode cX10_gather 33 = .ok (.bipush 8, 2) := by decide +kernel
theorem dX10_gather_35 : decode cX10_gather 35 = .ok (.if_icmp .ge 56, 3) := by decide +kernel
theorem dX10_gather_38 : decode cX10_gather 38 = .ok (.iload 4, 2) := by decide +kernel
theorem dX10_gather_40 : decode cX10_gather 40 = .ok (.iload_n 2, 1) := by decide +kernel
theorem dX10_gather_41 : decode cX10_gather 41 = .ok (.iconst (-1), 1) := by decide +kernel
theorem dX10_gather_42 : decode cX10_gather 42 = .ok (.ixor, 1) := by decide +kernel
theorem dX10_gather_43 : decode cX10_gather 43 = .ok (.iand, 1) := by decide +kernel
theorem dX10_gather_44 : decode cX10_gather 44 = .ok (.iconst 1, 1) := by decide +kernel
theorem dX10_gather_45 : decode cX10_gather 45 = .ok (.iload 5, 2) := by decide +kernel
theorem dX10_gather_47 : decode cX10_gather 47 = .ok (.ishl, 1) := by decide +kernel
theorem dX10_gather_48 : decode cX10_gather 48 = .ok (.iand, 1) := by decide +kernel
theorem dX10_gather_49 : decode cX10_gather 49 = .ok (.ifCond .eq 36, 3) := by decide +kernel
theorem dX10_gather_52 : decode cX10_gather 52 = .ok (.aload_n 0, 1) := by decide +kernel
theorem dX10_gather_53 : decode cX10_gather 53 = .ok (.getfield 15, 3) := by decide +kernel
theorem dX10_gather_56 : decode cX10_gather 56 = .ok (.aload_n 0, 1) := by decide +kernel
theorem dX10_gather_57 : decode cX10_gather 57 = .ok (.getfield 9, 3) := by decide +kernel
theorem dX10_gather_60 : decode cX10_gather 60 = .ok (.arraylength, 1) := by decide +kernel
theorem dX10_gather_61 : decode cX10_gather 61 = .ok (.if_icmp .ge 24, 3) := by decide +kernel
theorem dX10_gather_64 : decode cX10_gather 64 = .ok (.aload_n 0, 1) := by decide +kernel
theorem dX10_gather_65 : decode cX10_gather 65 = .ok (.getfield 9, 3) := by decide +kernel
theorem dX10_gather_68 : decode cX10_gather 68 = .ok (.aload_n 0, 1) := by decide +kernel
theorem dX10_gather_69 : decode cX10_gather 69 = .ok (.getfield 15, 3) := by decide +kernel
theorem dX10_gather_72 : decode cX10_gather 72 = .ok (.iload 5, 2) := by decide +kernel
theorem dX10_gather_74 : decode cX10_gather 74 = .ok (.iastore, 1) := by decide +kernel
theorem dX10_gather_75 : decode cX10_gather 75 = .ok (.aload_n 0, 1) := by decide +kernel
theorem dX10_gather_76 : decode cX10_gather 76 = .ok (.dup, 1) := by decide +kernel
theorem dX10_gather_77 : decode cX10_gather 77 = .ok (.getfield 15, 3) := by decide +kernel
theorem dX10_gather_80 : decode cX10_gather 80 = .ok (.iconst 1, 1) := by decide +kernel
theorem dX10_gather_81 : decode cX10_gather 81 = .ok (.iadd, 1) := by decide +kernel
theorem dX10_gather_82 : decode cX10_gather 82 = .ok (.putfield 15, 3) := by decide +kernel
theorem dX10_gather_85 : decode cX10_gather 85 = .ok (.iinc 5 1, 3) := by decide +kernel
theorem dX10_gather_88 : decode cX10_gather 88 = .ok (.goto (-57), 3) := by decide +kernel
theorem dX10_gather_91 : decode cX10_gather 91 = .ok (.iload 4, 2) := by decide +kernel
theorem dX10_gather_93 : decode cX10_gather 93 = .ok (.istore_n 2, 1) := by decide +kernel
theorem dX10_gather_94 : decode cX10_gather 94 = .ok (.iinc 3 1, 3) := by decide +kernel
theorem dX10_gather_97 : decode cX10_gather 97 = .ok (.goto (-88), 3) := by decide +kernel
theorem dX10_gather_100 : decode cX10_gather 100 = .ok (.return_, 1) := by decide +kernel
theorem dX10_last_0 : decode cX10_last 0 = .ok (.aload_n 0, 1) := by decide +kernel
theorem dX10_last_1 : decode cX10_last 1 = .ok (.getfield 15, 3) := by decide +kernel
theorem dX10_last_4 : decode cX10_last 4 = .ok (.ifCond .le 17, 3) := by decide +kernel
theorem dX10_last_7 : decode cX10_last 7 = .ok (.aload_n 0, 1) := by decide +kernel
theorem dX10_last_8 : decode cX10_last 8 = .ok (.getfield 9, 3) := by decide +kernel
theorem dX10_last_11 : decode cX10_last 11 = .ok (.aload_n 0, 1) := by decide +kernel
theorem dX10_last_12 : decode cX10_last 12 = .ok (.getfield 15, 3) := by decide +kernel
theorem dX10_last_15 : decode cX10_last 15 = .ok (.iconst 1, 1) := by decide +kernel
theorem dX10_last_16 : decode cX10_last 16 = .ok (.isub, 1) := by decide +kernel
theorem dX10_last_17 : decode cX10_last 17 = .ok (.iaload, 1) := by decide +kernel
theorem dX10_last_18 : decode cX10_last 18 = .ok (.goto 5, 3) := by decide +kernel
theorem dX10_last_21 : decode cX10_last 21 = .ok (.bipush (-9), 2) := by decide +kernel
theorem dX10_last_23 : decode cX10_last 23 = .ok (.ireturn, 1) := by decide +kernel
theorem dX10_putInOrder_0 : decode cX10_putInOrder 0 = .ok (.iload_n 2, 1) := by decide +kernel
theorem dX10_putInOrder_1 : decode cX10_putInOrder 1 = .ok (.istore_n 3, 1) := by decide +kernel
theorem dX10_putInOrder_2 : decode cX10_putInOrder 2 = .ok (.iconst 0, 1) := by decide +kernel
theorem dX10_putInOrder_3 : decode cX10_putInOrder 3 = .ok (.istore 4, 2) := by decide +kernel
theorem dX10_putInOrder_5 : decode cX10_putInOrder 5 = .ok (.iload 4, 2) := by decide +kernel
theorem dX10_putInOrder_7 : decode cX10_putInOrder 7 = .ok (.aload_n 1, 1) := by decide +kernel
theorem dX10_putInOrder_8 : decode cX10_putInOrder 8 = .ok (.getfield 39, 3) := by decide +kernel
theorem dX10_putInOrder_11 : decode cX10_putInOrder 11 = .ok (.if_icmp .ge 56, 3) := by decide +kernel
theorem dX10_putInOrder_14 : decode cX10_putInOrder 14 = .ok (.aload_n 1, 1) := by decide +kernel
theorem dX10_putInOrder_15 : decode cX10_putInOrder 15 = .ok (.iload 4, 2) := by decide +kernel
theorem dX10_putInOrder_17 : decode cX10_putInOrder 17 = .ok (.invokevirtual 42, 3) := by decide +kernel
theorem dX10_putInOrder_20 : decode cX10_putInOrder 20 = .ok (.istore 5, 2) := by decide +kernel
theorem dX10_putInOrder_22 : decode cX10_putInOrder 22 = .ok (.iload 5, 2) := by decide +kernel
theorem dX10_putInOrder_24 : decode cX10_putInOrder 24 = .ok (.bipush 8, 2) := by decide +kernel
theorem dX10_putInOrder_26 : decode cX10_putInOrder 26 = .ok (.invokestatic 46, 3) := by decide +kernel
theorem dX10_putInOrder_29 : decode cX10_putInOrder 29 = .ok (.ifCond .ne 12, 3) := by decide +kernel
theorem dX10_putInOrder_32 : decode cX10_putInOrder 32 = .ok (.iload_n 3, 1) := by decide +kernel
theorem dX10_putInOrder_33 : decode cX10_putInOrder 33 = .ok (.iload 5, 2) := by decide +kernel
theorem dX10_putInOrder_35 : decode cX10_putInOrder 35 = .ok (.ishr, 1) := by decide +kernel
theorem dX10_putInOrder_36 : decode cX10_putInOrder 36 = .ok (.iconst 1, 1) := by decide +kernel
theorem dX10_putInOrder_37 : decode cX10_putInOrder 37 = .ok (.iand, 1) := by decide +kernel
theorem dX10_putInOrder_38 : decode cX10_putInOrder 38 = .ok (.ifCond .ne 5, 3) := by decide +kernel
theorem dX10_putInOrder_41 : decode cX10_putInOrder 41 = .ok (.iconst 0, 1) := by decide +kernel
theorem dX10_putInOrder_42 : decode cX10_putInOrder 42 = .ok (.ireturn, 1) := by decide +kernel
theorem dX10_putInOrder_43 : decode cX10_putInOrder 43 = .ok (.iload_n 3, 1) := by decide +kernel
theorem dX10_putInOrder_44 : decode cX10_putInOrder 44 = .ok (.iconst 1, 1) := by decide +kernel
theorem dX10_putInOrder_45 : decode cX10_putInOrder 45 = .ok (.iload 5, 2) := by decide +kernel
theorem dX10_putInOrder_47 : decode cX10_putInOrder 47 = .ok (.ishl, 1) := by decide +kernel
theorem dX10_putInOrder_48 : decode cX10_putInOrder 48 = .ok (.iconst (-1), 1) := by decide +kernel
theorem dX10_putInOrder_49 : decode cX10_putInOrder 49 = .ok (.ixor, 1) := by decide +kernel
theorem dX10_putInOrder_50 : decode cX10_putInOrder 50 = .ok (.iand, 1) := by decide +kernel
theorem dX10_putInOrder_51 : decode cX10_putInOrder 51 = .ok (.istore_n 3, 1) := by decide +kernel
theorem dX10_putInOrder_52 : decode cX10_putInOrder 52 = .ok (.aload_n 0, 1) := by decide +kernel
theorem dX10_putInOrder_53 : decode cX10_putInOrder 53 = .ok (.getfield 19, 3) := by decide +kernel
theorem dX10_putInOrder_56 : decode cX10_putInOrder 56 = .ok (.iload 5, 2) := by decide +kernel
theorem dX10_putInOrder_58 : decode cX10_putInOrder 58 = .ok (.iload 4, 2) := by decide +kernel
theorem dX10_putInOrder_60 : decode cX10_putInOrder 60 = .ok (.iastore, 1) := by decide +kernel
theorem dX10_putInOrder_61 : decode cX10_putInOrder 61 = .ok (.iinc 4 1, 3) := by decide +kernel
theorem dX10_putInOrder_64 : decode cX10_putInOrder 64 = .ok (.goto (-59), 3) := by decide +kernel
theorem dX10_putInOrder_67 : decode cX10_putInOrder 67 = .ok (.iload_n 3, 1) := by decide +kernel
theorem dX10_putInOrder_68 : decode cX10_putInOrder 68 = .ok (.ifCond .ne 7, 3) := by decide +kernel
theorem dX10_putInOrder_71 : decode cX10_putInOrder 71 = .ok (.iconst 1, 1) := by decide +kernel
theorem dX10_putInOrder_72 : decode cX10_putInOrder 72 = .ok (.goto 4, 3) := by decide +kernel
theorem dX10_putInOrder_75 : decode cX10_putInOrder 75 = .ok (.iconst 0, 1) := by decide +kernel
theorem dX10_putInOrder_76 : decode cX10_putInOrder 76 = .ok (.ireturn, 1) := by decide +kernel
theorem dX10_reach_0 : decode cX10_reach 0 = .ok (.iconst 0, 1) := by decide +kernel
theorem dX10_reach_1 : decode cX10_reach 1 = .ok (.istore_n 1, 1) := by decide +kernel
theorem dX10_reach_2 : decode cX10_reach 2 = .ok (.iconst 0, 1) := by decide +kernel
theorem dX10_reach_3 : decode cX10_reach 3 = .ok (.istore_n 2, 1) := by decide +kernel
theorem dX10_reach_4 : decode cX10_reach 4 = .ok (.iconst 0, 1) := by decide +kernel
theorem dX10_reach_5 : decode cX10_reach 5 = .ok (.istore_n 3, 1) := by decide +kernel
theorem dX10_reach_6 : decode cX10_reach 6 = .ok (.iload_n 3, 1) := by decide +kernel
theorem dX10_reach_7 : decode cX10_reach 7 = .ok (.aload_n 0, 1) := by decide +kernel
theorem dX10_reach_8 : decode cX10_reach 8 = .ok (.getfield 15, 3) := by decide +kernel
theorem dX10_reach_11 : decode cX10_reach 11 = .ok (.if_icmp .ge 35, 3) := by decide +kernel
theorem dX10_reach_14 : decode cX10_reach 14 = .ok (.aload_n 0, 1) := by decide +kernel
theorem dX10_reach_15 : decode cX10_reach 15 = .ok (.getfield 19, 3) := by decide +kernel
theorem dX10_reach_18 : decode cX10_reach 18 = .ok (.aload_n 0, 1) := by decide +kernel
theorem dX10_reach_19 : decode cX10_reach 19 = .ok (.getfield 9, 3) := by decide +kernel
theorem dX10_reach_22 : decode cX10_reach 22 = .ok (.iload_n 3, 1) := by decide +kernel
theorem dX10_reach_23 : decode cX10_reach 23 = .ok (.iaload, 1) := by decide +kernel
theorem dX10_reach_24 : decode cX10_reach 24 = .ok (.iaload, 1) := by decide +kernel
theorem dX10_reach_25 : decode cX10_reach 25 = .ok (.istore 4, 2) := by decide +kernel
theorem dX10_reach_27 : decode cX10_reach 27 = .ok (.iload_n 1, 1) := by decide +kernel
theorem dX10_reach_28 : decode cX10_reach 28 = .ok (.iload 4, 2) := by decide +kernel
theorem dX10_reach_30 : decode cX10_reach 30 = .ok (.iload_n 2, 1) := by decide +kernel
theorem dX10_reach_31 : decode cX10_reach 31 = .ok (.isub, 1) := by decide +kernel
theorem dX10_reach_32 : decode cX10_reach 32 = .ok (.invokestatic 50, 3) := by decide +kernel
theorem dX10_reach_35 : decode cX10_reach 35 = .ok (.iadd, 1) := by decide +kernel
theorem dX10_reach_36 : decode cX10_reach 36 = .ok (.istore_n 1, 1) := by decide +kernel
theorem dX10_reach_37 : decode cX10_reach 37 = .ok (.iload 4, 2) := by decide +kernel
theorem dX10_reach_39 : decode cX10_reach 39 = .ok (.istore_n 2, 1) := by decide +kernel
theorem dX10_reach_40 : decode cX10_reach 40 = .ok (.iinc 3 1, 3) := by decide +kernel
theorem dX10_reach_43 : decode cX10_reach 43 = .ok (.goto (-37), 3) := by decide +kernel
theorem dX10_reach_46 : decode cX10_reach 46 = .ok (.iload_n 1, 1) := by decide +kernel
theorem dX10_reach_47 : decode cX10_reach 47 = .ok (.ireturn, 1) := by decide +kernel
theorem dX10_leastReach_0 : decode cX10_leastReach 0 = .ok (.iload_n 1, 1) := by decide +kernel
theorem dX10_leastReach_1 : decode cX10_leastReach 1 = .ok (.istore_n 3, 1) := by decide +kernel
theorem dX10_leastReach_2 : decode cX10_leastReach 2 = .ok (.iload_n 3, 1) := by decide +kernel
theorem dX10_leastReach_3 : decode cX10_leastReach 3 = .ok (.ifCond .le 35, 3) := by decide +kernel
theorem dX10_leastReach_6 : decode cX10_leastReach 6 = .ok (.iload_n 3, 1) := by decide +kernel
theorem dX10_leastReach_7 : decode cX10_leastReach 7 = .ok (.iload_n 1, 1) := by decide +kernel
theorem dX10_leastReach_8 : decode cX10_leastReach 8 = .ok (.iconst (-1), 1) := by decide +kernel
theorem dX10_leastReach_9 : decode cX10_leastReach 9 = .ok (.ixor, 1) := by decide +kernel
theorem dX10_leastReach_10 : decode cX10_leastReach 10 = .ok (.iand, 1) := by decide +kernel
theorem dX10_leastReach_11 : decode cX10_leastReach 11 = .ok (.ifCond .ne 21, 3) := by decide +kernel
theorem dX10_leastReach_14 : decode cX10_leastReach 14 = .ok (.aload_n 0, 1) := by decide +kernel
theorem dX10_leastReach_15 : decode cX10_leastReach 15 = .ok (.getfield 22, 3) := by decide +kernel
theorem dX10_leastReach_18 : decode cX10_leastReach 18 = .ok (.iload_n 3, 1) := by decide +kernel
theorem dX10_leastReach_19 : decode cX10_leastReach 19 = .ok (.aload_n 0, 1) := by decide +kernel
theorem dX10_leastReach_20 : decode cX10_leastReach 20 = .ok (.iload_n 3, 1) := by decide +kernel
theorem dX10_leastReach_21 : decode cX10_leastReach 21 = .ok (.invokevirtual 55, 3) := by decide +kernel
theorem dX10_leastReach_24 : decode cX10_leastReach 24 = .ok (.aload_n 0, 1) := by decide +kernel
theorem dX10_leastReach_25 : decode cX10_leastReach 25 = .ok (.iload_n 3, 1) := by decide +kernel
theorem dX10_leastReach_26 : decode cX10_leastReach 26 = .ok (.iload_n 1, 1) := by decide +kernel
theorem dX10_leastReach_27 : decode cX10_leastReach 27 = .ok (.invokevirtual 58, 3) := by decide +kernel
theorem dX10_leastReach_30 : decode cX10_leastReach 30 = .ok (.iadd, 1) := by decide +kernel
theorem dX10_leastReach_31 : decode cX10_leastReach 31 = .ok (.iastore, 1) := by decide +kernel
theorem dX10_leastReach_32 : decode cX10_leastReach 32 = .ok (.iinc 3 (-1), 3) := by decide +kernel
theorem dX10_leastReach_35 : decode cX10_leastReach 35 = .ok (.goto (-33), 3) := by decide +kernel
theorem dX10_leastReach_38 : decode cX10_leastReach 38 = .ok (.aload_n 2, 1) := by decide +kernel
theorem dX10_leastReach_39 : decode cX10_leastReach 39 = .ok (.iload_n 1, 1) := by decide +kernel
theorem dX10_leastReach_40 : decode cX10_leastReach 40 = .ok (.invokestatic 62, 3) := by decide +kernel
theorem dX10_leastReach_43 : decode cX10_leastReach 43 = .ok (.iconst 0, 1) := by decide +kernel
theorem dX10_leastReach_44 : decode cX10_leastReach 44 = .ok (.invokevirtual 67, 3) := by decide +kernel
theorem dX10_leastReach_47 : decode cX10_leastReach 47 = .ok (.iconst 0, 1) := by decide +kernel
theorem dX10_leastReach_48 : decode cX10_leastReach 48 = .ok (.istore_n 3, 1) := by decide +kernel
theorem dX10_leastReach_49 : decode cX10_leastReach 49 = .ok (.iconst 0, 1) := by decide +kernel
theorem dX10_leastReach_50 : decode cX10_leastReach 50 = .ok (.istore 4, 2) := by decide +kernel
theorem dX10_leastReach_52 : decode cX10_leastReach 52 = .ok (.iload 4, 2) := by decide +kernel
theorem dX10_leastReach_54 : decode cX10_leastReach 54 = .ok (.aload_n 2, 1) := by decide +kernel
theorem dX10_leastReach_55 : decode cX10_leastReach 55 = .ok (.getfield 39, 3) := by decide +kernel
theorem dX10_leastReach_58 : decode cX10_leastReach 58 = .ok (.if_icmp .ge 38, 3) := by decide +kernel
theorem dX10_leastReach_61 : decode cX10_leastReach 61 = .ok (.aload_n 0, 1) := by decide +kernel
theorem dX10_leastReach_62 : decode cX10_leastReach 62 = .ok (.iload_n 3, 1) := by decide +kernel
theorem dX10_leastReach_63 : decode cX10_leastReach 63 = .ok (.iload_n 1, 1) := by decide +kernel
theorem dX10_leastReach_64 : decode cX10_leastReach 64 = .ok (.aload_n 0, 1) := by decide +kernel
theorem dX10_leastReach_65 : decode cX10_leastReach 65 = .ok (.iload_n 3, 1) := by decide +kernel
theorem dX10_leastReach_66 : decode cX10_leastReach 66 = .ok (.iload_n 1, 1) := by decide +kernel
theorem dX10_leastReach_67 : decode cX10_leastReach 67 = .ok (.invokevirtual 58, 3) := by decide +kernel
theorem dX10_leastReach_70 : decode cX10_leastReach 70 = .ok (.invokevirtual 71, 3) := by decide +kernel
theorem dX10_leastReach_73 : decode cX10_leastReach 73 = .ok (.istore 5, 2) := by decide +kernel
theorem dX10_leastReach_75 : decode cX10_leastReach 75 = .ok (.aload_n 2, 1) := by decide +kernel
theorem dX10_leastReach_76 : decode cX10_leastReach 76 = .ok (.iload 4, 2) := by decide +kernel
theorem dX10_leastReach_78 : decode cX10_leastReach 78 = .ok (.iload 5, 2) := by decide +kernel
theorem dX10_leastReach_80 : decode cX10_leastReach 80 = .ok (.invokevirtual 75, 3) := by decide +kernel
theorem dX10_leastReach_83 : decode cX10_leastReach 83 = .ok (.iload_n 3, 1) := by decide +kernel
theorem dX10_leastReach_84 : decode cX10_leastReach 84 = .ok (.iconst 1, 1) := by decide +kernel
theorem dX10_leastReach_85 : decode cX10_leastReach 85 = .ok (.iload 5, 2) := by decide +kernel
theorem dX10_leastReach_87 : decode cX10_leastReach 87 = .ok (.ishl, 1) := by decide +kernel
theorem dX10_leastReach_88 : decode cX10_leastReach 88 = .ok (.ior, 1) := by decide +kernel
theorem dX10_leastReach_89 : decode cX10_leastReach 89 = .ok (.istore_n 3, 1) := by decide +kernel
theorem dX10_leastReach_90 : decode cX10_leastReach 90 = .ok (.iinc 4 1, 3) := by decide +kernel
theorem dX10_leastReach_93 : decode cX10_leastReach 93 = .ok (.goto (-41), 3) := by decide +kernel
theorem dX10_leastReach_96 : decode cX10_leastReach 96 = .ok (.aload_n 0, 1) := by decide +kernel
theorem dX10_leastReach_97 : decode cX10_leastReach 97 = .ok (.iconst 0, 1) := by decide +kernel
theorem dX10_leastReach_98 : decode cX10_leastReach 98 = .ok (.iload_n 1, 1) := by decide +kernel
theorem dX10_leastReach_99 : decode cX10_leastReach 99 = .ok (.invokevirtual 58, 3) := by decide +kernel
theorem dX10_leastReach_102 : decode cX10_leastReach 102 = .ok (.ireturn, 1) := by decide +kernel
theorem dX10_passedOver_0 : decode cX10_passedOver 0 = .ok (.iconst 0, 1) := by decide +kernel
theorem dX10_passedOver_1 : decode cX10_passedOver 1 = .ok (.istore_n 2, 1) := by decide +kernel
theorem dX10_passedOver_2 : decode cX10_passedOver 2 = .ok (.iconst 1, 1) := by decide +kernel
theorem dX10_passedOver_3 : decode cX10_passedOver 3 = .ok (.istore_n 3, 1) := by decide +kernel
theorem dX10_passedOver_4 : decode cX10_passedOver 4 = .ok (.iconst 0, 1) := by decide +kernel
theorem dX10_passedOver_5 : decode cX10_passedOver 5 = .ok (.istore 4, 2) := by decide +kernel
theorem dX10_passedOver_7 : decode cX10_passedOver 7 = .ok (.iload 4, 2) := by decide +kernel
theorem dX10_passedOver_9 : decode cX10_passedOver 9 = .ok (.aload_n 0, 1) := by decide +kernel
theorem dX10_passedOver_10 : decode cX10_passedOver 10 = .ok (.getfield 15, 3) := by decide +kernel
theorem dX10_passedOver_13 : decode cX10_passedOver 13 = .ok (.if_icmp .ge 32, 3) := by decide +kernel
theorem dX10_passedOver_16 : decode cX10_passedOver 16 = .ok (.iload_n 1, 1) := by decide +kernel
theorem dX10_passedOver_17 : decode cX10_passedOver 17 = .ok (.aload_n 0, 1) := by decide +kernel
theorem dX10_passedOver_18 : decode cX10_passedOver 18 = .ok (.getfield 9, 3) := by decide +kernel
theorem dX10_passedOver_21 : decode cX10_passedOver 21 = .ok (.iload 4, 2) := by decide +kernel
theorem dX10_passedOver_23 : decode cX10_passedOver 23 = .ok (.iaload, 1) := by decide +kernel
theorem dX10_passedOver_24 : decode cX10_passedOver 24 = .ok (.ishr, 1) := by decide +kernel
theorem dX10_passedOver_25 : decode cX10_passedOver 25 = .ok (.iconst 1, 1) := by decide +kernel
theorem dX10_passedOver_26 : decode cX10_passedOver 26 = .ok (.iand, 1) := by decide +kernel
theorem dX10_passedOver_27 : decode cX10_passedOver 27 = .ok (.istore 5, 2) := by decide +kernel
theorem dX10_passedOver_29 : decode cX10_passedOver 29 = .ok (.iload_n 2, 1) := by decide +kernel
theorem dX10_passedOver_30 : decode cX10_passedOver 30 = .ok (.iload_n 3, 1) := by decide +kernel
theorem dX10_passedOver_31 : decode cX10_passedOver 31 = .ok (.iload 5, 2) := by decide +kernel
theorem dX10_passedOver_33 : decode cX10_passedOver 33 = .ok (.ixor, 1) := by decide +kernel
theorem dX10_passedOver_34 : decode cX10_passedOver 34 = .ok (.iadd, 1) := by decide +kernel
theorem dX10_passedOver_35 : decode cX10_passedOver 35 = .ok (.istore_n 2, 1) := by decide +kernel
theorem dX10_passedOver_36 : decode cX10_passedOver 36 = .ok (.iload 5, 2) := by decide +kernel
theorem dX10_passedOver_38 : decode cX10_passedOver 38 = .ok (.istore_n 3, 1) := by decide +kernel
theorem dX10_passedOver_39 : decode cX10_passedOver 39 = .ok (.iinc 4 1, 3) := by decide +kernel
theorem dX10_passedOver_42 : decode cX10_passedOver 42 = .ok (.goto (-35), 3) := by decide +kernel
theorem dX10_passedOver_45 : decode cX10_passedOver 45 = .ok (.iload_n 2, 1) := by decide +kernel
theorem dX10_passedOver_46 : decode cX10_passedOver 46 = .ok (.ireturn, 1) := by decide +kernel
theorem dX10_leastFrom_0 : decode cX10_leastFrom 0 = .ok (.bipush (-9), 2) := by decide +kernel
theorem dX10_leastFrom_2 : decode cX10_leastFrom 2 = .ok (.istore_n 3, 1) := by decide +kernel
theorem dX10_leastFrom_3 : decode cX10_leastFrom 3 = .ok (.iconst 0, 1) := by decide +kernel
theorem dX10_leastFrom_4 : decode cX10_leastFrom 4 = .ok (.istore 4, 2) := by decide +kernel
theorem dX10_leastFrom_6 : decode cX10_leastFrom 6 = .ok (.iload 4, 2) := by decide +kernel
theorem dX10_leastFrom_8 : decode cX10_leastFrom 8 = .ok (.bipush 8, 2) := by decide +kernel
theorem dX10_leastFrom_10 : decode cX10_leastFrom 10 = .ok (.if_icmp .ge 63, 3) := by decide +kernel
theorem dX10_leastFrom_13 : decode cX10_leastFrom 13 = .ok (.iload_n 1, 1) := by decide +kernel
theorem dX10_leastFrom_14 : decode cX10_leastFrom 14 = .ok (.iconst 1, 1) := by decide +kernel
theorem dX10_leastFrom_15 : decode cX10_leastFrom 15 = .ok (.iload 4, 2) := by decide +kernel
theorem dX10_leastFrom_17 : decode cX10_leastFrom 17 = .ok (.ishl, 1) := by decide +kernel
theorem dX10_leastFrom_18 : decode cX10_leastFrom 18 = .ok (.ior, 1) := by decide +kernel
theorem dX10_leastFrom_19 : decode cX10_leastFrom 19 = .ok (.istore 5, 2) := by decide +kernel
theorem dX10_leastFrom_21 : decode cX10_leastFrom 21 = .ok (.iload_n 2, 1) := by decide +kernel
theorem dX10_leastFrom_22 : decode cX10_leastFrom 22 = .ok (.iload_n 1, 1) := by decide +kernel
theorem dX10_leastFrom_23 : decode cX10_leastFrom 23 = .ok (.iconst (-1), 1) := by decide +kernel
theorem dX10_leastFrom_24 : decode cX10_leastFrom 24 = .ok (.ixor, 1) := by decide +kernel
theorem dX10_leastFrom_25 : decode cX10_leastFrom 25 = .ok (.iand, 1) := by decide +kernel
theorem dX10_leastFrom_26 : decode cX10_leastFrom 26 = .ok (.iconst 1, 1) := by decide +kernel
theorem dX10_leastFrom_27 : decode cX10_leastFrom 27 = .ok (.iload 4, 2) := by decide +kernel
theorem dX10_leastFrom_29 : decode cX10_leastFrom 29 = .ok (.ishl, 1) := by decide +kernel
theorem dX10_leastFrom_30 : decode cX10_leastFrom 30 = .ok (.iand, 1) := by decide +kernel
theorem dX10_leastFrom_31 : decode cX10_leastFrom 31 = .ok (.ifCond .eq 36, 3) := by decide +kernel
theorem dX10_leastFrom_34 : decode cX10_leastFrom 34 = .ok (.iload 5, 2) := by decide +kernel
theorem dX10_leastFrom_36 : decode cX10_leastFrom 36 = .ok (.invokestatic 78, 3) := by decide +kernel
theorem dX10_leastFrom_39 : decode cX10_leastFrom 39 = .ok (.ifCond .eq 28, 3) := by decide +kernel
theorem dX10_leastFrom_42 : decode cX10_leastFrom 42 = .ok (.iload_n 3, 1) := by decide +kernel
theorem dX10_leastFrom_43 : decode cX10_leastFrom 43 = .ok (.bipush (-9), 2) := by decide +kernel
theorem dX10_leastFrom_45 : decode cX10_leastFrom 45 = .ok (.if_icmp .eq 14, 3) := by decide +kernel
theorem dX10_leastFrom_48 : decode cX10_leastFrom 48 = .ok (.aload_n 0, 1) := by decide +kernel
theorem dX10_leastFrom_49 : decode cX10_leastFrom 49 = .ok (.getfield 22, 3) := by decide +kernel
theorem dX10_leastFrom_52 : decode cX10_leastFrom 52 = .ok (.iload 5, 2) := by decide +kernel
theorem dX10_leastFrom_54 : decode cX10_leastFrom 54 = .ok (.iaload, 1) := by decide +kernel
theorem dX10_leastFrom_55 : decode cX10_leastFrom 55 = .ok (.iload_n 3, 1) := by decide +kernel
theorem dX10_leastFrom_56 : decode cX10_leastFrom 56 = .ok (.if_icmp .ge 11, 3) := by decide +kernel
theorem dX10_leastFrom_59 : decode cX10_leastFrom 59 = .ok (.aload_n 0, 1) := by decide +kernel
theorem dX10_leastFrom_60 : decode cX10_leastFrom 60 = .ok (.getfield 22, 3) := by decide +kernel
theorem dX10_leastFrom_63 : decode cX10_leastFrom 63 = .ok (.iload 5, 2) := by decide +kernel
theorem dX10_leastFrom_65 : decode cX10_leastFrom 65 = .ok (.iaload, 1) := by decide +kernel
theorem dX10_leastFrom_66 : decode cX10_leastFrom 66 = .ok (.istore_n 3, 1) := by decide +kernel
theorem dX10_leastFrom_67 : decode cX10_leastFrom 67 = .ok (.iinc 4 1, 3) := by decide +kernel
theorem dX10_leastFrom_70 : decode cX10_leastFrom 70 = .ok (.goto (-64), 3) := by decide +kernel
theorem dX10_leastFrom_73 : decode cX10_leastFrom 73 = .ok (.iload_n 3, 1) := by decide +kernel
theorem dX10_leastFrom_74 : decode cX10_leastFrom 74 = .ok (.bipush (-9), 2) := by decide +kernel
theorem dX10_leastFrom_76 : decode cX10_leastFrom 76 = .ok (.if_icmp .ne 7, 3) := by decide +kernel
theorem dX10_leastFrom_79 : decode cX10_leastFrom 79 = .ok (.iconst 0, 1) := by decide +kernel
theorem dX10_leastFrom_80 : decode cX10_leastFrom 80 = .ok (.goto 4, 3) := by decide +kernel
theorem dX10_leastFrom_83 : decode cX10_leastFrom 83 = .ok (.iload_n 3, 1) := by decide +kernel
theorem dX10_leastFrom_84 : decode cX10_leastFrom 84 = .ok (.ireturn, 1) := by decide +kernel
theorem dX10_firstLeast_0 : decode cX10_firstLeast 0 = .ok (.iconst 0, 1) := by decide +kernel
theorem dX10_firstLeast_1 : decode cX10_firstLeast 1 = .ok (.istore 4, 2) := by decide +kernel
theorem dX10_firstLeast_3 : decode cX10_firstLeast 3 = .ok (.iload 4, 2) := by decide +kernel
theorem dX10_firstLeast_5 : decode cX10_firstLeast 5 = .ok (.bipush 8, 2) := by decide +kernel
theorem dX10_firstLeast_7 : decode cX10_firstLeast 7 = .ok (.if_icmp .ge 52, 3) := by decide +kernel
theorem dX10_firstLeast_10 : decode cX10_firstLeast 10 = .ok (.iload_n 1, 1) := by decide +kernel
theorem dX10_firstLeast_11 : decode cX10_firstLeast 11 = .ok (.iconst 1, 1) := by decide +kernel
theorem dX10_firstLeast_12 : decode cX10_firstLeast 12 = .ok (.iload 4, 2) := by decide +kernel
theorem dX10_firstLeast_14 : decode cX10_firstLeast 14 = .ok (.ishl, 1) := by decide +kernel
theorem dX10_firstLeast_15 : decode cX10_firstLeast 15 = .ok (.ior, 1) := by decide +kernel
theorem dX10_firstLeast_16 : decode cX10_firstLeast 16 = .ok (.istore 5, 2) := by decide +kernel
theorem dX10_firstLeast_18 : decode cX10_firstLeast 18 = .ok (.iload_n 2, 1) := by decide +kernel
theorem dX10_firstLeast_19 : decode cX10_firstLeast 19 = .ok (.iload_n 1, 1) := by decide +kernel
theorem dX10_firstLeast_20 : decode cX10_firstLeast 20 = .ok (.iconst (-1), 1) := by decide +kernel
theorem dX10_firstLeast_21 : decode cX10_firstLeast 21 = .ok (.ixor, 1) := by decide +kernel
theorem dX10_firstLeast_22 : decode cX10_firstLeast 22 = .ok (.iand, 1) := by decide +kernel
theorem dX10_firstLeast_23 : decode cX10_firstLeast 23 = .ok (.iconst 1, 1) := by decide +kernel
theorem dX10_firstLeast_24 : decode cX10_firstLeast 24 = .ok (.iload 4, 2) := by decide +kernel
theorem dX10_firstLeast_26 : decode cX10_firstLeast 26 = .ok (.ishl, 1) := by decide +kernel
theorem dX10_firstLeast_27 : decode cX10_firstLeast 27 = .ok (.iand, 1) := by decide +kernel
theorem dX10_firstLeast_28 : decode cX10_firstLeast 28 = .ok (.ifCond .eq 25, 3) := by decide +kernel
theorem dX10_firstLeast_31 : decode cX10_firstLeast 31 = .ok (.iload 5, 2) := by decide +kernel
theorem dX10_firstLeast_33 : decode cX10_firstLeast 33 = .ok (.invokestatic 78, 3) := by decide +kernel
theorem dX10_firstLeast_36 : decode cX10_firstLeast 36 = .ok (.ifCond .eq 17, 3) := by decide +kernel
theorem dX10_firstLeast_39 : decode cX10_firstLeast 39 = .ok (.aload_n 0, 1) := by decide +kernel
theorem dX10_firstLeast_40 : decode cX10_firstLeast 40 = .ok (.getfield 22, 3) := by decide +kernel
theorem dX10_firstLeast_43 : decode cX10_firstLeast 43 = .ok (.iload 5, 2) := by decide +kernel
theorem dX10_firstLeast_45 : decode cX10_firstLeast 45 = .ok (.iaload, 1) := by decide +kernel
theorem dX10_firstLeast_46 : decode cX10_firstLeast 46 = .ok (.iload_n 3, 1) := by decide +kernel
theorem dX10_firstLeast_47 : decode cX10_firstLeast 47 = .ok (.if_icmp .ne 6, 3) := by decide +kernel
theorem dX10_firstLeast_50 : decode cX10_firstLeast 50 = .ok (.iload 4, 2) := by decide +kernel
theorem dX10_firstLeast_52 : decode cX10_firstLeast 52 = .ok (.ireturn, 1) := by decide +kernel
theorem dX10_firstLeast_53 : decode cX10_firstLeast 53 = .ok (.iinc 4 1, 3) := by decide +kernel
theorem dX10_firstLeast_56 : decode cX10_firstLeast 56 = .ok (.goto (-53), 3) := by decide +kernel
theorem dX10_firstLeast_59 : decode cX10_firstLeast 59 = .ok (.iconst 0, 1) := by decide +kernel
theorem dX10_firstLeast_60 : decode cX10_firstLeast 60 = .ok (.ireturn, 1) := by decide +kernel
theorem dX10_isReached_0 : decode cX10_isReached 0 = .ok (.iload_n 0, 1) := by decide +kernel
theorem dX10_isReached_1 : decode cX10_isReached 1 = .ok (.ifCond .lt 14, 3) := by decide +kernel
theorem dX10_isReached_4 : decode cX10_isReached 4 = .ok (.iload_n 0, 1) := by decide +kernel
theorem dX10_isReached_5 : decode cX10_isReached 5 = .ok (.sipush 256, 3) := by decide +kernel
theorem dX10_isReached_8 : decode cX10_isReached 8 = .ok (.if_icmp .ge 7, 3) := by decide +kernel
theorem dX10_isReached_11 : decode cX10_isReached 11 = .ok (.iconst 1, 1) := by decide +kernel
theorem dX10_isReached_12 : decode cX10_isReached 12 = .ok (.goto 4, 3) := by decide +kernel
theorem dX10_isReached_15 : decode cX10_isReached 15 = .ok (.iconst 0, 1) := by decide +kernel
theorem dX10_isReached_16 : decode cX10_isReached 16 = .ok (.ireturn, 1) := by decide +kernel
theorem dX11_init_0 : decode cX11_init 0 = .ok (.aload_n 0, 1) := by decide +kernel
theorem dX11_init_1 : decode cX11_init 1 = .ok (.invokespecial 1, 3) := by decide +kernel
theorem dX11_init_4 : decode cX11_init 4 = .ok (.aload_n 0, 1) := by decide +kernel
theorem dX11_init_5 : decode cX11_init 5 = .ok (.bipush 6, 2) := by decide +kernel
theorem dX11_init_7 : decode cX11_init 7 = .ok (.anewarray 9, 3) := by decide +kernel
theorem dX11_init_10 : decode cX11_init 10 = .ok (.putfield 11, 3) := by decide +kernel
theorem dX11_init_13 : decode cX11_init 13 = .ok (.aload_n 0, 1) := by decide +kernel
theorem dX11_init_14 : decode cX11_init 14 = .ok (.iconst 4, 1) := by decide +kernel
theorem dX11_init_15 : decode cX11_init 15 = .ok (.anewarray 9, 3) := by decide +kernel
theorem dX11_init_18 : decode cX11_init 18 = .ok (.putfield 15, 3) := by decide +kernel
theorem dX11_init_21 : decode cX11_init 21 = .ok (.aload_n 0, 1) := by decide +kernel
theorem dX11_init_22 : decode cX11_init 22 = .ok (.new 18, 3) := by decide +kernel
theorem dX11_init_25 : decode cX11_init 25 = .ok (.dup, 1) := by decide +kernel
theorem dX11_init_26 : decode cX11_init 26 = .ok (.invokespecial 20, 3) := by decide +kernel
theorem dX11_init_29 : decode cX11_init 29 = .ok (.putfield 21, 3) := by decide +kernel
theorem dX11_init_32 : decode cX11_init 32 = .ok (.aload_n 0, 1) := by decide +kernel
theorem dX11_init_33 : decode cX11_init 33 = .ok (.new 25, 3) := by decide +kernel
theorem dX11_init_36 : decode cX11_init 36 = .ok (.dup, 1) := by decide +kernel
theorem dX11_init_37 : decode cX11_init 37 = .ok (.invokespecial 27, 3) := by decide +kernel
theorem dX11_init_40 : decode cX11_init 40 = .ok (.putfield 28, 3) := by decide +kernel
theorem dX11_init_43 : decode cX11_init 43 = .ok (.aload_n 0, 1) := by decide +kernel
theorem dX11_init_44 : decode cX11_init 44 = .ok (.new 32, 3) := by decide +kernel
theorem dX11_init_47 : decode cX11_init 47 = .ok (.dup, 1) := by decide +kernel
theorem dX11_init_48 : decode cX11_init 48 = .ok (.invokespecial 34, 3) := by decide +kernel
theorem dX11_init_51 : decode cX11_init 51 = .ok (.putfield 35, 3) := by decide +kernel
theorem dX11_init_54 : decode cX11_init 54 = .ok (.aload_n 0, 1) := by decide +kernel
theorem dX11_init_55 : decode cX11_init 55 = .ok (.new 39, 3) := by decide +kernel
theorem dX11_init_58 : decode cX11_init 58 = .ok (.dup, 1) := by decide +kernel
theorem dX11_init_59 : decode cX11_init 59 = .ok (.invokespecial 41, 3) := by decide +kernel
theorem dX11_init_62 : decode cX11_init 62 = .ok (.putfield 42, 3) := by decide +kernel
theorem dX11_init_65 : decode cX11_init 65 = .ok (.aload_n 0, 1) := by decide +kernel
theorem dX11_init_66 : decode cX11_init 66 = .ok (.new 46, 3) := by decide +kernel
theorem dX11_init_69 : decode cX11_init 69 = .ok (.dup, 1) := by decide +kernel
theorem dX11_init_70 : decode cX11_init 70 = .ok (.invokespecial 48, 3) := by decide +kernel
theorem dX11_init_73 : decode cX11_init 73 = .ok (.putfield 49, 3) := by decide +kernel
theorem dX11_init_76 : decode cX11_init 76 = .ok (.aload_n 0, 1) := by decide +kernel
theorem dX11_init_77 : decode cX11_init 77 = .ok (.new 53, 3) := by decide +kernel
theorem dX11_init_80 : decode cX11_init 80 = .ok (.dup, 1) := by decide +kernel
theorem dX11_init_81 : decode cX11_init 81 = .ok (.invokespecial 55, 3) := by decide +kernel
theorem dX11_init_84 : decode cX11_init 84 = .ok (.putfield 56, 3) := by decide +kernel
theorem dX11_init_87 : decode cX11_init 87 = .ok (.aload_n 0, 1) := by decide +kernel
theorem dX11_init_88 : decode cX11_init 88 = .ok (.new 60, 3) := by decide +kernel
theorem dX11_init_91 : decode cX11_init 91 = .ok (.dup, 1) := by decide +kernel
theorem dX11_init_92 : decode cX11_init 92 = .ok (.invokespecial 62, 3) := by decide +kernel
theorem dX11_init_95 : decode cX11_init 95 = .ok (.putfield 63, 3) := by decide +kernel
theorem dX11_init_98 : decode cX11_init 98 = .ok (.aload_n 0, 1) := by decide +kernel
theorem dX11_init_99 : decode cX11_init 99 = .ok (.bipush 6, 2) := by decide +kernel
theorem dX11_init_101 : decode cX11_init 101 = .ok (.newarray .int, 2) := by decide +kernel
theorem dX11_init_103 : decode cX11_init 103 = .ok (.putfield 67, 3) := by decide +kernel
theorem dX11_init_106 : decode cX11_init 106 = .ok (.aload_n 0, 1) := by decide +kernel
theorem dX11_init_107 : decode cX11_init 107 = .ok (.iconst 0, 1) := by decide +kernel
theorem dX11_init_108 : decode cX11_init 108 = .ok (.putfield 71, 3) := by decide +kernel
theorem dX11_init_111 : decode cX11_init 111 = .ok (.aload_n 0, 1) := by decide +kernel
theorem dX11_init_112 : decode cX11_init 112 = .ok (.iconst 0, 1) := by decide +kernel
theorem dX11_init_113 : decode cX11_init 113 = .ok (.putfield 75, 3) := by decide +kernel
theorem dX11_init_116 : decode cX11_init 116 = .ok (.aload_n 0, 1) := by decide +kernel
theorem dX11_init_117 : decode cX11_init 117 = .ok (.lconst 0, 1) := by decide +kernel
theorem dX11_init_118 : decode cX11_init 118 = .ok (.putfield 78, 3) := by decide +kernel
theorem dX11_init_121 : decode cX11_init 121 = .ok (.aload_n 0, 1) := by decide +kernel
theorem dX11_init_122 : decode cX11_init 122 = .ok (.lconst 1, 1) := by decide +kernel
theorem dX11_init_123 : decode cX11_init 123 = .ok (.putfield 82, 3) := by decide +kernel
theorem dX11_init_126 : decode cX11_init 126 = .ok (.iconst 0, 1) := by decide +kernel
theorem dX11_init_127 : decode cX11_init 127 = .ok (.istore_n 1, 1) := by decide +kernel
theorem dX11_init_128 : decode cX11_init 128 = .ok (.iload_n 1, 1) := by decide +kernel
theorem dX11_init_129 : decode cX11_init 129 = .ok (.aload_n 0, 1) := by decide +kernel
theorem dX11_init_130 : decode cX11_init 130 = .ok (.getfield 11, 3) := by decide +kernel
theorem dX11_init_133 : decode cX11_init 133 = .ok (.arraylength, 1) := by decide +kernel
theorem dX11_init_134 : decode cX11_init 134 = .ok (.if_icmp .ge 22, 3) := by decide +kernel
theorem dX11_init_137 : decode cX11_init 137 = .ok (.aload_n 0, 1) := by decide +kernel
theorem dX11_init_138 : decode cX11_init 138 = .ok (.getfield 11, 3) := by decide +kernel
theorem dX11_init_141 : decode cX11_init 141 = .ok (.iload_n 1, 1) := by decide +kernel
theorem dX11_init_142 : decode cX11_init 142 = .ok (.new 9, 3) := by decide +kernel
theorem dX11_init_145 : decode cX11_init 145 = .ok (.dup, 1) := by decide +kernel
theorem dX11_init_146 : decode cX11_init 146 = .ok (.invokespecial 85, 3) := by decide +kernel
theorem dX11_init_149 : decode cX11_init 149 = .ok (.aastore, 1) := by decide +kernel
theorem dX11_init_150 : decode cX11_init 150 = .ok (.iinc 1 1, 3) := by decide +kernel
theorem dX11_init_153 : decode cX11_init 153 = .ok (.goto (-25), 3) := by decide +kernel
theorem dX11_init_156 : decode cX11_init 156 = .ok (.iconst 0, 1) := by decide +kernel
theorem dX11_init_157 : decode cX11_init 157 = .ok (.istore_n 1, 1) := by decide +kernel
theorem dX11_init_158 : decode cX11_init 158 = .ok (.iload_n 1, 1) := by decide +kernel
theorem dX11_init_159 : decode cX11_init 159 = .ok (.aload_n 0, 1) := by decide +kernel
theorem dX11_init_160 : decode cX11_init 160 = .ok (.getfield 15, 3) := by decide +kernel
theorem dX11_init_163 : decode cX11_init 163 = .ok (.arraylength, 1) := by decide +kernel
theorem dX11_init_164 : decode cX11_init 164 = .ok (.if_icmp .ge 22, 3) := by decide +kernel
theorem dX11_init_167 : decode cX11_init 167 = .ok (.aload_n 0, 1) := by decide +kernel
theorem dX11_init_168 : decode cX11_init 168 = .ok (.getfield 15, 3) := by decide +kernel
theorem dX11_init_171 : decode cX11_init 171 = .ok (.iload_n 1, 1) := by decide +kernel
theorem dX11_init_172 : decode cX11_init 172 = .ok (.new 9, 3) := by decide +kernel
theorem dX11_init_175 : decode cX11_init 175 = .ok (.dup, 1) := by decide +kernel
theorem dX11_init_176 : decode cX11_init 176 = .ok (.invokespecial 85, 3) := by decide +kernel
theorem dX11_init_179 : decode cX11_init 179 = .ok (.aastore, 1) := by decide +kernel
theorem dX11_init_180 : decode cX11_init 180 = .ok (.iinc 1 1, 3) := by decide +kernel
theorem dX11_init_183 : decode cX11_init 183 = .ok (.goto (-25), 3) := by decide +kernel
theorem dX11_init_186 : decode cX11_init 186 = .ok (.return_, 1) := by decide +kernel
theorem dX11_row_0 : decode cX11_row 0 = .ok (.iload_n 1, 1) := by decide +kernel
theorem dX11_row_1 : decode cX11_row 1 = .ok (.bipush 6, 2) := by decide +kernel
theorem dX11_row_3 : decode cX11_row 3 = .ok (.invokestatic 86, 3) := by decide +kernel
theorem dX11_row_6 : decode cX11_row 6 = .ok (.ifCond .ne 9, 3) := by decide +kernel
theorem dX11_row_9 : decode cX11_row 9 = .ok (.iload_n 2, 1) := by decide +kernel
theorem dX11_row_10 : decode cX11_row 10 = .ok (.bipush 40, 2) := by decide +kernel
theorem dX11_row_12 : decode cX11_row 12 = .ok (.if_icmp .le 5, 3) := by decide +kernel
theorem dX11_row_15 : decode cX11_row 15 = .ok (.iconst (-1), 1) := by decide +kernel
theorem dX11_row_16 : decode cX11_row 16 = .ok (.ireturn, 1) := by decide +kernel
theorem dX11_row_17 : decode cX11_row 17 = .ok (.aload_n 0, 1) := by decide +kernel
theorem dX11_row_18 : decode cX11_row 18 = .ok (.aload_n 0, 1) := by decide +kernel
theorem dX11_row_19 : decode cX11_row 19 = .ok (.getfield 11, 3) := by decide +kernel
theorem dX11_row_22 : decode cX11_row 22 = .ok (.iload_n 1, 1) := by decide +kernel
theorem dX11_row_23 : decode cX11_row 23 = .ok (.aaload, 1) := by decide +kernel
theorem dX11_row_24 : decode cX11_row 24 = .ok (.iload_n 2, 1) := by decide +kernel
theorem dX11_row_25 : decode cX11_row 25 = .ok (.iconst 0, 1) := by decide +kernel
theorem dX11_row_26 : decode cX11_row 26 = .ok (.invokevirtual 90, 3) := by decide +kernel
theorem dX11_row_29 : decode cX11_row 29 = .ok (.ireturn, 1) := by decide +kernel
theorem dX11_lay_0 : decode cX11_lay 0 = .ok (.aload_n 0, 1) := by decide +kernel
theorem dX11_lay_1 : decode cX11_lay 1 = .ok (.aload_n 0, 1) := by decide +kernel
theorem dX11_lay_2 : decode cX11_lay 2 = .ok (.getfield 11, 3) := by decide +kernel
theorem dX11_lay_5 : decode cX11_lay 5 = .ok (.iload_n 1, 1) := by decide +kernel
theorem dX11_lay_6 : decode cX11_lay 6 = .ok (.iload_n 2, 1) := by decide +kernel
theorem dX11_lay_7 : decode cX11_lay 7 = .ok (.invokevirtual 94, 3) := by decide +kernel
theorem dX11_lay_10 : decode cX11_lay 10 = .ok (.istore 4, 2) := by decide +kernel
theorem dX11_lay_12 : decode cX11_lay 12 = .ok (.iload 4, 2) := by decide +kernel
theorem dX11_lay_14 : decode cX11_lay 14 = .ok (.ifCond .eq 6, 3) := by decide +kernel
theorem dX11_lay_17 : decode cX11_lay 17 = .ok (.iload 4, 2) := by decide +kernel
theorem dX11_lay_19 : decode cX11_lay 19 = .ok (.ireturn, 1) := by decide +kernel
theorem dX11_lay_20 : decode cX11_lay 20 = .ok (.aload_n 0, 1) := by decide +kernel
theorem dX11_lay_21 : decode cX11_lay 21 = .ok (.getfield 11, 3) := by decide +kernel
theorem dX11_lay_24 : decode cX11_lay 24 = .ok (.iload_n 1, 1) := by decide +kernel
theorem dX11_lay_25 : decode cX11_lay 25 = .ok (.aaload, 1) := by decide +kernel
theorem dX11_lay_26 : decode cX11_lay 26 = .ok (.iload_n 2, 1) := by decide +kernel
theorem dX11_lay_27 : decode cX11_lay 27 = .ok (.invokevirtual 98, 3) := by decide +kernel
theorem dX11_lay_30 : decode cX11_lay 30 = .ok (.istore 5, 2) := by decide +kernel
theorem dX11_lay_32 : decode cX11_lay 32 = .ok (.aload_n 0, 1) := by decide +kernel
theorem dX11_lay_33 : decode cX11_lay 33 = .ok (.getfield 11, 3) := by decide +kernel
theorem dX11_lay_36 : decode cX11_lay 36 = .ok (.iload_n 1, 1) := by decide +kernel
theorem dX11_lay_37 : decode cX11_lay 37 = .ok (.aaload, 1) := by decide +kernel
theorem dX11_lay_38 : decode cX11_lay 38 = .ok (.iload_n 2, 1) := by decide +kernel
theorem dX11_lay_39 : decode cX11_lay 39 = .ok (.iload_n 3, 1) := by decide +kernel
theorem dX11_lay_40 : decode cX11_lay 40 = .ok (.invokevirtual 102, 3) := by decide +kernel
theorem dX11_lay_43 : decode cX11_lay 43 = .ok (.aload_n 0, 1) := by decide +kernel
theorem dX11_lay_44 : decode cX11_lay 44 = .ok (.iload 5, 2) := by decide +kernel
theorem dX11_lay_46 : decode cX11_lay 46 = .ok (.invokevirtual 106, 3) := by decide +kernel
theorem dX11_lay_49 : decode cX11_lay 49 = .ok (.ireturn, 1) := by decide +kernel
theorem dX11_at_0 : decode cX11_at 0 = .ok (.aload_n 0, 1) := by decide +kernel
theorem dX11_at_1 : decode cX11_at 1 = .ok (.aload_n 0, 1) := by decide +kernel
theorem dX11_at_2 : decode cX11_at 2 = .ok (.getfield 11, 3) := by decide +kernel
theorem dX11_at_5 : decode cX11_at 5 = .ok (.iload_n 1, 1) := by decide +kernel
theorem dX11_at_6 : decode cX11_at 6 = .ok (.iload_n 2, 1) := by decide +kernel
theorem dX11_at_7 : decode cX11_at 7 = .ok (.invokevirtual 94, 3) := by decide +kernel
theorem dX11_at_10 : decode cX11_at 10 = .ok (.istore_n 3, 1) := by decide +kernel
theorem dX11_at_11 : decode cX11_at 11 = .ok (.iload_n 3, 1) := by decide +kernel
theorem dX11_at_12 : decode cX11_at 12 = .ok (.ifCond .eq 7, 3) := by decide +kernel
theorem dX11_at_15 : decode cX11_at 15 = .ok (.iload_n 3, 1) := by decide +kernel
theorem dX11_at_16 : decode cX11_at 16 = .ok (.goto 17, 3) := by decide +kernel
theorem dX11_at_19 : decode cX11_at 19 = .ok (.aload_n 0, 1) := by decide +kernel
theorem dX11_at_20 : decode cX11_at 20 = .ok (.aload_n 0, 1) := by decide +kernel
theorem dX11_at_21 : decode cX11_at 21 = .ok (.getfield 11, 3) := by decide +kernel
theorem dX11_at_24 : decode cX11_at 24 = .ok (.iload_n 1, 1) := by decide +kernel
theorem dX11_at_25 : decode cX11_at 25 = .ok (.aaload, 1) := by decide +kernel
theorem dX11_at_26 : decode cX11_at 26 = .ok (.iload_n 2, 1) := by decide +kernel
theorem dX11_at_27 : decode cX11_at 27 = .ok (.invokevirtual 98, 3) := by decide +kernel
theorem dX11_at_30 : decode cX11_at 30 = .ok (.invokevirtual 106, 3) := by decide +kernel
theorem dX11_at_33 : decode cX11_at 33 = .ok (.ireturn, 1) := by decide +kernel
theorem dX11_tear_0 : decode cX11_tear 0 = .ok (.aload_n 0, 1) := by decide +kernel
theorem dX11_tear_1 : decode cX11_tear 1 = .ok (.aload_n 0, 1) := by decide +kernel
theorem dX11_tear_2 : decode cX11_tear 2 = .ok (.getfield 11, 3) := by decide +kernel
theorem dX11_tear_5 : decode cX11_tear 5 = .ok (.iload_n 1, 1) := by decide +kernel
theorem dX11_tear_6 : decode cX11_tear 6 = .ok (.invokevirtual 109, 3) := by decide +kernel
theorem dX11_tear_9 : decode cX11_tear 9 = .ok (.istore_n 2, 1) := by decide +kernel
theorem dX11_tear_10 : decode cX11_tear 10 = .ok (.iload_n 2, 1) := by decide +kernel
theorem dX11_tear_11 : decode cX11_tear 11 = .ok (.ifCond .eq 5, 3) := by decide +kernel
theorem dX11_tear_14 : decode cX11_tear 14 = .ok (.iload_n 2, 1) := by decide +kernel
theorem dX11_tear_15 : decode cX11_tear 15 = .ok (.ireturn, 1) := by decide +kernel
theorem dX11_tear_16 : decode cX11_tear 16 = .ok (.aload_n 0, 1) := by decide +kernel
theorem dX11_tear_17 : decode cX11_tear 17 = .ok (.getfield 11, 3) := by decide +kernel
theorem dX11_tear_20 : decode cX11_tear 20 = .ok (.iload_n 1, 1) := by decide +kernel
theorem dX11_tear_21 : decode cX11_tear 21 = .ok (.aaload, 1) := by decide +kernel
theorem dX11_tear_22 : decode cX11_tear 22 = .ok (.invokevirtual 113, 3) := by decide +kernel
theorem dX11_tear_25 : decode cX11_tear 25 = .ok (.iconst 1, 1) := by decide +kernel
theorem dX11_tear_26 : decode cX11_tear 26 = .ok (.ireturn, 1) := by decide +kernel
theorem dX11_copy_0 : decode cX11_copy 0 = .ok (.iload_n 1, 1) := by decide +kernel
theorem dX11_copy_1 : decode cX11_copy 1 = .ok (.bipush 6, 2) := by decide +kernel
theorem dX11_copy_3 : decode cX11_copy 3 = .ok (.invokestatic 86, 3) := by decide +kernel
theorem dX11_copy_6 : decode cX11_copy 6 = .ok (.ifCond .ne 12, 3) := by decide +kernel
theorem dX11_copy_9 : decode cX11_copy 9 = .ok (.iload_n 3, 1) := by decide +kernel
theorem dX11_copy_10 : decode cX11_copy 10 = .ok (.bipush 6, 2) := by decide +kernel
theorem dX11_copy_12 : decode cX11_copy 12 = .ok (.invokestatic 86, 3) := by decide +kernel
theorem dX11_copy_15 : decode cX11_copy 15 = .ok (.ifCond .eq 5, 3) := by decide +kernel
theorem dX11_copy_18 : decode cX11_copy 18 = .ok (.iconst (-1), 1) := by decide +kernel
theorem dX11_copy_19 : decode cX11_copy 19 = .ok (.ireturn, 1) := by decide +kernel
theorem dX11_copy_20 : decode cX11_copy 20 = .ok (.iload 5, 2) := by decide +kernel
theorem dX11_copy_22 : decode cX11_copy 22 = .ok (.ifCond .ge 9, 3) := by decide +kernel
theorem dX11_copy_25 : decode cX11_copy 25 = .ok (.aload_n 0, 1) := by decide +kernel
theorem dX11_copy_26 : decode cX11_copy 26 = .ok (.iconst 5, 1) := by decide +kernel
theorem dX11_copy_27 : decode cX11_copy 27 = .ok (.invokevirtual 116, 3) := by decide +kernel
theorem dX11_copy_30 : decode cX11_copy 30 = .ok (.ireturn, 1) := by decide +kernel
theorem dX11_copy_31 : decode cX11_copy 31 = .ok (.aload_n 0, 1) := by decide +kernel
theorem dX11_copy_32 : decode cX11_copy 32 = .ok (.getfield 11, 3) := by decide +kernel
theorem dX11_copy_35 : decode cX11_copy 35 = .ok (.iload_n 1, 1) := by decide +kernel
theorem dX11_copy_36 : decode cX11_copy 36 = .ok (.aaload, 1) := by decide +kernel
theorem dX11_copy_37 : decode cX11_copy 37 = .ok (.invokevirtual 119, 3) := by decide +kernel
theorem dX11_copy_40 : decode cX11_copy 40 = .ok (.ifCond .eq 15, 3) := by decide +kernel
theorem dX11_copy_43 : decode cX11_copy 43 = .ok (.aload_n 0, 1) := by decide +kernel
theorem dX11_copy_44 : decode cX11_copy 44 = .ok (.getfield 11, 3) := by decide +kernel
theorem dX11_copy_47 : decode cX11_copy 47 = .ok (.iload_n 3, 1) := by decide +kernel
theorem dX11_copy_48 : decode cX11_copy 48 = .ok (.aaload, 1) := by decide +kernel
theorem dX11_copy_49 : decode cX11_copy 49 = .ok (.invokevirtual 119, 3) := by decide +kernel
theorem dX11_copy_52 : decode cX11_copy 52 = .ok (.ifCond .ne 9, 3) := by decide +kernel
theorem dX11_copy_55 : decode cX11_copy 55 = .ok (.aload_n 0, 1) := by decide +kernel
theorem dX11_copy_56 : decode cX11_copy 56 = .ok (.iconst 1, 1) := by decide +kernel
theorem dX11_copy_57 : decode cX11_copy 57 = .ok (.invokevirtual 116, 3) := by decide +kernel
theorem dX11_copy_60 : decode cX11_copy 60 = .ok (.ireturn, 1) := by decide +kernel
theorem dX11_copy_61 : decode cX11_copy 61 = .ok (.aload_n 0, 1) := by decide +kernel
theorem dX11_copy_62 : decode cX11_copy 62 = .ok (.getfield 11, 3) := by decide +kernel
theorem dX11_copy_65 : decode cX11_copy 65 = .ok (.iload_n 1, 1) := by decide +kernel
theorem dX11_copy_66 : decode cX11_copy 66 = .ok (.aaload, 1) := by decide +kernel
theorem dX11_copy_67 : decode cX11_copy 67 = .ok (.iload_n 2, 1) := by decide +kernel
theorem dX11_copy_68 : decode cX11_copy 68 = .ok (.iload 5, 2) := by decide +kernel
theorem dX11_copy_70 : decode cX11_copy 70 = .ok (.invokevirtual 123, 3) := by decide +kernel
theorem dX11_copy_73 : decode cX11_copy 73 = .ok (.ifCond .eq 19, 3) := by decide +kernel
theorem dX11_copy_76 : decode cX11_copy 76 = .ok (.aload_n 0, 1) := by decide +kernel
theorem dX11_copy_77 : decode cX11_copy 77 = .ok (.getfield 11, 3) := by decide +kernel
theorem dX11_copy_80 : decode cX11_copy 80 = .ok (.iload_n 3, 1) := by decide +kernel
theorem dX11_copy_81 : decode cX11_copy 81 = .ok (.aaload, 1) := by decide +kernel
theorem dX11_copy_82 : decode cX11_copy 82 = .ok (.iload 4, 2) := by decide +kernel
theorem dX11_copy_84 : decode cX11_copy 84 = .ok (.iload 5, 2) := by decide +kernel
theorem dX11_copy_86 : decode cX11_copy 86 = .ok (.invokevirtual 123, 3) := by decide +kernel
theorem dX11_copy_89 : decode cX11_copy 89 = .ok (.ifCond .ne 9, 3) := by decide +kernel
theorem dX11_copy_92 : decode cX11_copy 92 = .ok (.aload_n 0, 1) := by decide +kernel
theorem dX11_copy_93 : decode cX11_copy 93 = .ok (.iconst 2, 1) := by decide +kernel
theorem dX11_copy_94 : decode cX11_copy 94 = .ok (.invokevirtual 116, 3) := by decide +kernel
theorem dX11_copy_97 : decode cX11_copy 97 = .ok (.ireturn, 1) := by decide +kernel
theorem dX11_copy_98 : decode cX11_copy 98 = .ok (.aload_n 0, 1) := by decide +kernel
theorem dX11_copy_99 : decode cX11_copy 99 = .ok (.getfield 11, 3) := by decide +kernel
theorem dX11_copy_102 : decode cX11_copy 102 = .ok (.iload_n 1, 1) := by decide +kernel
theorem dX11_copy_103 : decode cX11_copy 103 = .ok (.aaload, 1) := by decide +kernel
theorem dX11_copy_104 : decode cX11_copy 104 = .ok (.getfield 126, 3) := by decide +kernel
theorem dX11_copy_107 : decode cX11_copy 107 = .ok (.iload_n 2, 1) := by decide +kernel
theorem dX11_copy_108 : decode cX11_copy 108 = .ok (.aload_n 0, 1) := by decide +kernel
theorem dX11_copy_109 : decode cX11_copy 109 = .ok (.getfield 11, 3) := by decide +kernel
theorem dX11_copy_112 : decode cX11_copy 112 = .ok (.iload_n 3, 1) := by decide +kernel
theorem dX11_copy_113 : decode cX11_copy 113 = .ok (.aaload, 1) := by decide +kernel
theorem dX11_copy_114 : decode cX11_copy 114 = .ok (.getfield 126, 3) := by decide +kernel
theorem dX11_copy_117 : decode cX11_copy 117 = .ok (.iload 4, 2) := by decide +kernel
theorem dX11_copy_119 : decode cX11_copy 119 = .ok (.iload 5, 2) := by decide +kernel
theorem dX11_copy_121 : decode cX11_copy 121 = .ok (.invokestatic 129, 3) := by decide +kernel
theorem dX11_copy_124 : decode cX11_copy 124 = .ok (.iconst 1, 1) := by decide +kernel
theorem dX11_copy_125 : decode cX11_copy 125 = .ok (.ireturn, 1) := by decide +kernel
theorem dX11_mean_0 : decode cX11_mean 0 = .ok (.aload_n 0, 1) := by decide +kernel
theorem dX11_mean_1 : decode cX11_mean 1 = .ok (.aload_n 0, 1) := by decide +kernel
theorem dX11_mean_2 : decode cX11_mean 2 = .ok (.getfield 11, 3) := by decide +kernel
theorem dX11_mean_5 : decode cX11_mean 5 = .ok (.iload_n 1, 1) := by decide +kernel
theorem dX11_mean_6 : decode cX11_mean 6 = .ok (.invokevirtual 109, 3) := by decide +kernel
theorem dX11_mean_9 : decode cX11_mean 9 = .ok (.istore_n 2, 1) := by decide +kernel
theorem dX11_mean_10 : decode cX11_mean 10 = .ok (.iload_n 2, 1) := by decide +kernel
theorem dX11_mean_11 : decode cX11_mean 11 = .ok (.ifCond .eq 5, 3) := by decide +kernel
theorem dX11_mean_14 : decode cX11_mean 14 = .ok (.iload_n 2, 1) := by decide +kernel
theorem dX11_mean_15 : decode cX11_mean 15 = .ok (.ireturn, 1) := by decide +kernel
theorem dX11_mean_16 : decode cX11_mean 16 = .ok (.aload_n 0, 1) := by decide +kernel
theorem dX11_mean_17 : decode cX11_mean 17 = .ok (.getfield 11, 3) := by decide +kernel
theorem dX11_mean_20 : decode cX11_mean 20 = .ok (.iload_n 1, 1) := by decide +kernel
theorem dX11_mean_21 : decode cX11_mean 21 = .ok (.aaload, 1) := by decide +kernel
theorem dX11_mean_22 : decode cX11_mean 22 = .ok (.getfield 135, 3) := by decide +kernel
theorem dX11_mean_25 : decode cX11_mean 25 = .ok (.istore_n 3, 1) := by decide +kernel
theorem dX11_mean_26 : decode cX11_mean 26 = .ok (.iload_n 3, 1) := by decide +kernel
theorem dX11_mean_27 : decode cX11_mean 27 = .ok (.ifCond .gt 9, 3) := by decide +kernel
theorem dX11_mean_30 : decode cX11_mean 30 = .ok (.aload_n 0, 1) := by decide +kernel
theorem dX11_mean_31 : decode cX11_mean 31 = .ok (.iconst 4, 1) := by decide +kernel
theorem dX11_mean_32 : decode cX11_mean 32 = .ok (.invokevirtual 116, 3) := by decide +kernel
theorem dX11_mean_35 : decode cX11_mean 35 = .ok (.ireturn, 1) := by decide +kernel
theorem dX11_mean_36 : decode cX11_mean 36 = .ok (.aload_n 0, 1) := by decide +kernel
theorem dX11_mean_37 : decode cX11_mean 37 = .ok (.aload_n 0, 1) := by decide +kernel
theorem dX11_mean_38 : decode cX11_mean 38 = .ok (.getfield 11, 3) := by decide +kernel
theorem dX11_mean_41 : decode cX11_mean 41 = .ok (.iload_n 1, 1) := by decide +kernel
theorem dX11_mean_42 : decode cX11_mean 42 = .ok (.aaload, 1) := by decide +kernel
theorem dX11_mean_43 : decode cX11_mean 43 = .ok (.invokevirtual 138, 3) := by decide +kernel
theorem dX11_mean_46 : decode cX11_mean 46 = .ok (.iload_n 3, 1) := by decide +kernel
theorem dX11_mean_47 : decode cX11_mean 47 = .ok (.i2l, 1) := by decide +kernel
theorem dX11_mean_48 : decode cX11_mean 48 = .ok (.ldiv, 1) := by decide +kernel
theorem dX11_mean_49 : decode cX11_mean 49 = .ok (.l2i, 1) := by decide +kernel
theorem dX11_mean_50 : decode cX11_mean 50 = .ok (.invokevirtual 106, 3) := by decide +kernel
theorem dX11_mean_53 : decode cX11_mean 53 = .ok (.ireturn, 1) := by decide +kernel
theorem dX11_text_0 : decode cX11_text 0 = .ok (.iload_n 1, 1) := by decide +kernel
theorem dX11_text_1 : decode cX11_text 1 = .ok (.iconst 4, 1) := by decide +kernel
theorem dX11_text_2 : decode cX11_text 2 = .ok (.invokestatic 86, 3) := by decide +kernel
theorem dX11_text_5 : decode cX11_text 5 = .ok (.ifCond .ne 9, 3) := by decide +kernel
theorem dX11_text_8 : decode cX11_text 8 = .ok (.iload_n 2, 1) := by decide +kernel
theorem dX11_text_9 : decode cX11_text 9 = .ok (.bipush 60, 2) := by decide +kernel
theorem dX11_text_11 : decode cX11_text 11 = .ok (.if_icmp .le 5, 3) := by decide +kernel
theorem dX11_text_14 : decode cX11_text 14 = .ok (.iconst (-1), 1) := by decide +kernel
theorem dX11_text_15 : decode cX11_text 15 = .ok (.ireturn, 1) := by decide +kernel
theorem dX11_text_16 : decode cX11_text 16 = .ok (.aload_n 0, 1) := by decide +kernel
theorem dX11_text_17 : decode cX11_text 17 = .ok (.aload_n 0, 1) := by decide +kernel
theorem dX11_text_18 : decode cX11_text 18 = .ok (.getfield 15, 3) := by decide +kernel
theorem dX11_text_21 : decode cX11_text 21 = .ok (.iload_n 1, 1) := by decide +kernel
theorem dX11_text_22 : decode cX11_text 22 = .ok (.aaload, 1) := by decide +kernel
theorem dX11_text_23 : decode cX11_text 23 = .ok (.iload_n 2, 1) := by decide +kernel
theorem dX11_text_24 : decode cX11_text 24 = .ok (.bipush 32, 2) := by decide +kernel
theorem dX11_text_26 : decode cX11_text 26 = .ok (.invokevirtual 90, 3) := by decide +kernel
theorem dX11_text_29 : decode cX11_text 29 = .ok (.ireturn, 1) := by decide +kernel
theorem dX11_put_0 : decode cX11_put 0 = .ok (.aload_n 0, 1) := by decide +kernel
theorem dX11_put_1 : decode cX11_put 1 = .ok (.aload_n 0, 1) := by decide +kernel
theorem dX11_put_2 : decode cX11_put 2 = .ok (.getfield 15, 3) := by decide +kernel
theorem dX11_put_5 : decode cX11_put 5 = .ok (.iload_n 1, 1) := by decide +kernel
theorem dX11_put_6 : decode cX11_put 6 = .ok (.iload_n 2, 1) := by decide +kernel
theorem dX11_put_7 : decode cX11_put 7 = .ok (.invokevirtual 94, 3) := by decide +kernel
theorem dX11_put_10 : decode cX11_put 10 = .ok (.istore 4, 2) := by decide +kernel
theorem dX11_put_12 : decode cX11_put 12 = .ok (.iload 4, 2) := by decide +kernel
theorem dX11_put_14 : decode cX11_put 14 = .ok (.ifCond .eq 6, 3) := by decide +kernel
theorem dX11_put_17 : decode cX11_put 17 = .ok (.iload 4, 2) := by decide +kernel
theorem dX11_put_19 : decode cX11_put 19 = .ok (.ireturn, 1) := by decide +kernel
theorem dX11_put_20 : decode cX11_put 20 = .ok (.aload_n 0, 1) := by decide +kernel
theorem dX11_put_21 : decode cX11_put 21 = .ok (.getfield 15, 3) := by decide +kernel
theorem dX11_put_24 : decode cX11_put 24 = .ok (.iload_n 1, 1) := by decide +kernel
theorem dX11_put_25 : decode cX11_put 25 = .ok (.aaload, 1) := by decide +kernel
theorem dX11_put_26 : decode cX11_put 26 = .ok (.iload_n 2, 1) := by decide +kernel
theorem dX11_put_27 : decode cX11_put 27 = .ok (.invokevirtual 98, 3) := by decide +kernel
theorem dX11_put_30 : decode cX11_put 30 = .ok (.istore 5, 2) := by decide +kernel
theorem dX11_put_32 : decode cX11_put 32 = .ok (.aload_n 0, 1) := by decide +kernel
theorem dX11_put_33 : decode cX11_put 33 = .ok (.getfield 15, 3) := by decide +kernel
theorem dX11_put_36 : decode cX11_put 36 = .ok (.iload_n 1, 1) := by decide +kernel
theorem dX11_put_37 : decode cX11_put 37 = .ok (.aaload, 1) := by decide +kernel
theorem dX11_put_38 : decode cX11_put 38 = .ok (.iload_n 2, 1) := by decide +kernel
theorem dX11_put_39 : decode cX11_put 39 = .ok (.iload_n 3, 1) := by decide +kernel
theorem dX11_put_40 : decode cX11_put 40 = .ok (.i2b, 1) := by decide +kernel
theorem dX11_put_41 : decode cX11_put 41 = .ok (.invokevirtual 102, 3) := by decide +kernel
theorem dX11_put_44 : decode cX11_put 44 = .ok (.iload 5, 2) := by decide +kernel
theorem dX11_put_46 : decode cX11_put 46 = .ok (.sipush 1000, 3) := by decide +kernel
theorem dX11_put_49 : decode cX11_put 49 = .ok (.iadd, 1) := by decide +kernel
theorem dX11_put_50 : decode cX11_put 50 = .ok (.ireturn, 1) := by decide +kernel
theorem dX11_hide_0 : decode cX11_hide 0 = .ok (.iload_n 2, 1) := by decide +kernel
theorem dX11_hide_1 : decode cX11_hide 1 = .ok (.iconst 1, 1) := by decide +kernel
theorem dX11_hide_2 : decode cX11_hide 2 = .ok (.bipush 60, 2) := by decide +kernel
theorem dX11_hide_4 : decode cX11_hide 4 = .ok (.invokestatic 142, 3) := by decide +kernel
theorem dX11_hide_7 : decode cX11_hide 7 = .ok (.ifCond .eq 17, 3) := by decide +kernel
theorem dX11_hide_10 : decode cX11_hide 10 = .ok (.iload_n 3, 1) := by decide +kernel
theorem dX11_hide_11 : decode cX11_hide 11 = .ok (.iconst 1, 1) := by decide +kernel
theorem dX11_hide_12 : decode cX11_hide 12 = .ok (.bipush 60, 2) := by decide +kernel
theorem dX11_hide_14 : decode cX11_hide 14 = .ok (.invokestatic 142, 3) := by decide +kernel
theorem dX11_hide_17 : decode cX11_hide 17 = .ok (.ifCond .eq 7, 3) := by decide +kernel
theorem dX11_hide_20 : decode cX11_hide 20 = .ok (.iconst 1, 1) := by decide +kernel
theorem dX11_hide_21 : decode cX11_hide 21 = .ok (.goto 4, 3) := by decide +kernel
theorem dX11_hide_24 : decode cX11_hide 24 = .ok (.iconst 0, 1) := by decide +kernel
theorem dX11_hide_25 : decode cX11_hide 25 = .ok (.istore 5, 2) := by decide +kernel
theorem dX11_hide_27 : decode cX11_hide 27 = .ok (.iload_n 1, 1) := by decide +kernel
theorem dX11_hide_28 : decode cX11_hide 28 = .ok (.bipush 8, 2) := by decide +kernel
theorem dX11_hide_30 : decode cX11_hide 30 = .ok (.invokestatic 86, 3) := by decide +kernel
theorem dX11_hide_33 : decode cX11_hide 33 = .ok (.ifCond .ne 19, 3) := by decide +kernel
theorem dX11_hide_36 : decode cX11_hide 36 = .ok (.iload 5, 2) := by decide +kernel
theorem dX11_hide_38 : decode cX11_hide 38 = .ok (.ifCond .eq 14, 3) := by decide +kernel
theorem dX11_hide_41 : decode cX11_hide 41 = .ok (.iload 4, 2) := by decide +kernel
theorem dX11_hide_43 : decode cX11_hide 43 = .ok (.iconst 1, 1) := by decide +kernel
theorem dX11_hide_44 : decode cX11_hide 44 = .ok (.ldc 146, 2) := by decide +kernel
theorem dX11_hide_46 : decode cX11_hide 46 = .ok (.invokestatic 142, 3) := by decide +kernel
theorem dX11_hide_49 : decode cX11_hide 49 = .ok (.ifCond .ne 5, 3) := by decide +kernel
theorem dX11_hide_52 : decode cX11_hide 52 = .ok (.iconst (-1), 1) := by decide +kernel
theorem dX11_hide_53 : decode cX11_hide 53 = .ok (.ireturn, 1) := by decide +kernel
theorem dX11_hide_54 : decode cX11_hide 54 = .ok (.aload_n 0, 1) := by decide +kernel
theorem dX11_hide_55 : decode cX11_hide 55 = .ok (.getfield 21, 3) := by decide +kernel
theorem dX11_hide_58 : decode cX11_hide 58 = .ok (.getfield 147, 3) := by decide +kernel
theorem dX11_hide_61 : decode cX11_hide 61 = .ok (.iload_n 1, 1) := by decide +kernel
theorem dX11_hide_62 : decode cX11_hide 62 = .ok (.aaload, 1) := by decide +kernel
theorem dX11_hide_63 : decode cX11_hide 63 = .ok (.iload_n 2, 1) := by decide +kernel
theorem dX11_hide_64 : decode cX11_hide 64 = .ok (.iload_n 3, 1) := by decide +kernel
theorem dX11_hide_65 : decode cX11_hide 65 = .ok (.iload 4, 2) := by decide +kernel
theorem dX11_hide_67 : decode cX11_hide 67 = .ok (.invokevirtual 151, 3) := by decide +kernel
theorem dX11_hide_70 : decode cX11_hide 70 = .ok (.iload 4, 2) := by decide +kernel
theorem dX11_hide_72 : decode cX11_hide 72 = .ok (.invokestatic 157, 3) := by decide +kernel
theorem dX11_hide_75 : decode cX11_hide 75 = .ok (.ireturn, 1) := by decide +kernel
theorem dX11_drop_0 : decode cX11_drop 0 = .ok (.aload_n 0, 1) := by decide +kernel
theorem dX11_drop_1 : decode cX11_drop 1 = .ok (.iload_n 1, 1) := by decide +kernel
theorem dX11_drop_2 : decode cX11_drop 2 = .ok (.invokevirtual 162, 3) := by decide +kernel
theorem dX11_drop_5 : decode cX11_drop 5 = .ok (.istore_n 2, 1) := by decide +kernel
theorem dX11_drop_6 : decode cX11_drop 6 = .ok (.iload_n 2, 1) := by decide +kernel
theorem dX11_drop_7 : decode cX11_drop 7 = .ok (.ifCond .eq 5, 3) := by decide +kernel
theorem dX11_drop_10 : decode cX11_drop 10 = .ok (.iload_n 2, 1) := by decide +kernel
theorem dX11_drop_11 : decode cX11_drop 11 = .ok (.ireturn, 1) := by decide +kernel
theorem dX11_drop_12 : decode cX11_drop 12 = .ok (.aload_n 0, 1) := by decide +kernel
theorem dX11_drop_13 : decode cX11_drop 13 = .ok (.getfield 21, 3) := by decide +kernel
theorem dX11_drop_16 : decode cX11_drop 16 = .ok (.getfield 147, 3) := by decide +kernel
theorem dX11_drop_19 : decode cX11_drop 19 = .ok (.iload_n 1, 1) := by decide +kernel
theorem dX11_drop_20 : decode cX11_drop 20 = .ok (.aaload, 1) := by decide +kernel
theorem dX11_drop_21 : decode cX11_drop 21 = .ok (.iconst 0, 1) := by decide +kernel
theorem dX11_drop_22 : decode cX11_drop 22 = .ok (.putfield 165, 3) := by decide +kernel
theorem dX11_drop_25 : decode cX11_drop 25 = .ok (.iconst 1, 1) := by decide +kernel
theorem dX11_drop_26 : decode cX11_drop 26 = .ok (.ireturn, 1) := by decide +kernel
theorem dX11_lamp_0 : decode cX11_lamp 0 = .ok (.iload_n 1, 1) := by decide +kernel
theorem dX11_lamp_1 : decode cX11_lamp 1 = .ok (.iconst 2, 1) := by decide +kernel
theorem dX11_lamp_2 : decode cX11_lamp 2 = .ok (.bipush 60, 2) := by decide +kernel
theorem dX11_lamp_4 : decode cX11_lamp 4 = .ok (.invokestatic 142, 3) := by decide +kernel
theorem dX11_lamp_7 : decode cX11_lamp 7 = .ok (.ifCond .eq 13, 3) := by decide +kernel
theorem dX11_lamp_10 : decode cX11_lamp 10 = .ok (.iload_n 2, 1) := by decide +kernel
theorem dX11_lamp_11 : decode cX11_lamp 11 = .ok (.iconst 0, 1) := by decide +kernel
theorem dX11_lamp_12 : decode cX11_lamp 12 = .ok (.bipush 9, 2) := by decide +kernel
theorem dX11_lamp_14 : decode cX11_lamp 14 = .ok (.invokestatic 142, 3) := by decide +kernel
theorem dX11_lamp_17 : decode cX11_lamp 17 = .ok (.ifCond .ne 5, 3) := by decide +kernel
theorem dX11_lamp_20 : decode cX11_lamp 20 = .ok (.iconst (-1), 1) := by decide +kernel
theorem dX11_lamp_21 : decode cX11_lamp 21 = .ok (.ireturn, 1) := by decide +kernel
theorem dX11_lamp_22 : decode cX11_lamp 22 = .ok (.aload_n 0, 1) := by decide +kernel
theorem dX11_lamp_23 : decode cX11_lamp 23 = .ok (.getfield 21, 3) := by decide +kernel
theorem dX11_lamp_26 : decode cX11_lamp 26 = .ok (.iload_n 1, 1) := by decide +kernel
theorem dX11_lamp_27 : decode cX11_lamp 27 = .ok (.putfield 169, 3) := by decide +kernel
theorem dX11_lamp_30 : decode cX11_lamp 30 = .ok (.aload_n 0, 1) := by decide +kernel
theorem dX11_lamp_31 : decode cX11_lamp 31 = .ok (.getfield 21, 3) := by decide +kernel
theorem dX11_lamp_34 : decode cX11_lamp 34 = .ok (.iload_n 2, 1) := by decide +kernel
theorem dX11_lamp_35 : decode cX11_lamp 35 = .ok (.putfield 172, 3) := by decide +kernel
theorem dX11_lamp_38 : decode cX11_lamp 38 = .ok (.iconst 1, 1) := by decide +kernel
theorem dX11_lamp_39 : decode cX11_lamp 39 = .ok (.ireturn, 1) := by decide +kernel
theorem dX11_about_0 : decode cX11_about 0 = .ok (.iload_n 2, 1) := by decide +kernel
theorem dX11_about_1 : decode cX11_about 1 = .ok (.iconst 4, 1) := by decide +kernel
theorem dX11_about_2 : decode cX11_about 2 = .ok (.invokestatic 86, 3) := by decide +kernel
theorem dX11_about_5 : decode cX11_about 5 = .ok (.ifCond .eq 5, 3) := by decide +kernel
theorem dX11_about_8 : decode cX11_about 8 = .ok (.iconst (-1), 1) := by decide +kernel
theorem dX11_about_9 : decode cX11_about 9 = .ok (.ireturn, 1) := by decide +kernel
theorem dX11_about_10 : decode cX11_about 10 = .ok (.aload_n 0, 1) := by decide +kernel
theorem dX11_about_11 : decode cX11_about 11 = .ok (.iload_n 1, 1) := by decide +kernel
theorem dX11_about_12 : decode cX11_about 12 = .ok (.invokevirtual 162, 3) := by decide +kernel
theorem dX11_about_15 : decode cX11_about 15 = .ok (.istore_n 3, 1) := by decide +kernel
theorem dX11_about_16 : decode cX11_about 16 = .ok (.iload_n 3, 1) := by decide +kernel
theorem dX11_about_17 : decode cX11_about 17 = .ok (.ifCond .eq 7, 3) := by decide +kernel
theorem dX11_about_20 : decode cX11_about 20 = .ok (.iload_n 3, 1) := by decide +kernel
theorem dX11_about_21 : decode cX11_about 21 = .ok (.goto 20, 3) := by decide +kernel
theorem dX11_about_24 : decode cX11_about 24 = .ok (.aload_n 0, 1) := by decide +kernel
theorem dX11_about_25 : decode cX11_about 25 = .ok (.aload_n 0, 1) := by decide +kernel
theorem dX11_about_26 : decode cX11_about 26 = .ok (.getfield 21, 3) := by decide +kernel
theorem dX11_about_29 : decode cX11_about 29 = .ok (.getfield 147, 3) := by decide +kernel
theorem dX11_about_32 : decode cX11_about 32 = .ok (.iload_n 1, 1) := by decide +kernel
theorem dX11_about_33 : decode cX11_about 33 = .ok (.aaload, 1) := by decide +kernel
theorem dX11_about_34 : decode cX11_about 34 = .ok (.iload_n 2, 1) := by decide +kernel
theorem dX11_about_35 : decode cX11_about 35 = .ok (.invokevirtual 175, 3) := by decide +kernel
theorem dX11_about_38 : decode cX11_about 38 = .ok (.invokevirtual 106, 3) := by decide +kernel
theorem dX11_about_41 : decode cX11_about 41 = .ok (.ireturn, 1) := by decide +kernel
theorem dX11_shadow_0 : decode cX11_shadow 0 = .ok (.aload_n 0, 1) := by decide +kernel
theorem dX11_shadow_1 : decode cX11_shadow 1 = .ok (.getfield 21, 3) := by decide +kernel
theorem dX11_shadow_4 : decode cX11_shadow 4 = .ok (.iload_n 2, 1) := by decide +kernel
theorem dX11_shadow_5 : decode cX11_shadow 5 = .ok (.iload_n 3, 1) := by decide +kernel
theorem dX11_shadow_6 : decode cX11_shadow 6 = .ok (.invokevirtual 178, 3) := by decide +kernel
theorem dX11_shadow_9 : decode cX11_shadow 9 = .ok (.ifCond .eq 12, 3) := by decide +kernel
theorem dX11_shadow_12 : decode cX11_shadow 12 = .ok (.iload 4, 2) := by decide +kernel
theorem dX11_shadow_14 : decode cX11_shadow 14 = .ok (.iconst 4, 1) := by decide +kernel
theorem dX11_shadow_15 : decode cX11_shadow 15 = .ok (.invokestatic 86, 3) := by decide +kernel
theorem dX11_shadow_18 : decode cX11_shadow 18 = .ok (.ifCond .eq 5, 3) := by decide +kernel
theorem dX11_shadow_21 : decode cX11_shadow 21 = .ok (.iconst (-1), 1) := by decide +kernel
theorem dX11_shadow_22 : decode cX11_shadow 22 = .ok (.ireturn, 1) := by decide +kernel
theorem dX11_shadow_23 : decode cX11_shadow 23 = .ok (.aload_n 0, 1) := by decide +kernel
theorem dX11_shadow_24 : decode cX11_shadow 24 = .ok (.iload_n 1, 1) := by decide +kernel
theorem dX11_shadow_25 : decode cX11_shadow 25 = .ok (.invokevirtual 162, 3) := by decide +kernel
theorem dX11_shadow_28 : decode cX11_shadow 28 = .ok (.istore 5, 2) := by decide +kernel
theorem dX11_shadow_30 : decode cX11_shadow 30 = .ok (.iload 5, 2) := by decide +kernel
theorem dX11_shadow_32 : decode cX11_shadow 32 = .ok (.ifCond .eq 6, 3) := by decide +kernel
theorem dX11_shadow_35 : decode cX11_shadow 35 = .ok (.iload 5, 2) := by decide +kernel
theorem dX11_shadow_37 : decode cX11_shadow 37 = .ok (.ireturn, 1) := by decide +kernel
theorem dX11_shadow_38 : decode cX11_shadow 38 = .ok (.aload_n 0, 1) := by decide +kernel
theorem dX11_shadow_39 : decode cX11_shadow 39 = .ok (.aload_n 0, 1) := by decide +kernel
theorem dX11_shadow_40 : decode cX11_shadow 40 = .ok (.getfield 21, 3) := by decide +kernel
theorem dX11_shadow_43 : decode cX11_shadow 43 = .ok (.aload_n 0, 1) := by decide +kernel
theorem dX11_shadow_44 : decode cX11_shadow 44 = .ok (.getfield 21, 3) := by decide +kernel
theorem dX11_shadow_47 : decode cX11_shadow 47 = .ok (.getfield 147, 3) := by decide +kernel
theorem dX11_shadow_50 : decode cX11_shadow 50 = .ok (.iload_n 1, 1) := by decide +kernel
theorem dX11_shadow_51 : decode cX11_shadow 51 = .ok (.aaload, 1) := by decide +kernel
theorem dX11_shadow_52 : decode cX11_shadow 52 = .ok (.iload_n 2, 1) := by decide +kernel
theorem dX11_shadow_53 : decode cX11_shadow 53 = .ok (.iload_n 3, 1) := by decide +kernel
theorem dX11_shadow_54 : decode cX11_shadow 54 = .ok (.iload 4, 2) := by decide +kernel
theorem dX11_shadow_56 : decode cX11_shadow 56 = .ok (.invokevirtual 181, 3) := by decide +kernel
theorem dX11_shadow_59 : decode cX11_shadow 59 = .ok (.aload_n 0, 1) := by decide +kernel
theorem dX11_shadow_60 : decode cX11_shadow 60 = .ok (.getfield 21, 3) := by decide +kernel
theorem dX11_shadow_63 : decode cX11_shadow 63 = .ok (.getfield 169, 3) := by decide +kernel
theorem dX11_shadow_66 : decode cX11_shadow 66 = .ok (.iload_n 2, 1) := by decide +kernel
theorem dX11_shadow_67 : decode cX11_shadow 67 = .ok (.isub, 1) := by decide +kernel
theorem dX11_shadow_68 : decode cX11_shadow 68 = .ok (.i2l, 1) := by decide +kernel
theorem dX11_shadow_69 : decode cX11_shadow 69 = .ok (.invokevirtual 185, 3) := by decide +kernel
theorem dX11_shadow_72 : decode cX11_shadow 72 = .ok (.iconst 1, 1) := by decide +kernel
theorem dX11_shadow_73 : decode cX11_shadow 73 = .ok (.ireturn, 1) := by decide +kernel
theorem dX11_covers_0 : decode cX11_covers 0 = .ok (.aload_n 0, 1) := by decide +kernel
theorem dX11_covers_1 : decode cX11_covers 1 = .ok (.getfield 21, 3) := by decide +kernel
theorem dX11_covers_4 : decode cX11_covers 4 = .ok (.iload_n 2, 1) := by decide +kernel
theorem dX11_covers_5 : decode cX11_covers 5 = .ok (.iload_n 3, 1) := by decide +kernel
theorem dX11_covers_6 : decode cX11_covers 6 = .ok (.invokevirtual 178, 3) := by decide +kernel
theorem dX11_covers_9 : decode cX11_covers 9 = .ok (.ifCond .eq 17, 3) := by decide +kernel
theorem dX11_covers_12 : decode cX11_covers 12 = .ok (.aload_n 0, 1) := by decide +kernel
theorem dX11_covers_13 : decode cX11_covers 13 = .ok (.getfield 21, 3) := by decide +kernel
theorem dX11_covers_16 : decode cX11_covers 16 = .ok (.iload 5, 2) := by decide +kernel
theorem dX11_covers_18 : decode cX11_covers 18 = .ok (.iload 6, 2) := by decide +kernel
theorem dX11_covers_20 : decode cX11_covers 20 = .ok (.invokevirtual 178, 3) := by decide +kernel
theorem dX11_covers_23 : decode cX11_covers 23 = .ok (.ifCond .ne 5, 3) := by decide +kernel
theorem dX11_covers_26 : decode cX11_covers 26 = .ok (.iconst (-1), 1) := by decide +kernel
theorem dX11_covers_27 : decode cX11_covers 27 = .ok (.ireturn, 1) := by decide +kernel
theorem dX11_covers_28 : decode cX11_covers 28 = .ok (.aload_n 0, 1) := by decide +kernel
theorem dX11_covers_29 : decode cX11_covers 29 = .ok (.iload_n 1, 1) := by decide +kernel
theorem dX11_covers_30 : decode cX11_covers 30 = .ok (.iload 4, 2) := by decide +kernel
theorem dX11_covers_32 : decode cX11_covers 32 = .ok (.invokevirtual 189, 3) := by decide +kernel
theorem dX11_covers_35 : decode cX11_covers 35 = .ok (.istore 7, 2) := by decide +kernel
theorem dX11_covers_37 : decode cX11_covers 37 = .ok (.iload 7, 2) := by decide +kernel
theorem dX11_covers_39 : decode cX11_covers 39 = .ok (.ifCond .eq 6, 3) := by decide +kernel
theorem dX11_covers_42 : decode cX11_covers 42 = .ok (.iload 7, 2) := by decide +kernel
theorem dX11_covers_44 : decode cX11_covers 44 = .ok (.ireturn, 1) := by decide +kernel
theorem dX11_covers_45 : decode cX11_covers 45 = .ok (.aload_n 0, 1) := by decide +kernel
theorem dX11_covers_46 : decode cX11_covers 46 = .ok (.getfield 21, 3) := by decide +kernel
theorem dX11_covers_49 : decode cX11_covers 49 = .ok (.getfield 147, 3) := by decide +kernel
theorem dX11_covers_52 : decode cX11_covers 52 = .ok (.iload_n 1, 1) := by decide +kernel
theorem dX11_covers_53 : decode cX11_covers 53 = .ok (.aaload, 1) := by decide +kernel
theorem dX11_covers_54 : decode cX11_covers 54 = .ok (.getfield 193, 3) := by decide +kernel
theorem dX11_covers_57 : decode cX11_covers 57 = .ok (.istore 8, 2) := by decide +kernel
theorem dX11_covers_59 : decode cX11_covers 59 = .ok (.aload_n 0, 1) := by decide +kernel
theorem dX11_covers_60 : decode cX11_covers 60 = .ok (.getfield 21, 3) := by decide +kernel
theorem dX11_covers_63 : decode cX11_covers 63 = .ok (.getfield 147, 3) := by decide +kernel
theorem dX11_covers_66 : decode cX11_covers 66 = .ok (.iload 4, 2) := by decide +kernel
theorem dX11_covers_68 : decode cX11_covers 68 = .ok (.aaload, 1) := by decide +kernel
theorem dX11_covers_69 : decode cX11_covers 69 = .ok (.getfield 193, 3) := by decide +kernel
theorem dX11_covers_72 : decode cX11_covers 72 = .ok (.istore 9, 2) := by decide +kernel
theorem dX11_covers_74 : decode cX11_covers 74 = .ok (.aload_n 0, 1) := by decide +kernel
theorem dX11_covers_75 : decode cX11_covers 75 = .ok (.getfield 21, 3) := by decide +kernel
theorem dX11_covers_78 : decode cX11_covers 78 = .ok (.getfield 169, 3) := by decide +kernel
theorem dX11_covers_81 : decode cX11_covers 81 = .ok (.iload 5, 2) := by decide +kernel
theorem dX11_covers_83 : decode cX11_covers 83 = .ok (.isub, 1) := by decide +kernel
theorem dX11_covers_84 : decode cX11_covers 84 = .ok (.istore 10, 2) := by decide +kernel
theorem dX11_covers_86 : decode cX11_covers 86 = .ok (.aload_n 0, 1) := by decide +kernel
theorem dX11_covers_87 : decode cX11_covers 87 = .ok (.getfield 21, 3) := by decide +kernel
theorem dX11_covers_90 : decode cX11_covers 90 = .ok (.getfield 169, 3) := by decide +kernel
theorem dX11_covers_93 : decode cX11_covers 93 = .ok (.iload_n 2, 1) := by decide +kernel
theorem dX11_covers_94 : decode cX11_covers 94 = .ok (.isub, 1) := by decide +kernel
theorem dX11_covers_95 : decode cX11_covers 95 = .ok (.istore 11, 2) := by decide +kernel
theorem dX11_covers_97 : decode cX11_covers 97 = .ok (.iconst 2, 1) := by decide +kernel
theorem dX11_covers_98 : decode cX11_covers 98 = .ok (.iload_n 3, 1) := by decide +kernel
theorem dX11_covers_99 : decode cX11_covers 99 = .ok (.imul, 1) := by decide +kernel
theorem dX11_covers_100 : decode cX11_covers 100 = .ok (.iload 8, 2) := by decide +kernel
theorem dX11_covers_102 : decode cX11_covers 102 = .ok (.isub, 1) := by decide +kernel
theorem dX11_covers_103 : decode cX11_covers 103 = .ok (.iload 10, 2) := by decide +kernel
theorem dX11_covers_105 : decode cX11_covers 105 = .ok (.imul, 1) := by decide +kernel
theorem dX11_covers_106 : decode cX11_covers 106 = .ok (.iconst 2, 1) := by decide +kernel
theorem dX11_covers_107 : decode cX11_covers 107 = .ok (.iload 6, 2) := by decide +kernel
theorem dX11_covers_109 : decode cX11_covers 109 = .ok (.imul, 1) := by decide +kernel
theorem dX11_covers_110 : decode cX11_covers 110 = .ok (.iload 9, 2) := by decide +kernel
theorem dX11_covers_112 : decode cX11_covers 112 = .ok (.isub, 1) := by decide +kernel
theorem dX11_covers_113 : decode cX11_covers 113 = .ok (.iload 11, 2) := by decide +kernel
theorem dX11_covers_115 : decode cX11_covers 115 = .ok (.imul, 1) := by decide +kernel
theorem dX11_covers_116 : decode cX11_covers 116 = .ok (.if_icmp .gt 7, 3) := by decide +kernel
theorem dX11_covers_119 : decode cX11_covers 119 = .ok (.iconst 1, 1) := by decide +kernel
theorem dX11_covers_120 : decode cX11_covers 120 = .ok (.goto 4, 3) := by decide +kernel
theorem dX11_covers_123 : decode cX11_covers 123 = .ok (.iconst 0, 1) := by decide +kernel
theorem dX11_covers_124 : decode cX11_covers 124 = .ok (.istore 12, 2) := by decide +kernel
theorem dX11_covers_126 : decode cX11_covers 126 = .ok (.iconst 2, 1) := by decide +kernel
theorem dX11_covers_127 : decode cX11_covers 127 = .ok (.iload_n 3, 1) := by decide +kernel
theorem dX11_covers_128 : decode cX11_covers 128 = .ok (.imul, 1) := by decide +kernel
theorem dX11_covers_129 : decode cX11_covers 129 = .ok (.iload 8, 2) := by decide +kernel
theorem dX11_covers_131 : decode cX11_covers 131 = .ok (.iadd, 1) := by decide +kernel
theorem dX11_covers_132 : decode cX11_covers 132 = .ok (.iload 10, 2) := by decide +kernel
theorem dX11_covers_134 : decode cX11_covers 134 = .ok (.imul, 1) := by decide +kernel
theorem dX11_covers_135 : decode cX11_covers 135 = .ok (.iconst 2, 1) := by decide +kernel
theorem dX11_covers_136 : decode cX11_covers 136 = .ok (.iload 6, 2) := by decide +kernel
theorem dX11_covers_138 : decode cX11_covers 138 = .ok (.imul, 1) := by decide +kernel
theorem dX11_covers_139 : decode cX11_covers 139 = .ok (.iload 9, 2) := by decide +kernel
theorem dX11_covers_141 : decode cX11_covers 141 = .ok (.iadd, 1) := by decide +kernel
theorem dX11_covers_142 : decode cX11_covers 142 = .ok (.iload 11, 2) := by decide +kernel
theorem dX11_covers_144 : decode cX11_covers 144 = .ok (.imul, 1) := by decide +kernel
theorem dX11_covers_145 : decode cX11_covers 145 = .ok (.if_icmp .lt 7, 3) := by decide +kernel
theorem dX11_covers_148 : decode cX11_covers 148 = .ok (.iconst 1, 1) := by decide +kernel
theorem dX11_covers_149 : decode cX11_covers 149 = .ok (.goto 4, 3) := by decide +kernel
theorem dX11_covers_152 : decode cX11_covers 152 = .ok (.iconst 0, 1) := by decide +kernel
theorem dX11_covers_153 : decode cX11_covers 153 = .ok (.istore 13, 2) := by decide +kernel
theorem dX11_covers_155 : decode cX11_covers 155 = .ok (.iload 12, 2) := by decide +kernel
theorem dX11_covers_157 : decode cX11_covers 157 = .ok (.ifCond .eq 12, 3) := by decide +kernel
theorem dX11_covers_160 : decode cX11_covers 160 = .ok (.iload 13, 2) := by decide +kernel
theorem dX11_covers_162 : decode cX11_covers 162 = .ok (.ifCond .eq 7, 3) := by decide +kernel
theorem dX11_covers_165 : decode cX11_covers 165 = .ok (.iconst 1, 1) := by decide +kernel
theorem dX11_covers_166 : decode cX11_covers 166 = .ok (.goto 4, 3) := by decide +kernel
theorem dX11_covers_169 : decode cX11_covers 169 = .ok (.iconst 0, 1) := by decide +kernel
theorem dX11_covers_170 : decode cX11_covers 170 = .ok (.ireturn, 1) := by decide +kernel
theorem dX11_place_0 : decode cX11_place 0 = .ok (.iload_n 2, 1) := by decide +kernel
theorem dX11_place_1 : decode cX11_place 1 = .ok (.iconst 1, 1) := by decide +kernel
theorem dX11_place_2 : decode cX11_place 2 = .ok (.sipush 9999, 3) := by decide +kernel
theorem dX11_place_5 : decode cX11_place 5 = .ok (.invokestatic 142, 3) := by decide +kernel
theorem dX11_place_8 : decode cX11_place 8 = .ok (.ifCond .ne 5, 3) := by decide +kernel
theorem dX11_place_11 : decode cX11_place 11 = .ok (.iconst (-1), 1) := by decide +kernel
theorem dX11_place_12 : decode cX11_place 12 = .ok (.ireturn, 1) := by decide +kernel
theorem dX11_place_13 : decode cX11_place 13 = .ok (.aload_n 0, 1) := by decide +kernel
theorem dX11_place_14 : decode cX11_place 14 = .ok (.iload_n 1, 1) := by decide +kernel
theorem dX11_place_15 : decode cX11_place 15 = .ok (.invokevirtual 162, 3) := by decide +kernel
theorem dX11_place_18 : decode cX11_place 18 = .ok (.istore_n 3, 1) := by decide +kernel
theorem dX11_place_19 : decode cX11_place 19 = .ok (.iload_n 3, 1) := by decide +kernel
theorem dX11_place_20 : decode cX11_place 20 = .ok (.ifCond .eq 5, 3) := by decide +kernel
theorem dX11_place_23 : decode cX11_place 23 = .ok (.iload_n 3, 1) := by decide +kernel
theorem dX11_place_24 : decode cX11_place 24 = .ok (.ireturn, 1) := by decide +kernel
theorem dX11_place_25 : decode cX11_place 25 = .ok (.iload_n 2, 1) := by decide +kernel
theorem dX11_place_26 : decode cX11_place 26 = .ok (.aload_n 0, 1) := by decide +kernel
theorem dX11_place_27 : decode cX11_place 27 = .ok (.getfield 21, 3) := by decide +kernel
theorem dX11_place_30 : decode cX11_place 30 = .ok (.getfield 147, 3) := by decide +kernel
theorem dX11_place_33 : decode cX11_place 33 = .ok (.iload_n 1, 1) := by decide +kernel
theorem dX11_place_34 : decode cX11_place 34 = .ok (.aaload, 1) := by decide +kernel
theorem dX11_place_35 : decode cX11_place 35 = .ok (.getfield 193, 3) := by decide +kernel
theorem dX11_place_38 : decode cX11_place 38 = .ok (.isub, 1) := by decide +kernel
theorem dX11_place_39 : decode cX11_place 39 = .ok (.istore 4, 2) := by decide +kernel
theorem dX11_place_41 : decode cX11_place 41 = .ok (.iload 4, 2) := by decide +kernel
theorem dX11_place_43 : decode cX11_place 43 = .ok (.ifCond .ge 6, 3) := by decide +kernel
theorem dX11_place_46 : decode cX11_place 46 = .ok (.bipush (-9), 2) := by decide +kernel
theorem dX11_place_48 : decode cX11_place 48 = .ok (.ireturn, 1) := by decide +kernel
theorem dX11_place_49 : decode cX11_place 49 = .ok (.aload_n 0, 1) := by decide +kernel
theorem dX11_place_50 : decode cX11_place 50 = .ok (.aload_n 0, 1) := by decide +kernel
theorem dX11_place_51 : decode cX11_place 51 = .ok (.getfield 21, 3) := by decide +kernel
theorem dX11_place_54 : decode cX11_place 54 = .ok (.getfield 169, 3) := by decide +kernel
theorem dX11_place_57 : decode cX11_place 57 = .ok (.i2l, 1) := by decide +kernel
theorem dX11_place_58 : decode cX11_place 58 = .ok (.iload 4, 2) := by decide +kernel
theorem dX11_place_60 : decode cX11_place 60 = .ok (.i2l, 1) := by decide +kernel
theorem dX11_place_61 : decode cX11_place 61 = .ok (.lmul, 1) := by decide +kernel
theorem dX11_place_62 : decode cX11_place 62 = .ok (.iload_n 2, 1) := by decide +kernel
theorem dX11_place_63 : decode cX11_place 63 = .ok (.i2l, 1) := by decide +kernel
theorem dX11_place_64 : decode cX11_place 64 = .ok (.invokevirtual 185, 3) := by decide +kernel
theorem dX11_place_67 : decode cX11_place 67 = .ok (.aload_n 0, 1) := by decide +kernel
theorem dX11_place_68 : decode cX11_place 68 = .ok (.getfield 82, 3) := by decide +kernel
theorem dX11_place_71 : decode cX11_place 71 = .ok (.lconst 1, 1) := by decide +kernel
theorem dX11_place_72 : decode cX11_place 72 = .ok (.lcmp, 1) := by decide +kernel
theorem dX11_place_73 : decode cX11_place 73 = .ok (.ifCond .ne 7, 3) := by decide +kernel
theorem dX11_place_76 : decode cX11_place 76 = .ok (.iconst 1, 1) := by decide +kernel
theorem dX11_place_77 : decode cX11_place 77 = .ok (.goto 4, 3) := by decide +kernel
theorem dX11_place_80 : decode cX11_place 80 = .ok (.iconst 0, 1) := by decide +kernel
theorem dX11_place_81 : decode cX11_place 81 = .ok (.ireturn, 1) := by decide +kernel
theorem dX11_fault_0 : decode cX11_fault 0 = .ok (.aload_n 0, 1) := by decide +kernel
theorem dX11_fault_1 : decode cX11_fault 1 = .ok (.aload_n 0, 1) := by decide +kernel
theorem dX11_fault_2 : decode cX11_fault 2 = .ok (.getfield 15, 3) := by decide +kernel
theorem dX11_fault_5 : decode cX11_fault 5 = .ok (.iload_n 1, 1) := by decide +kernel
theorem dX11_fault_6 : decode cX11_fault 6 = .ok (.invokevirtual 109, 3) := by decide +kernel
theorem dX11_fault_9 : decode cX11_fault 9 = .ok (.istore_n 2, 1) := by decide +kernel
theorem dX11_fault_10 : decode cX11_fault 10 = .ok (.iload_n 2, 1) := by decide +kernel
theorem dX11_fault_11 : decode cX11_fault 11 = .ok (.ifCond .eq 7, 3) := by decide +kernel
theorem dX11_fault_14 : decode cX11_fault 14 = .ok (.iload_n 2, 1) := by decide +kernel
theorem dX11_fault_15 : decode cX11_fault 15 = .ok (.goto 16, 3) := by decide +kernel
theorem dX11_fault_18 : decode cX11_fault 18 = .ok (.aload_n 0, 1) := by decide +kernel
theorem dX11_fault_19 : decode cX11_fault 19 = .ok (.getfield 28, 3) := by decide +kernel
theorem dX11_fault_22 : decode cX11_fault 22 = .ok (.aload_n 0, 1) := by decide +kernel
theorem dX11_fault_23 : decode cX11_fault 23 = .ok (.getfield 15, 3) := by decide +kernel
theorem dX11_fault_26 : decode cX11_fault 26 = .ok (.iload_n 1, 1) := by decide +kernel
theorem dX11_fault_27 : decode cX11_fault 27 = .ok (.aaload, 1) := by decide +kernel
theorem dX11_fault_28 : decode cX11_fault 28 = .ok (.invokevirtual 196, 3) := by decide +kernel
theorem dX11_fault_31 : decode cX11_fault 31 = .ok (.ireturn, 1) := by decide +kernel
theorem dX11_story_0 : decode cX11_story 0 = .ok (.aload_n 0, 1) := by decide +kernel
theorem dX11_story_1 : decode cX11_story 1 = .ok (.aload_n 0, 1) := by decide +kernel
theorem dX11_story_2 : decode cX11_story 2 = .ok (.getfield 15, 3) := by decide +kernel
theorem dX11_story_5 : decode cX11_story 5 = .ok (.iload_n 1, 1) := by decide +kernel
theorem dX11_story_6 : decode cX11_story 6 = .ok (.invokevirtual 109, 3) := by decide +kernel
theorem dX11_story_9 : decode cX11_story 9 = .ok (.istore_n 2, 1) := by decide +kernel
theorem dX11_story_10 : decode cX11_story 10 = .ok (.iload_n 2, 1) := by decide +kernel
theorem dX11_story_11 : decode cX11_story 11 = .ok (.ifCond .eq 5, 3) := by decide +kernel
theorem dX11_story_14 : decode cX11_story 14 = .ok (.iload_n 2, 1) := by decide +kernel
theorem dX11_story_15 : decode cX11_story 15 = .ok (.ireturn, 1) := by decide +kernel
theorem dX11_story_16 : decode cX11_story 16 = .ok (.aload_n 0, 1) := by decide +kernel
theorem dX11_story_17 : decode cX11_story 17 = .ok (.getfield 28, 3) := by decide +kernel
theorem dX11_story_20 : decode cX11_story 20 = .ok (.aload_n 0, 1) := by decide +kernel
theorem dX11_story_21 : decode cX11_story 21 = .ok (.getfield 15, 3) := by decide +kernel
theorem dX11_story_24 : decode cX11_story 24 = .ok (.iload_n 1, 1) := by decide +kernel
theorem dX11_story_25 : decode cX11_story 25 = .ok (.aaload, 1) := by decide +kernel
theorem dX11_story_26 : decode cX11_story 26 = .ok (.invokevirtual 196, 3) := by decide +kernel
theorem dX11_story_29 : decode cX11_story 29 = .ok (.bipush (-9), 2) := by decide +kernel
theorem dX11_story_31 : decode cX11_story 31 = .ok (.if_icmp .eq 6, 3) := by decide +kernel
theorem dX11_story_34 : decode cX11_story 34 = .ok (.bipush (-4), 2) := by decide +kernel
theorem dX11_story_36 : decode cX11_story 36 = .ok (.ireturn, 1) := by decide +kernel
theorem dX11_story_37 : decode cX11_story 37 = .ok (.aload_n 0, 1) := by decide +kernel
theorem dX11_story_38 : decode cX11_story 38 = .ok (.getfield 28, 3) := by decide +kernel
theorem dX11_story_41 : decode cX11_story 41 = .ok (.invokevirtual 200, 3) := by decide +kernel
theorem dX11_story_44 : decode cX11_story 44 = .ok (.aload_n 0, 1) := by decide +kernel
theorem dX11_story_45 : decode cX11_story 45 = .ok (.getfield 28, 3) := by decide +kernel
theorem dX11_story_48 : decode cX11_story 48 = .ok (.getfield 203, 3) := by decide +kernel
theorem dX11_story_51 : decode cX11_story 51 = .ok (.ireturn, 1) := by decide +kernel
theorem dX11_scene_0 : decode cX11_scene 0 = .ok (.aload_n 0, 1) := by decide +kernel
theorem dX11_scene_1 : decode cX11_scene 1 = .ok (.getfield 28, 3) := by decide +kernel
theorem dX11_scene_4 : decode cX11_scene 4 = .ok (.iload_n 1, 1) := by decide +kernel
theorem dX11_scene_5 : decode cX11_scene 5 = .ok (.invokevirtual 204, 3) := by decide +kernel
theorem dX11_scene_8 : decode cX11_scene 8 = .ok (.ifCond .eq 11, 3) := by decide +kernel
theorem dX11_scene_11 : decode cX11_scene 11 = .ok (.iload_n 2, 1) := by decide +kernel
theorem dX11_scene_12 : decode cX11_scene 12 = .ok (.iconst 5, 1) := by decide +kernel
theorem dX11_scene_13 : decode cX11_scene 13 = .ok (.invokestatic 86, 3) := by decide +kernel
theorem dX11_scene_16 : decode cX11_scene 16 = .ok (.ifCond .eq 5, 3) := by decide +kernel
theorem dX11_scene_19 : decode cX11_scene 19 = .ok (.iconst (-1), 1) := by decide +kernel
theorem dX11_scene_20 : decode cX11_scene 20 = .ok (.ireturn, 1) := by decide +kernel
theorem dX11_scene_21 : decode cX11_scene 21 = .ok (.aload_n 0, 1) := by decide +kernel
theorem dX11_scene_22 : decode cX11_scene 22 = .ok (.aload_n 0, 1) := by decide +kernel
theorem dX11_scene_23 : decode cX11_scene 23 = .ok (.getfield 28, 3) := by decide +kernel
theorem dX11_scene_26 : decode cX11_scene 26 = .ok (.getfield 208, 3) := by decide +kernel
theorem dX11_scene_29 : decode cX11_scene 29 = .ok (.iload_n 1, 1) := by decide +kernel
theorem dX11_scene_30 : decode cX11_scene 30 = .ok (.aaload, 1) := by decide +kernel
theorem dX11_scene_31 : decode cX11_scene 31 = .ok (.iload_n 2, 1) := by decide +kernel
theorem dX11_scene_32 : decode cX11_scene 32 = .ok (.invokevirtual 212, 3) := by decide +kernel
theorem dX11_scene_35 : decode cX11_scene 35 = .ok (.invokevirtual 106, 3) := by decide +kernel
theorem dX11_scene_38 : decode cX11_scene 38 = .ok (.ireturn, 1) := by decide +kernel
theorem dX11_hands_0 : decode cX11_hands 0 = .ok (.aload_n 0, 1) := by decide +kernel
theorem dX11_hands_1 : decode cX11_hands 1 = .ok (.getfield 42, 3) := by decide +kernel
theorem dX11_hands_4 : decode cX11_hands 4 = .ok (.aload_n 0, 1) := by decide +kernel
theorem dX11_hands_5 : decode cX11_hands 5 = .ok (.getfield 28, 3) := by decide +kernel
theorem dX11_hands_8 : decode cX11_hands 8 = .ok (.invokevirtual 215, 3) := by decide +kernel
theorem dX11_hands_11 : decode cX11_hands 11 = .ok (.ireturn, 1) := by decide +kernel
theorem dX11_third_0 : decode cX11_third 0 = .ok (.iconst 0, 1) := by decide +kernel
theorem dX11_third_1 : decode cX11_third 1 = .ok (.istore_n 1, 1) := by decide +kernel
theorem dX11_third_2 : decode cX11_third 2 = .ok (.iload_n 1, 1) := by decide +kernel
theorem dX11_third_3 : decode cX11_third 3 = .ok (.aload_n 0, 1) := by decide +kernel
theorem dX11_third_4 : decode cX11_third 4 = .ok (.getfield 28, 3) := by decide +kernel
theorem dX11_third_7 : decode cX11_third 7 = .ok (.getfield 203, 3) := by decide +kernel
theorem dX11_third_10 : decode cX11_third 10 = .ok (.if_icmp .ge 30, 3) := by decide +kernel
theorem dX11_third_13 : decode cX11_third 13 = .ok (.aload_n 0, 1) := by decide +kernel
theorem dX11_third_14 : decode cX11_third 14 = .ok (.getfield 28, 3) := by decide +kernel
theorem dX11_third_17 : decode cX11_third 17 = .ok (.getfield 208, 3) := by decide +kernel
theorem dX11_third_20 : decode cX11_third 20 = .ok (.iload_n 1, 1) := by decide +kernel
theorem dX11_third_21 : decode cX11_third 21 = .ok (.aaload, 1) := by decide +kernel
theorem dX11_third_22 : decode cX11_third 22 = .ok (.getfield 219, 3) := by decide +kernel
theorem dX11_third_25 : decode cX11_third 25 = .ok (.invokestatic 157, 3) := by decide +kernel
theorem dX11_third_28 : decode cX11_third 28 = .ok (.iconst 2, 1) := by decide +kernel
theorem dX11_third_29 : decode cX11_third 29 = .ok (.if_icmp .le 5, 3) := by decide +kernel
theorem dX11_third_32 : decode cX11_third 32 = .ok (.iload_n 1, 1) := by decide +kernel
theorem dX11_third_33 : decode cX11_third 33 = .ok (.ireturn, 1) := by decide +kernel
theorem dX11_third_34 : decode cX11_third 34 = .ok (.iinc 1 1, 3) := by decide +kernel
theorem dX11_third_37 : decode cX11_third 37 = .ok (.goto (-35), 3) := by decide +kernel
theorem dX11_third_40 : decode cX11_third 40 = .ok (.bipush (-9), 2) := by decide +kernel
theorem dX11_third_42 : decode cX11_third 42 = .ok (.ireturn, 1) := by decide +kernel
theorem dX11_takings_0 : decode cX11_takings 0 = .ok (.aload_n 0, 1) := by decide +kernel
theorem dX11_takings_1 : decode cX11_takings 1 = .ok (.getfield 49, 3) := by decide +kernel
theorem dX11_takings_4 : decode cX11_takings 4 = .ok (.aload_n 0, 1) := by decide +kernel
theorem dX11_takings_5 : decode cX11_takings 5 = .ok (.getfield 28, 3) := by decide +kernel
theorem dX11_takings_8 : decode cX11_takings 8 = .ok (.invokevirtual 222, 3) := by decide +kernel
theorem dX11_takings_11 : decode cX11_takings 11 = .ok (.aload_n 0, 1) := by decide +kernel
theorem dX11_takings_12 : decode cX11_takings 12 = .ok (.aload_n 0, 1) := by decide +kernel
theorem dX11_takings_13 : decode cX11_takings 13 = .ok (.getfield 49, 3) := by decide +kernel
theorem dX11_takings_16 : decode cX11_takings 16 = .ok (.invokevirtual 226, 3) := by decide +kernel
theorem dX11_takings_19 : decode cX11_takings 19 = .ok (.invokevirtual 106, 3) := by decide +kernel
theorem dX11_takings_22 : decode cX11_takings 22 = .ok (.pop, 1) := by decide +kernel
theorem dX11_takings_23 : decode cX11_takings 23 = .ok (.aload_n 0, 1) := by decide +kernel
theorem dX11_takings_24 : decode cX11_takings 24 = .ok (.getfield 49, 3) := by decide +kernel
theorem dX11_takings_27 : decode cX11_takings 27 = .ok (.getfield 230, 3) := by decide +kernel
theorem dX11_takings_30 : decode cX11_takings 30 = .ok (.ireturn, 1) := by decide +kernel
theorem dX11_reaching_0 : decode cX11_reaching 0 = .ok (.aload_n 0, 1) := by decide +kernel
theorem dX11_reaching_1 : decode cX11_reaching 1 = .ok (.aload_n 0, 1) := by decide +kernel
theorem dX11_reaching_2 : decode cX11_reaching 2 = .ok (.getfield 11, 3) := by decide +kernel
theorem dX11_reaching_5 : decode cX11_reaching 5 = .ok (.iload_n 1, 1) := by decide +kernel
theorem dX11_reaching_6 : decode cX11_reaching 6 = .ok (.invokevirtual 109, 3) := by decide +kernel
theorem dX11_reaching_9 : decode cX11_reaching 9 = .ok (.istore_n 2, 1) := by decide +kernel
theorem dX11_reaching_10 : decode cX11_reaching 10 = .ok (.iload_n 2, 1) := by decide +kernel
theorem dX11_reaching_11 : decode cX11_reaching 11 = .ok (.ifCond .eq 5, 3) := by decide +kernel
theorem dX11_reaching_14 : decode cX11_reaching 14 = .ok (.iload_n 2, 1) := by decide +kernel
theorem dX11_reaching_15 : decode cX11_reaching 15 = .ok (.ireturn, 1) := by decide +kernel
theorem dX11_reaching_16 : decode cX11_reaching 16 = .ok (.aload_n 0, 1) := by decide +kernel
theorem dX11_reaching_17 : decode cX11_reaching 17 = .ok (.getfield 28, 3) := by decide +kernel
theorem dX11_reaching_20 : decode cX11_reaching 20 = .ok (.invokevirtual 233, 3) := by decide +kernel
theorem dX11_reaching_23 : decode cX11_reaching 23 = .ok (.istore_n 3, 1) := by decide +kernel
theorem dX11_reaching_24 : decode cX11_reaching 24 = .ok (.aload_n 0, 1) := by decide +kernel
theorem dX11_reaching_25 : decode cX11_reaching 25 = .ok (.getfield 11, 3) := by decide +kernel
theorem dX11_reaching_28 : decode cX11_reaching 28 = .ok (.iload_n 1, 1) := by decide +kernel
theorem dX11_reaching_29 : decode cX11_reaching 29 = .ok (.aaload, 1) := by decide +kernel
theorem dX11_reaching_30 : decode cX11_reaching 30 = .ok (.getfield 135, 3) := by decide +kernel
theorem dX11_reaching_33 : decode cX11_reaching 33 = .ok (.iload_n 3, 1) := by decide +kernel
theorem dX11_reaching_34 : decode cX11_reaching 34 = .ok (.invokestatic 157, 3) := by decide +kernel
theorem dX11_reaching_37 : decode cX11_reaching 37 = .ok (.if_icmp .eq 9, 3) := by decide +kernel
theorem dX11_reaching_40 : decode cX11_reaching 40 = .ok (.aload_n 0, 1) := by decide +kernel
theorem dX11_reaching_41 : decode cX11_reaching 41 = .ok (.iconst 5, 1) := by decide +kernel
theorem dX11_reaching_42 : decode cX11_reaching 42 = .ok (.invokevirtual 116, 3) := by decide +kernel
theorem dX11_reaching_45 : decode cX11_reaching 45 = .ok (.ireturn, 1) := by decide +kernel
theorem dX11_reaching_46 : decode cX11_reaching 46 = .ok (.aload_n 0, 1) := by decide +kernel
theorem dX11_reaching_47 : decode cX11_reaching 47 = .ok (.getfield 49, 3) := by decide +kernel
theorem dX11_reaching_50 : decode cX11_reaching 50 = .ok (.aload_n 0, 1) := by decide +kernel
theorem dX11_reaching_51 : decode cX11_reaching 51 = .ok (.getfield 11, 3) := by decide +kernel
theorem dX11_reaching_54 : decode cX11_reaching 54 = .ok (.iload_n 1, 1) := by decide +kernel
theorem dX11_reaching_55 : decode cX11_reaching 55 = .ok (.aaload, 1) := by decide +kernel
theorem dX11_reaching_56 : decode cX11_reaching 56 = .ok (.iload_n 3, 1) := by decide +kernel
theorem dX11_reaching_57 : decode cX11_reaching 57 = .ok (.invokevirtual 236, 3) := by decide +kernel
theorem dX11_reaching_60 : decode cX11_reaching 60 = .ok (.ifCond .ne 9, 3) := by decide +kernel
theorem dX11_reaching_63 : decode cX11_reaching 63 = .ok (.aload_n 0, 1) := by decide +kernel
theorem dX11_reaching_64 : decode cX11_reaching 64 = .ok (.iconst 3, 1) := by decide +kernel
theorem dX11_reaching_65 : decode cX11_reaching 65 = .ok (.invokevirtual 116, 3) := by decide +kernel
theorem dX11_reaching_68 : decode cX11_reaching 68 = .ok (.ireturn, 1) := by decide +kernel
theorem dX11_reaching_69 : decode cX11_reaching 69 = .ok (.aload_n 0, 1) := by decide +kernel
theorem dX11_reaching_70 : decode cX11_reaching 70 = .ok (.getfield 49, 3) := by decide +kernel
theorem dX11_reaching_73 : decode cX11_reaching 73 = .ok (.aload_n 0, 1) := by decide +kernel
theorem dX11_reaching_74 : decode cX11_reaching 74 = .ok (.getfield 28, 3) := by decide +kernel
theorem dX11_reaching_77 : decode cX11_reaching 77 = .ok (.invokevirtual 222, 3) := by decide +kernel
theorem dX11_reaching_80 : decode cX11_reaching 80 = .ok (.aload_n 0, 1) := by decide +kernel
theorem dX11_reaching_81 : decode cX11_reaching 81 = .ok (.getfield 49, 3) := by decide +kernel
theorem dX11_reaching_84 : decode cX11_reaching 84 = .ok (.invokevirtual 240, 3) := by decide +kernel
theorem dX11_reaching_87 : decode cX11_reaching 87 = .ok (.ireturn, 1) := by decide +kernel
theorem dX11_trunk_0 : decode cX11_trunk 0 = .ok (.iload_n 1, 1) := by decide +kernel
theorem dX11_trunk_1 : decode cX11_trunk 1 = .ok (.bipush 6, 2) := by decide +kernel
theorem dX11_trunk_3 : decode cX11_trunk 3 = .ok (.invokestatic 86, 3) := by decide +kernel
theorem dX11_trunk_6 : decode cX11_trunk 6 = .ok (.ifCond .eq 5, 3) := by decide +kernel
theorem dX11_trunk_9 : decode cX11_trunk 9 = .ok (.iconst (-1), 1) := by decide +kernel
theorem dX11_trunk_10 : decode cX11_trunk 10 = .ok (.ireturn, 1) := by decide +kernel
theorem dX11_trunk_11 : decode cX11_trunk 11 = .ok (.aload_n 0, 1) := by decide +kernel
theorem dX11_trunk_12 : decode cX11_trunk 12 = .ok (.getfield 49, 3) := by decide +kernel
theorem dX11_trunk_15 : decode cX11_trunk 15 = .ok (.aload_n 0, 1) := by decide +kernel
theorem dX11_trunk_16 : decode cX11_trunk 16 = .ok (.getfield 28, 3) := by decide +kernel
theorem dX11_trunk_19 : decode cX11_trunk 19 = .ok (.invokevirtual 222, 3) := by decide +kernel
theorem dX11_trunk_22 : decode cX11_trunk 22 = .ok (.aload_n 0, 1) := by decide +kernel
theorem dX11_trunk_23 : decode cX11_trunk 23 = .ok (.getfield 49, 3) := by decide +kernel
theorem dX11_trunk_26 : decode cX11_trunk 26 = .ok (.aload_n 0, 1) := by decide +kernel
theorem dX11_trunk_27 : decode cX11_trunk 27 = .ok (.getfield 28, 3) := by decide +kernel
theorem dX11_trunk_30 : decode cX11_trunk 30 = .ok (.invokevirtual 233, 3) := by decide +kernel
theorem dX11_trunk_33 : decode cX11_trunk 33 = .ok (.aload_n 0, 1) := by decide +kernel
theorem dX11_trunk_34 : decode cX11_trunk 34 = .ok (.getfield 11, 3) := by decide +kernel
theorem dX11_trunk_37 : decode cX11_trunk 37 = .ok (.iload_n 1, 1) := by decide +kernel
theorem dX11_trunk_38 : decode cX11_trunk 38 = .ok (.aaload, 1) := by decide +kernel
theorem dX11_trunk_39 : decode cX11_trunk 39 = .ok (.invokevirtual 243, 3) := by decide +kernel
theorem dX11_trunk_42 : decode cX11_trunk 42 = .ok (.ireturn, 1) := by decide +kernel
theorem dX11_markScene_0 : decode cX11_markScene 0 = .ok (.aload_n 0, 1) := by decide +kernel
theorem dX11_markScene_1 : decode cX11_markScene 1 = .ok (.getfield 28, 3) := by decide +kernel
theorem dX11_markScene_4 : decode cX11_markScene 4 = .ok (.iload_n 1, 1) := by decide +kernel
theorem dX11_markScene_5 : decode cX11_markScene 5 = .ok (.invokevirtual 204, 3) := by decide +kernel
theorem dX11_markScene_8 : decode cX11_markScene 8 = .ok (.ifCond .eq 30, 3) := by decide +kernel
theorem dX11_markScene_11 : decode cX11_markScene 11 = .ok (.iload_n 2, 1) := by decide +kernel
theorem dX11_markScene_12 : decode cX11_markScene 12 = .ok (.iload_n 3, 1) := by decide +kernel
theorem dX11_markScene_13 : decode cX11_markScene 13 = .ok (.if_icmp .gt 25, 3) := by decide +kernel
theorem dX11_markScene_16 : decode cX11_markScene 16 = .ok (.iload_n 2, 1) := by decide +kernel
theorem dX11_markScene_17 : decode cX11_markScene 17 = .ok (.iconst 0, 1) := by decide +kernel
theorem dX11_markScene_18 : decode cX11_markScene 18 = .ok (.sipush 999, 3) := by decide +kernel
theorem dX11_markScene_21 : decode cX11_markScene 21 = .ok (.invokestatic 142, 3) := by decide +kernel
theorem dX11_markScene_24 : decode cX11_markScene 24 = .ok (.ifCond .eq 14, 3) := by decide +kernel
theorem dX11_markScene_27 : decode cX11_markScene 27 = .ok (.iload_n 3, 1) := by decide +kernel
theorem dX11_markScene_28 : decode cX11_markScene 28 = .ok (.iconst 0, 1) := by decide +kernel
theorem dX11_markScene_29 : decode cX11_markScene 29 = .ok (.sipush 999, 3) := by decide +kernel
theorem dX11_markScene_32 : decode cX11_markScene 32 = .ok (.invokestatic 142, 3) := by decide +kernel
theorem dX11_markScene_35 : decode cX11_markScene 35 = .ok (.ifCond .ne 5, 3) := by decide +kernel
theorem dX11_markScene_38 : decode cX11_markScene 38 = .ok (.iconst (-1), 1) := by decide +kernel
theorem dX11_markScene_39 : decode cX11_markScene 39 = .ok (.ireturn, 1) := by decide +kernel
theorem dX11_markScene_40 : decode cX11_markScene 40 = .ok (.aload_n 0, 1) := by decide +kernel
theorem dX11_markScene_41 : decode cX11_markScene 41 = .ok (.getfield 28, 3) := by decide +kernel
theorem dX11_markScene_44 : decode cX11_markScene 44 = .ok (.getfield 208, 3) := by decide +kernel
theorem dX11_markScene_47 : decode cX11_markScene 47 = .ok (.iload_n 1, 1) := by decide +kernel
theorem dX11_markScene_48 : decode cX11_markScene 48 = .ok (.aaload, 1) := by decide +kernel
theorem dX11_markScene_49 : decode cX11_markScene 49 = .ok (.invokevirtual 247, 3) := by decide +kernel
theorem dX11_markScene_52 : decode cX11_markScene 52 = .ok (.ifCond .ne 17, 3) := by decide +kernel
theorem dX11_markScene_55 : decode cX11_markScene 55 = .ok (.aload_n 0, 1) := by decide +kernel
theorem dX11_markScene_56 : decode cX11_markScene 56 = .ok (.getfield 28, 3) := by decide +kernel
theorem dX11_markScene_59 : decode cX11_markScene 59 = .ok (.invokevirtual 250, 3) := by decide +kernel
theorem dX11_markScene_62 : decode cX11_markScene 62 = .ok (.iconst 4, 1) := by decide +kernel
theorem dX11_markScene_63 : decode cX11_markScene 63 = .ok (.if_icmp .lt 6, 3) := by decide +kernel
theorem dX11_markScene_66 : decode cX11_markScene 66 = .ok (.bipush (-2), 2) := by decide +kernel
theorem dX11_markScene_68 : decode cX11_markScene 68 = .ok (.ireturn, 1) := by decide +kernel
theorem dX11_markScene_69 : decode cX11_markScene 69 = .ok (.aload_n 0, 1) := by decide +kernel
theorem dX11_markScene_70 : decode cX11_markScene 70 = .ok (.getfield 28, 3) := by decide +kernel
theorem dX11_markScene_73 : decode cX11_markScene 73 = .ok (.getfield 208, 3) := by decide +kernel
theorem dX11_markScene_76 : decode cX11_markScene 76 = .ok (.iload_n 1, 1) := by decide +kernel
theorem dX11_markScene_77 : decode cX11_markScene 77 = .ok (.aaload, 1) := by decide +kernel
theorem dX11_markScene_78 : decode cX11_markScene 78 = .ok (.iload_n 2, 1) := by decide +kernel
theorem dX11_markScene_79 : decode cX11_markScene 79 = .ok (.putfield 253, 3) := by decide +kernel
theorem dX11_markScene_82 : decode cX11_markScene 82 = .ok (.aload_n 0, 1) := by decide +kernel
theorem dX11_markScene_83 : decode cX11_markScene 83 = .ok (.getfield 28, 3) := by decide +kernel
theorem dX11_markScene_86 : decode cX11_markScene 86 = .ok (.getfield 208, 3) := by decide +kernel
theorem dX11_markScene_89 : decode cX11_markScene 89 = .ok (.iload_n 1, 1) := by decide +kernel
theorem dX11_markScene_90 : decode cX11_markScene 90 = .ok (.aaload, 1) := by decide +kernel
theorem dX11_markScene_91 : decode cX11_markScene 91 = .ok (.iload_n 3, 1) := by decide +kernel
theorem dX11_markScene_92 : decode cX11_markScene 92 = .ok (.putfield 256, 3) := by decide +kernel
theorem dX11_markScene_95 : decode cX11_markScene 95 = .ok (.aload_n 0, 1) := by decide +kernel
theorem dX11_markScene_96 : decode cX11_markScene 96 = .ok (.getfield 28, 3) := by decide +kernel
theorem dX11_markScene_99 : decode cX11_markScene 99 = .ok (.invokevirtual 250, 3) := by decide +kernel
theorem dX11_markScene_102 : decode cX11_markScene 102 = .ok (.ireturn, 1) := by decide +kernel
theorem dX11_need_0 : decode cX11_need 0 = .ok (.aload_n 0, 1) := by decide +kernel
theorem dX11_need_1 : decode cX11_need 1 = .ok (.getfield 28, 3) := by decide +kernel
theorem dX11_need_4 : decode cX11_need 4 = .ok (.iload_n 1, 1) := by decide +kernel
theorem dX11_need_5 : decode cX11_need 5 = .ok (.invokevirtual 204, 3) := by decide +kernel
theorem dX11_need_8 : decode cX11_need 8 = .ok (.ifCond .eq 31, 3) := by decide +kernel
theorem dX11_need_11 : decode cX11_need 11 = .ok (.iload_n 2, 1) := by decide +kernel
theorem dX11_need_12 : decode cX11_need 12 = .ok (.bipush 8, 2) := by decide +kernel
theorem dX11_need_14 : decode cX11_need 14 = .ok (.invokestatic 86, 3) := by decide +kernel
theorem dX11_need_17 : decode cX11_need 17 = .ok (.ifCond .ne 22, 3) := by decide +kernel
theorem dX11_need_20 : decode cX11_need 20 = .ok (.aload_n 0, 1) := by decide +kernel
theorem dX11_need_21 : decode cX11_need 21 = .ok (.getfield 28, 3) := by decide +kernel
theorem dX11_need_24 : decode cX11_need 24 = .ok (.getfield 208, 3) := by decide +kernel
theorem dX11_need_27 : decode cX11_need 27 = .ok (.iload_n 1, 1) := by decide +kernel
theorem dX11_need_28 : decode cX11_need 28 = .ok (.aaload, 1) := by decide +kernel
theorem dX11_need_29 : decode cX11_need 29 = .ok (.getfield 219, 3) := by decide +kernel
theorem dX11_need_32 : decode cX11_need 32 = .ok (.iload_n 2, 1) := by decide +kernel
theorem dX11_need_33 : decode cX11_need 33 = .ok (.ishr, 1) := by decide +kernel
theorem dX11_need_34 : decode cX11_need 34 = .ok (.iconst 1, 1) := by decide +kernel
theorem dX11_need_35 : decode cX11_need 35 = .ok (.iand, 1) := by decide +kernel
theorem dX11_need_36 : decode cX11_need 36 = .ok (.ifCond .ne 5, 3) := by decide +kernel
theorem dX11_need_39 : decode cX11_need 39 = .ok (.iconst (-1), 1) := by decide +kernel
theorem dX11_need_40 : decode cX11_need 40 = .ok (.ireturn, 1) := by decide +kernel
theorem dX11_need_41 : decode cX11_need 41 = .ok (.aload_n 0, 1) := by decide +kernel
theorem dX11_need_42 : decode cX11_need 42 = .ok (.getfield 28, 3) := by decide +kernel
theorem dX11_need_45 : decode cX11_need 45 = .ok (.getfield 208, 3) := by decide +kernel
theorem dX11_need_48 : decode cX11_need 48 = .ok (.iload_n 1, 1) := by decide +kernel
theorem dX11_need_49 : decode cX11_need 49 = .ok (.aaload, 1) := by decide +kernel
theorem dX11_need_50 : decode cX11_need 50 = .ok (.dup, 1) := by decide +kernel
theorem dX11_need_51 : decode cX11_need 51 = .ok (.getfield 259, 3) := by decide +kernel
theorem dX11_need_54 : decode cX11_need 54 = .ok (.iconst 1, 1) := by decide +kernel
theorem dX11_need_55 : decode cX11_need 55 = .ok (.iload_n 2, 1) := by decide +kernel
theorem dX11_need_56 : decode cX11_need 56 = .ok (.ishl, 1) := by decide +kernel
theorem dX11_need_57 : decode cX11_need 57 = .ok (.ior, 1) := by decide +kernel
theorem dX11_need_58 : decode cX11_need 58 = .ok (.putfield 259, 3) := by decide +kernel
theorem dX11_need_61 : decode cX11_need 61 = .ok (.iconst 1, 1) := by decide +kernel
theorem dX11_need_62 : decode cX11_need 62 = .ok (.ireturn, 1) := by decide +kernel
theorem dX11_good_0 : decode cX11_good 0 = .ok (.aload_n 0, 1) := by decide +kernel
theorem dX11_good_1 : decode cX11_good 1 = .ok (.getfield 28, 3) := by decide +kernel
theorem dX11_good_4 : decode cX11_good 4 = .ok (.iload_n 1, 1) := by decide +kernel
theorem dX11_good_5 : decode cX11_good 5 = .ok (.invokevirtual 262, 3) := by decide +kernel
theorem dX11_good_8 : decode cX11_good 8 = .ok (.ifCond .ne 5, 3) := by decide +kernel
theorem dX11_good_11 : decode cX11_good 11 = .ok (.iconst (-1), 1) := by decide +kernel
theorem dX11_good_12 : decode cX11_good 12 = .ok (.ireturn, 1) := by decide +kernel
theorem dX11_good_13 : decode cX11_good 13 = .ok (.aload_n 0, 1) := by decide +kernel
theorem dX11_good_14 : decode cX11_good 14 = .ok (.getfield 35, 3) := by decide +kernel
theorem dX11_good_17 : decode cX11_good 17 = .ok (.aload_n 0, 1) := by decide +kernel
theorem dX11_good_18 : decode cX11_good 18 = .ok (.getfield 28, 3) := by decide +kernel
theorem dX11_good_21 : decode cX11_good 21 = .ok (.iload_n 1, 1) := by decide +kernel
theorem dX11_good_22 : decode cX11_good 22 = .ok (.bipush (-9), 2) := by decide +kernel
theorem dX11_good_24 : decode cX11_good 24 = .ok (.iconst 0, 1) := by decide +kernel
theorem dX11_good_25 : decode cX11_good 25 = .ok (.invokevirtual 265, 3) := by decide +kernel
theorem dX11_good_28 : decode cX11_good 28 = .ok (.ifCond .eq 7, 3) := by decide +kernel
theorem dX11_good_31 : decode cX11_good 31 = .ok (.iconst 1, 1) := by decide +kernel
theorem dX11_good_32 : decode cX11_good 32 = .ok (.goto 4, 3) := by decide +kernel
theorem dX11_good_35 : decode cX11_good 35 = .ok (.iconst 0, 1) := by decide +kernel
theorem dX11_good_36 : decode cX11_good 36 = .ok (.ireturn, 1) := by decide +kernel
theorem dX11_best_0 : decode cX11_best 0 = .ok (.aload_n 0, 1) := by decide +kernel
theorem dX11_best_1 : decode cX11_best 1 = .ok (.getfield 35, 3) := by decide +kernel
theorem dX11_best_4 : decode cX11_best 4 = .ok (.aload_n 0, 1) := by decide +kernel
theorem dX11_best_5 : decode cX11_best 5 = .ok (.getfield 28, 3) := by decide +kernel
theorem dX11_best_8 : decode cX11_best 8 = .ok (.invokevirtual 269, 3) := by decide +kernel
theorem dX11_best_11 : decode cX11_best 11 = .ok (.istore_n 1, 1) := by decide +kernel
theorem dX11_best_12 : decode cX11_best 12 = .ok (.iload_n 1, 1) := by decide +kernel
theorem dX11_best_13 : decode cX11_best 13 = .ok (.bipush (-9), 2) := by decide +kernel
theorem dX11_best_15 : decode cX11_best 15 = .ok (.if_icmp .eq 15, 3) := by decide +kernel
theorem dX11_best_18 : decode cX11_best 18 = .ok (.aload_n 0, 1) := by decide +kernel
theorem dX11_best_19 : decode cX11_best 19 = .ok (.aload_n 0, 1) := by decide +kernel
theorem dX11_best_20 : decode cX11_best 20 = .ok (.getfield 35, 3) := by decide +kernel
theorem dX11_best_23 : decode cX11_best 23 = .ok (.getfield 272, 3) := by decide +kernel
theorem dX11_best_26 : decode cX11_best 26 = .ok (.invokevirtual 106, 3) := by decide +kernel
theorem dX11_best_29 : decode cX11_best 29 = .ok (.pop, 1) := by decide +kernel
theorem dX11_best_30 : decode cX11_best 30 = .ok (.iload_n 1, 1) := by decide +kernel
theorem dX11_best_31 : decode cX11_best 31 = .ok (.ireturn, 1) := by decide +kernel
theorem dX11_begins_0 : decode cX11_begins 0 = .ok (.aload_n 0, 1) := by decide +kernel
theorem dX11_begins_1 : decode cX11_begins 1 = .ok (.getfield 28, 3) := by decide +kernel
theorem dX11_begins_4 : decode cX11_begins 4 = .ok (.iload_n 1, 1) := by decide +kernel
theorem dX11_begins_5 : decode cX11_begins 5 = .ok (.invokevirtual 262, 3) := by decide +kernel
theorem dX11_begins_8 : decode cX11_begins 8 = .ok (.ifCond .eq 14, 3) := by decide +kernel
theorem dX11_begins_11 : decode cX11_begins 11 = .ok (.aload_n 0, 1) := by decide +kernel
theorem dX11_begins_12 : decode cX11_begins 12 = .ok (.getfield 28, 3) := by decide +kernel
theorem dX11_begins_15 : decode cX11_begins 15 = .ok (.iload_n 2, 1) := by decide +kernel
theorem dX11_begins_16 : decode cX11_begins 16 = .ok (.invokevirtual 204, 3) := by decide +kernel
theorem dX11_begins_19 : decode cX11_begins 19 = .ok (.ifCond .ne 5, 3) := by decide +kernel
theorem dX11_begins_22 : decode cX11_begins 22 = .ok (.iconst (-1), 1) := by decide +kernel
theorem dX11_begins_23 : decode cX11_begins 23 = .ok (.ireturn, 1) := by decide +kernel
theorem dX11_begins_24 : decode cX11_begins 24 = .ok (.aload_n 0, 1) := by decide +kernel
theorem dX11_begins_25 : decode cX11_begins 25 = .ok (.getfield 35, 3) := by decide +kernel
theorem dX11_begins_28 : decode cX11_begins 28 = .ok (.aload_n 0, 1) := by decide +kernel
theorem dX11_begins_29 : decode cX11_begins 29 = .ok (.getfield 28, 3) := by decide +kernel
theorem dX11_begins_32 : decode cX11_begins 32 = .ok (.iload_n 1, 1) := by decide +kernel
theorem dX11_begins_33 : decode cX11_begins 33 = .ok (.iload_n 2, 1) := by decide +kernel
theorem dX11_begins_34 : decode cX11_begins 34 = .ok (.invokevirtual 275, 3) := by decide +kernel
theorem dX11_begins_37 : decode cX11_begins 37 = .ok (.ifCond .ne 6, 3) := by decide +kernel
theorem dX11_begins_40 : decode cX11_begins 40 = .ok (.bipush (-9), 2) := by decide +kernel
theorem dX11_begins_42 : decode cX11_begins 42 = .ok (.ireturn, 1) := by decide +kernel
theorem dX11_begins_43 : decode cX11_begins 43 = .ok (.aload_n 0, 1) := by decide +kernel
theorem dX11_begins_44 : decode cX11_begins 44 = .ok (.aload_n 0, 1) := by decide +kernel
theorem dX11_begins_45 : decode cX11_begins 45 = .ok (.getfield 35, 3) := by decide +kernel
theorem dX11_begins_48 : decode cX11_begins 48 = .ok (.getfield 279, 3) := by decide +kernel
theorem dX11_begins_51 : decode cX11_begins 51 = .ok (.invokevirtual 106, 3) := by decide +kernel
theorem dX11_begins_54 : decode cX11_begins 54 = .ok (.pop, 1) := by decide +kernel
theorem dX11_begins_55 : decode cX11_begins 55 = .ok (.aload_n 0, 1) := by decide +kernel
theorem dX11_begins_56 : decode cX11_begins 56 = .ok (.getfield 35, 3) := by decide +kernel
theorem dX11_begins_59 : decode cX11_begins 59 = .ok (.getfield 282, 3) := by decide +kernel
theorem dX11_begins_62 : decode cX11_begins 62 = .ok (.ireturn, 1) := by decide +kernel
theorem dX11_laughter_0 : decode cX11_laughter 0 = .ok (.aload_n 0, 1) := by decide +kernel
theorem dX11_laughter_1 : decode cX11_laughter 1 = .ok (.getfield 28, 3) := by decide +kernel
theorem dX11_laughter_4 : decode cX11_laughter 4 = .ok (.iload_n 1, 1) := by decide +kernel
theorem dX11_laughter_5 : decode cX11_laughter 5 = .ok (.invokevirtual 262, 3) := by decide +kernel
theorem dX11_laughter_8 : decode cX11_laughter 8 = .ok (.ifCond .eq 22, 3) := by decide +kernel
theorem dX11_laughter_11 : decode cX11_laughter 11 = .ok (.aload_n 0, 1) := by decide +kernel
theorem dX11_laughter_12 : decode cX11_laughter 12 = .ok (.getfield 28, 3) := by decide +kernel
theorem dX11_laughter_15 : decode cX11_laughter 15 = .ok (.iload_n 2, 1) := by decide +kernel
theorem dX11_laughter_16 : decode cX11_laughter 16 = .ok (.invokevirtual 204, 3) := by decide +kernel
theorem dX11_laughter_19 : decode cX11_laughter 19 = .ok (.ifCond .eq 11, 3) := by decide +kernel
theorem dX11_laughter_22 : decode cX11_laughter 22 = .ok (.iload_n 1, 1) := by decide +kernel
theorem dX11_laughter_23 : decode cX11_laughter 23 = .ok (.iload_n 2, 1) := by decide +kernel
theorem dX11_laughter_24 : decode cX11_laughter 24 = .ok (.ishr, 1) := by decide +kernel
theorem dX11_laughter_25 : decode cX11_laughter 25 = .ok (.iconst 1, 1) := by decide +kernel
theorem dX11_laughter_26 : decode cX11_laughter 26 = .ok (.iand, 1) := by decide +kernel
theorem dX11_laughter_27 : decode cX11_laughter 27 = .ok (.ifCond .eq 5, 3) := by decide +kernel
theorem dX11_laughter_30 : decode cX11_laughter 30 = .ok (.iconst (-1), 1) := by decide +kernel
theorem dX11_laughter_31 : decode cX11_laughter 31 = .ok (.ireturn, 1) := by decide +kernel
theorem dX11_laughter_32 : decode cX11_laughter 32 = .ok (.bipush 99, 2) := by decide +kernel
theorem dX11_laughter_34 : decode cX11_laughter 34 = .ok (.istore_n 3, 1) := by decide +kernel
theorem dX11_laughter_35 : decode cX11_laughter 35 = .ok (.iload_n 3, 1) := by decide +kernel
theorem dX11_laughter_36 : decode cX11_laughter 36 = .ok (.ifCond .lt 28, 3) := by decide +kernel
theorem dX11_laughter_39 : decode cX11_laughter 39 = .ok (.aload_n 0, 1) := by decide +kernel
theorem dX11_laughter_40 : decode cX11_laughter 40 = .ok (.getfield 35, 3) := by decide +kernel
theorem dX11_laughter_43 : decode cX11_laughter 43 = .ok (.aload_n 0, 1) := by decide +kernel
theorem dX11_laughter_44 : decode cX11_laughter 44 = .ok (.getfield 28, 3) := by decide +kernel
theorem dX11_laughter_47 : decode cX11_laughter 47 = .ok (.iload_n 1, 1) := by decide +kernel
theorem dX11_laughter_48 : decode cX11_laughter 48 = .ok (.iload_n 2, 1) := by decide +kernel
theorem dX11_laughter_49 : decode cX11_laughter 49 = .ok (.iload_n 3, 1) := by decide +kernel
theorem dX11_laughter_50 : decode cX11_laughter 50 = .ok (.invokevirtual 265, 3) := by decide +kernel
theorem dX11_laughter_53 : decode cX11_laughter 53 = .ok (.ifCond .eq 5, 3) := by decide +kernel
theorem dX11_laughter_56 : decode cX11_laughter 56 = .ok (.iload_n 3, 1) := by decide +kernel
theorem dX11_laughter_57 : decode cX11_laughter 57 = .ok (.ireturn, 1) := by decide +kernel
theorem dX11_laughter_58 : decode cX11_laughter 58 = .ok (.iinc 3 (-1), 3) := by decide +kernel
theorem dX11_laughter_61 : decode cX11_laughter 61 = .ok (.goto (-26), 3) := by decide +kernel
theorem dX11_laughter_64 : decode cX11_laughter 64 = .ok (.bipush (-9), 2) := by decide +kernel
theorem dX11_laughter_66 : decode cX11_laughter 66 = .ok (.ireturn, 1) := by decide +kernel
theorem dX11_tale_0 : decode cX11_tale 0 = .ok (.iload_n 1, 1) := by decide +kernel
theorem dX11_tale_1 : decode cX11_tale 1 = .ok (.sipush 256, 3) := by decide +kernel
theorem dX11_tale_4 : decode cX11_tale 4 = .ok (.invokestatic 86, 3) := by decide +kernel
theorem dX11_tale_7 : decode cX11_tale 7 = .ok (.ifCond .eq 5, 3) := by decide +kernel
theorem dX11_tale_10 : decode cX11_tale 10 = .ok (.iconst (-1), 1) := by decide +kernel
theorem dX11_tale_11 : decode cX11_tale 11 = .ok (.ireturn, 1) := by decide +kernel
theorem dX11_tale_12 : decode cX11_tale 12 = .ok (.aload_n 0, 1) := by decide +kernel
theorem dX11_tale_13 : decode cX11_tale 13 = .ok (.getfield 35, 3) := by decide +kernel
theorem dX11_tale_16 : decode cX11_tale 16 = .ok (.aload_n 0, 1) := by decide +kernel
theorem dX11_tale_17 : decode cX11_tale 17 = .ok (.getfield 28, 3) := by decide +kernel
theorem dX11_tale_20 : decode cX11_tale 20 = .ok (.iload_n 1, 1) := by decide +kernel
theorem dX11_tale_21 : decode cX11_tale 21 = .ok (.invokevirtual 285, 3) := by decide +kernel
theorem dX11_tale_24 : decode cX11_tale 24 = .ok (.istore_n 2, 1) := by decide +kernel
theorem dX11_tale_25 : decode cX11_tale 25 = .ok (.iload_n 2, 1) := by decide +kernel
theorem dX11_tale_26 : decode cX11_tale 26 = .ok (.bipush (-9), 2) := by decide +kernel
theorem dX11_tale_28 : decode cX11_tale 28 = .ok (.if_icmp .eq 15, 3) := by decide +kernel
theorem dX11_tale_31 : decode cX11_tale 31 = .ok (.aload_n 0, 1) := by decide +kernel
theorem dX11_tale_32 : decode cX11_tale 32 = .ok (.aload_n 0, 1) := by decide +kernel
theorem dX11_tale_33 : decode cX11_tale 33 = .ok (.getfield 35, 3) := by decide +kernel
theorem dX11_tale_36 : decode cX11_tale 36 = .ok (.getfield 272, 3) := by decide +kernel
theorem dX11_tale_39 : decode cX11_tale 39 = .ok (.invokevirtual 106, 3) := by decide +kernel
theorem dX11_tale_42 : decode cX11_tale 42 = .ok (.pop, 1) := by decide +kernel
theorem dX11_tale_43 : decode cX11_tale 43 = .ok (.iload_n 2, 1) := by decide +kernel
theorem dX11_tale_44 : decode cX11_tale 44 = .ok (.ireturn, 1) := by decide +kernel
theorem dX11_knock_0 : decode cX11_knock 0 = .ok (.iload_n 1, 1) := by decide +kernel
theorem dX11_knock_1 : decode cX11_knock 1 = .ok (.bipush 8, 2) := by decide +kernel
theorem dX11_knock_3 : decode cX11_knock 3 = .ok (.invokestatic 86, 3) := by decide +kernel
theorem dX11_knock_6 : decode cX11_knock 6 = .ok (.ifCond .eq 5, 3) := by decide +kernel
theorem dX11_knock_9 : decode cX11_knock 9 = .ok (.iconst (-1), 1) := by decide +kernel
theorem dX11_knock_10 : decode cX11_knock 10 = .ok (.ireturn, 1) := by decide +kernel
theorem dX11_knock_11 : decode cX11_knock 11 = .ok (.iload_n 2, 1) := by decide +kernel
theorem dX11_knock_12 : decode cX11_knock 12 = .ok (.bipush (-9), 2) := by decide +kernel
theorem dX11_knock_14 : decode cX11_knock 14 = .ok (.if_icmp .ne 15, 3) := by decide +kernel
theorem dX11_knock_17 : decode cX11_knock 17 = .ok (.aload_n 0, 1) := by decide +kernel
theorem dX11_knock_18 : decode cX11_knock 18 = .ok (.getfield 56, 3) := by decide +kernel
theorem dX11_knock_21 : decode cX11_knock 21 = .ok (.getfield 289, 3) := by decide +kernel
theorem dX11_knock_24 : decode cX11_knock 24 = .ok (.iload_n 1, 1) := by decide +kernel
theorem dX11_knock_25 : decode cX11_knock 25 = .ok (.iconst 0, 1) := by decide +kernel
theorem dX11_knock_26 : decode cX11_knock 26 = .ok (.iastore, 1) := by decide +kernel
theorem dX11_knock_27 : decode cX11_knock 27 = .ok (.iconst 0, 1) := by decide +kernel
theorem dX11_knock_28 : decode cX11_knock 28 = .ok (.ireturn, 1) := by decide +kernel
theorem dX11_knock_29 : decode cX11_knock 29 = .ok (.aload_n 0, 1) := by decide +kernel
theorem dX11_knock_30 : decode cX11_knock 30 = .ok (.aload_n 0, 1) := by decide +kernel
theorem dX11_knock_31 : decode cX11_knock 31 = .ok (.getfield 11, 3) := by decide +kernel
theorem dX11_knock_34 : decode cX11_knock 34 = .ok (.iload_n 2, 1) := by decide +kernel
theorem dX11_knock_35 : decode cX11_knock 35 = .ok (.invokevirtual 109, 3) := by decide +kernel
theorem dX11_knock_38 : decode cX11_knock 38 = .ok (.istore_n 3, 1) := by decide +kernel
theorem dX11_knock_39 : decode cX11_knock 39 = .ok (.iload_n 3, 1) := by decide +kernel
theorem dX11_knock_40 : decode cX11_knock 40 = .ok (.ifCond .eq 5, 3) := by decide +kernel
theorem dX11_knock_43 : decode cX11_knock 43 = .ok (.iload_n 3, 1) := by decide +kernel
theorem dX11_knock_44 : decode cX11_knock 44 = .ok (.ireturn, 1) := by decide +kernel
theorem dX11_knock_45 : decode cX11_knock 45 = .ok (.aload_n 0, 1) := by decide +kernel
theorem dX11_knock_46 : decode cX11_knock 46 = .ok (.getfield 11, 3) := by decide +kernel
theorem dX11_knock_49 : decode cX11_knock 49 = .ok (.iload_n 2, 1) := by decide +kernel
theorem dX11_knock_50 : decode cX11_knock 50 = .ok (.aaload, 1) := by decide +kernel
theorem dX11_knock_51 : decode cX11_knock 51 = .ok (.getfield 135, 3) := by decide +kernel
theorem dX11_knock_54 : decode cX11_knock 54 = .ok (.iconst 1, 1) := by decide +kernel
theorem dX11_knock_55 : decode cX11_knock 55 = .ok (.bipush 8, 2) := by decide +kernel
theorem dX11_knock_57 : decode cX11_knock 57 = .ok (.invokestatic 142, 3) := by decide +kernel
theorem dX11_knock_60 : decode cX11_knock 60 = .ok (.ifCond .ne 9, 3) := by decide +kernel
theorem dX11_knock_63 : decode cX11_knock 63 = .ok (.aload_n 0, 1) := by decide +kernel
theorem dX11_knock_64 : decode cX11_knock 64 = .ok (.iconst 5, 1) := by decide +kernel
theorem dX11_knock_65 : decode cX11_knock 65 = .ok (.invokevirtual 116, 3) := by decide +kernel
theorem dX11_knock_68 : decode cX11_knock 68 = .ok (.ireturn, 1) := by decide +kernel
theorem dX11_knock_69 : decode cX11_knock 69 = .ok (.aload_n 0, 1) := by decide +kernel
theorem dX11_knock_70 : decode cX11_knock 70 = .ok (.getfield 11, 3) := by decide +kernel
theorem dX11_knock_73 : decode cX11_knock 73 = .ok (.iload_n 2, 1) := by decide +kernel
theorem dX11_knock_74 : decode cX11_knock 74 = .ok (.aaload, 1) := by decide +kernel
theorem dX11_knock_75 : decode cX11_knock 75 = .ok (.iconst 0, 1) := by decide +kernel
theorem dX11_knock_76 : decode cX11_knock 76 = .ok (.iconst 1, 1) := by decide +kernel
theorem dX11_knock_77 : decode cX11_knock 77 = .ok (.invokevirtual 292, 3) := by decide +kernel
theorem dX11_knock_80 : decode cX11_knock 80 = .ok (.ifCond .ne 9, 3) := by decide +kernel
theorem dX11_knock_83 : decode cX11_knock 83 = .ok (.aload_n 0, 1) := by decide +kernel
theorem dX11_knock_84 : decode cX11_knock 84 = .ok (.iconst 3, 1) := by decide +kernel
theorem dX11_knock_85 : decode cX11_knock 85 = .ok (.invokevirtual 116, 3) := by decide +kernel
theorem dX11_knock_88 : decode cX11_knock 88 = .ok (.ireturn, 1) := by decide +kernel
theorem dX11_knock_89 : decode cX11_knock 89 = .ok (.aload_n 0, 1) := by decide +kernel
theorem dX11_knock_90 : decode cX11_knock 90 = .ok (.getfield 56, 3) := by decide +kernel
theorem dX11_knock_93 : decode cX11_knock 93 = .ok (.iload_n 1, 1) := by decide +kernel
theorem dX11_knock_94 : decode cX11_knock 94 = .ok (.aload_n 0, 1) := by decide +kernel
theorem dX11_knock_95 : decode cX11_knock 95 = .ok (.getfield 11, 3) := by decide +kernel
theorem dX11_knock_98 : decode cX11_knock 98 = .ok (.iload_n 2, 1) := by decide +kernel
theorem dX11_knock_99 : decode cX11_knock 99 = .ok (.aaload, 1) := by decide +kernel
theorem dX11_knock_100 : decode cX11_knock 100 = .ok (.invokevirtual 295, 3) := by decide +kernel
theorem dX11_knock_103 : decode cX11_knock 103 = .ok (.aload_n 0, 1) := by decide +kernel
theorem dX11_knock_104 : decode cX11_knock 104 = .ok (.getfield 11, 3) := by decide +kernel
theorem dX11_knock_107 : decode cX11_knock 107 = .ok (.iload_n 2, 1) := by decide +kernel
theorem dX11_knock_108 : decode cX11_knock 108 = .ok (.aaload, 1) := by decide +kernel
theorem dX11_knock_109 : decode cX11_knock 109 = .ok (.getfield 135, 3) := by decide +kernel
theorem dX11_knock_112 : decode cX11_knock 112 = .ok (.ireturn, 1) := by decide +kernel
theorem dX11_clear_0 : decode cX11_clear 0 = .ok (.aload_n 0, 1) := by decide +kernel
theorem dX11_clear_1 : decode cX11_clear 1 = .ok (.getfield 56, 3) := by decide +kernel
theorem dX11_clear_4 : decode cX11_clear 4 = .ok (.invokevirtual 299, 3) := by decide +kernel
theorem dX11_clear_7 : decode cX11_clear 7 = .ok (.ireturn, 1) := by decide +kernel
theorem dX11_sure_0 : decode cX11_sure 0 = .ok (.aload_n 0, 1) := by decide +kernel
theorem dX11_sure_1 : decode cX11_sure 1 = .ok (.getfield 56, 3) := by decide +kernel
theorem dX11_sure_4 : decode cX11_sure 4 = .ok (.invokevirtual 302, 3) := by decide +kernel
theorem dX11_sure_7 : decode cX11_sure 7 = .ok (.ifCond .eq 7, 3) := by decide +kernel
theorem dX11_sure_10 : decode cX11_sure 10 = .ok (.iconst 1, 1) := by decide +kernel
theorem dX11_sure_11 : decode cX11_sure 11 = .ok (.goto 4, 3) := by decide +kernel
theorem dX11_sure_14 : decode cX11_sure 14 = .ok (.iconst 0, 1) := by decide +kernel
theorem dX11_sure_15 : decode cX11_sure 15 = .ok (.ireturn, 1) := by decide +kernel
theorem dX11_shortest_0 : decode cX11_shortest 0 = .ok (.aload_n 0, 1) := by decide +kernel
theorem dX11_shortest_1 : decode cX11_shortest 1 = .ok (.aload_n 0, 1) := by decide +kernel
theorem dX11_shortest_2 : decode cX11_shortest 2 = .ok (.getfield 11, 3) := by decide +kernel
theorem dX11_shortest_5 : decode cX11_shortest 5 = .ok (.iload_n 1, 1) := by decide +kernel
theorem dX11_shortest_6 : decode cX11_shortest 6 = .ok (.invokevirtual 109, 3) := by decide +kernel
theorem dX11_shortest_9 : decode cX11_shortest 9 = .ok (.istore_n 2, 1) := by decide +kernel
theorem dX11_shortest_10 : decode cX11_shortest 10 = .ok (.iload_n 2, 1) := by decide +kernel
theorem dX11_shortest_11 : decode cX11_shortest 11 = .ok (.ifCond .eq 5, 3) := by decide +kernel
theorem dX11_shortest_14 : decode cX11_shortest 14 = .ok (.iload_n 2, 1) := by decide +kernel
theorem dX11_shortest_15 : decode cX11_shortest 15 = .ok (.ireturn, 1) := by decide +kernel
theorem dX11_shortest_16 : decode cX11_shortest 16 = .ok (.aload_n 0, 1) := by decide +kernel
theorem dX11_shortest_17 : decode cX11_shortest 17 = .ok (.getfield 11, 3) := by decide +kernel
theorem dX11_shortest_20 : decode cX11_shortest 20 = .ok (.iload_n 1, 1) := by decide +kernel
theorem dX11_shortest_21 : decode cX11_shortest 21 = .ok (.aaload, 1) := by decide +kernel
theorem dX11_shortest_22 : decode cX11_shortest 22 = .ok (.getfield 135, 3) := by decide +kernel
theorem dX11_shortest_25 : decode cX11_shortest 25 = .ok (.iconst 1, 1) := by decide +kernel
theorem dX11_shortest_26 : decode cX11_shortest 26 = .ok (.bipush 8, 2) := by decide +kernel
theorem dX11_shortest_28 : decode cX11_shortest 28 = .ok (.invokestatic 142, 3) := by decide +kernel
theorem dX11_shortest_31 : decode cX11_shortest 31 = .ok (.ifCond .ne 9, 3) := by decide +kernel
theorem dX11_shortest_34 : decode cX11_shortest 34 = .ok (.aload_n 0, 1) := by decide +kernel
theorem dX11_shortest_35 : decode cX11_shortest 35 = .ok (.iconst 5, 1) := by decide +kernel
theorem dX11_shortest_36 : decode cX11_shortest 36 = .ok (.invokevirtual 116, 3) := by decide +kernel
theorem dX11_shortest_39 : decode cX11_shortest 39 = .ok (.ireturn, 1) := by decide +kernel
theorem dX11_shortest_40 : decode cX11_shortest 40 = .ok (.aload_n 0, 1) := by decide +kernel
theorem dX11_shortest_41 : decode cX11_shortest 41 = .ok (.getfield 11, 3) := by decide +kernel
theorem dX11_shortest_44 : decode cX11_shortest 44 = .ok (.iload_n 1, 1) := by decide +kernel
theorem dX11_shortest_45 : decode cX11_shortest 45 = .ok (.aaload, 1) := by decide +kernel
theorem dX11_shortest_46 : decode cX11_shortest 46 = .ok (.iconst 1, 1) := by decide +kernel
theorem dX11_shortest_47 : decode cX11_shortest 47 = .ok (.bipush 99, 2) := by decide +kernel
theorem dX11_shortest_49 : decode cX11_shortest 49 = .ok (.invokevirtual 292, 3) := by decide +kernel
theorem dX11_shortest_52 : decode cX11_shortest 52 = .ok (.ifCond .ne 9, 3) := by decide +kernel
theorem dX11_shortest_55 : decode cX11_shortest 55 = .ok (.aload_n 0, 1) := by decide +kernel
theorem dX11_shortest_56 : decode cX11_shortest 56 = .ok (.iconst 3, 1) := by decide +kernel
theorem dX11_shortest_57 : decode cX11_shortest 57 = .ok (.invokevirtual 116, 3) := by decide +kernel
theorem dX11_shortest_60 : decode cX11_shortest 60 = .ok (.ireturn, 1) := by decide +kernel
theorem dX11_shortest_61 : decode cX11_shortest 61 = .ok (.aload_n 0, 1) := by decide +kernel
theorem dX11_shortest_62 : decode cX11_shortest 62 = .ok (.getfield 56, 3) := by decide +kernel
theorem dX11_shortest_65 : decode cX11_shortest 65 = .ok (.aload_n 0, 1) := by decide +kernel
theorem dX11_shortest_66 : decode cX11_shortest 66 = .ok (.getfield 11, 3) := by decide +kernel
theorem dX11_shortest_69 : decode cX11_shortest 69 = .ok (.iload_n 1, 1) := by decide +kernel
theorem dX11_shortest_70 : decode cX11_shortest 70 = .ok (.aaload, 1) := by decide +kernel
theorem dX11_shortest_71 : decode cX11_shortest 71 = .ok (.invokevirtual 305, 3) := by decide +kernel
theorem dX11_shortest_74 : decode cX11_shortest 74 = .ok (.ireturn, 1) := by decide +kernel
theorem dX11_apart_0 : decode cX11_apart 0 = .ok (.aload_n 0, 1) := by decide +kernel
theorem dX11_apart_1 : decode cX11_apart 1 = .ok (.iload_n 1, 1) := by decide +kernel
theorem dX11_apart_2 : decode cX11_apart 2 = .ok (.iload_n 2, 1) := by decide +kernel
theorem dX11_apart_3 : decode cX11_apart 3 = .ok (.invokevirtual 189, 3) := by decide +kernel
theorem dX11_apart_6 : decode cX11_apart 6 = .ok (.istore_n 3, 1) := by decide +kernel
theorem dX11_apart_7 : decode cX11_apart 7 = .ok (.iload_n 3, 1) := by decide +kernel
theorem dX11_apart_8 : decode cX11_apart 8 = .ok (.ifCond .eq 5, 3) := by decide +kernel
theorem dX11_apart_11 : decode cX11_apart 11 = .ok (.iload_n 3, 1) := by decide +kernel
theorem dX11_apart_12 : decode cX11_apart 12 = .ok (.ireturn, 1) := by decide +kernel
theorem dX11_apart_13 : decode cX11_apart 13 = .ok (.aload_n 0, 1) := by decide +kernel
theorem dX11_apart_14 : decode cX11_apart 14 = .ok (.getfield 21, 3) := by decide +kernel
theorem dX11_apart_17 : decode cX11_apart 17 = .ok (.getfield 147, 3) := by decide +kernel
theorem dX11_apart_20 : decode cX11_apart 20 = .ok (.iload_n 1, 1) := by decide +kernel
theorem dX11_apart_21 : decode cX11_apart 21 = .ok (.aaload, 1) := by decide +kernel
theorem dX11_apart_22 : decode cX11_apart 22 = .ok (.getfield 308, 3) := by decide +kernel
theorem dX11_apart_25 : decode cX11_apart 25 = .ok (.aload_n 0, 1) := by decide +kernel
theorem dX11_apart_26 : decode cX11_apart 26 = .ok (.getfield 21, 3) := by decide +kernel
theorem dX11_apart_29 : decode cX11_apart 29 = .ok (.getfield 147, 3) := by decide +kernel
theorem dX11_apart_32 : decode cX11_apart 32 = .ok (.iload_n 2, 1) := by decide +kernel
theorem dX11_apart_33 : decode cX11_apart 33 = .ok (.aaload, 1) := by decide +kernel
theorem dX11_apart_34 : decode cX11_apart 34 = .ok (.getfield 308, 3) := by decide +kernel
theorem dX11_apart_37 : decode cX11_apart 37 = .ok (.invokestatic 311, 3) := by decide +kernel
theorem dX11_apart_40 : decode cX11_apart 40 = .ok (.ireturn, 1) := by decide +kernel
theorem dX11_leastApart_0 : decode cX11_leastApart 0 = .ok (.aload_n 0, 1) := by decide +kernel
theorem dX11_leastApart_1 : decode cX11_leastApart 1 = .ok (.getfield 21, 3) := by decide +kernel
theorem dX11_leastApart_4 : decode cX11_leastApart 4 = .ok (.invokevirtual 314, 3) := by decide +kernel
theorem dX11_leastApart_7 : decode cX11_leastApart 7 = .ok (.istore_n 1, 1) := by decide +kernel
theorem dX11_leastApart_8 : decode cX11_leastApart 8 = .ok (.iload_n 1, 1) := by decide +kernel
theorem dX11_leastApart_9 : decode cX11_leastApart 9 = .ok (.bipush (-9), 2) := by decide +kernel
theorem dX11_leastApart_11 : decode cX11_leastApart 11 = .ok (.if_icmp .eq 15, 3) := by decide +kernel
theorem dX11_leastApart_14 : decode cX11_leastApart 14 = .ok (.aload_n 0, 1) := by decide +kernel
theorem dX11_leastApart_15 : decode cX11_leastApart 15 = .ok (.aload_n 0, 1) := by decide +kernel
theorem dX11_leastApart_16 : decode cX11_leastApart 16 = .ok (.getfield 21, 3) := by decide +kernel
theorem dX11_leastApart_19 : decode cX11_leastApart 19 = .ok (.getfield 317, 3) := by decide +kernel
theorem dX11_leastApart_22 : decode cX11_leastApart 22 = .ok (.invokevirtual 106, 3) := by decide +kernel
theorem dX11_leastApart_25 : decode cX11_leastApart 25 = .ok (.pop, 1) := by decide +kernel
theorem dX11_leastApart_26 : decode cX11_leastApart 26 = .ok (.iload_n 1, 1) := by decide +kernel
theorem dX11_leastApart_27 : decode cX11_leastApart 27 = .ok (.ireturn, 1) := by decide +kernel
theorem dX11_matters_0 : decode cX11_matters 0 = .ok (.aload_n 0, 1) := by decide +kernel
theorem dX11_matters_1 : decode cX11_matters 1 = .ok (.iload_n 1, 1) := by decide +kernel
theorem dX11_matters_2 : decode cX11_matters 2 = .ok (.invokevirtual 162, 3) := by decide +kernel
theorem dX11_matters_5 : decode cX11_matters 5 = .ok (.istore_n 2, 1) := by decide +kernel
theorem dX11_matters_6 : decode cX11_matters 6 = .ok (.iload_n 2, 1) := by decide +kernel
theorem dX11_matters_7 : decode cX11_matters 7 = .ok (.ifCond .eq 7, 3) := by decide +kernel
theorem dX11_matters_10 : decode cX11_matters 10 = .ok (.iload_n 2, 1) := by decide +kernel
theorem dX11_matters_11 : decode cX11_matters 11 = .ok (.goto 11, 3) := by decide +kernel
theorem dX11_matters_14 : decode cX11_matters 14 = .ok (.aload_n 0, 1) := by decide +kernel
theorem dX11_matters_15 : decode cX11_matters 15 = .ok (.getfield 21, 3) := by decide +kernel
theorem dX11_matters_18 : decode cX11_matters 18 = .ok (.iload_n 1, 1) := by decide +kernel
theorem dX11_matters_19 : decode cX11_matters 19 = .ok (.invokevirtual 320, 3) := by decide +kernel
theorem dX11_matters_22 : decode cX11_matters 22 = .ok (.ireturn, 1) := by decide +kernel
theorem dX11_moment_0 : decode cX11_moment 0 = .ok (.iload_n 1, 1) := by decide +kernel
theorem dX11_moment_1 : decode cX11_moment 1 = .ok (.iconst 0, 1) := by decide +kernel
theorem dX11_moment_2 : decode cX11_moment 2 = .ok (.sipush 32000, 3) := by decide +kernel
theorem dX11_moment_5 : decode cX11_moment 5 = .ok (.invokestatic 142, 3) := by decide +kernel
theorem dX11_moment_8 : decode cX11_moment 8 = .ok (.ifCond .eq 24, 3) := by decide +kernel
theorem dX11_moment_11 : decode cX11_moment 11 = .ok (.iload_n 2, 1) := by decide +kernel
theorem dX11_moment_12 : decode cX11_moment 12 = .ok (.bipush 7, 2) := by decide +kernel
theorem dX11_moment_14 : decode cX11_moment 14 = .ok (.invokestatic 86, 3) := by decide +kernel
theorem dX11_moment_17 : decode cX11_moment 17 = .ok (.ifCond .ne 15, 3) := by decide +kernel
theorem dX11_moment_20 : decode cX11_moment 20 = .ok (.iload_n 2, 1) := by decide +kernel
theorem dX11_moment_21 : decode cX11_moment 21 = .ok (.iload_n 3, 1) := by decide +kernel
theorem dX11_moment_22 : decode cX11_moment 22 = .ok (.iload 4, 2) := by decide +kernel
theorem dX11_moment_24 : decode cX11_moment 24 = .ok (.iload 5, 2) := by decide +kernel
theorem dX11_moment_26 : decode cX11_moment 26 = .ok (.invokestatic 323, 3) := by decide +kernel
theorem dX11_moment_29 : decode cX11_moment 29 = .ok (.ifCond .ne 5, 3) := by decide +kernel
theorem dX11_moment_32 : decode cX11_moment 32 = .ok (.iconst (-1), 1) := by decide +kernel
theorem dX11_moment_33 : decode cX11_moment 33 = .ok (.ireturn, 1) := by decide +kernel
theorem dX11_moment_34 : decode cX11_moment 34 = .ok (.aload_n 0, 1) := by decide +kernel
theorem dX11_moment_35 : decode cX11_moment 35 = .ok (.getfield 63, 3) := by decide +kernel
theorem dX11_moment_38 : decode cX11_moment 38 = .ok (.getfield 329, 3) := by decide +kernel
theorem dX11_moment_41 : decode cX11_moment 41 = .ok (.bipush 40, 2) := by decide +kernel
theorem dX11_moment_43 : decode cX11_moment 43 = .ok (.if_icmp .lt 6, 3) := by decide +kernel
theorem dX11_moment_46 : decode cX11_moment 46 = .ok (.bipush (-2), 2) := by decide +kernel
theorem dX11_moment_48 : decode cX11_moment 48 = .ok (.ireturn, 1) := by decide +kernel
theorem dX11_moment_49 : decode cX11_moment 49 = .ok (.iload_n 2, 1) := by decide +kernel
theorem dX11_moment_50 : decode cX11_moment 50 = .ok (.invokestatic 330, 3) := by decide +kernel
theorem dX11_moment_53 : decode cX11_moment 53 = .ok (.ifCond .eq 18, 3) := by decide +kernel
theorem dX11_moment_56 : decode cX11_moment 56 = .ok (.aload_n 0, 1) := by decide +kernel
theorem dX11_moment_57 : decode cX11_moment 57 = .ok (.getfield 21, 3) := by decide +kernel
theorem dX11_moment_60 : decode cX11_moment 60 = .ok (.iload_n 3, 1) := by decide +kernel
theorem dX11_moment_61 : decode cX11_moment 61 = .ok (.invokevirtual 333, 3) := by decide +kernel
theorem dX11_moment_64 : decode cX11_moment 64 = .ok (.ifCond .ne 7, 3) := by decide +kernel
theorem dX11_moment_67 : decode cX11_moment 67 = .ok (.iconst 1, 1) := by decide +kernel
theorem dX11_moment_68 : decode cX11_moment 68 = .ok (.goto 4, 3) := by decide +kernel
theorem dX11_moment_71 : decode cX11_moment 71 = .ok (.iconst 0, 1) := by decide +kernel
theorem dX11_moment_72 : decode cX11_moment 72 = .ok (.istore 6, 2) := by decide +kernel
theorem dX11_moment_74 : decode cX11_moment 74 = .ok (.iload 6, 2) := by decide +kernel
theorem dX11_moment_76 : decode cX11_moment 76 = .ok (.ifCond .ne 20, 3) := by decide +kernel
theorem dX11_moment_79 : decode cX11_moment 79 = .ok (.iload_n 2, 1) := by decide +kernel
theorem dX11_moment_80 : decode cX11_moment 80 = .ok (.iconst 4, 1) := by decide +kernel
theorem dX11_moment_81 : decode cX11_moment 81 = .ok (.if_icmp .ne 21, 3) := by decide +kernel
theorem dX11_moment_84 : decode cX11_moment 84 = .ok (.aload_n 0, 1) := by decide +kernel
theorem dX11_moment_85 : decode cX11_moment 85 = .ok (.getfield 21, 3) := by decide +kernel
theorem dX11_moment_88 : decode cX11_moment 88 = .ok (.iload 5, 2) := by decide +kernel
theorem dX11_moment_90 : decode cX11_moment 90 = .ok (.invokevirtual 333, 3) := by decide +kernel
theorem dX11_moment_93 : decode cX11_moment 93 = .ok (.ifCond .ne 9, 3) := by decide +kernel
theorem dX11_moment_96 : decode cX11_moment 96 = .ok (.aload_n 0, 1) := by decide +kernel
theorem dX11_moment_97 : decode cX11_moment 97 = .ok (.iconst 1, 1) := by decide +kernel
theorem dX11_moment_98 : decode cX11_moment 98 = .ok (.invokevirtual 116, 3) := by decide +kernel
theorem dX11_moment_101 : decode cX11_moment 101 = .ok (.ireturn, 1) := by decide +kernel
theorem dX11_moment_102 : decode cX11_moment 102 = .ok (.aload_n 0, 1) := by decide +kernel
theorem dX11_moment_103 : decode cX11_moment 103 = .ok (.getfield 63, 3) := by decide +kernel
theorem dX11_moment_106 : decode cX11_moment 106 = .ok (.iload_n 1, 1) := by decide +kernel
theorem dX11_moment_107 : decode cX11_moment 107 = .ok (.iload_n 2, 1) := by decide +kernel
theorem dX11_moment_108 : decode cX11_moment 108 = .ok (.iload_n 3, 1) := by decide +kernel
theorem dX11_moment_109 : decode cX11_moment 109 = .ok (.iload 4, 2) := by decide +kernel
theorem dX11_moment_111 : decode cX11_moment 111 = .ok (.iload 5, 2) := by decide +kernel
theorem dX11_moment_113 : decode cX11_moment 113 = .ok (.invokevirtual 334, 3) := by decide +kernel
theorem dX11_moment_116 : decode cX11_moment 116 = .ok (.ireturn, 1) := by decide +kernel
theorem dX11_told_0 : decode cX11_told 0 = .ok (.aload_n 0, 1) := by decide +kernel
theorem dX11_told_1 : decode cX11_told 1 = .ok (.getfield 63, 3) := by decide +kernel
theorem dX11_told_4 : decode cX11_told 4 = .ok (.iload_n 1, 1) := by decide +kernel
theorem dX11_told_5 : decode cX11_told 5 = .ok (.invokevirtual 338, 3) := by decide +kernel
theorem dX11_told_8 : decode cX11_told 8 = .ok (.ifCond .eq 11, 3) := by decide +kernel
theorem dX11_told_11 : decode cX11_told 11 = .ok (.iload_n 2, 1) := by decide +kernel
theorem dX11_told_12 : decode cX11_told 12 = .ok (.iconst 5, 1) := by decide +kernel
theorem dX11_told_13 : decode cX11_told 13 = .ok (.invokestatic 86, 3) := by decide +kernel
theorem dX11_told_16 : decode cX11_told 16 = .ok (.ifCond .eq 5, 3) := by decide +kernel
theorem dX11_told_19 : decode cX11_told 19 = .ok (.iconst (-1), 1) := by decide +kernel
theorem dX11_told_20 : decode cX11_told 20 = .ok (.ireturn, 1) := by decide +kernel
theorem dX11_told_21 : decode cX11_told 21 = .ok (.aload_n 0, 1) := by decide +kernel
theorem dX11_told_22 : decode cX11_told 22 = .ok (.aload_n 0, 1) := by decide +kernel
theorem dX11_told_23 : decode cX11_told 23 = .ok (.getfield 63, 3) := by decide +kernel
theorem dX11_told_26 : decode cX11_told 26 = .ok (.getfield 339, 3) := by decide +kernel
theorem dX11_told_29 : decode cX11_told 29 = .ok (.iload_n 1, 1) := by decide +kernel
theorem dX11_told_30 : decode cX11_told 30 = .ok (.aaload, 1) := by decide +kernel
theorem dX11_told_31 : decode cX11_told 31 = .ok (.iload_n 2, 1) := by decide +kernel
theorem dX11_told_32 : decode cX11_told 32 = .ok (.invokevirtual 343, 3) := by decide +kernel
theorem dX11_told_35 : decode cX11_told 35 = .ok (.invokevirtual 106, 3) := by decide +kernel
theorem dX11_told_38 : decode cX11_told 38 = .ok (.ireturn, 1) := by decide +kernel
theorem dX11_mark_0 : decode cX11_mark 0 = .ok (.aload_n 0, 1) := by decide +kernel
theorem dX11_mark_1 : decode cX11_mark 1 = .ok (.getfield 63, 3) := by decide +kernel
theorem dX11_mark_4 : decode cX11_mark 4 = .ok (.iload_n 1, 1) := by decide +kernel
theorem dX11_mark_5 : decode cX11_mark 5 = .ok (.invokevirtual 338, 3) := by decide +kernel
theorem dX11_mark_8 : decode cX11_mark 8 = .ok (.ifCond .eq 13, 3) := by decide +kernel
theorem dX11_mark_11 : decode cX11_mark 11 = .ok (.iload_n 2, 1) := by decide +kernel
theorem dX11_mark_12 : decode cX11_mark 12 = .ok (.iconst 1, 1) := by decide +kernel
theorem dX11_mark_13 : decode cX11_mark 13 = .ok (.bipush 6, 2) := by decide +kernel
theorem dX11_mark_15 : decode cX11_mark 15 = .ok (.invokestatic 142, 3) := by decide +kernel
theorem dX11_mark_18 : decode cX11_mark 18 = .ok (.ifCond .ne 5, 3) := by decide +kernel
theorem dX11_mark_21 : decode cX11_mark 21 = .ok (.iconst (-1), 1) := by decide +kernel
theorem dX11_mark_22 : decode cX11_mark 22 = .ok (.ireturn, 1) := by decide +kernel
theorem dX11_mark_23 : decode cX11_mark 23 = .ok (.aload_n 0, 1) := by decide +kernel
theorem dX11_mark_24 : decode cX11_mark 24 = .ok (.getfield 63, 3) := by decide +kernel
theorem dX11_mark_27 : decode cX11_mark 27 = .ok (.getfield 339, 3) := by decide +kernel
theorem dX11_mark_30 : decode cX11_mark 30 = .ok (.iload_n 1, 1) := by decide +kernel
theorem dX11_mark_31 : decode cX11_mark 31 = .ok (.aaload, 1) := by decide +kernel
theorem dX11_mark_32 : decode cX11_mark 32 = .ok (.astore_n 3, 1) := by decide +kernel
theorem dX11_mark_33 : decode cX11_mark 33 = .ok (.aload_n 3, 1) := by decide +kernel
theorem dX11_mark_34 : decode cX11_mark 34 = .ok (.iload_n 2, 1) := by decide +kernel
theorem dX11_mark_35 : decode cX11_mark 35 = .ok (.invokevirtual 344, 3) := by decide +kernel
theorem dX11_mark_38 : decode cX11_mark 38 = .ok (.ifCond .ne 9, 3) := by decide +kernel
theorem dX11_mark_41 : decode cX11_mark 41 = .ok (.aload_n 0, 1) := by decide +kernel
theorem dX11_mark_42 : decode cX11_mark 42 = .ok (.iconst 3, 1) := by decide +kernel
theorem dX11_mark_43 : decode cX11_mark 43 = .ok (.invokevirtual 116, 3) := by decide +kernel
theorem dX11_mark_46 : decode cX11_mark 46 = .ok (.ireturn, 1) := by decide +kernel
theorem dX11_mark_47 : decode cX11_mark 47 = .ok (.iload_n 2, 1) := by decide +kernel
theorem dX11_mark_48 : decode cX11_mark 48 = .ok (.iconst 5, 1) := by decide +kernel
theorem dX11_mark_49 : decode cX11_mark 49 = .ok (.if_icmp .ne 15, 3) := by decide +kernel
theorem dX11_mark_52 : decode cX11_mark 52 = .ok (.aload_n 0, 1) := by decide +kernel
theorem dX11_mark_53 : decode cX11_mark 53 = .ok (.getfield 56, 3) := by decide +kernel
theorem dX11_mark_56 : decode cX11_mark 56 = .ok (.aload_n 3, 1) := by decide +kernel
theorem dX11_mark_57 : decode cX11_mark 57 = .ok (.getfield 347, 3) := by decide +kernel
theorem dX11_mark_60 : decode cX11_mark 60 = .ok (.invokevirtual 350, 3) := by decide +kernel
theorem dX11_mark_63 : decode cX11_mark 63 = .ok (.ireturn, 1) := by decide +kernel
theorem dX11_mark_64 : decode cX11_mark 64 = .ok (.iload_n 2, 1) := by decide +kernel
theorem dX11_mark_65 : decode cX11_mark 65 = .ok (.iconst 3, 1) := by decide +kernel
theorem dX11_mark_66 : decode cX11_mark 66 = .ok (.if_icmp .eq 8, 3) := by decide +kernel
theorem dX11_mark_69 : decode cX11_mark 69 = .ok (.iload_n 2, 1) := by decide +kernel
theorem dX11_mark_70 : decode cX11_mark 70 = .ok (.iconst 4, 1) := by decide +kernel
theorem dX11_mark_71 : decode cX11_mark 71 = .ok (.if_icmp .ne 10, 3) := by decide +kernel
theorem dX11_mark_74 : decode cX11_mark 74 = .ok (.aload_n 3, 1) := by decide +kernel
theorem dX11_mark_75 : decode cX11_mark 75 = .ok (.getfield 353, 3) := by decide +kernel
theorem dX11_mark_78 : decode cX11_mark 78 = .ok (.goto 7, 3) := by decide +kernel
theorem dX11_mark_81 : decode cX11_mark 81 = .ok (.aload_n 3, 1) := by decide +kernel
theorem dX11_mark_82 : decode cX11_mark 82 = .ok (.getfield 347, 3) := by decide +kernel
theorem dX11_mark_85 : decode cX11_mark 85 = .ok (.ireturn, 1) := by decide +kernel
theorem dX11_seen_0 : decode cX11_seen 0 = .ok (.iload_n 1, 1) := by decide +kernel
theorem dX11_seen_1 : decode cX11_seen 1 = .ok (.iconst 0, 1) := by decide +kernel
theorem dX11_seen_2 : decode cX11_seen 2 = .ok (.bipush 16, 2) := by decide +kernel
theorem dX11_seen_4 : decode cX11_seen 4 = .ok (.invokestatic 142, 3) := by decide +kernel
theorem dX11_seen_7 : decode cX11_seen 7 = .ok (.ifCond .ne 5, 3) := by decide +kernel
theorem dX11_seen_10 : decode cX11_seen 10 = .ok (.iconst (-1), 1) := by decide +kernel
theorem dX11_seen_11 : decode cX11_seen 11 = .ok (.ireturn, 1) := by decide +kernel
theorem dX11_seen_12 : decode cX11_seen 12 = .ok (.iconst 0, 1) := by decide +kernel
theorem dX11_seen_13 : decode cX11_seen 13 = .ok (.istore_n 3, 1) := by decide +kernel
theorem dX11_seen_14 : decode cX11_seen 14 = .ok (.iconst 0, 1) := by decide +kernel
theorem dX11_seen_15 : decode cX11_seen 15 = .ok (.istore 4, 2) := by decide +kernel
theorem dX11_seen_17 : decode cX11_seen 17 = .ok (.iload 4, 2) := by decide +kernel
theorem dX11_seen_19 : decode cX11_seen 19 = .ok (.aload_n 0, 1) := by decide +kernel
theorem dX11_seen_20 : decode cX11_seen 20 = .ok (.getfield 63, 3) := by decide +kernel
theorem dX11_seen_23 : decode cX11_seen 23 = .ok (.getfield 329, 3) := by decide +kernel
theorem dX11_seen_26 : decode cX11_seen 26 = .ok (.if_icmp .ge 69, 3) := by decide +kernel
theorem dX11_seen_29 : decode cX11_seen 29 = .ok (.aload_n 0, 1) := by decide +kernel
theorem dX11_seen_30 : decode cX11_seen 30 = .ok (.getfield 63, 3) := by decide +kernel
theorem dX11_seen_33 : decode cX11_seen 33 = .ok (.getfield 339, 3) := by decide +kernel
theorem dX11_seen_36 : decode cX11_seen 36 = .ok (.iload 4, 2) := by decide +kernel
theorem dX11_seen_38 : decode cX11_seen 38 = .ok (.aaload, 1) := by decide +kernel
theorem dX11_seen_39 : decode cX11_seen 39 = .ok (.astore 5, 2) := by decide +kernel
theorem dX11_seen_41 : decode cX11_seen 41 = .ok (.aload_n 0, 1) := by decide +kernel
theorem dX11_seen_42 : decode cX11_seen 42 = .ok (.getfield 21, 3) := by decide +kernel
theorem dX11_seen_45 : decode cX11_seen 45 = .ok (.aload 5, 2) := by decide +kernel
theorem dX11_seen_47 : decode cX11_seen 47 = .ok (.getfield 356, 3) := by decide +kernel
theorem dX11_seen_50 : decode cX11_seen 50 = .ok (.invokevirtual 333, 3) := by decide +kernel
theorem dX11_seen_53 : decode cX11_seen 53 = .ok (.ifCond .eq 36, 3) := by decide +kernel
theorem dX11_seen_56 : decode cX11_seen 56 = .ok (.iload_n 2, 1) := by decide +kernel
theorem dX11_seen_57 : decode cX11_seen 57 = .ok (.ifCond .ne 29, 3) := by decide +kernel
theorem dX11_seen_60 : decode cX11_seen 60 = .ok (.aload 5, 2) := by decide +kernel
theorem dX11_seen_62 : decode cX11_seen 62 = .ok (.getfield 359, 3) := by decide +kernel
theorem dX11_seen_65 : decode cX11_seen 65 = .ok (.bipush 6, 2) := by decide +kernel
theorem dX11_seen_67 : decode cX11_seen 67 = .ok (.if_icmp .eq 22, 3) := by decide +kernel
theorem dX11_seen_70 : decode cX11_seen 70 = .ok (.aload_n 0, 1) := by decide +kernel
theorem dX11_seen_71 : decode cX11_seen 71 = .ok (.getfield 21, 3) := by decide +kernel
theorem dX11_seen_74 : decode cX11_seen 74 = .ok (.aload 5, 2) := by decide +kernel
theorem dX11_seen_76 : decode cX11_seen 76 = .ok (.getfield 356, 3) := by decide +kernel
theorem dX11_seen_79 : decode cX11_seen 79 = .ok (.iload_n 1, 1) := by decide +kernel
theorem dX11_seen_80 : decode cX11_seen 80 = .ok (.invokevirtual 362, 3) := by decide +kernel
theorem dX11_seen_83 : decode cX11_seen 83 = .ok (.ifCond .eq 6, 3) := by decide +kernel
theorem dX11_seen_86 : decode cX11_seen 86 = .ok (.iinc 3 1, 3) := by decide +kernel
theorem dX11_seen_89 : decode cX11_seen 89 = .ok (.iinc 4 1, 3) := by decide +kernel
theorem dX11_seen_92 : decode cX11_seen 92 = .ok (.goto (-75), 3) := by decide +kernel
theorem dX11_seen_95 : decode cX11_seen 95 = .ok (.iload_n 3, 1) := by decide +kernel
theorem dX11_seen_96 : decode cX11_seen 96 = .ok (.ireturn, 1) := by decide +kernel
theorem dX11_broken_0 : decode cX11_broken 0 = .ok (.iload_n 1, 1) := by decide +kernel
theorem dX11_broken_1 : decode cX11_broken 1 = .ok (.bipush 8, 2) := by decide +kernel
theorem dX11_broken_3 : decode cX11_broken 3 = .ok (.invokestatic 86, 3) := by decide +kernel
theorem dX11_broken_6 : decode cX11_broken 6 = .ok (.ifCond .ne 25, 3) := by decide +kernel
theorem dX11_broken_9 : decode cX11_broken 9 = .ok (.iload_n 2, 1) := by decide +kernel
theorem dX11_broken_10 : decode cX11_broken 10 = .ok (.iconst 0, 1) := by decide +kernel
theorem dX11_broken_11 : decode cX11_broken 11 = .ok (.sipush 32000, 3) := by decide +kernel
theorem dX11_broken_14 : decode cX11_broken 14 = .ok (.invokestatic 142, 3) := by decide +kernel
theorem dX11_broken_17 : decode cX11_broken 17 = .ok (.ifCond .eq 14, 3) := by decide +kernel
theorem dX11_broken_20 : decode cX11_broken 20 = .ok (.iload_n 3, 1) := by decide +kernel
theorem dX11_broken_21 : decode cX11_broken 21 = .ok (.iconst 0, 1) := by decide +kernel
theorem dX11_broken_22 : decode cX11_broken 22 = .ok (.sipush 32000, 3) := by decide +kernel
theorem dX11_broken_25 : decode cX11_broken 25 = .ok (.invokestatic 142, 3) := by decide +kernel
theorem dX11_broken_28 : decode cX11_broken 28 = .ok (.ifCond .ne 5, 3) := by decide +kernel
theorem dX11_broken_31 : decode cX11_broken 31 = .ok (.iconst (-1), 1) := by decide +kernel
theorem dX11_broken_32 : decode cX11_broken 32 = .ok (.ireturn, 1) := by decide +kernel
theorem dX11_broken_33 : decode cX11_broken 33 = .ok (.iconst 0, 1) := by decide +kernel
theorem dX11_broken_34 : decode cX11_broken 34 = .ok (.istore 4, 2) := by decide +kernel
theorem dX11_broken_36 : decode cX11_broken 36 = .ok (.bipush (-9), 2) := by decide +kernel
theorem dX11_broken_38 : decode cX11_broken 38 = .ok (.istore 5, 2) := by decide +kernel
theorem dX11_broken_40 : decode cX11_broken 40 = .ok (.iconst 0, 1) := by decide +kernel
theorem dX11_broken_41 : decode cX11_broken 41 = .ok (.istore 6, 2) := by decide +kernel
theorem dX11_broken_43 : decode cX11_broken 43 = .ok (.iload 6, 2) := by decide +kernel
theorem dX11_broken_45 : decode cX11_broken 45 = .ok (.aload_n 0, 1) := by decide +kernel
theorem dX11_broken_46 : decode cX11_broken 46 = .ok (.getfield 63, 3) := by decide +kernel
theorem dX11_broken_49 : decode cX11_broken 49 = .ok (.getfield 329, 3) := by decide +kernel
theorem dX11_broken_52 : decode cX11_broken 52 = .ok (.if_icmp .ge 67, 3) := by decide +kernel
theorem dX11_broken_55 : decode cX11_broken 55 = .ok (.aload_n 0, 1) := by decide +kernel
theorem dX11_broken_56 : decode cX11_broken 56 = .ok (.getfield 63, 3) := by decide +kernel
theorem dX11_broken_59 : decode cX11_broken 59 = .ok (.getfield 339, 3) := by decide +kernel
theorem dX11_broken_62 : decode cX11_broken 62 = .ok (.iload 6, 2) := by decide +kernel
theorem dX11_broken_64 : decode cX11_broken 64 = .ok (.aaload, 1) := by decide +kernel
theorem dX11_broken_65 : decode cX11_broken 65 = .ok (.astore 7, 2) := by decide +kernel
theorem dX11_broken_67 : decode cX11_broken 67 = .ok (.aload 7, 2) := by decide +kernel
theorem dX11_broken_69 : decode cX11_broken 69 = .ok (.iload_n 1, 1) := by decide +kernel
theorem dX11_broken_70 : decode cX11_broken 70 = .ok (.invokevirtual 365, 3) := by decide +kernel
theorem dX11_broken_73 : decode cX11_broken 73 = .ok (.ifCond .eq 40, 3) := by decide +kernel
theorem dX11_broken_76 : decode cX11_broken 76 = .ok (.aload 7, 2) := by decide +kernel
theorem dX11_broken_78 : decode cX11_broken 78 = .ok (.getfield 368, 3) := by decide +kernel
theorem dX11_broken_81 : decode cX11_broken 81 = .ok (.iload_n 2, 1) := by decide +kernel
theorem dX11_broken_82 : decode cX11_broken 82 = .ok (.if_icmp .lt 31, 3) := by decide +kernel
theorem dX11_broken_85 : decode cX11_broken 85 = .ok (.aload 7, 2) := by decide +kernel
theorem dX11_broken_87 : decode cX11_broken 87 = .ok (.getfield 368, 3) := by decide +kernel
theorem dX11_broken_90 : decode cX11_broken 90 = .ok (.iload_n 2, 1) := by decide +kernel
theorem dX11_broken_91 : decode cX11_broken 91 = .ok (.iload_n 3, 1) := by decide +kernel
theorem dX11_broken_92 : decode cX11_broken 92 = .ok (.iadd, 1) := by decide +kernel
theorem dX11_broken_93 : decode cX11_broken 93 = .ok (.if_icmp .ge 20, 3) := by decide +kernel
theorem dX11_broken_96 : decode cX11_broken 96 = .ok (.iload 4, 2) := by decide +kernel
theorem dX11_broken_98 : decode cX11_broken 98 = .ok (.ifCond .ne 8, 3) := by decide +kernel
theorem dX11_broken_101 : decode cX11_broken 101 = .ok (.iload 6, 2) := by decide +kernel
theorem dX11_broken_103 : decode cX11_broken 103 = .ok (.goto 5, 3) := by decide +kernel
theorem dX11_broken_106 : decode cX11_broken 106 = .ok (.iload 5, 2) := by decide +kernel
theorem dX11_broken_108 : decode cX11_broken 108 = .ok (.istore 5, 2) := by decide +kernel
theorem dX11_broken_110 : decode cX11_broken 110 = .ok (.iinc 4 1, 3) := by decide +kernel
theorem dX11_broken_113 : decode cX11_broken 113 = .ok (.iinc 6 1, 3) := by decide +kernel
theorem dX11_broken_116 : decode cX11_broken 116 = .ok (.goto (-73), 3) := by decide +kernel
theorem dX11_broken_119 : decode cX11_broken 119 = .ok (.aload_n 0, 1) := by decide +kernel
theorem dX11_broken_120 : decode cX11_broken 120 = .ok (.iload 5, 2) := by decide +kernel
theorem dX11_broken_122 : decode cX11_broken 122 = .ok (.invokevirtual 106, 3) := by decide +kernel
theorem dX11_broken_125 : decode cX11_broken 125 = .ok (.pop, 1) := by decide +kernel
theorem dX11_broken_126 : decode cX11_broken 126 = .ok (.iload 4, 2) := by decide +kernel
theorem dX11_broken_128 : decode cX11_broken 128 = .ok (.ireturn, 1) := by decide +kernel
theorem dX11_mistaken_0 : decode cX11_mistaken 0 = .ok (.iconst 0, 1) := by decide +kernel
theorem dX11_mistaken_1 : decode cX11_mistaken 1 = .ok (.istore_n 1, 1) := by decide +kernel
theorem dX11_mistaken_2 : decode cX11_mistaken 2 = .ok (.bipush (-9), 2) := by decide +kernel
theorem dX11_mistaken_4 : decode cX11_mistaken 4 = .ok (.istore_n 2, 1) := by decide +kernel
theorem dX11_mistaken_5 : decode cX11_mistaken 5 = .ok (.iconst 0, 1) := by decide +kernel
theorem dX11_mistaken_6 : decode cX11_mistaken 6 = .ok (.istore_n 3, 1) := by decide +kernel
theorem dX11_mistaken_7 : decode cX11_mistaken 7 = .ok (.iload_n 3, 1) := by decide +kernel
theorem dX11_mistaken_8 : decode cX11_mistaken 8 = .ok (.aload_n 0, 1) := by decide +kernel
theorem dX11_mistaken_9 : decode cX11_mistaken 9 = .ok (.getfield 63, 3) := by decide +kernel
theorem dX11_mistaken_12 : decode cX11_mistaken 12 = .ok (.getfield 329, 3) := by decide +kernel
theorem dX11_mistaken_15 : decode cX11_mistaken 15 = .ok (.if_icmp .ge 47, 3) := by decide +kernel
theorem dX11_mistaken_18 : decode cX11_mistaken 18 = .ok (.aload_n 0, 1) := by decide +kernel
theorem dX11_mistaken_19 : decode cX11_mistaken 19 = .ok (.getfield 63, 3) := by decide +kernel
theorem dX11_mistaken_22 : decode cX11_mistaken 22 = .ok (.iload_n 3, 1) := by decide +kernel
theorem dX11_mistaken_23 : decode cX11_mistaken 23 = .ok (.invokevirtual 371, 3) := by decide +kernel
theorem dX11_mistaken_26 : decode cX11_mistaken 26 = .ok (.ifCond .eq 30, 3) := by decide +kernel
theorem dX11_mistaken_29 : decode cX11_mistaken 29 = .ok (.iload_n 2, 1) := by decide +kernel
theorem dX11_mistaken_30 : decode cX11_mistaken 30 = .ok (.bipush (-9), 2) := by decide +kernel
theorem dX11_mistaken_32 : decode cX11_mistaken 32 = .ok (.if_icmp .eq 15, 3) := by decide +kernel
theorem dX11_mistaken_35 : decode cX11_mistaken 35 = .ok (.aload_n 0, 1) := by decide +kernel
theorem dX11_mistaken_36 : decode cX11_mistaken 36 = .ok (.getfield 63, 3) := by decide +kernel
theorem dX11_mistaken_39 : decode cX11_mistaken 39 = .ok (.iload_n 3, 1) := by decide +kernel
theorem dX11_mistaken_40 : decode cX11_mistaken 40 = .ok (.iload_n 2, 1) := by decide +kernel
theorem dX11_mistaken_41 : decode cX11_mistaken 41 = .ok (.invokevirtual 374, 3) := by decide +kernel
theorem dX11_mistaken_44 : decode cX11_mistaken 44 = .ok (.ifCond .eq 7, 3) := by decide +kernel
theorem dX11_mistaken_47 : decode cX11_mistaken 47 = .ok (.iload_n 3, 1) := by decide +kernel
theorem dX11_mistaken_48 : decode cX11_mistaken 48 = .ok (.goto 4, 3) := by decide +kernel
theorem dX11_mistaken_51 : decode cX11_mistaken 51 = .ok (.iload_n 2, 1) := by decide +kernel
theorem dX11_mistaken_52 : decode cX11_mistaken 52 = .ok (.istore_n 2, 1) := by decide +kernel
theorem dX11_mistaken_53 : decode cX11_mistaken 53 = .ok (.iinc 1 1, 3) := by decide +kernel
theorem dX11_mistaken_56 : decode cX11_mistaken 56 = .ok (.iinc 3 1, 3) := by decide +kernel
theorem dX11_mistaken_59 : decode cX11_mistaken 59 = .ok (.goto (-52), 3) := by decide +kernel
theorem dX11_mistaken_62 : decode cX11_mistaken 62 = .ok (.aload_n 0, 1) := by decide +kernel
theorem dX11_mistaken_63 : decode cX11_mistaken 63 = .ok (.iload_n 2, 1) := by decide +kernel
theorem dX11_mistaken_64 : decode cX11_mistaken 64 = .ok (.invokevirtual 106, 3) := by decide +kernel
theorem dX11_mistaken_67 : decode cX11_mistaken 67 = .ok (.pop, 1) := by decide +kernel
theorem dX11_mistaken_68 : decode cX11_mistaken 68 = .ok (.iload_n 1, 1) := by decide +kernel
theorem dX11_mistaken_69 : decode cX11_mistaken 69 = .ok (.ireturn, 1) := by decide +kernel
theorem dX11_asked_0 : decode cX11_asked 0 = .ok (.aload_n 0, 1) := by decide +kernel
theorem dX11_asked_1 : decode cX11_asked 1 = .ok (.getfield 75, 3) := by decide +kernel
theorem dX11_asked_4 : decode cX11_asked 4 = .ok (.ireturn, 1) := by decide +kernel
theorem dX11_upper_0 : decode cX11_upper 0 = .ok (.aload_n 0, 1) := by decide +kernel
theorem dX11_upper_1 : decode cX11_upper 1 = .ok (.getfield 78, 3) := by decide +kernel
theorem dX11_upper_4 : decode cX11_upper 4 = .ok (.lreturn, 1) := by decide +kernel
theorem dX11_lower_0 : decode cX11_lower 0 = .ok (.aload_n 0, 1) := by decide +kernel
theorem dX11_lower_1 : decode cX11_lower 1 = .ok (.getfield 82, 3) := by decide +kernel
theorem dX11_lower_4 : decode cX11_lower 4 = .ok (.lreturn, 1) := by decide +kernel
theorem dX11_count_0 : decode cX11_count 0 = .ok (.iload_n 1, 1) := by decide +kernel
theorem dX11_count_1 : decode cX11_count 1 = .ok (.tableswitch 99 0 6 #[43, 51, 59, 67, 75, 83, 91], 43) := by decide +kernel
theorem dX11_count_44 : decode cX11_count 44 = .ok (.aload_n 0, 1) := by decide +kernel
theorem dX11_count_45 : decode cX11_count 45 = .ok (.getfield 11, 3) := by decide +kernel
theorem dX11_count_48 : decode cX11_count 48 = .ok (.invokestatic 377, 3) := by decide +kernel
theorem dX11_count_51 : decode cX11_count 51 = .ok (.ireturn, 1) := by decide +kernel
theorem dX11_count_52 : decode cX11_count 52 = .ok (.aload_n 0, 1) := by decide +kernel
theorem dX11_count_53 : decode cX11_count 53 = .ok (.getfield 15, 3) := by decide +kernel
theorem dX11_count_56 : decode cX11_count 56 = .ok (.invokestatic 377, 3) := by decide +kernel
theorem dX11_count_59 : decode cX11_count 59 = .ok (.ireturn, 1) := by decide +kernel
theorem dX11_count_60 : decode cX11_count 60 = .ok (.aload_n 0, 1) := by decide +kernel
theorem dX11_count_61 : decode cX11_count 61 = .ok (.getfield 21, 3) := by decide +kernel
theorem dX11_count_64 : decode cX11_count 64 = .ok (.invokevirtual 381, 3) := by decide +kernel
theorem dX11_count_67 : decode cX11_count 67 = .ok (.ireturn, 1) := by decide +kernel
theorem dX11_count_68 : decode cX11_count 68 = .ok (.aload_n 0, 1) := by decide +kernel
theorem dX11_count_69 : decode cX11_count 69 = .ok (.getfield 28, 3) := by decide +kernel
theorem dX11_count_72 : decode cX11_count 72 = .ok (.getfield 203, 3) := by decide +kernel
theorem dX11_count_75 : decode cX11_count 75 = .ok (.ireturn, 1) := by decide +kernel
theorem dX11_count_76 : decode cX11_count 76 = .ok (.aload_n 0, 1) := by decide +kernel
theorem dX11_count_77 : decode cX11_count 77 = .ok (.getfield 56, 3) := by decide +kernel
theorem dX11_count_80 : decode cX11_count 80 = .ok (.invokevirtual 384, 3) := by decide +kernel
theorem dX11_count_83 : decode cX11_count 83 = .ok (.ireturn, 1) := by decide +kernel
theorem dX11_count_84 : decode cX11_count 84 = .ok (.aload_n 0, 1) := by decide +kernel
theorem dX11_count_85 : decode cX11_count 85 = .ok (.getfield 63, 3) := by decide +kernel
theorem dX11_count_88 : decode cX11_count 88 = .ok (.getfield 329, 3) := by decide +kernel
theorem dX11_count_91 : decode cX11_count 91 = .ok (.ireturn, 1) := by decide +kernel
theorem dX11_count_92 : decode cX11_count 92 = .ok (.aload_n 0, 1) := by decide +kernel
theorem dX11_count_93 : decode cX11_count 93 = .ok (.getfield 63, 3) := by decide +kernel
theorem dX11_count_96 : decode cX11_count 96 = .ok (.invokevirtual 387, 3) := by decide +kernel
theorem dX11_count_99 : decode cX11_count 99 = .ok (.ireturn, 1) := by decide +kernel
theorem dX11_count_100 : decode cX11_count 100 = .ok (.iconst (-1), 1) := by decide +kernel
theorem dX11_count_101 : decode cX11_count 101 = .ok (.ireturn, 1) := by decide +kernel
theorem dX11_finding_0 : decode cX11_finding 0 = .ok (.aload_n 0, 1) := by decide +kernel
theorem dX11_finding_1 : decode cX11_finding 1 = .ok (.getfield 71, 3) := by decide +kernel
theorem dX11_finding_4 : decode cX11_finding 4 = .ok (.ireturn, 1) := by decide +kernel
theorem dX11_findings_0 : decode cX11_findings 0 = .ok (.iload_n 1, 1) := by decide +kernel
theorem dX11_findings_1 : decode cX11_findings 1 = .ok (.iconst 1, 1) := by decide +kernel
theorem dX11_findings_2 : decode cX11_findings 2 = .ok (.iconst 5, 1) := by decide +kernel
theorem dX11_findings_3 : decode cX11_findings 3 = .ok (.invokestatic 142, 3) := by decide +kernel
theorem dX11_findings_6 : decode cX11_findings 6 = .ok (.ifCond .eq 12, 3) := by decide +kernel
theorem dX11_findings_9 : decode cX11_findings 9 = .ok (.aload_n 0, 1) := by decide +kernel
theorem dX11_findings_10 : decode cX11_findings 10 = .ok (.getfield 67, 3) := by decide +kernel
theorem dX11_findings_13 : decode cX11_findings 13 = .ok (.iload_n 1, 1) := by decide +kernel
theorem dX11_findings_14 : decode cX11_findings 14 = .ok (.iaload, 1) := by decide +kernel
theorem dX11_findings_15 : decode cX11_findings 15 = .ok (.goto 4, 3) := by decide +kernel
theorem dX11_findings_18 : decode cX11_findings 18 = .ok (.iconst (-1), 1) := by decide +kernel
theorem dX11_findings_19 : decode cX11_findings 19 = .ok (.ireturn, 1) := by decide +kernel
theorem dX11_digest_0 : decode cX11_digest 0 = .ok (.ldc2_w 390, 3) := by decide +kernel
theorem dX11_digest_3 : decode cX11_digest 3 = .ok (.lstore_n 1, 1) := by decide +kernel
theorem dX11_digest_4 : decode cX11_digest 4 = .ok (.iconst 0, 1) := by decide +kernel
theorem dX11_digest_5 : decode cX11_digest 5 = .ok (.istore_n 3, 1) := by decide +kernel
theorem dX11_digest_6 : decode cX11_digest 6 = .ok (.iload_n 3, 1) := by decide +kernel
theorem dX11_digest_7 : decode cX11_digest 7 = .ok (.bipush 6, 2) := by decide +kernel
theorem dX11_digest_9 : decode cX11_digest 9 = .ok (.if_icmp .gt 22, 3) := by decide +kernel
theorem dX11_digest_12 : decode cX11_digest 12 = .ok (.ldc2_w 392, 3) := by decide +kernel
theorem dX11_digest_15 : decode cX11_digest 15 = .ok (.lload_n 1, 1) := by decide +kernel
theorem dX11_digest_16 : decode cX11_digest 16 = .ok (.lmul, 1) := by decide +kernel
theorem dX11_digest_17 : decode cX11_digest 17 = .ok (.aload_n 0, 1) := by decide +kernel
theorem dX11_digest_18 : decode cX11_digest 18 = .ok (.iload_n 3, 1) := by decide +kernel
theorem dX11_digest_19 : decode cX11_digest 19 = .ok (.invokevirtual 394, 3) := by decide +kernel
theorem dX11_digest_22 : decode cX11_digest 22 = .ok (.i2l, 1) := by decide +kernel
theorem dX11_digest_23 : decode cX11_digest 23 = .ok (.ladd, 1) := by decide +kernel
theorem dX11_digest_24 : decode cX11_digest 24 = .ok (.lstore_n 1, 1) := by decide +kernel
theorem dX11_digest_25 : decode cX11_digest 25 = .ok (.iinc 3 1, 3) := by decide +kernel
theorem dX11_digest_28 : decode cX11_digest 28 = .ok (.goto (-22), 3) := by decide +kernel
theorem dX11_digest_31 : decode cX11_digest 31 = .ok (.aload_n 0, 1) := by decide +kernel
theorem dX11_digest_32 : decode cX11_digest 32 = .ok (.getfield 21, 3) := by decide +kernel
theorem dX11_digest_35 : decode cX11_digest 35 = .ok (.lload_n 1, 1) := by decide +kernel
theorem dX11_digest_36 : decode cX11_digest 36 = .ok (.invokevirtual 397, 3) := by decide +kernel
theorem dX11_digest_39 : decode cX11_digest 39 = .ok (.lstore_n 1, 1) := by decide +kernel
theorem dX11_digest_40 : decode cX11_digest 40 = .ok (.aload_n 0, 1) := by decide +kernel
theorem dX11_digest_41 : decode cX11_digest 41 = .ok (.getfield 28, 3) := by decide +kernel
theorem dX11_digest_44 : decode cX11_digest 44 = .ok (.lload_n 1, 1) := by decide +kernel
theorem dX11_digest_45 : decode cX11_digest 45 = .ok (.invokevirtual 401, 3) := by decide +kernel
theorem dX11_digest_48 : decode cX11_digest 48 = .ok (.lstore_n 1, 1) := by decide +kernel
theorem dX11_digest_49 : decode cX11_digest 49 = .ok (.aload_n 0, 1) := by decide +kernel
theorem dX11_digest_50 : decode cX11_digest 50 = .ok (.getfield 56, 3) := by decide +kernel
theorem dX11_digest_53 : decode cX11_digest 53 = .ok (.lload_n 1, 1) := by decide +kernel
theorem dX11_digest_54 : decode cX11_digest 54 = .ok (.invokevirtual 402, 3) := by decide +kernel
theorem dX11_digest_57 : decode cX11_digest 57 = .ok (.lstore_n 1, 1) := by decide +kernel
theorem dX11_digest_58 : decode cX11_digest 58 = .ok (.aload_n 0, 1) := by decide +kernel
theorem dX11_digest_59 : decode cX11_digest 59 = .ok (.getfield 63, 3) := by decide +kernel
theorem dX11_digest_62 : decode cX11_digest 62 = .ok (.lload_n 1, 1) := by decide +kernel
theorem dX11_digest_63 : decode cX11_digest 63 = .ok (.invokevirtual 403, 3) := by decide +kernel
theorem dX11_digest_66 : decode cX11_digest 66 = .ok (.lstore_n 1, 1) := by decide +kernel
theorem dX11_digest_67 : decode cX11_digest 67 = .ok (.iconst 0, 1) := by decide +kernel
theorem dX11_digest_68 : decode cX11_digest 68 = .ok (.istore_n 3, 1) := by decide +kernel
theorem dX11_digest_69 : decode cX11_digest 69 = .ok (.iload_n 3, 1) := by decide +kernel
theorem dX11_digest_70 : decode cX11_digest 70 = .ok (.aload_n 0, 1) := by decide +kernel
theorem dX11_digest_71 : decode cX11_digest 71 = .ok (.getfield 11, 3) := by decide +kernel
theorem dX11_digest_74 : decode cX11_digest 74 = .ok (.arraylength, 1) := by decide +kernel
theorem dX11_digest_75 : decode cX11_digest 75 = .ok (.if_icmp .ge 20, 3) := by decide +kernel
theorem dX11_digest_78 : decode cX11_digest 78 = .ok (.aload_n 0, 1) := by decide +kernel
theorem dX11_digest_79 : decode cX11_digest 79 = .ok (.getfield 11, 3) := by decide +kernel
theorem dX11_digest_82 : decode cX11_digest 82 = .ok (.iload_n 3, 1) := by decide +kernel
theorem dX11_digest_83 : decode cX11_digest 83 = .ok (.aaload, 1) := by decide +kernel
theorem dX11_digest_84 : decode cX11_digest 84 = .ok (.lload_n 1, 1) := by decide +kernel
theorem dX11_digest_85 : decode cX11_digest 85 = .ok (.invokevirtual 404, 3) := by decide +kernel
theorem dX11_digest_88 : decode cX11_digest 88 = .ok (.lstore_n 1, 1) := by decide +kernel
theorem dX11_digest_89 : decode cX11_digest 89 = .ok (.iinc 3 1, 3) := by decide +kernel
theorem dX11_digest_92 : decode cX11_digest 92 = .ok (.goto (-23), 3) := by decide +kernel
theorem dX11_digest_95 : decode cX11_digest 95 = .ok (.iconst 0, 1) := by decide +kernel
theorem dX11_digest_96 : decode cX11_digest 96 = .ok (.istore_n 3, 1) := by decide +kernel
theorem dX11_digest_97 : decode cX11_digest 97 = .ok (.iload_n 3, 1) := by decide +kernel
theorem dX11_digest_98 : decode cX11_digest 98 = .ok (.aload_n 0, 1) := by decide +kernel
theorem dX11_digest_99 : decode cX11_digest 99 = .ok (.getfield 15, 3) := by decide +kernel
theorem dX11_digest_102 : decode cX11_digest 102 = .ok (.arraylength, 1) := by decide +kernel
theorem dX11_digest_103 : decode cX11_digest 103 = .ok (.if_icmp .ge 20, 3) := by decide +kernel
theorem dX11_digest_106 : decode cX11_digest 106 = .ok (.aload_n 0, 1) := by decide +kernel
theorem dX11_digest_107 : decode cX11_digest 107 = .ok (.getfield 15, 3) := by decide +kernel
theorem dX11_digest_110 : decode cX11_digest 110 = .ok (.iload_n 3, 1) := by decide +kernel
theorem dX11_digest_111 : decode cX11_digest 111 = .ok (.aaload, 1) := by decide +kernel
theorem dX11_digest_112 : decode cX11_digest 112 = .ok (.lload_n 1, 1) := by decide +kernel
theorem dX11_digest_113 : decode cX11_digest 113 = .ok (.invokevirtual 404, 3) := by decide +kernel
theorem dX11_digest_116 : decode cX11_digest 116 = .ok (.lstore_n 1, 1) := by decide +kernel
theorem dX11_digest_117 : decode cX11_digest 117 = .ok (.iinc 3 1, 3) := by decide +kernel
theorem dX11_digest_120 : decode cX11_digest 120 = .ok (.goto (-23), 3) := by decide +kernel
theorem dX11_digest_123 : decode cX11_digest 123 = .ok (.lload_n 1, 1) := by decide +kernel
theorem dX11_digest_124 : decode cX11_digest 124 = .ok (.lreturn, 1) := by decide +kernel
theorem dX11_isNone_0 : decode cX11_isNone 0 = .ok (.iload_n 0, 1) := by decide +kernel
theorem dX11_isNone_1 : decode cX11_isNone 1 = .ok (.ifCond .lt 8, 3) := by decide +kernel
theorem dX11_isNone_4 : decode cX11_isNone 4 = .ok (.iload_n 0, 1) := by decide +kernel
theorem dX11_isNone_5 : decode cX11_isNone 5 = .ok (.iload_n 1, 1) := by decide +kernel
theorem dX11_isNone_6 : decode cX11_isNone 6 = .ok (.if_icmp .lt 7, 3) := by decide +kernel
theorem dX11_isNone_9 : decode cX11_isNone 9 = .ok (.iconst 1, 1) := by decide +kernel
theorem dX11_isNone_10 : decode cX11_isNone 10 = .ok (.goto 4, 3) := by decide +kernel
theorem dX11_isNone_13 : decode cX11_isNone 13 = .ok (.iconst 0, 1) := by decide +kernel
theorem dX11_isNone_14 : decode cX11_isNone 14 = .ok (.ireturn, 1) := by decide +kernel
theorem dX11_isWithin_0 : decode cX11_isWithin 0 = .ok (.iload_n 0, 1) := by decide +kernel
theorem dX11_isWithin_1 : decode cX11_isWithin 1 = .ok (.iload_n 1, 1) := by decide +kernel
theorem dX11_isWithin_2 : decode cX11_isWithin 2 = .ok (.if_icmp .lt 12, 3) := by decide +kernel
theorem dX11_isWithin_5 : decode cX11_isWithin 5 = .ok (.iload_n 0, 1) := by decide +kernel
theorem dX11_isWithin_6 : decode cX11_isWithin 6 = .ok (.iload_n 2, 1) := by decide +kernel
theorem dX11_isWithin_7 : decode cX11_isWithin 7 = .ok (.if_icmp .gt 7, 3) := by decide +kernel
theorem dX11_isWithin_10 : decode cX11_isWithin 10 = .ok (.iconst 1, 1) := by decide +kernel
theorem dX11_isWithin_11 : decode cX11_isWithin 11 = .ok (.goto 4, 3) := by decide +kernel
theorem dX11_isWithin_14 : decode cX11_isWithin 14 = .ok (.iconst 0, 1) := by decide +kernel
theorem dX11_isWithin_15 : decode cX11_isWithin 15 = .ok (.ireturn, 1) := by decide +kernel
theorem dX11_find_0 : decode cX11_find 0 = .ok (.iload_n 1, 1) := by decide +kernel
theorem dX11_find_1 : decode cX11_find 1 = .ok (.iconst 1, 1) := by decide +kernel
theorem dX11_find_2 : decode cX11_find 2 = .ok (.iconst 5, 1) := by decide +kernel
theorem dX11_find_3 : decode cX11_find 3 = .ok (.invokestatic 142, 3) := by decide +kernel
theorem dX11_find_6 : decode cX11_find 6 = .ok (.ifCond .eq 18, 3) := by decide +kernel
theorem dX11_find_9 : decode cX11_find 9 = .ok (.aload_n 0, 1) := by decide +kernel
theorem dX11_find_10 : decode cX11_find 10 = .ok (.iload_n 1, 1) := by decide +kernel
theorem dX11_find_11 : decode cX11_find 11 = .ok (.putfield 71, 3) := by decide +kernel
theorem dX11_find_14 : decode cX11_find 14 = .ok (.aload_n 0, 1) := by decide +kernel
theorem dX11_find_15 : decode cX11_find 15 = .ok (.getfield 67, 3) := by decide +kernel
theorem dX11_find_18 : decode cX11_find 18 = .ok (.iload_n 1, 1) := by decide +kernel
theorem dX11_find_19 : decode cX11_find 19 = .ok (.dup2, 1) := by decide +kernel
theorem dX11_find_20 : decode cX11_find 20 = .ok (.iaload, 1) := by decide +kernel
theorem dX11_find_21 : decode cX11_find 21 = .ok (.iconst 1, 1) := by decide +kernel
theorem dX11_find_22 : decode cX11_find 22 = .ok (.iadd, 1) := by decide +kernel
theorem dX11_find_23 : decode cX11_find 23 = .ok (.iastore, 1) := by decide +kernel
theorem dX11_find_24 : decode cX11_find 24 = .ok (.bipush (-3), 2) := by decide +kernel
theorem dX11_find_26 : decode cX11_find 26 = .ok (.ireturn, 1) := by decide +kernel
theorem dX11_tell_0 : decode cX11_tell 0 = .ok (.aload_n 0, 1) := by decide +kernel
theorem dX11_tell_1 : decode cX11_tell 1 = .ok (.iload_n 1, 1) := by decide +kernel
theorem dX11_tell_2 : decode cX11_tell 2 = .ok (.putfield 75, 3) := by decide +kernel
theorem dX11_tell_5 : decode cX11_tell 5 = .ok (.iconst 1, 1) := by decide +kernel
theorem dX11_tell_6 : decode cX11_tell 6 = .ok (.ireturn, 1) := by decide +kernel
theorem dX11_tellFraction_0 : decode cX11_tellFraction 0 = .ok (.lload_n 1, 1) := by decide +kernel
theorem dX11_tellFraction_1 : decode cX11_tellFraction 1 = .ok (.invokestatic 405, 3) := by decide +kernel
theorem dX11_tellFraction_4 : decode cX11_tellFraction 4 = .ok (.lload_n 3, 1) := by decide +kernel
theorem dX11_tellFraction_5 : decode cX11_tellFraction 5 = .ok (.invokestatic 410, 3) := by decide +kernel
theorem dX11_tellFraction_8 : decode cX11_tellFraction 8 = .ok (.lstore 5, 2) := by decide +kernel
theorem dX11_tellFraction_10 : decode cX11_tellFraction 10 = .ok (.lload 5, 2) := by decide +kernel
theorem dX11_tellFraction_12 : decode cX11_tellFraction 12 = .ok (.lconst 0, 1) := by decide +kernel
theorem dX11_tellFraction_13 : decode cX11_tellFraction 13 = .ok (.lcmp, 1) := by decide +kernel
theorem dX11_tellFraction_14 : decode cX11_tellFraction 14 = .ok (.ifCond .le 19, 3) := by decide +kernel
theorem dX11_tellFraction_17 : decode cX11_tellFraction 17 = .ok (.aload_n 0, 1) := by decide +kernel
theorem dX11_tellFraction_18 : decode cX11_tellFraction 18 = .ok (.lload_n 1, 1) := by decide +kernel
theorem dX11_tellFraction_19 : decode cX11_tellFraction 19 = .ok (.lload 5, 2) := by decide +kernel
theorem dX11_tellFraction_21 : decode cX11_tellFraction 21 = .ok (.ldiv, 1) := by decide +kernel
theorem dX11_tellFraction_22 : decode cX11_tellFraction 22 = .ok (.putfield 78, 3) := by decide +kernel
theorem dX11_tellFraction_25 : decode cX11_tellFraction 25 = .ok (.aload_n 0, 1) := by decide +kernel
theorem dX11_tellFraction_26 : decode cX11_tellFraction 26 = .ok (.lload_n 3, 1) := by decide +kernel
theorem dX11_tellFraction_27 : decode cX11_tellFraction 27 = .ok (.lload 5, 2) := by decide +kernel
theorem dX11_tellFraction_29 : decode cX11_tellFraction 29 = .ok (.ldiv, 1) := by decide +kernel
theorem dX11_tellFraction_30 : decode cX11_tellFraction 30 = .ok (.putfield 82, 3) := by decide +kernel
theorem dX11_tellFraction_33 : decode cX11_tellFraction 33 = .ok (.return_, 1) := by decide +kernel
theorem dX11_greatestShared_0 : decode cX11_greatestShared 0 = .ok (.lload_n 0, 1) := by decide +kernel
theorem dX11_greatestShared_1 : decode cX11_greatestShared 1 = .ok (.lstore 4, 2) := by decide +kernel
theorem dX11_greatestShared_3 : decode cX11_greatestShared 3 = .ok (.lload_n 2, 1) := by decide +kernel
theorem dX11_greatestShared_4 : decode cX11_greatestShared 4 = .ok (.lstore 6, 2) := by decide +kernel
theorem dX11_greatestShared_6 : decode cX11_greatestShared 6 = .ok (.iconst 0, 1) := by decide +kernel
theorem dX11_greatestShared_7 : decode cX11_greatestShared 7 = .ok (.istore 8, 2) := by decide +kernel
theorem dX11_greatestShared_9 : decode cX11_greatestShared 9 = .ok (.iload 8, 2) := by decide +kernel
theorem dX11_greatestShared_11 : decode cX11_greatestShared 11 = .ok (.sipush 200, 3) := by decide +kernel
theorem dX11_greatestShared_14 : decode cX11_greatestShared 14 = .ok (.if_icmp .ge 31, 3) := by decide +kernel
theorem dX11_greatestShared_17 : decode cX11_greatestShared 17 = .ok (.lload 6, 2) := by decide +kernel
theorem dX11_greatestShared_19 : decode cX11_greatestShared 19 = .ok (.lconst 0, 1) := by decide +kernel
theorem dX11_greatestShared_20 : decode cX11_greatestShared 20 = .ok (.lcmp, 1) := by decide +kernel
theorem dX11_greatestShared_21 : decode cX11_greatestShared 21 = .ok (.ifCond .eq 24, 3) := by decide +kernel
theorem dX11_greatestShared_24 : decode cX11_greatestShared 24 = .ok (.lload 4, 2) := by decide +kernel
theorem dX11_greatestShared_26 : decode cX11_greatestShared 26 = .ok (.lload 6, 2) := by decide +kernel
theorem dX11_greatestShared_28 : decode cX11_greatestShared 28 = .ok (.lrem, 1) := by decide +kernel
theorem dX11_greatestShared_29 : decode cX11_greatestShared 29 = .ok (.lstore 9, 2) := by decide +kernel
theorem dX11_greatestShared_31 : decode cX11_greatestShared 31 = .ok (.lload 6, 2) := by decide +kernel
theorem dX11_greatestShared_33 : decode cX11_greatestShared 33 = .ok (.lstore 4, 2) := by decide +kernel
theorem dX11_greatestShared_35 : decode cX11_greatestShared 35 = .ok (.lload 9, 2) := by decide +kernel
theorem dX11_greatestShared_37 : decode cX11_greatestShared 37 = .ok (.lstore 6, 2) := by decide +kernel
theorem dX11_greatestShared_39 : decode cX11_greatestShared 39 = .ok (.iinc 8 1, 3) := by decide +kernel
theorem dX11_greatestShared_42 : decode cX11_greatestShared 42 = .ok (.goto (-33), 3) := by decide +kernel
theorem dX11_greatestShared_45 : decode cX11_greatestShared 45 = .ok (.lload 4, 2) := by decide +kernel
theorem dX11_greatestShared_47 : decode cX11_greatestShared 47 = .ok (.lreturn, 1) := by decide +kernel
theorem dX11_makeStrip_0 : decode cX11_makeStrip 0 = .ok (.iload_n 2, 1) := by decide +kernel
theorem dX11_makeStrip_1 : decode cX11_makeStrip 1 = .ok (.ifCond .ge 9, 3) := by decide +kernel
theorem dX11_makeStrip_4 : decode cX11_makeStrip 4 = .ok (.aload_n 0, 1) := by decide +kernel
theorem dX11_makeStrip_5 : decode cX11_makeStrip 5 = .ok (.iconst 5, 1) := by decide +kernel
theorem dX11_makeStrip_6 : decode cX11_makeStrip 6 = .ok (.invokevirtual 116, 3) := by decide +kernel
theorem dX11_makeStrip_9 : decode cX11_makeStrip 9 = .ok (.ireturn, 1) := by decide +kernel
theorem dX11_makeStrip_10 : decode cX11_makeStrip 10 = .ok (.aload_n 1, 1) := by decide +kernel
theorem dX11_makeStrip_11 : decode cX11_makeStrip 11 = .ok (.iload_n 2, 1) := by decide +kernel
theorem dX11_makeStrip_12 : decode cX11_makeStrip 12 = .ok (.iload_n 3, 1) := by decide +kernel
theorem dX11_makeStrip_13 : decode cX11_makeStrip 13 = .ok (.invokevirtual 414, 3) := by decide +kernel
theorem dX11_makeStrip_16 : decode cX11_makeStrip 16 = .ok (.iload_n 2, 1) := by decide +kernel
theorem dX11_makeStrip_17 : decode cX11_makeStrip 17 = .ok (.ireturn, 1) := by decide +kernel
theorem dX11_refusesStrip_0 : decode cX11_refusesStrip 0 = .ok (.iload_n 2, 1) := by decide +kernel
theorem dX11_refusesStrip_1 : decode cX11_refusesStrip 1 = .ok (.aload_n 1, 1) := by decide +kernel
theorem dX11_refusesStrip_2 : decode cX11_refusesStrip 2 = .ok (.arraylength, 1) := by decide +kernel
theorem dX11_refusesStrip_3 : decode cX11_refusesStrip 3 = .ok (.invokestatic 86, 3) := by decide +kernel
theorem dX11_refusesStrip_6 : decode cX11_refusesStrip 6 = .ok (.ifCond .eq 5, 3) := by decide +kernel
theorem dX11_refusesStrip_9 : decode cX11_refusesStrip 9 = .ok (.iconst (-1), 1) := by decide +kernel
theorem dX11_refusesStrip_10 : decode cX11_refusesStrip 10 = .ok (.ireturn, 1) := by decide +kernel
theorem dX11_refusesStrip_11 : decode cX11_refusesStrip 11 = .ok (.aload_n 1, 1) := by decide +kernel
theorem dX11_refusesStrip_12 : decode cX11_refusesStrip 12 = .ok (.iload_n 2, 1) := by decide +kernel
theorem dX11_refusesStrip_13 : decode cX11_refusesStrip 13 = .ok (.aaload, 1) := by decide +kernel
theorem dX11_refusesStrip_14 : decode cX11_refusesStrip 14 = .ok (.invokevirtual 119, 3) := by decide +kernel
theorem dX11_refusesStrip_17 : decode cX11_refusesStrip 17 = .ok (.ifCond .eq 7, 3) := by decide +kernel
theorem dX11_refusesStrip_20 : decode cX11_refusesStrip 20 = .ok (.iconst 0, 1) := by decide +kernel
theorem dX11_refusesStrip_21 : decode cX11_refusesStrip 21 = .ok (.goto 8, 3) := by decide +kernel
theorem dX11_refusesStrip_24 : decode cX11_refusesStrip 24 = .ok (.aload_n 0, 1) := by decide +kernel
theorem dX11_refusesStrip_25 : decode cX11_refusesStrip 25 = .ok (.iconst 1, 1) := by decide +kernel
theorem dX11_refusesStrip_26 : decode cX11_refusesStrip 26 = .ok (.invokevirtual 116, 3) := by decide +kernel
theorem dX11_refusesStrip_29 : decode cX11_refusesStrip 29 = .ok (.ireturn, 1) := by decide +kernel
theorem dX11_refusesPlace_0 : decode cX11_refusesPlace 0 = .ok (.aload_n 0, 1) := by decide +kernel
theorem dX11_refusesPlace_1 : decode cX11_refusesPlace 1 = .ok (.aload_n 1, 1) := by decide +kernel
theorem dX11_refusesPlace_2 : decode cX11_refusesPlace 2 = .ok (.iload_n 2, 1) := by decide +kernel
theorem dX11_refusesPlace_3 : decode cX11_refusesPlace 3 = .ok (.invokevirtual 109, 3) := by decide +kernel
theorem dX11_refusesPlace_6 : decode cX11_refusesPlace 6 = .ok (.istore 4, 2) := by decide +kernel
theorem dX11_refusesPlace_8 : decode cX11_refusesPlace 8 = .ok (.iload 4, 2) := by decide +kernel
theorem dX11_refusesPlace_10 : decode cX11_refusesPlace 10 = .ok (.ifCond .eq 6, 3) := by decide +kernel
theorem dX11_refusesPlace_13 : decode cX11_refusesPlace 13 = .ok (.iload 4, 2) := by decide +kernel
theorem dX11_refusesPlace_15 : decode cX11_refusesPlace 15 = .ok (.ireturn, 1) := by decide +kernel
theorem dX11_refusesPlace_16 : decode cX11_refusesPlace 16 = .ok (.aload_n 1, 1) := by decide +kernel
theorem dX11_refusesPlace_17 : decode cX11_refusesPlace 17 = .ok (.iload_n 2, 1) := by decide +kernel
theorem dX11_refusesPlace_18 : decode cX11_refusesPlace 18 = .ok (.aaload, 1) := by decide +kernel
theorem dX11_refusesPlace_19 : decode cX11_refusesPlace 19 = .ok (.iload_n 3, 1) := by decide +kernel
theorem dX11_refusesPlace_20 : decode cX11_refusesPlace 20 = .ok (.invokevirtual 416, 3) := by decide +kernel
theorem dX11_refusesPlace_23 : decode cX11_refusesPlace 23 = .ok (.ifCond .eq 7, 3) := by decide +kernel
theorem dX11_refusesPlace_26 : decode cX11_refusesPlace 26 = .ok (.iconst 0, 1) := by decide +kernel
theorem dX11_refusesPlace_27 : decode cX11_refusesPlace 27 = .ok (.goto 8, 3) := by decide +kernel
theorem dX11_refusesPlace_30 : decode cX11_refusesPlace 30 = .ok (.aload_n 0, 1) := by decide +kernel
theorem dX11_refusesPlace_31 : decode cX11_refusesPlace 31 = .ok (.iconst 2, 1) := by decide +kernel
theorem dX11_refusesPlace_32 : decode cX11_refusesPlace 32 = .ok (.invokevirtual 116, 3) := by decide +kernel
theorem dX11_refusesPlace_35 : decode cX11_refusesPlace 35 = .ok (.ireturn, 1) := by decide +kernel
theorem dX11_refusesHide_0 : decode cX11_refusesHide 0 = .ok (.aload_n 0, 1) := by decide +kernel
theorem dX11_refusesHide_1 : decode cX11_refusesHide 1 = .ok (.iload_n 1, 1) := by decide +kernel
theorem dX11_refusesHide_2 : decode cX11_refusesHide 2 = .ok (.iload_n 1, 1) := by decide +kernel
theorem dX11_refusesHide_3 : decode cX11_refusesHide 3 = .ok (.invokevirtual 189, 3) := by decide +kernel
theorem dX11_refusesHide_6 : decode cX11_refusesHide 6 = .ok (.ireturn, 1) := by decide +kernel
theorem dX11_refusesHides_0 : decode cX11_refusesHides 0 = .ok (.iload_n 1, 1) := by decide +kernel
theorem dX11_refusesHides_1 : decode cX11_refusesHides 1 = .ok (.bipush 8, 2) := by decide +kernel
theorem dX11_refusesHides_3 : decode cX11_refusesHides 3 = .ok (.invokestatic 86, 3) := by decide +kernel
theorem dX11_refusesHides_6 : decode cX11_refusesHides 6 = .ok (.ifCond .ne 12, 3) := by decide +kernel
theorem dX11_refusesHides_9 : decode cX11_refusesHides 9 = .ok (.iload_n 2, 1) := by decide +kernel
theorem dX11_refusesHides_10 : decode cX11_refusesHides 10 = .ok (.bipush 8, 2) := by decide +kernel
theorem dX11_refusesHides_12 : decode cX11_refusesHides 12 = .ok (.invokestatic 86, 3) := by decide +kernel
theorem dX11_refusesHides_15 : decode cX11_refusesHides 15 = .ok (.ifCond .eq 5, 3) := by decide +kernel
theorem dX11_refusesHides_18 : decode cX11_refusesHides 18 = .ok (.iconst (-1), 1) := by decide +kernel
theorem dX11_refusesHides_19 : decode cX11_refusesHides 19 = .ok (.ireturn, 1) := by decide +kernel
theorem dX11_refusesHides_20 : decode cX11_refusesHides 20 = .ok (.aload_n 0, 1) := by decide +kernel
theorem dX11_refusesHides_21 : decode cX11_refusesHides 21 = .ok (.getfield 21, 3) := by decide +kernel
theorem dX11_refusesHides_24 : decode cX11_refusesHides 24 = .ok (.iload_n 1, 1) := by decide +kernel
theorem dX11_refusesHides_25 : decode cX11_refusesHides 25 = .ok (.invokevirtual 333, 3) := by decide +kernel
theorem dX11_refusesHides_28 : decode cX11_refusesHides 28 = .ok (.ifCond .eq 18, 3) := by decide +kernel
theorem dX11_refusesHides_31 : decode cX11_refusesHides 31 = .ok (.aload_n 0, 1) := by decide +kernel
theorem dX11_refusesHides_32 : decode cX11_refusesHides 32 = .ok (.getfield 21, 3) := by decide +kernel
theorem dX11_refusesHides_35 : decode cX11_refusesHides 35 = .ok (.iload_n 2, 1) := by decide +kernel
theorem dX11_refusesHides_36 : decode cX11_refusesHides 36 = .ok (.invokevirtual 333, 3) := by decide +kernel
theorem dX11_refusesHides_39 : decode cX11_refusesHides 39 = .ok (.ifCond .eq 7, 3) := by decide +kernel
theorem dX11_refusesHides_42 : decode cX11_refusesHides 42 = .ok (.iconst 0, 1) := by decide +kernel
theorem dX11_refusesHides_43 : decode cX11_refusesHides 43 = .ok (.goto 8, 3) := by decide +kernel
theorem dX11_refusesHides_46 : decode cX11_refusesHides 46 = .ok (.aload_n 0, 1) := by decide +kernel
theorem dX11_refusesHides_47 : decode cX11_refusesHides 47 = .ok (.iconst 1, 1) := by decide +kernel
theorem dX11_refusesHides_48 : decode cX11_refusesHides 48 = .ok (.invokevirtual 116, 3) := by decide +kernel
theorem dX11_refusesHides_51 : decode cX11_refusesHides 51 = .ok (.ireturn, 1) := by decide +kernel
theorem dX11_thereAmong_0 : decode cX11_thereAmong 0 = .ok (.iconst 0, 1) := by decide +kernel
theorem dX11_thereAmong_1 : decode cX11_thereAmong 1 = .ok (.istore_n 1, 1) := by decide +kernel
theorem dX11_thereAmong_2 : decode cX11_thereAmong 2 = .ok (.iconst 0, 1) := by decide +kernel
theorem dX11_thereAmong_3 : decode cX11_thereAmong 3 = .ok (.istore_n 2, 1) := by decide +kernel
theorem dX11_thereAmong_4 : decode cX11_thereAmong 4 = .ok (.iload_n 2, 1) := by decide +kernel
theorem dX11_thereAmong_5 : decode cX11_thereAmong 5 = .ok (.aload_n 0, 1) := by decide +kernel
theorem dX11_thereAmong_6 : decode cX11_thereAmong 6 = .ok (.arraylength, 1) := by decide +kernel
theorem dX11_thereAmong_7 : decode cX11_thereAmong 7 = .ok (.if_icmp .ge 21, 3) := by decide +kernel
theorem dX11_thereAmong_10 : decode cX11_thereAmong 10 = .ok (.aload_n 0, 1) := by decide +kernel
theorem dX11_thereAmong_11 : decode cX11_thereAmong 11 = .ok (.iload_n 2, 1) := by decide +kernel
theorem dX11_thereAmong_12 : decode cX11_thereAmong 12 = .ok (.aaload, 1) := by decide +kernel
theorem dX11_thereAmong_13 : decode cX11_thereAmong 13 = .ok (.invokevirtual 119, 3) := by decide +kernel
theorem dX11_thereAmong_16 : decode cX11_thereAmong 16 = .ok (.ifCond .eq 6, 3) := by decide +kernel
theorem dX11_thereAmong_19 : decode cX11_thereAmong 19 = .ok (.iinc 1 1, 3) := by decide +kernel
theorem dX11_thereAmong_22 : decode cX11_thereAmong 22 = .ok (.iinc 2 1, 3) := by decide +kernel
theorem dX11_thereAmong_25 : decode cX11_thereAmong 25 = .ok (.goto (-21), 3) := by decide +kernel
theorem dX11_thereAmong_28 : decode cX11_thereAmong 28 = .ok (.iload_n 1, 1) := by decide +kernel
theorem dX11_thereAmong_29 : decode cX11_thereAmong 29 = .ok (.ireturn, 1) := by decide +kernel
theorem dX12_init_0 : decode cX12_init 0 = .ok (.aload_n 0, 1) := by decide +kernel
theorem dX12_init_1 : decode cX12_init 1 = .ok (.invokespecial 1, 3) := by decide +kernel
theorem dX12_init_4 : decode cX12_init 4 = .ok (.aload_n 0, 1) := by decide +kernel
theorem dX12_init_5 : decode cX12_init 5 = .ok (.bipush 6, 2) := by decide +kernel
theorem dX12_init_7 : decode cX12_init 7 = .ok (.newarray .int, 2) := by decide +kernel
theorem dX12_init_9 : decode cX12_init 9 = .ok (.putfield 7, 3) := by decide +kernel
theorem dX12_init_12 : decode cX12_init 12 = .ok (.aload_n 0, 1) := by decide +kernel
theorem dX12_init_13 : decode cX12_init 13 = .ok (.lconst 1, 1) := by decide +kernel
theorem dX12_init_14 : decode cX12_init 14 = .ok (.putfield 13, 3) := by decide +kernel
theorem dX12_init_17 : decode cX12_init 17 = .ok (.aload_n 0, 1) := by decide +kernel
theorem dX12_init_18 : decode cX12_init 18 = .ok (.bipush 6, 2) := by decide +kernel
theorem dX12_init_20 : decode cX12_init 20 = .ok (.newarray .int, 2) := by decide +kernel
theorem dX12_init_22 : decode cX12_init 22 = .ok (.putfield 17, 3) := by decide +kernel
theorem dX12_init_25 : decode cX12_init 25 = .ok (.aload_n 0, 1) := by decide +kernel
theorem dX12_init_26 : decode cX12_init 26 = .ok (.sipush 240, 3) := by decide +kernel
theorem dX12_init_29 : decode cX12_init 29 = .ok (.newarray .int, 2) := by decide +kernel
theorem dX12_init_31 : decode cX12_init 31 = .ok (.putfield 20, 3) := by decide +kernel
theorem dX12_init_34 : decode cX12_init 34 = .ok (.aload_n 0, 1) := by decide +kernel
theorem dX12_init_35 : decode cX12_init 35 = .ok (.bipush 40, 2) := by decide +kernel
theorem dX12_init_37 : decode cX12_init 37 = .ok (.newarray .int, 2) := by decide +kernel
theorem dX12_init_39 : decode cX12_init 39 = .ok (.putfield 23, 3) := by decide +kernel
theorem dX12_init_42 : decode cX12_init 42 = .ok (.aload_n 0, 1) := by decide +kernel
theorem dX12_init_43 : decode cX12_init 43 = .ok (.iconst 4, 1) := by decide +kernel
theorem dX12_init_44 : decode cX12_init 44 = .ok (.newarray .int, 2) := by decide +kernel
theorem dX12_init_46 : decode cX12_init 46 = .ok (.putfield 26, 3) := by decide +kernel
theorem dX12_init_49 : decode cX12_init 49 = .ok (.aload_n 0, 1) := by decide +kernel
theorem dX12_init_50 : decode cX12_init 50 = .ok (.sipush 240, 3) := by decide +kernel
theorem dX12_init_53 : decode cX12_init 53 = .ok (.newarray .int, 2) := by decide +kernel
theorem dX12_init_55 : decode cX12_init 55 = .ok (.putfield 29, 3) := by decide +kernel
theorem dX12_init_58 : decode cX12_init 58 = .ok (.aload_n 0, 1) := by decide +kernel
theorem dX12_init_59 : decode cX12_init 59 = .ok (.bipush 8, 2) := by decide +kernel
theorem dX12_init_61 : decode cX12_init 61 = .ok (.newarray .int, 2) := by decide +kernel
theorem dX12_init_63 : decode cX12_init 63 = .ok (.putfield 32, 3) := by decide +kernel
theorem dX12_init_66 : decode cX12_init 66 = .ok (.aload_n 0, 1) := by decide +kernel
theorem dX12_init_67 : decode cX12_init 67 = .ok (.bipush 8, 2) := by decide +kernel
theorem dX12_init_69 : decode cX12_init 69 = .ok (.newarray .int, 2) := by decide +kernel
theorem dX12_init_71 : decode cX12_init 71 = .ok (.putfield 35, 3) := by decide +kernel
theorem dX12_init_74 : decode cX12_init 74 = .ok (.aload_n 0, 1) := by decide +kernel
theorem dX12_init_75 : decode cX12_init 75 = .ok (.bipush 8, 2) := by decide +kernel
theorem dX12_init_77 : decode cX12_init 77 = .ok (.newarray .int, 2) := by decide +kernel
theorem dX12_init_79 : decode cX12_init 79 = .ok (.putfield 38, 3) := by decide +kernel
theorem dX12_init_82 : decode cX12_init 82 = .ok (.aload_n 0, 1) := by decide +kernel
theorem dX12_init_83 : decode cX12_init 83 = .ok (.bipush 30, 2) := by decide +kernel
theorem dX12_init_85 : decode cX12_init 85 = .ok (.putfield 41, 3) := by decide +kernel
theorem dX12_init_88 : decode cX12_init 88 = .ok (.aload_n 0, 1) := by decide +kernel
theorem dX12_init_89 : decode cX12_init 89 = .ok (.iconst 2, 1) := by decide +kernel
theorem dX12_init_90 : decode cX12_init 90 = .ok (.putfield 45, 3) := by decide +kernel
theorem dX12_init_93 : decode cX12_init 93 = .ok (.aload_n 0, 1) := by decide +kernel
theorem dX12_init_94 : decode cX12_init 94 = .ok (.bipush 12, 2) := by decide +kernel
theorem dX12_init_96 : decode cX12_init 96 = .ok (.newarray .int, 2) := by decide +kernel
theorem dX12_init_98 : decode cX12_init 98 = .ok (.putfield 48, 3) := by decide +kernel
theorem dX12_init_101 : decode cX12_init 101 = .ok (.aload_n 0, 1) := by decide +kernel
theorem dX12_init_102 : decode cX12_init 102 = .ok (.bipush 12, 2) := by decide +kernel
theorem dX12_init_104 : decode cX12_init 104 = .ok (.newarray .int, 2) := by decide +kernel
theorem dX12_init_106 : decode cX12_init 106 = .ok (.putfield 51, 3) := by decide +kernel
theorem dX12_init_109 : decode cX12_init 109 = .ok (.aload_n 0, 1) := by decide +kernel
theorem dX12_init_110 : decode cX12_init 110 = .ok (.bipush 12, 2) := by decide +kernel
theorem dX12_init_112 : decode cX12_init 112 = .ok (.newarray .int, 2) := by decide +kernel
theorem dX12_init_114 : decode cX12_init 114 = .ok (.putfield 54, 3) := by decide +kernel
theorem dX12_init_117 : decode cX12_init 117 = .ok (.aload_n 0, 1) := by decide +kernel
theorem dX12_init_118 : decode cX12_init 118 = .ok (.bipush 12, 2) := by decide +kernel
theorem dX12_init_120 : decode cX12_init 120 = .ok (.newarray .int, 2) := by decide +kernel
theorem dX12_init_122 : decode cX12_init 122 = .ok (.putfield 57, 3) := by decide +kernel
theorem dX12_init_125 : decode cX12_init 125 = .ok (.aload_n 0, 1) := by decide +kernel
theorem dX12_init_126 : decode cX12_init 126 = .ok (.bipush 12, 2) := by decide +kernel
theorem dX12_init_128 : decode cX12_init 128 = .ok (.newarray .int, 2) := by decide +kernel
theorem dX12_init_130 : decode cX12_init 130 = .ok (.putfield 60, 3) := by decide +kernel
theorem dX12_init_133 : decode cX12_init 133 = .ok (.aload_n 0, 1) := by decide +kernel
theorem dX12_init_134 : decode cX12_init 134 = .ok (.bipush 12, 2) := by decide +kernel
theorem dX12_init_136 : decode cX12_init 136 = .ok (.newarray .int, 2) := by decide +kernel
theorem dX12_init_138 : decode cX12_init 138 = .ok (.putfield 63, 3) := by decide +kernel
theorem dX12_init_141 : decode cX12_init 141 = .ok (.aload_n 0, 1) := by decide +kernel
theorem dX12_init_142 : decode cX12_init 142 = .ok (.bipush 12, 2) := by decide +kernel
theorem dX12_init_144 : decode cX12_init 144 = .ok (.newarray .int, 2) := by decide +kernel
theorem dX12_init_146 : decode cX12_init 146 = .ok (.putfield 66, 3) := by decide +kernel
theorem dX12_init_149 : decode cX12_init 149 = .ok (.aload_n 0, 1) := by decide +kernel
theorem dX12_init_150 : decode cX12_init 150 = .ok (.bipush 12, 2) := by decide +kernel
theorem dX12_init_152 : decode cX12_init 152 = .ok (.newarray .int, 2) := by decide +kernel
theorem dX12_init_154 : decode cX12_init 154 = .ok (.putfield 69, 3) := by decide +kernel
theorem dX12_init_157 : decode cX12_init 157 = .ok (.aload_n 0, 1) := by decide +kernel
theorem dX12_init_158 : decode cX12_init 158 = .ok (.bipush 12, 2) := by decide +kernel
theorem dX12_init_160 : decode cX12_init 160 = .ok (.newarray .int, 2) := by decide +kernel
theorem dX12_init_162 : decode cX12_init 162 = .ok (.putfield 72, 3) := by decide +kernel
theorem dX12_init_165 : decode cX12_init 165 = .ok (.aload_n 0, 1) := by decide +kernel
theorem dX12_init_166 : decode cX12_init 166 = .ok (.bipush 12, 2) := by decide +kernel
theorem dX12_init_168 : decode cX12_init 168 = .ok (.newarray .int, 2) := by decide +kernel
theorem dX12_init_170 : decode cX12_init 170 = .ok (.putfield 75, 3) := by decide +kernel
theorem dX12_init_173 : decode cX12_init 173 = .ok (.aload_n 0, 1) := by decide +kernel
theorem dX12_init_174 : decode cX12_init 174 = .ok (.bipush 12, 2) := by decide +kernel
theorem dX12_init_176 : decode cX12_init 176 = .ok (.newarray .int, 2) := by decide +kernel
theorem dX12_init_178 : decode cX12_init 178 = .ok (.putfield 78, 3) := by decide +kernel
theorem dX12_init_181 : decode cX12_init 181 = .ok (.aload_n 0, 1) := by decide +kernel
theorem dX12_init_182 : decode cX12_init 182 = .ok (.bipush 12, 2) := by decide +kernel
theorem dX12_init_184 : decode cX12_init 184 = .ok (.newarray .int, 2) := by decide +kernel
theorem dX12_init_186 : decode cX12_init 186 = .ok (.putfield 81, 3) := by decide +kernel
theorem dX12_init_189 : decode cX12_init 189 = .ok (.aload_n 0, 1) := by decide +kernel
theorem dX12_init_190 : decode cX12_init 190 = .ok (.bipush 12, 2) := by decide +kernel
theorem dX12_init_192 : decode cX12_init 192 = .ok (.newarray .int, 2) := by decide +kernel
theorem dX12_init_194 : decode cX12_init 194 = .ok (.putfield 84, 3) := by decide +kernel
theorem dX12_init_197 : decode cX12_init 197 = .ok (.aload_n 0, 1) := by decide +kernel
theorem dX12_init_198 : decode cX12_init 198 = .ok (.sipush 4096, 3) := by decide +kernel
theorem dX12_init_201 : decode cX12_init 201 = .ok (.newarray .int, 2) := by decide +kernel
theorem dX12_init_203 : decode cX12_init 203 = .ok (.putfield 87, 3) := by decide +kernel
theorem dX12_init_206 : decode cX12_init 206 = .ok (.aload_n 0, 1) := by decide +kernel
theorem dX12_init_207 : decode cX12_init 207 = .ok (.sipush 4096, 3) := by decide +kernel
theorem dX12_init_210 : decode cX12_init 210 = .ok (.newarray .int, 2) := by decide +kernel
theorem dX12_init_212 : decode cX12_init 212 = .ok (.putfield 90, 3) := by decide +kernel
theorem dX12_init_215 : decode cX12_init 215 = .ok (.aload_n 0, 1) := by decide +kernel
theorem dX12_init_216 : decode cX12_init 216 = .ok (.bipush 8, 2) := by decide +kernel
theorem dX12_init_218 : decode cX12_init 218 = .ok (.newarray .int, 2) := by decide +kernel
theorem dX12_init_220 : decode cX12_init 220 = .ok (.putfield 93, 3) := by decide +kernel
theorem dX12_init_223 : decode cX12_init 223 = .ok (.aload_n 0, 1) := by decide +kernel
theorem dX12_init_224 : decode cX12_init 224 = .ok (.bipush 96, 2) := by decide +kernel
theorem dX12_init_226 : decode cX12_init 226 = .ok (.newarray .int, 2) := by decide +kernel
theorem dX12_init_228 : decode cX12_init 228 = .ok (.putfield 96, 3) := by decide +kernel
theorem dX12_init_231 : decode cX12_init 231 = .ok (.aload_n 0, 1) := by decide +kernel
theorem dX12_init_232 : decode cX12_init 232 = .ok (.bipush 8, 2) := by decide +kernel
theorem dX12_init_234 : decode cX12_init 234 = .ok (.newarray .int, 2) := by decide +kernel
theorem dX12_init_236 : decode cX12_init 236 = .ok (.putfield 99, 3) := by decide +kernel
theorem dX12_init_239 : decode cX12_init 239 = .ok (.aload_n 0, 1) := by decide +kernel
theorem dX12_init_240 : decode cX12_init 240 = .ok (.bipush 8, 2) := by decide +kernel
theorem dX12_init_242 : decode cX12_init 242 = .ok (.newarray .int, 2) := by decide +kernel
theorem dX12_init_244 : decode cX12_init 244 = .ok (.putfield 102, 3) := by decide +kernel
theorem dX12_init_247 : decode cX12_init 247 = .ok (.aload_n 0, 1) := by decide +kernel
theorem dX12_init_248 : decode cX12_init 248 = .ok (.bipush 8, 2) := by decide +kernel
theorem dX12_init_250 : decode cX12_init 250 = .ok (.newarray .int, 2) := by decide +kernel
theorem dX12_init_252 : decode cX12_init 252 = .ok (.putfield 105, 3) := by decide +kernel
theorem dX12_init_255 : decode cX12_init 255 = .ok (.aload_n 0, 1) := by decide +kernel
theorem dX12_init_256 : decode cX12_init 256 = .ok (.bipush 8, 2) := by decide +kernel
theorem dX12_init_258 : decode cX12_init 258 = .ok (.newarray .int, 2) := by decide +kernel
theorem dX12_init_260 : decode cX12_init 260 = .ok (.putfield 108, 3) := by decide +kernel
theorem dX12_init_263 : decode cX12_init 263 = .ok (.aload_n 0, 1) := by decide +kernel
theorem dX12_init_264 : decode cX12_init 264 = .ok (.sipush 512, 3) := by decide +kernel
theorem dX12_init_267 : decode cX12_init 267 = .ok (.newarray .boolean, 2) := by decide +kernel
theorem dX12_init_269 : decode cX12_init 269 = .ok (.putfield 111, 3) := by decide +kernel
theorem dX12_init_272 : decode cX12_init 272 = .ok (.aload_n 0, 1) := by decide +kernel
theorem dX12_init_273 : decode cX12_init 273 = .ok (.sipush 512, 3) := by decide +kernel
theorem dX12_init_276 : decode cX12_init 276 = .ok (.newarray .int, 2) := by decide +kernel
theorem dX12_init_278 : decode cX12_init 278 = .ok (.putfield 115, 3) := by decide +kernel
theorem dX12_init_281 : decode cX12_init 281 = .ok (.aload_n 0, 1) := by decide +kernel
theorem dX12_init_282 : decode cX12_init 282 = .ok (.sipush 200, 3) := by decide +kernel
theorem dX12_init_285 : decode cX12_init 285 = .ok (.newarray .int, 2) := by decide +kernel
theorem dX12_init_287 : decode cX12_init 287 = .ok (.putfield 118, 3) := by decide +kernel
theorem dX12_init_290 : decode cX12_init 290 = .ok (.iconst 0, 1) := by decide +kernel
theorem dX12_init_291 : decode cX12_init 291 = .ok (.istore_n 1, 1) := by decide +kernel
theorem dX12_init_292 : decode cX12_init 292 = .ok (.iload_n 1, 1) := by decide +kernel
theorem dX12_init_293 : decode cX12_init 293 = .ok (.bipush 6, 2) := by decide +kernel
theorem dX12_init_295 : decode cX12_init 295 = .ok (.if_icmp .ge 17, 3) := by decide +kernel
theorem dX12_init_298 : decode cX12_init 298 = .ok (.aload_n 0, 1) := by decide +kernel
theorem dX12_init_299 : decode cX12_init 299 = .ok (.getfield 17, 3) := by decide +kernel
theorem dX12_init_302 : decode cX12_init 302 = .ok (.iload_n 1, 1) := by decide +kernel
theorem dX12_init_303 : decode cX12_init 303 = .ok (.bipush (-9), 2) := by decide +kernel
theorem dX12_init_305 : decode cX12_init 305 = .ok (.iastore, 1) := by decide +kernel
theorem dX12_init_306 : decode cX12_init 306 = .ok (.iinc 1 1, 3) := by decide +kernel
theorem dX12_init_309 : decode cX12_init 309 = .ok (.goto (-17), 3) := by decide +kernel
theorem dX12_init_312 : decode cX12_init 312 = .ok (.iconst 0, 1) := by decide +kernel
theorem dX12_init_313 : decode cX12_init 313 = .ok (.istore_n 1, 1) := by decide +kernel
theorem dX12_init_314 : decode cX12_init 314 = .ok (.iload_n 1, 1) := by decide +kernel
theorem dX12_init_315 : decode cX12_init 315 = .ok (.iconst 4, 1) := by decide +kernel
theorem dX12_init_316 : decode cX12_init 316 = .ok (.if_icmp .ge 17, 3) := by decide +kernel
theorem dX12_init_319 : decode cX12_init 319 = .ok (.aload_n 0, 1) := by decide +kernel
theorem dX12_init_320 : decode cX12_init 320 = .ok (.getfield 26, 3) := by decide +kernel
theorem dX12_init_323 : decode cX12_init 323 = .ok (.iload_n 1, 1) := by decide +kernel
theorem dX12_init_324 : decode cX12_init 324 = .ok (.bipush (-9), 2) := by decide +kernel
theorem dX12_init_326 : decode cX12_init 326 = .ok (.iastore, 1) := by decide +kernel
theorem dX12_init_327 : decode cX12_init 327 = .ok (.iinc 1 1, 3) := by decide +kernel
theorem dX12_init_330 : decode cX12_init 330 = .ok (.goto (-16), 3) := by decide +kernel
theorem dX12_init_333 : decode cX12_init 333 = .ok (.return_, 1) := by decide +kernel
theorem dX12_in_0 : decode cX12_in 0 = .ok (.iload_n 0, 1) := by decide +kernel
theorem dX12_in_1 : decode cX12_in 1 = .ok (.iload_n 1, 1) := by decide +kernel
theorem dX12_in_2 : decode cX12_in 2 = .ok (.if_icmp .lt 12, 3) := by decide +kernel
theorem dX12_in_5 : decode cX12_in 5 = .ok (.iload_n 0, 1) := by decide +kernel
theorem dX12_in_6 : decode cX12_in 6 = .ok (.iload_n 2, 1) := by decide +kernel
theorem dX12_in_7 : decode cX12_in 7 = .ok (.if_icmp .gt 7, 3) := by decide +kernel
theorem dX12_in_10 : decode cX12_in 10 = .ok (.iconst 1, 1) := by decide +kernel
theorem dX12_in_11 : decode cX12_in 11 = .ok (.goto 4, 3) := by decide +kernel
theorem dX12_in_14 : decode cX12_in 14 = .ok (.iconst 0, 1) := by decide +kernel
theorem dX12_in_15 : decode cX12_in 15 = .ok (.ireturn, 1) := by decide +kernel
theorem dX12_meets_0 : decode cX12_meets 0 = .ok (.aload_n 0, 1) := by decide +kernel
theorem dX12_meets_1 : decode cX12_meets 1 = .ok (.iload_n 1, 1) := by decide +kernel
theorem dX12_meets_2 : decode cX12_meets 2 = .ok (.putfield 121, 3) := by decide +kernel
theorem dX12_meets_5 : decode cX12_meets 5 = .ok (.aload_n 0, 1) := by decide +kernel
theorem dX12_meets_6 : decode cX12_meets 6 = .ok (.getfield 7, 3) := by decide +kernel
theorem dX12_meets_9 : decode cX12_meets 9 = .ok (.iload_n 1, 1) := by decide +kernel
theorem dX12_meets_10 : decode cX12_meets 10 = .ok (.dup2, 1) := by decide +kernel
theorem dX12_meets_11 : decode cX12_meets 11 = .ok (.iaload, 1) := by decide +kernel
theorem dX12_meets_12 : decode cX12_meets 12 = .ok (.iconst 1, 1) := by decide +kernel
theorem dX12_meets_13 : decode cX12_meets 13 = .ok (.iadd, 1) := by decide +kernel
theorem dX12_meets_14 : decode cX12_meets 14 = .ok (.iastore, 1) := by decide +kernel
theorem dX12_meets_15 : decode cX12_meets 15 = .ok (.bipush (-3), 2) := by decide +kernel
theorem dX12_meets_17 : decode cX12_meets 17 = .ok (.ireturn, 1) := by decide +kernel
theorem dX12_ask_0 : decode cX12_ask 0 = .ok (.aload_n 0, 1) := by decide +kernel
theorem dX12_ask_1 : decode cX12_ask 1 = .ok (.iload_n 1, 1) := by decide +kernel
theorem dX12_ask_2 : decode cX12_ask 2 = .ok (.putfield 124, 3) := by decide +kernel
theorem dX12_ask_5 : decode cX12_ask 5 = .ok (.iload_n 2, 1) := by decide +kernel
theorem dX12_ask_6 : decode cX12_ask 6 = .ok (.ireturn, 1) := by decide +kernel
theorem dX12_has_0 : decode cX12_has 0 = .ok (.iload_n 0, 1) := by decide +kernel
theorem dX12_has_1 : decode cX12_has 1 = .ok (.iload_n 1, 1) := by decide +kernel
theorem dX12_has_2 : decode cX12_has 2 = .ok (.ishr, 1) := by decide +kernel
theorem dX12_has_3 : decode cX12_has 3 = .ok (.iconst 1, 1) := by decide +kernel
theorem dX12_has_4 : decode cX12_has 4 = .ok (.iand, 1) := by decide +kernel
theorem dX12_has_5 : decode cX12_has 5 = .ok (.iconst 1, 1) := by decide +kernel
theorem dX12_has_6 : decode cX12_has 6 = .ok (.if_icmp .ne 7, 3) := by decide +kernel
theorem dX12_has_9 : decode cX12_has 9 = .ok (.iconst 1, 1) := by decide +kernel
theorem dX12_has_10 : decode cX12_has 10 = .ok (.goto 4, 3) := by decide +kernel
theorem dX12_has_13 : decode cX12_has 13 = .ok (.iconst 0, 1) := by decide +kernel
theorem dX12_has_14 : decode cX12_has 14 = .ok (.ireturn, 1) := by decide +kernel
theorem dX12_bits_0 : decode cX12_bits 0 = .ok (.iconst 0, 1) := by decide +kernel
theorem dX12_bits_1 : decode cX12_bits 1 = .ok (.istore_n 1, 1) := by decide +kernel
theorem dX12_bits_2 : decode cX12_bits 2 = .ok (.iconst 0, 1) := by decide +kernel
theorem dX12_bits_3 : decode cX12_bits 3 = .ok (.istore_n 2, 1) := by decide +kernel
theorem dX12_bits_4 : decode cX12_bits 4 = .ok (.iload_n 2, 1) := by decide +kernel
theorem dX12_bits_5 : decode cX12_bits 5 = .ok (.bipush 16, 2) := by decide +kernel
theorem dX12_bits_7 : decode cX12_bits 7 = .ok (.if_icmp .ge 17, 3) := by decide +kernel
theorem dX12_bits_10 : decode cX12_bits 10 = .ok (.iload_n 1, 1) := by decide +kernel
theorem dX12_bits_11 : decode cX12_bits 11 = .ok (.iload_n 0, 1) := by decide +kernel
theorem dX12_bits_12 : decode cX12_bits 12 = .ok (.iload_n 2, 1) := by decide +kernel
theorem dX12_bits_13 : decode cX12_bits 13 = .ok (.ishr, 1) := by decide +kernel
theorem dX12_bits_14 : decode cX12_bits 14 = .ok (.iconst 1, 1) := by decide +kernel
theorem dX12_bits_15 : decode cX12_bits 15 = .ok (.iand, 1) := by decide +kernel
theorem dX12_bits_16 : decode cX12_bits 16 = .ok (.iadd, 1) := by decide +kernel
theorem dX12_bits_17 : decode cX12_bits 17 = .ok (.istore_n 1, 1) := by decide +kernel
theorem dX12_bits_18 : decode cX12_bits 18 = .ok (.iinc 2 1, 3) := by decide +kernel
theorem dX12_bits_21 : decode cX12_bits 21 = .ok (.goto (-17), 3) := by decide +kernel
theorem dX12_bits_24 : decode cX12_bits 24 = .ok (.iload_n 1, 1) := by decide +kernel
theorem dX12_bits_25 : decode cX12_bits 25 = .ok (.ireturn, 1) := by decide +kernel
theorem dX12_abs_0 : decode cX12_abs 0 = .ok (.iload_n 0, 1) := by decide +kernel
theorem dX12_abs_1 : decode cX12_abs 1 = .ok (.ifCond .ge 8, 3) := by decide +kernel
theorem dX12_abs_4 : decode cX12_abs 4 = .ok (.iload_n 0, 1) := by decide +kernel
theorem dX12_abs_5 : decode cX12_abs 5 = .ok (.ineg, 1) := by decide +kernel
theorem dX12_abs_6 : decode cX12_abs 6 = .ok (.goto 4, 3) := by decide +kernel
theorem dX12_abs_9 : decode cX12_abs 9 = .ok (.iload_n 0, 1) := by decide +kernel
theorem dX12_abs_10 : decode cX12_abs 10 = .ok (.ireturn, 1) := by decide +kernel
theorem dX12_share_0 : decode cX12_share 0 = .ok (.lload_n 1, 1) := by decide +kernel
theorem dX12_share_1 : decode cX12_share 1 = .ok (.lconst 0, 1) := by decide +kernel
theorem dX12_share_2 : decode cX12_share 2 = .ok (.lcmp, 1) := by decide +kernel
theorem dX12_share_3 : decode cX12_share 3 = .ok (.ifCond .ge 8, 3) := by decide +kernel
theorem dX12_share_6 : decode cX12_share 6 = .ok (.lload_n 1, 1) := by decide +kernel
theorem dX12_share_7 : decode cX12_share 7 = .ok (.lneg, 1) := by decide +kernel
theorem dX12_share_8 : decode cX12_share 8 = .ok (.goto 4, 3) := by decide +kernel
theorem dX12_share_11 : decode cX12_share 11 = .ok (.lload_n 1, 1) := by decide +kernel
theorem dX12_share_12 : decode cX12_share 12 = .ok (.lstore 6, 2) := by decide +kernel
theorem dX12_share_14 : decode cX12_share 14 = .ok (.lload_n 3, 1) := by decide +kernel
theorem dX12_share_15 : decode cX12_share 15 = .ok (.lstore 8, 2) := by decide +kernel
theorem dX12_share_17 : decode cX12_share 17 = .ok (.lload 8, 2) := by decide +kernel
theorem dX12_share_19 : decode cX12_share 19 = .ok (.lconst 0, 1) := by decide +kernel
theorem dX12_share_20 : decode cX12_share 20 = .ok (.lcmp, 1) := by decide +kernel
theorem dX12_share_21 : decode cX12_share 21 = .ok (.ifCond .eq 21, 3) := by decide +kernel
theorem dX12_share_24 : decode cX12_share 24 = .ok (.lload 6, 2) := by decide +kernel
theorem dX12_share_26 : decode cX12_share 26 = .ok (.lload 8, 2) := by decide +kernel
theorem dX12_share_28 : decode cX12_share 28 = .ok (.lrem, 1) := by decide +kernel
theorem dX12_share_29 : decode cX12_share 29 = .ok (.lstore 10, 2) := by decide +kernel
theorem dX12_share_31 : decode cX12_share 31 = .ok (.lload 8, 2) := by decide +kernel
theorem dX12_share_33 : decode cX12_share 33 = .ok (.lstore 6, 2) := by decide +kernel
theorem dX12_share_35 : decode cX12_share 35 = .ok (.lload 10, 2) := by decide +kernel
theorem dX12_share_37 : decode cX12_share 37 = .ok (.lstore 8, 2) := by decide +kernel
theorem dX12_share_39 : decode cX12_share 39 = .ok (.goto (-22), 3) := by decide +kernel
theorem dX12_share_42 : decode cX12_share 42 = .ok (.aload_n 0, 1) := by decide +kernel
theorem dX12_share_43 : decode cX12_share 43 = .ok (.lload_n 1, 1) := by decide +kernel
theorem dX12_share_44 : decode cX12_share 44 = .ok (.lload 6, 2) := by decide +kernel
theorem dX12_share_46 : decode cX12_share 46 = .ok (.ldiv, 1) := by decide +kernel
theorem dX12_share_47 : decode cX12_share 47 = .ok (.putfield 127, 3) := by decide +kernel
theorem dX12_share_50 : decode cX12_share 50 = .ok (.aload_n 0, 1) := by decide +kernel
theorem dX12_share_51 : decode cX12_share 51 = .ok (.lload_n 3, 1) := by decide +kernel
theorem dX12_share_52 : decode cX12_share 52 = .ok (.lload 6, 2) := by decide +kernel
theorem dX12_share_54 : decode cX12_share 54 = .ok (.ldiv, 1) := by decide +kernel
theorem dX12_share_55 : decode cX12_share 55 = .ok (.putfield 13, 3) := by decide +kernel
theorem dX12_share_58 : decode cX12_share 58 = .ok (.iload 5, 2) := by decide +kernel
theorem dX12_share_60 : decode cX12_share 60 = .ok (.ireturn, 1) := by decide +kernel
theorem dX12_isRow_0 : decode cX12_isRow 0 = .ok (.iload_n 0, 1) := by decide +kernel
theorem dX12_isRow_1 : decode cX12_isRow 1 = .ok (.iconst 0, 1) := by decide +kernel
theorem dX12_isRow_2 : decode cX12_isRow 2 = .ok (.iconst 5, 1) := by decide +kernel
theorem dX12_isRow_3 : decode cX12_isRow 3 = .ok (.invokestatic 130, 3) := by decide +kernel
theorem dX12_isRow_6 : decode cX12_isRow 6 = .ok (.ireturn, 1) := by decide +kernel
theorem dX12_isText_0 : decode cX12_isText 0 = .ok (.iload_n 0, 1) := by decide +kernel
theorem dX12_isText_1 : decode cX12_isText 1 = .ok (.iconst 0, 1) := by decide +kernel
theorem dX12_isText_2 : decode cX12_isText 2 = .ok (.iconst 3, 1) := by decide +kernel
theorem dX12_isText_3 : decode cX12_isText 3 = .ok (.invokestatic 130, 3) := by decide +kernel
theorem dX12_isText_6 : decode cX12_isText 6 = .ok (.ireturn, 1) := by decide +kernel
theorem dX12_askedRow_0 : decode cX12_askedRow 0 = .ok (.iload_n 1, 1) := by decide +kernel
theorem dX12_askedRow_1 : decode cX12_askedRow 1 = .ok (.invokestatic 134, 3) := by decide +kernel
theorem dX12_askedRow_4 : decode cX12_askedRow 4 = .ok (.ifCond .ne 7, 3) := by decide +kernel
theorem dX12_askedRow_7 : decode cX12_askedRow 7 = .ok (.iconst (-1), 1) := by decide +kernel
theorem dX12_askedRow_8 : decode cX12_askedRow 8 = .ok (.goto 21, 3) := by decide +kernel
theorem dX12_askedRow_11 : decode cX12_askedRow 11 = .ok (.aload_n 0, 1) := by decide +kernel
theorem dX12_askedRow_12 : decode cX12_askedRow 12 = .ok (.getfield 17, 3) := by decide +kernel
theorem dX12_askedRow_15 : decode cX12_askedRow 15 = .ok (.iload_n 1, 1) := by decide +kernel
theorem dX12_askedRow_16 : decode cX12_askedRow 16 = .ok (.iaload, 1) := by decide +kernel
theorem dX12_askedRow_17 : decode cX12_askedRow 17 = .ok (.ifCond .ge 11, 3) := by decide +kernel
theorem dX12_askedRow_20 : decode cX12_askedRow 20 = .ok (.aload_n 0, 1) := by decide +kernel
theorem dX12_askedRow_21 : decode cX12_askedRow 21 = .ok (.iconst 1, 1) := by decide +kernel
theorem dX12_askedRow_22 : decode cX12_askedRow 22 = .ok (.invokevirtual 138, 3) := by decide +kernel
theorem dX12_askedRow_25 : decode cX12_askedRow 25 = .ok (.goto 4, 3) := by decide +kernel
theorem dX12_askedRow_28 : decode cX12_askedRow 28 = .ok (.iconst 0, 1) := by decide +kernel
theorem dX12_askedRow_29 : decode cX12_askedRow 29 = .ok (.ireturn, 1) := by decide +kernel
theorem dX12_askedText_0 : decode cX12_askedText 0 = .ok (.iload_n 1, 1) := by decide +kernel
theorem dX12_askedText_1 : decode cX12_askedText 1 = .ok (.invokestatic 142, 3) := by decide +kernel
theorem dX12_askedText_4 : decode cX12_askedText 4 = .ok (.ifCond .ne 7, 3) := by decide +kernel
theorem dX12_askedText_7 : decode cX12_askedText 7 = .ok (.iconst (-1), 1) := by decide +kernel
theorem dX12_askedText_8 : decode cX12_askedText 8 = .ok (.goto 21, 3) := by decide +kernel
theorem dX12_askedText_11 : decode cX12_askedText 11 = .ok (.aload_n 0, 1) := by decide +kernel
theorem dX12_askedText_12 : decode cX12_askedText 12 = .ok (.getfield 26, 3) := by decide +kernel
theorem dX12_askedText_15 : decode cX12_askedText 15 = .ok (.iload_n 1, 1) := by decide +kernel
theorem dX12_askedText_16 : decode cX12_askedText 16 = .ok (.iaload, 1) := by decide +kernel
theorem dX12_askedText_17 : decode cX12_askedText 17 = .ok (.ifCond .ge 11, 3) := by decide +kernel
theorem dX12_askedText_20 : decode cX12_askedText 20 = .ok (.aload_n 0, 1) := by decide +kernel
theorem dX12_askedText_21 : decode cX12_askedText 21 = .ok (.iconst 1, 1) := by decide +kernel
theorem dX12_askedText_22 : decode cX12_askedText 22 = .ok (.invokevirtual 138, 3) := by decide +kernel
theorem dX12_askedText_25 : decode cX12_askedText 25 = .ok (.goto 4, 3) := by decide +kernel
theorem dX12_askedText_28 : decode cX12_askedText 28 = .ok (.iconst 0, 1) := by decide +kernel
theorem dX12_askedText_29 : decode cX12_askedText 29 = .ok (.ireturn, 1) := by decide +kernel
theorem dX12_rowAt_0 : decode cX12_rowAt 0 = .ok (.aload_n 0, 1) := by decide +kernel
theorem dX12_rowAt_1 : decode cX12_rowAt 1 = .ok (.getfield 20, 3) := by decide +kernel
theorem dX12_rowAt_4 : decode cX12_rowAt 4 = .ok (.bipush 40, 2) := by decide +kernel
theorem dX12_rowAt_6 : decode cX12_rowAt 6 = .ok (.iload_n 1, 1) := by decide +kernel
theorem dX12_rowAt_7 : decode cX12_rowAt 7 = .ok (.imul, 1) := by decide +kernel
theorem dX12_rowAt_8 : decode cX12_rowAt 8 = .ok (.iload_n 2, 1) := by decide +kernel
theorem dX12_rowAt_9 : decode cX12_rowAt 9 = .ok (.iadd, 1) := by decide +kernel
theorem dX12_rowAt_10 : decode cX12_rowAt 10 = .ok (.iaload, 1) := by decide +kernel
theorem dX12_rowAt_11 : decode cX12_rowAt 11 = .ok (.ireturn, 1) := by decide +kernel
theorem dX12_row_0 : decode cX12_row 0 = .ok (.iload_n 1, 1) := by decide +kernel
theorem dX12_row_1 : decode cX12_row 1 = .ok (.invokestatic 134, 3) := by decide +kernel
theorem dX12_row_4 : decode cX12_row 4 = .ok (.ifCond .eq 9, 3) := by decide +kernel
theorem dX12_row_7 : decode cX12_row 7 = .ok (.iload_n 2, 1) := by decide +kernel
theorem dX12_row_8 : decode cX12_row 8 = .ok (.bipush 40, 2) := by decide +kernel
theorem dX12_row_10 : decode cX12_row 10 = .ok (.if_icmp .le 5, 3) := by decide +kernel
theorem dX12_row_13 : decode cX12_row 13 = .ok (.iconst (-1), 1) := by decide +kernel
theorem dX12_row_14 : decode cX12_row 14 = .ok (.ireturn, 1) := by decide +kernel
theorem dX12_row_15 : decode cX12_row 15 = .ok (.iload_n 2, 1) := by decide +kernel
theorem dX12_row_16 : decode cX12_row 16 = .ok (.ifCond .ge 9, 3) := by decide +kernel
theorem dX12_row_19 : decode cX12_row 19 = .ok (.aload_n 0, 1) := by decide +kernel
theorem dX12_row_20 : decode cX12_row 20 = .ok (.iconst 5, 1) := by decide +kernel
theorem dX12_row_21 : decode cX12_row 21 = .ok (.invokevirtual 138, 3) := by decide +kernel
theorem dX12_row_24 : decode cX12_row 24 = .ok (.ireturn, 1) := by decide +kernel
theorem dX12_row_25 : decode cX12_row 25 = .ok (.aload_n 0, 1) := by decide +kernel
theorem dX12_row_26 : decode cX12_row 26 = .ok (.getfield 17, 3) := by decide +kernel
theorem dX12_row_29 : decode cX12_row 29 = .ok (.iload_n 1, 1) := by decide +kernel
theorem dX12_row_30 : decode cX12_row 30 = .ok (.iload_n 2, 1) := by decide +kernel
theorem dX12_row_31 : decode cX12_row 31 = .ok (.iastore, 1) := by decide +kernel
theorem dX12_row_32 : decode cX12_row 32 = .ok (.iconst 0, 1) := by decide +kernel
theorem dX12_row_33 : decode cX12_row 33 = .ok (.istore_n 3, 1) := by decide +kernel
theorem dX12_row_34 : decode cX12_row 34 = .ok (.iload_n 3, 1) := by decide +kernel
theorem dX12_row_35 : decode cX12_row 35 = .ok (.bipush 40, 2) := by decide +kernel
theorem dX12_row_37 : decode cX12_row 37 = .ok (.if_icmp .ge 21, 3) := by decide +kernel
theorem dX12_row_40 : decode cX12_row 40 = .ok (.aload_n 0, 1) := by decide +kernel
theorem dX12_row_41 : decode cX12_row 41 = .ok (.getfield 20, 3) := by decide +kernel
theorem dX12_row_44 : decode cX12_row 44 = .ok (.bipush 40, 2) := by decide +kernel
theorem dX12_row_46 : decode cX12_row 46 = .ok (.iload_n 1, 1) := by decide +kernel
theorem dX12_row_47 : decode cX12_row 47 = .ok (.imul, 1) := by decide +kernel
theorem dX12_row_48 : decode cX12_row 48 = .ok (.iload_n 3, 1) := by decide +kernel
theorem dX12_row_49 : decode cX12_row 49 = .ok (.iadd, 1) := by decide +kernel
theorem dX12_row_50 : decode cX12_row 50 = .ok (.iconst 0, 1) := by decide +kernel
theorem dX12_row_51 : decode cX12_row 51 = .ok (.iastore, 1) := by decide +kernel
theorem dX12_row_52 : decode cX12_row 52 = .ok (.iinc 3 1, 3) := by decide +kernel
theorem dX12_row_55 : decode cX12_row 55 = .ok (.goto (-21), 3) := by decide +kernel
theorem dX12_row_58 : decode cX12_row 58 = .ok (.iload_n 2, 1) := by decide +kernel
theorem dX12_row_59 : decode cX12_row 59 = .ok (.ireturn, 1) := by decide +kernel
theorem dX12_at_0 : decode cX12_at 0 = .ok (.aload_n 0, 1) := by decide +kernel
theorem dX12_at_1 : decode cX12_at 1 = .ok (.iload_n 1, 1) := by decide +kernel
theorem dX12_at_2 : decode cX12_at 2 = .ok (.invokevirtual 145, 3) := by decide +kernel
theorem dX12_at_5 : decode cX12_at 5 = .ok (.istore_n 3, 1) := by decide +kernel
theorem dX12_at_6 : decode cX12_at 6 = .ok (.iload_n 3, 1) := by decide +kernel
theorem dX12_at_7 : decode cX12_at 7 = .ok (.ifCond .ge 5, 3) := by decide +kernel
theorem dX12_at_10 : decode cX12_at 10 = .ok (.iload_n 3, 1) := by decide +kernel
theorem dX12_at_11 : decode cX12_at 11 = .ok (.ireturn, 1) := by decide +kernel
theorem dX12_at_12 : decode cX12_at 12 = .ok (.iload_n 2, 1) := by decide +kernel
theorem dX12_at_13 : decode cX12_at 13 = .ok (.iconst 0, 1) := by decide +kernel
theorem dX12_at_14 : decode cX12_at 14 = .ok (.aload_n 0, 1) := by decide +kernel
theorem dX12_at_15 : decode cX12_at 15 = .ok (.getfield 17, 3) := by decide +kernel
theorem dX12_at_18 : decode cX12_at 18 = .ok (.iload_n 1, 1) := by decide +kernel
theorem dX12_at_19 : decode cX12_at 19 = .ok (.iaload, 1) := by decide +kernel
theorem dX12_at_20 : decode cX12_at 20 = .ok (.iconst 1, 1) := by decide +kernel
theorem dX12_at_21 : decode cX12_at 21 = .ok (.isub, 1) := by decide +kernel
theorem dX12_at_22 : decode cX12_at 22 = .ok (.invokestatic 130, 3) := by decide +kernel
theorem dX12_at_25 : decode cX12_at 25 = .ok (.ifCond .eq 17, 3) := by decide +kernel
theorem dX12_at_28 : decode cX12_at 28 = .ok (.aload_n 0, 1) := by decide +kernel
theorem dX12_at_29 : decode cX12_at 29 = .ok (.aload_n 0, 1) := by decide +kernel
theorem dX12_at_30 : decode cX12_at 30 = .ok (.iload_n 1, 1) := by decide +kernel
theorem dX12_at_31 : decode cX12_at 31 = .ok (.iload_n 2, 1) := by decide +kernel
theorem dX12_at_32 : decode cX12_at 32 = .ok (.invokevirtual 148, 3) := by decide +kernel
theorem dX12_at_35 : decode cX12_at 35 = .ok (.iconst 1, 1) := by decide +kernel
theorem dX12_at_36 : decode cX12_at 36 = .ok (.invokevirtual 152, 3) := by decide +kernel
theorem dX12_at_39 : decode cX12_at 39 = .ok (.goto 8, 3) := by decide +kernel
theorem dX12_at_42 : decode cX12_at 42 = .ok (.aload_n 0, 1) := by decide +kernel
theorem dX12_at_43 : decode cX12_at 43 = .ok (.iconst 2, 1) := by decide +kernel
theorem dX12_at_44 : decode cX12_at 44 = .ok (.invokevirtual 138, 3) := by decide +kernel
theorem dX12_at_47 : decode cX12_at 47 = .ok (.ireturn, 1) := by decide +kernel
theorem dX12_lay_0 : decode cX12_lay 0 = .ok (.aload_n 0, 1) := by decide +kernel
theorem dX12_lay_1 : decode cX12_lay 1 = .ok (.iload_n 1, 1) := by decide +kernel
theorem dX12_lay_2 : decode cX12_lay 2 = .ok (.iload_n 2, 1) := by decide +kernel
theorem dX12_lay_3 : decode cX12_lay 3 = .ok (.invokevirtual 155, 3) := by decide +kernel
theorem dX12_lay_6 : decode cX12_lay 6 = .ok (.istore 4, 2) := by decide +kernel
theorem dX12_lay_8 : decode cX12_lay 8 = .ok (.iload 4, 2) := by decide +kernel
theorem dX12_lay_10 : decode cX12_lay 10 = .ok (.ifCond .ge 6, 3) := by decide +kernel
theorem dX12_lay_13 : decode cX12_lay 13 = .ok (.iload 4, 2) := by decide +kernel
theorem dX12_lay_15 : decode cX12_lay 15 = .ok (.ireturn, 1) := by decide +kernel
theorem dX12_lay_16 : decode cX12_lay 16 = .ok (.aload_n 0, 1) := by decide +kernel
theorem dX12_lay_17 : decode cX12_lay 17 = .ok (.getfield 20, 3) := by decide +kernel
theorem dX12_lay_20 : decode cX12_lay 20 = .ok (.bipush 40, 2) := by decide +kernel
theorem dX12_lay_22 : decode cX12_lay 22 = .ok (.iload_n 1, 1) := by decide +kernel
theorem dX12_lay_23 : decode cX12_lay 23 = .ok (.imul, 1) := by decide +kernel
theorem dX12_lay_24 : decode cX12_lay 24 = .ok (.iload_n 2, 1) := by decide +kernel
theorem dX12_lay_25 : decode cX12_lay 25 = .ok (.iadd, 1) := by decide +kernel
theorem dX12_lay_26 : decode cX12_lay 26 = .ok (.iload_n 3, 1) := by decide +kernel
theorem dX12_lay_27 : decode cX12_lay 27 = .ok (.iastore, 1) := by decide +kernel
theorem dX12_lay_28 : decode cX12_lay 28 = .ok (.iconst 1, 1) := by decide +kernel
theorem dX12_lay_29 : decode cX12_lay 29 = .ok (.ireturn, 1) := by decide +kernel
theorem dX12_tear_0 : decode cX12_tear 0 = .ok (.aload_n 0, 1) := by decide +kernel
theorem dX12_tear_1 : decode cX12_tear 1 = .ok (.iload_n 1, 1) := by decide +kernel
theorem dX12_tear_2 : decode cX12_tear 2 = .ok (.invokevirtual 145, 3) := by decide +kernel
theorem dX12_tear_5 : decode cX12_tear 5 = .ok (.istore_n 2, 1) := by decide +kernel
theorem dX12_tear_6 : decode cX12_tear 6 = .ok (.iload_n 2, 1) := by decide +kernel
theorem dX12_tear_7 : decode cX12_tear 7 = .ok (.ifCond .ge 5, 3) := by decide +kernel
theorem dX12_tear_10 : decode cX12_tear 10 = .ok (.iload_n 2, 1) := by decide +kernel
theorem dX12_tear_11 : decode cX12_tear 11 = .ok (.ireturn, 1) := by decide +kernel
theorem dX12_tear_12 : decode cX12_tear 12 = .ok (.aload_n 0, 1) := by decide +kernel
theorem dX12_tear_13 : decode cX12_tear 13 = .ok (.getfield 17, 3) := by decide +kernel
theorem dX12_tear_16 : decode cX12_tear 16 = .ok (.iload_n 1, 1) := by decide +kernel
theorem dX12_tear_17 : decode cX12_tear 17 = .ok (.bipush (-9), 2) := by decide +kernel
theorem dX12_tear_19 : decode cX12_tear 19 = .ok (.iastore, 1) := by decide +kernel
theorem dX12_tear_20 : decode cX12_tear 20 = .ok (.iconst 1, 1) := by decide +kernel
theorem dX12_tear_21 : decode cX12_tear 21 = .ok (.ireturn, 1) := by decide +kernel
theorem dX12_copy_0 : decode cX12_copy 0 = .ok (.iload_n 1, 1) := by decide +kernel
theorem dX12_copy_1 : decode cX12_copy 1 = .ok (.invokestatic 134, 3) := by decide +kernel
theorem dX12_copy_4 : decode cX12_copy 4 = .ok (.ifCond .eq 10, 3) := by decide +kernel
theorem dX12_copy_7 : decode cX12_copy 7 = .ok (.iload_n 3, 1) := by decide +kernel
theorem dX12_copy_8 : decode cX12_copy 8 = .ok (.invokestatic 134, 3) := by decide +kernel
theorem dX12_copy_11 : decode cX12_copy 11 = .ok (.ifCond .ne 5, 3) := by decide +kernel
theorem dX12_copy_14 : decode cX12_copy 14 = .ok (.iconst (-1), 1) := by decide +kernel
theorem dX12_copy_15 : decode cX12_copy 15 = .ok (.ireturn, 1) := by decide +kernel
theorem dX12_copy_16 : decode cX12_copy 16 = .ok (.iload 5, 2) := by decide +kernel
theorem dX12_copy_18 : decode cX12_copy 18 = .ok (.ifCond .ge 9, 3) := by decide +kernel
theorem dX12_copy_21 : decode cX12_copy 21 = .ok (.aload_n 0, 1) := by decide +kernel
theorem dX12_copy_22 : decode cX12_copy 22 = .ok (.iconst 5, 1) := by decide +kernel
theorem dX12_copy_23 : decode cX12_copy 23 = .ok (.invokevirtual 138, 3) := by decide +kernel
theorem dX12_copy_26 : decode cX12_copy 26 = .ok (.ireturn, 1) := by decide +kernel
theorem dX12_copy_27 : decode cX12_copy 27 = .ok (.aload_n 0, 1) := by decide +kernel
theorem dX12_copy_28 : decode cX12_copy 28 = .ok (.getfield 17, 3) := by decide +kernel
theorem dX12_copy_31 : decode cX12_copy 31 = .ok (.iload_n 1, 1) := by decide +kernel
theorem dX12_copy_32 : decode cX12_copy 32 = .ok (.iaload, 1) := by decide +kernel
theorem dX12_copy_33 : decode cX12_copy 33 = .ok (.ifCond .lt 12, 3) := by decide +kernel
theorem dX12_copy_36 : decode cX12_copy 36 = .ok (.aload_n 0, 1) := by decide +kernel
theorem dX12_copy_37 : decode cX12_copy 37 = .ok (.getfield 17, 3) := by decide +kernel
theorem dX12_copy_40 : decode cX12_copy 40 = .ok (.iload_n 3, 1) := by decide +kernel
theorem dX12_copy_41 : decode cX12_copy 41 = .ok (.iaload, 1) := by decide +kernel
theorem dX12_copy_42 : decode cX12_copy 42 = .ok (.ifCond .ge 9, 3) := by decide +kernel
theorem dX12_copy_45 : decode cX12_copy 45 = .ok (.aload_n 0, 1) := by decide +kernel
theorem dX12_copy_46 : decode cX12_copy 46 = .ok (.iconst 1, 1) := by decide +kernel
theorem dX12_copy_47 : decode cX12_copy 47 = .ok (.invokevirtual 138, 3) := by decide +kernel
theorem dX12_copy_50 : decode cX12_copy 50 = .ok (.ireturn, 1) := by decide +kernel
theorem dX12_copy_51 : decode cX12_copy 51 = .ok (.iload_n 2, 1) := by decide +kernel
theorem dX12_copy_52 : decode cX12_copy 52 = .ok (.ifCond .lt 43, 3) := by decide +kernel
theorem dX12_copy_55 : decode cX12_copy 55 = .ok (.iload 4, 2) := by decide +kernel
theorem dX12_copy_57 : decode cX12_copy 57 = .ok (.ifCond .lt 38, 3) := by decide +kernel
theorem dX12_copy_60 : decode cX12_copy 60 = .ok (.iload_n 2, 1) := by decide +kernel
theorem dX12_copy_61 : decode cX12_copy 61 = .ok (.i2l, 1) := by decide +kernel
theorem dX12_copy_62 : decode cX12_copy 62 = .ok (.iload 5, 2) := by decide +kernel
theorem dX12_copy_64 : decode cX12_copy 64 = .ok (.i2l, 1) := by decide +kernel
theorem dX12_copy_65 : decode cX12_copy 65 = .ok (.ladd, 1) := by decide +kernel
theorem dX12_copy_66 : decode cX12_copy 66 = .ok (.aload_n 0, 1) := by decide +kernel
theorem dX12_copy_67 : decode cX12_copy 67 = .ok (.getfield 17, 3) := by decide +kernel
theorem dX12_copy_70 : decode cX12_copy 70 = .ok (.iload_n 1, 1) := by decide +kernel
theorem dX12_copy_71 : decode cX12_copy 71 = .ok (.iaload, 1) := by decide +kernel
theorem dX12_copy_72 : decode cX12_copy 72 = .ok (.i2l, 1) := by decide +kernel
theorem dX12_copy_73 : decode cX12_copy 73 = .ok (.lcmp, 1) := by decide +kernel
theorem dX12_copy_74 : decode cX12_copy 74 = .ok (.ifCond .gt 21, 3) := by decide +kernel
theorem dX12_copy_77 : decode cX12_copy 77 = .ok (.iload 4, 2) := by decide +kernel
theorem dX12_copy_79 : decode cX12_copy 79 = .ok (.i2l, 1) := by decide +kernel
