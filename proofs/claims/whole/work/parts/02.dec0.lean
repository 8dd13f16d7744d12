theorem dX0_init_0 : decode cX0_init 0 = .ok (.aload_n 0, 1) := by decide +kernel
theorem dX0_init_1 : decode cX0_init 1 = .ok (.invokespecial 3, 3) := by decide +kernel
theorem dX0_init_4 : decode cX0_init 4 = .ok (.aload_n 0, 1) := by decide +kernel
theorem dX0_init_5 : decode cX0_init 5 = .ok (.bipush 40, 2) := by decide +kernel
theorem dX0_init_7 : decode cX0_init 7 = .ok (.anewarray 9, 3) := by decide +kernel
theorem dX0_init_10 : decode cX0_init 10 = .ok (.putfield 11, 3) := by decide +kernel
theorem dX0_init_13 : decode cX0_init 13 = .ok (.aload_n 0, 1) := by decide +kernel
theorem dX0_init_14 : decode cX0_init 14 = .ok (.iconst 0, 1) := by decide +kernel
theorem dX0_init_15 : decode cX0_init 15 = .ok (.putfield 17, 3) := by decide +kernel
theorem dX0_init_18 : decode cX0_init 18 = .ok (.iconst 0, 1) := by decide +kernel
theorem dX0_init_19 : decode cX0_init 19 = .ok (.istore_n 1, 1) := by decide +kernel
theorem dX0_init_20 : decode cX0_init 20 = .ok (.iload_n 1, 1) := by decide +kernel
theorem dX0_init_21 : decode cX0_init 21 = .ok (.aload_n 0, 1) := by decide +kernel
theorem dX0_init_22 : decode cX0_init 22 = .ok (.getfield 11, 3) := by decide +kernel
theorem dX0_init_25 : decode cX0_init 25 = .ok (.arraylength, 1) := by decide +kernel
theorem dX0_init_26 : decode cX0_init 26 = .ok (.if_icmp .ge 22, 3) := by decide +kernel
theorem dX0_init_29 : decode cX0_init 29 = .ok (.aload_n 0, 1) := by decide +kernel
theorem dX0_init_30 : decode cX0_init 30 = .ok (.getfield 11, 3) := by decide +kernel
theorem dX0_init_33 : decode cX0_init 33 = .ok (.iload_n 1, 1) := by decide +kernel
theorem dX0_init_34 : decode cX0_init 34 = .ok (.new 9, 3) := by decide +kernel
theorem dX0_init_37 : decode cX0_init 37 = .ok (.dup, 1) := by decide +kernel
theorem dX0_init_38 : decode cX0_init 38 = .ok (.invokespecial 21, 3) := by decide +kernel
theorem dX0_init_41 : decode cX0_init 41 = .ok (.aastore, 1) := by decide +kernel
theorem dX0_init_42 : decode cX0_init 42 = .ok (.iinc 1 1, 3) := by decide +kernel
theorem dX0_init_45 : decode cX0_init 45 = .ok (.goto (-25), 3) := by decide +kernel
theorem dX0_init_48 : decode cX0_init 48 = .ok (.return_, 1) := by decide +kernel
theorem dX0_has_0 : decode cX0_has 0 = .ok (.iload_n 1, 1) := by decide +kernel
theorem dX0_has_1 : decode cX0_has 1 = .ok (.ifCond .lt 15, 3) := by decide +kernel
theorem dX0_has_4 : decode cX0_has 4 = .ok (.iload_n 1, 1) := by decide +kernel
theorem dX0_has_5 : decode cX0_has 5 = .ok (.aload_n 0, 1) := by decide +kernel
theorem dX0_has_6 : decode cX0_has 6 = .ok (.getfield 17, 3) := by decide +kernel
theorem dX0_has_9 : decode cX0_has 9 = .ok (.if_icmp .ge 7, 3) := by decide +kernel
theorem dX0_has_12 : decode cX0_has 12 = .ok (.iconst 1, 1) := by decide +kernel
theorem dX0_has_13 : decode cX0_has 13 = .ok (.goto 4, 3) := by decide +kernel
theorem dX0_has_16 : decode cX0_has 16 = .ok (.iconst 0, 1) := by decide +kernel
theorem dX0_has_17 : decode cX0_has 17 = .ok (.ireturn, 1) := by decide +kernel
theorem dX0_add_0 : decode cX0_add 0 = .ok (.aload_n 0, 1) := by decide +kernel
theorem dX0_add_1 : decode cX0_add 1 = .ok (.getfield 17, 3) := by decide +kernel
theorem dX0_add_4 : decode cX0_add 4 = .ok (.aload_n 0, 1) := by decide +kernel
theorem dX0_add_5 : decode cX0_add 5 = .ok (.getfield 11, 3) := by decide +kernel
theorem dX0_add_8 : decode cX0_add 8 = .ok (.arraylength, 1) := by decide +kernel
theorem dX0_add_9 : decode cX0_add 9 = .ok (.if_icmp .lt 6, 3) := by decide +kernel
theorem dX0_add_12 : decode cX0_add 12 = .ok (.bipush (-2), 2) := by decide +kernel
theorem dX0_add_14 : decode cX0_add 14 = .ok (.ireturn, 1) := by decide +kernel
theorem dX0_add_15 : decode cX0_add 15 = .ok (.aload_n 0, 1) := by decide +kernel
theorem dX0_add_16 : decode cX0_add 16 = .ok (.getfield 11, 3) := by decide +kernel
theorem dX0_add_19 : decode cX0_add 19 = .ok (.aload_n 0, 1) := by decide +kernel
theorem dX0_add_20 : decode cX0_add 20 = .ok (.getfield 17, 3) := by decide +kernel
theorem dX0_add_23 : decode cX0_add 23 = .ok (.aaload, 1) := by decide +kernel
theorem dX0_add_24 : decode cX0_add 24 = .ok (.astore 6, 2) := by decide +kernel
theorem dX0_add_26 : decode cX0_add 26 = .ok (.aload 6, 2) := by decide +kernel
theorem dX0_add_28 : decode cX0_add 28 = .ok (.iload_n 2, 1) := by decide +kernel
theorem dX0_add_29 : decode cX0_add 29 = .ok (.putfield 22, 3) := by decide +kernel
theorem dX0_add_32 : decode cX0_add 32 = .ok (.aload 6, 2) := by decide +kernel
theorem dX0_add_34 : decode cX0_add 34 = .ok (.iload_n 1, 1) := by decide +kernel
theorem dX0_add_35 : decode cX0_add 35 = .ok (.putfield 25, 3) := by decide +kernel
theorem dX0_add_38 : decode cX0_add 38 = .ok (.aload 6, 2) := by decide +kernel
theorem dX0_add_40 : decode cX0_add 40 = .ok (.iload_n 2, 1) := by decide +kernel
theorem dX0_add_41 : decode cX0_add 41 = .ok (.invokestatic 28, 3) := by decide +kernel
theorem dX0_add_44 : decode cX0_add 44 = .ok (.ifCond .eq 7, 3) := by decide +kernel
theorem dX0_add_47 : decode cX0_add 47 = .ok (.iload_n 3, 1) := by decide +kernel
theorem dX0_add_48 : decode cX0_add 48 = .ok (.goto 5, 3) := by decide +kernel
theorem dX0_add_51 : decode cX0_add 51 = .ok (.bipush (-9), 2) := by decide +kernel
theorem dX0_add_53 : decode cX0_add 53 = .ok (.putfield 32, 3) := by decide +kernel
theorem dX0_add_56 : decode cX0_add 56 = .ok (.aload 6, 2) := by decide +kernel
theorem dX0_add_58 : decode cX0_add 58 = .ok (.iload_n 2, 1) := by decide +kernel
theorem dX0_add_59 : decode cX0_add 59 = .ok (.ifCond .ne 7, 3) := by decide +kernel
theorem dX0_add_62 : decode cX0_add 62 = .ok (.iconst 0, 1) := by decide +kernel
theorem dX0_add_63 : decode cX0_add 63 = .ok (.goto 5, 3) := by decide +kernel
theorem dX0_add_66 : decode cX0_add 66 = .ok (.iload 4, 2) := by decide +kernel
theorem dX0_add_68 : decode cX0_add 68 = .ok (.putfield 35, 3) := by decide +kernel
theorem dX0_add_71 : decode cX0_add 71 = .ok (.aload 6, 2) := by decide +kernel
theorem dX0_add_73 : decode cX0_add 73 = .ok (.iload_n 2, 1) := by decide +kernel
theorem dX0_add_74 : decode cX0_add 74 = .ok (.iconst 3, 1) := by decide +kernel
theorem dX0_add_75 : decode cX0_add 75 = .ok (.if_icmp .eq 8, 3) := by decide +kernel
theorem dX0_add_78 : decode cX0_add 78 = .ok (.iload_n 2, 1) := by decide +kernel
theorem dX0_add_79 : decode cX0_add 79 = .ok (.iconst 4, 1) := by decide +kernel
theorem dX0_add_80 : decode cX0_add 80 = .ok (.if_icmp .ne 8, 3) := by decide +kernel
theorem dX0_add_83 : decode cX0_add 83 = .ok (.iload 5, 2) := by decide +kernel
theorem dX0_add_85 : decode cX0_add 85 = .ok (.goto 4, 3) := by decide +kernel
theorem dX0_add_88 : decode cX0_add 88 = .ok (.iconst 0, 1) := by decide +kernel
theorem dX0_add_89 : decode cX0_add 89 = .ok (.putfield 38, 3) := by decide +kernel
theorem dX0_add_92 : decode cX0_add 92 = .ok (.aload_n 0, 1) := by decide +kernel
theorem dX0_add_93 : decode cX0_add 93 = .ok (.dup, 1) := by decide +kernel
theorem dX0_add_94 : decode cX0_add 94 = .ok (.getfield 17, 3) := by decide +kernel
theorem dX0_add_97 : decode cX0_add 97 = .ok (.iconst 1, 1) := by decide +kernel
theorem dX0_add_98 : decode cX0_add 98 = .ok (.iadd, 1) := by decide +kernel
theorem dX0_add_99 : decode cX0_add 99 = .ok (.putfield 17, 3) := by decide +kernel
theorem dX0_add_102 : decode cX0_add 102 = .ok (.aload_n 0, 1) := by decide +kernel
theorem dX0_add_103 : decode cX0_add 103 = .ok (.getfield 17, 3) := by decide +kernel
theorem dX0_add_106 : decode cX0_add 106 = .ok (.iconst 1, 1) := by decide +kernel
theorem dX0_add_107 : decode cX0_add 107 = .ok (.isub, 1) := by decide +kernel
theorem dX0_add_108 : decode cX0_add 108 = .ok (.ireturn, 1) := by decide +kernel
theorem dX0_heldOnes_0 : decode cX0_heldOnes 0 = .ok (.iconst 0, 1) := by decide +kernel
theorem dX0_heldOnes_1 : decode cX0_heldOnes 1 = .ok (.istore_n 1, 1) := by decide +kernel
theorem dX0_heldOnes_2 : decode cX0_heldOnes 2 = .ok (.iconst 0, 1) := by decide +kernel
theorem dX0_heldOnes_3 : decode cX0_heldOnes 3 = .ok (.istore_n 2, 1) := by decide +kernel
theorem dX0_heldOnes_4 : decode cX0_heldOnes 4 = .ok (.iload_n 2, 1) := by decide +kernel
theorem dX0_heldOnes_5 : decode cX0_heldOnes 5 = .ok (.aload_n 0, 1) := by decide +kernel
theorem dX0_heldOnes_6 : decode cX0_heldOnes 6 = .ok (.getfield 17, 3) := by decide +kernel
theorem dX0_heldOnes_9 : decode cX0_heldOnes 9 = .ok (.if_icmp .ge 25, 3) := by decide +kernel
theorem dX0_heldOnes_12 : decode cX0_heldOnes 12 = .ok (.aload_n 0, 1) := by decide +kernel
theorem dX0_heldOnes_13 : decode cX0_heldOnes 13 = .ok (.getfield 11, 3) := by decide +kernel
theorem dX0_heldOnes_16 : decode cX0_heldOnes 16 = .ok (.iload_n 2, 1) := by decide +kernel
theorem dX0_heldOnes_17 : decode cX0_heldOnes 17 = .ok (.aaload, 1) := by decide +kernel
theorem dX0_heldOnes_18 : decode cX0_heldOnes 18 = .ok (.iconst 1, 1) := by decide +kernel
theorem dX0_heldOnes_19 : decode cX0_heldOnes 19 = .ok (.invokevirtual 41, 3) := by decide +kernel
theorem dX0_heldOnes_22 : decode cX0_heldOnes 22 = .ok (.ifCond .eq 6, 3) := by decide +kernel
theorem dX0_heldOnes_25 : decode cX0_heldOnes 25 = .ok (.iinc 1 1, 3) := by decide +kernel
theorem dX0_heldOnes_28 : decode cX0_heldOnes 28 = .ok (.iinc 2 1, 3) := by decide +kernel
theorem dX0_heldOnes_31 : decode cX0_heldOnes 31 = .ok (.goto (-27), 3) := by decide +kernel
theorem dX0_heldOnes_34 : decode cX0_heldOnes 34 = .ok (.iload_n 1, 1) := by decide +kernel
theorem dX0_heldOnes_35 : decode cX0_heldOnes 35 = .ok (.ireturn, 1) := by decide +kernel
theorem dX0_isEarlier_0 : decode cX0_isEarlier 0 = .ok (.aload_n 0, 1) := by decide +kernel
theorem dX0_isEarlier_1 : decode cX0_isEarlier 1 = .ok (.iload_n 1, 1) := by decide +kernel
theorem dX0_isEarlier_2 : decode cX0_isEarlier 2 = .ok (.invokevirtual 44, 3) := by decide +kernel
theorem dX0_isEarlier_5 : decode cX0_isEarlier 5 = .ok (.ifCond .eq 11, 3) := by decide +kernel
theorem dX0_isEarlier_8 : decode cX0_isEarlier 8 = .ok (.aload_n 0, 1) := by decide +kernel
theorem dX0_isEarlier_9 : decode cX0_isEarlier 9 = .ok (.iload_n 2, 1) := by decide +kernel
theorem dX0_isEarlier_10 : decode cX0_isEarlier 10 = .ok (.invokevirtual 44, 3) := by decide +kernel
theorem dX0_isEarlier_13 : decode cX0_isEarlier 13 = .ok (.ifCond .ne 5, 3) := by decide +kernel
theorem dX0_isEarlier_16 : decode cX0_isEarlier 16 = .ok (.iconst 0, 1) := by decide +kernel
theorem dX0_isEarlier_17 : decode cX0_isEarlier 17 = .ok (.ireturn, 1) := by decide +kernel
theorem dX0_isEarlier_18 : decode cX0_isEarlier 18 = .ok (.aload_n 0, 1) := by decide +kernel
theorem dX0_isEarlier_19 : decode cX0_isEarlier 19 = .ok (.getfield 11, 3) := by decide +kernel
theorem dX0_isEarlier_22 : decode cX0_isEarlier 22 = .ok (.iload_n 1, 1) := by decide +kernel
theorem dX0_isEarlier_23 : decode cX0_isEarlier 23 = .ok (.aaload, 1) := by decide +kernel
theorem dX0_isEarlier_24 : decode cX0_isEarlier 24 = .ok (.getfield 25, 3) := by decide +kernel
theorem dX0_isEarlier_27 : decode cX0_isEarlier 27 = .ok (.istore_n 3, 1) := by decide +kernel
theorem dX0_isEarlier_28 : decode cX0_isEarlier 28 = .ok (.aload_n 0, 1) := by decide +kernel
theorem dX0_isEarlier_29 : decode cX0_isEarlier 29 = .ok (.getfield 11, 3) := by decide +kernel
theorem dX0_isEarlier_32 : decode cX0_isEarlier 32 = .ok (.iload_n 2, 1) := by decide +kernel
theorem dX0_isEarlier_33 : decode cX0_isEarlier 33 = .ok (.aaload, 1) := by decide +kernel
theorem dX0_isEarlier_34 : decode cX0_isEarlier 34 = .ok (.getfield 25, 3) := by decide +kernel
theorem dX0_isEarlier_37 : decode cX0_isEarlier 37 = .ok (.istore 4, 2) := by decide +kernel
theorem dX0_isEarlier_39 : decode cX0_isEarlier 39 = .ok (.iload_n 3, 1) := by decide +kernel
theorem dX0_isEarlier_40 : decode cX0_isEarlier 40 = .ok (.iload 4, 2) := by decide +kernel
theorem dX0_isEarlier_42 : decode cX0_isEarlier 42 = .ok (.if_icmp .lt 14, 3) := by decide +kernel
theorem dX0_isEarlier_45 : decode cX0_isEarlier 45 = .ok (.iload_n 3, 1) := by decide +kernel
theorem dX0_isEarlier_46 : decode cX0_isEarlier 46 = .ok (.iload 4, 2) := by decide +kernel
theorem dX0_isEarlier_48 : decode cX0_isEarlier 48 = .ok (.if_icmp .ne 12, 3) := by decide +kernel
theorem dX0_isEarlier_51 : decode cX0_isEarlier 51 = .ok (.iload_n 1, 1) := by decide +kernel
theorem dX0_isEarlier_52 : decode cX0_isEarlier 52 = .ok (.iload_n 2, 1) := by decide +kernel
theorem dX0_isEarlier_53 : decode cX0_isEarlier 53 = .ok (.if_icmp .ge 7, 3) := by decide +kernel
theorem dX0_isEarlier_56 : decode cX0_isEarlier 56 = .ok (.iconst 1, 1) := by decide +kernel
theorem dX0_isEarlier_57 : decode cX0_isEarlier 57 = .ok (.goto 4, 3) := by decide +kernel
theorem dX0_isEarlier_60 : decode cX0_isEarlier 60 = .ok (.iconst 0, 1) := by decide +kernel
theorem dX0_isEarlier_61 : decode cX0_isEarlier 61 = .ok (.ireturn, 1) := by decide +kernel
theorem dX0_isMistaken_0 : decode cX0_isMistaken 0 = .ok (.aload_n 0, 1) := by decide +kernel
theorem dX0_isMistaken_1 : decode cX0_isMistaken 1 = .ok (.iload_n 1, 1) := by decide +kernel
theorem dX0_isMistaken_2 : decode cX0_isMistaken 2 = .ok (.invokevirtual 44, 3) := by decide +kernel
theorem dX0_isMistaken_5 : decode cX0_isMistaken 5 = .ok (.ifCond .eq 17, 3) := by decide +kernel
theorem dX0_isMistaken_8 : decode cX0_isMistaken 8 = .ok (.aload_n 0, 1) := by decide +kernel
theorem dX0_isMistaken_9 : decode cX0_isMistaken 9 = .ok (.getfield 11, 3) := by decide +kernel
theorem dX0_isMistaken_12 : decode cX0_isMistaken 12 = .ok (.iload_n 1, 1) := by decide +kernel
theorem dX0_isMistaken_13 : decode cX0_isMistaken 13 = .ok (.aaload, 1) := by decide +kernel
theorem dX0_isMistaken_14 : decode cX0_isMistaken 14 = .ok (.getfield 22, 3) := by decide +kernel
theorem dX0_isMistaken_17 : decode cX0_isMistaken 17 = .ok (.bipush 6, 2) := by decide +kernel
theorem dX0_isMistaken_19 : decode cX0_isMistaken 19 = .ok (.if_icmp .eq 5, 3) := by decide +kernel
theorem dX0_isMistaken_22 : decode cX0_isMistaken 22 = .ok (.iconst 0, 1) := by decide +kernel
theorem dX0_isMistaken_23 : decode cX0_isMistaken 23 = .ok (.ireturn, 1) := by decide +kernel
theorem dX0_isMistaken_24 : decode cX0_isMistaken 24 = .ok (.aload_n 0, 1) := by decide +kernel
theorem dX0_isMistaken_25 : decode cX0_isMistaken 25 = .ok (.getfield 11, 3) := by decide +kernel
theorem dX0_isMistaken_28 : decode cX0_isMistaken 28 = .ok (.iload_n 1, 1) := by decide +kernel
theorem dX0_isMistaken_29 : decode cX0_isMistaken 29 = .ok (.aaload, 1) := by decide +kernel
theorem dX0_isMistaken_30 : decode cX0_isMistaken 30 = .ok (.astore_n 2, 1) := by decide +kernel
theorem dX0_isMistaken_31 : decode cX0_isMistaken 31 = .ok (.iload_n 1, 1) := by decide +kernel
theorem dX0_isMistaken_32 : decode cX0_isMistaken 32 = .ok (.istore_n 3, 1) := by decide +kernel
theorem dX0_isMistaken_33 : decode cX0_isMistaken 33 = .ok (.iconst 0, 1) := by decide +kernel
theorem dX0_isMistaken_34 : decode cX0_isMistaken 34 = .ok (.istore 4, 2) := by decide +kernel
theorem dX0_isMistaken_36 : decode cX0_isMistaken 36 = .ok (.iload 4, 2) := by decide +kernel
theorem dX0_isMistaken_38 : decode cX0_isMistaken 38 = .ok (.aload_n 0, 1) := by decide +kernel
theorem dX0_isMistaken_39 : decode cX0_isMistaken 39 = .ok (.getfield 17, 3) := by decide +kernel
theorem dX0_isMistaken_42 : decode cX0_isMistaken 42 = .ok (.if_icmp .ge 96, 3) := by decide +kernel
theorem dX0_isMistaken_45 : decode cX0_isMistaken 45 = .ok (.aload_n 0, 1) := by decide +kernel
theorem dX0_isMistaken_46 : decode cX0_isMistaken 46 = .ok (.getfield 11, 3) := by decide +kernel
theorem dX0_isMistaken_49 : decode cX0_isMistaken 49 = .ok (.iload 4, 2) := by decide +kernel
theorem dX0_isMistaken_51 : decode cX0_isMistaken 51 = .ok (.aaload, 1) := by decide +kernel
theorem dX0_isMistaken_52 : decode cX0_isMistaken 52 = .ok (.astore 5, 2) := by decide +kernel
theorem dX0_isMistaken_54 : decode cX0_isMistaken 54 = .ok (.aload 5, 2) := by decide +kernel
theorem dX0_isMistaken_56 : decode cX0_isMistaken 56 = .ok (.getfield 22, 3) := by decide +kernel
theorem dX0_isMistaken_59 : decode cX0_isMistaken 59 = .ok (.bipush 6, 2) := by decide +kernel
theorem dX0_isMistaken_61 : decode cX0_isMistaken 61 = .ok (.if_icmp .ne 71, 3) := by decide +kernel
theorem dX0_isMistaken_64 : decode cX0_isMistaken 64 = .ok (.aload_n 0, 1) := by decide +kernel
theorem dX0_isMistaken_65 : decode cX0_isMistaken 65 = .ok (.iload 4, 2) := by decide +kernel
theorem dX0_isMistaken_67 : decode cX0_isMistaken 67 = .ok (.iload_n 1, 1) := by decide +kernel
theorem dX0_isMistaken_68 : decode cX0_isMistaken 68 = .ok (.invokevirtual 47, 3) := by decide +kernel
theorem dX0_isMistaken_71 : decode cX0_isMistaken 71 = .ok (.ifCond .ne 6, 3) := by decide +kernel
theorem dX0_isMistaken_74 : decode cX0_isMistaken 74 = .ok (.goto 58, 3) := by decide +kernel
theorem dX0_isMistaken_77 : decode cX0_isMistaken 77 = .ok (.aload 5, 2) := by decide +kernel
theorem dX0_isMistaken_79 : decode cX0_isMistaken 79 = .ok (.getfield 32, 3) := by decide +kernel
theorem dX0_isMistaken_82 : decode cX0_isMistaken 82 = .ok (.aload_n 2, 1) := by decide +kernel
theorem dX0_isMistaken_83 : decode cX0_isMistaken 83 = .ok (.getfield 32, 3) := by decide +kernel
theorem dX0_isMistaken_86 : decode cX0_isMistaken 86 = .ok (.if_icmp .eq 17, 3) := by decide +kernel
theorem dX0_isMistaken_89 : decode cX0_isMistaken 89 = .ok (.aload 5, 2) := by decide +kernel
theorem dX0_isMistaken_91 : decode cX0_isMistaken 91 = .ok (.getfield 35, 3) := by decide +kernel
theorem dX0_isMistaken_94 : decode cX0_isMistaken 94 = .ok (.aload_n 2, 1) := by decide +kernel
theorem dX0_isMistaken_95 : decode cX0_isMistaken 95 = .ok (.getfield 35, 3) := by decide +kernel
theorem dX0_isMistaken_98 : decode cX0_isMistaken 98 = .ok (.if_icmp .ne 5, 3) := by decide +kernel
theorem dX0_isMistaken_101 : decode cX0_isMistaken 101 = .ok (.iconst 1, 1) := by decide +kernel
theorem dX0_isMistaken_102 : decode cX0_isMistaken 102 = .ok (.ireturn, 1) := by decide +kernel
theorem dX0_isMistaken_103 : decode cX0_isMistaken 103 = .ok (.aload 5, 2) := by decide +kernel
theorem dX0_isMistaken_105 : decode cX0_isMistaken 105 = .ok (.getfield 32, 3) := by decide +kernel
theorem dX0_isMistaken_108 : decode cX0_isMistaken 108 = .ok (.aload_n 2, 1) := by decide +kernel
theorem dX0_isMistaken_109 : decode cX0_isMistaken 109 = .ok (.getfield 32, 3) := by decide +kernel
theorem dX0_isMistaken_112 : decode cX0_isMistaken 112 = .ok (.if_icmp .ne 18, 3) := by decide +kernel
theorem dX0_isMistaken_115 : decode cX0_isMistaken 115 = .ok (.aload_n 0, 1) := by decide +kernel
theorem dX0_isMistaken_116 : decode cX0_isMistaken 116 = .ok (.iload 4, 2) := by decide +kernel
theorem dX0_isMistaken_118 : decode cX0_isMistaken 118 = .ok (.iload_n 3, 1) := by decide +kernel
theorem dX0_isMistaken_119 : decode cX0_isMistaken 119 = .ok (.invokevirtual 47, 3) := by decide +kernel
theorem dX0_isMistaken_122 : decode cX0_isMistaken 122 = .ok (.ifCond .eq 8, 3) := by decide +kernel
theorem dX0_isMistaken_125 : decode cX0_isMistaken 125 = .ok (.iload 4, 2) := by decide +kernel
theorem dX0_isMistaken_127 : decode cX0_isMistaken 127 = .ok (.goto 4, 3) := by decide +kernel
theorem dX0_isMistaken_130 : decode cX0_isMistaken 130 = .ok (.iload_n 3, 1) := by decide +kernel
theorem dX0_isMistaken_131 : decode cX0_isMistaken 131 = .ok (.istore_n 3, 1) := by decide +kernel
theorem dX0_isMistaken_132 : decode cX0_isMistaken 132 = .ok (.iinc 4 1, 3) := by decide +kernel
theorem dX0_isMistaken_135 : decode cX0_isMistaken 135 = .ok (.goto (-99), 3) := by decide +kernel
theorem dX0_isMistaken_138 : decode cX0_isMistaken 138 = .ok (.aload_n 0, 1) := by decide +kernel
theorem dX0_isMistaken_139 : decode cX0_isMistaken 139 = .ok (.getfield 11, 3) := by decide +kernel
theorem dX0_isMistaken_142 : decode cX0_isMistaken 142 = .ok (.iload_n 3, 1) := by decide +kernel
theorem dX0_isMistaken_143 : decode cX0_isMistaken 143 = .ok (.aaload, 1) := by decide +kernel
theorem dX0_isMistaken_144 : decode cX0_isMistaken 144 = .ok (.getfield 35, 3) := by decide +kernel
theorem dX0_isMistaken_147 : decode cX0_isMistaken 147 = .ok (.aload_n 2, 1) := by decide +kernel
theorem dX0_isMistaken_148 : decode cX0_isMistaken 148 = .ok (.getfield 35, 3) := by decide +kernel
theorem dX0_isMistaken_151 : decode cX0_isMistaken 151 = .ok (.if_icmp .eq 7, 3) := by decide +kernel
theorem dX0_isMistaken_154 : decode cX0_isMistaken 154 = .ok (.iconst 1, 1) := by decide +kernel
theorem dX0_isMistaken_155 : decode cX0_isMistaken 155 = .ok (.goto 4, 3) := by decide +kernel
theorem dX0_isMistaken_158 : decode cX0_isMistaken 158 = .ok (.iconst 0, 1) := by decide +kernel
theorem dX0_isMistaken_159 : decode cX0_isMistaken 159 = .ok (.ireturn, 1) := by decide +kernel
theorem dX0_addTo_0 : decode cX0_addTo 0 = .ok (.lload_n 1, 1) := by decide +kernel
theorem dX0_addTo_1 : decode cX0_addTo 1 = .ok (.lstore_n 3, 1) := by decide +kernel
theorem dX0_addTo_2 : decode cX0_addTo 2 = .ok (.iconst 0, 1) := by decide +kernel
theorem dX0_addTo_3 : decode cX0_addTo 3 = .ok (.istore 5, 2) := by decide +kernel
theorem dX0_addTo_5 : decode cX0_addTo 5 = .ok (.iload 5, 2) := by decide +kernel
theorem dX0_addTo_7 : decode cX0_addTo 7 = .ok (.aload_n 0, 1) := by decide +kernel
theorem dX0_addTo_8 : decode cX0_addTo 8 = .ok (.getfield 17, 3) := by decide +kernel
theorem dX0_addTo_11 : decode cX0_addTo 11 = .ok (.if_icmp .ge 44, 3) := by decide +kernel
theorem dX0_addTo_14 : decode cX0_addTo 14 = .ok (.iconst 0, 1) := by decide +kernel
theorem dX0_addTo_15 : decode cX0_addTo 15 = .ok (.istore 6, 2) := by decide +kernel
theorem dX0_addTo_17 : decode cX0_addTo 17 = .ok (.iload 6, 2) := by decide +kernel
theorem dX0_addTo_19 : decode cX0_addTo 19 = .ok (.iconst 5, 1) := by decide +kernel
theorem dX0_addTo_20 : decode cX0_addTo 20 = .ok (.if_icmp .ge 29, 3) := by decide +kernel
theorem dX0_addTo_23 : decode cX0_addTo 23 = .ok (.ldc2_w 51, 3) := by decide +kernel
theorem dX0_addTo_26 : decode cX0_addTo 26 = .ok (.lload_n 3, 1) := by decide +kernel
theorem dX0_addTo_27 : decode cX0_addTo 27 = .ok (.lmul, 1) := by decide +kernel
theorem dX0_addTo_28 : decode cX0_addTo 28 = .ok (.aload_n 0, 1) := by decide +kernel
theorem dX0_addTo_29 : decode cX0_addTo 29 = .ok (.getfield 11, 3) := by decide +kernel
theorem dX0_addTo_32 : decode cX0_addTo 32 = .ok (.iload 5, 2) := by decide +kernel
theorem dX0_addTo_34 : decode cX0_addTo 34 = .ok (.aaload, 1) := by decide +kernel
theorem dX0_addTo_35 : decode cX0_addTo 35 = .ok (.iload 6, 2) := by decide +kernel
theorem dX0_addTo_37 : decode cX0_addTo 37 = .ok (.invokevirtual 53, 3) := by decide +kernel
theorem dX0_addTo_40 : decode cX0_addTo 40 = .ok (.i2l, 1) := by decide +kernel
theorem dX0_addTo_41 : decode cX0_addTo 41 = .ok (.ladd, 1) := by decide +kernel
theorem dX0_addTo_42 : decode cX0_addTo 42 = .ok (.lstore_n 3, 1) := by decide +kernel
theorem dX0_addTo_43 : decode cX0_addTo 43 = .ok (.iinc 6 1, 3) := by decide +kernel
theorem dX0_addTo_46 : decode cX0_addTo 46 = .ok (.goto (-29), 3) := by decide +kernel
theorem dX0_addTo_49 : decode cX0_addTo 49 = .ok (.iinc 5 1, 3) := by decide +kernel
theorem dX0_addTo_52 : decode cX0_addTo 52 = .ok (.goto (-47), 3) := by decide +kernel
theorem dX0_addTo_55 : decode cX0_addTo 55 = .ok (.lload_n 3, 1) := by decide +kernel
theorem dX0_addTo_56 : decode cX0_addTo 56 = .ok (.lreturn, 1) := by decide +kernel
theorem dX1_init_0 : decode cX1_init 0 = .ok (.aload_n 0, 1) := by decide +kernel
theorem dX1_init_1 : decode cX1_init 1 = .ok (.invokespecial 3, 3) := by decide +kernel
theorem dX1_init_4 : decode cX1_init 4 = .ok (.aload_n 0, 1) := by decide +kernel
theorem dX1_init_5 : decode cX1_init 5 = .ok (.sipush 729, 3) := by decide +kernel
theorem dX1_init_8 : decode cX1_init 8 = .ok (.newarray .int, 2) := by decide +kernel
theorem dX1_init_10 : decode cX1_init 10 = .ok (.putfield 11, 3) := by decide +kernel
theorem dX1_init_13 : decode cX1_init 13 = .ok (.aload_n 0, 1) := by decide +kernel
theorem dX1_init_14 : decode cX1_init 14 = .ok (.sipush 729, 3) := by decide +kernel
theorem dX1_init_17 : decode cX1_init 17 = .ok (.newarray .int, 2) := by decide +kernel
theorem dX1_init_19 : decode cX1_init 19 = .ok (.putfield 15, 3) := by decide +kernel
theorem dX1_init_22 : decode cX1_init 22 = .ok (.iconst 0, 1) := by decide +kernel
theorem dX1_init_23 : decode cX1_init 23 = .ok (.istore_n 1, 1) := by decide +kernel
theorem dX1_init_24 : decode cX1_init 24 = .ok (.iload_n 1, 1) := by decide +kernel
theorem dX1_init_25 : decode cX1_init 25 = .ok (.sipush 729, 3) := by decide +kernel
theorem dX1_init_28 : decode cX1_init 28 = .ok (.if_icmp .ge 86, 3) := by decide +kernel
theorem dX1_init_31 : decode cX1_init 31 = .ok (.iload_n 1, 1) := by decide +kernel
theorem dX1_init_32 : decode cX1_init 32 = .ok (.istore_n 2, 1) := by decide +kernel
theorem dX1_init_33 : decode cX1_init 33 = .ok (.iconst 0, 1) := by decide +kernel
theorem dX1_init_34 : decode cX1_init 34 = .ok (.istore_n 3, 1) := by decide +kernel
theorem dX1_init_35 : decode cX1_init 35 = .ok (.iconst 0, 1) := by decide +kernel
theorem dX1_init_36 : decode cX1_init 36 = .ok (.istore 4, 2) := by decide +kernel
theorem dX1_init_38 : decode cX1_init 38 = .ok (.iconst 0, 1) := by decide +kernel
theorem dX1_init_39 : decode cX1_init 39 = .ok (.istore 5, 2) := by decide +kernel
theorem dX1_init_41 : decode cX1_init 41 = .ok (.iload 5, 2) := by decide +kernel
theorem dX1_init_43 : decode cX1_init 43 = .ok (.bipush 6, 2) := by decide +kernel
theorem dX1_init_45 : decode cX1_init 45 = .ok (.if_icmp .ge 50, 3) := by decide +kernel
theorem dX1_init_48 : decode cX1_init 48 = .ok (.iload_n 3, 1) := by decide +kernel
theorem dX1_init_49 : decode cX1_init 49 = .ok (.iload_n 2, 1) := by decide +kernel
theorem dX1_init_50 : decode cX1_init 50 = .ok (.iconst 3, 1) := by decide +kernel
theorem dX1_init_51 : decode cX1_init 51 = .ok (.irem, 1) := by decide +kernel
theorem dX1_init_52 : decode cX1_init 52 = .ok (.ifCond .le 10, 3) := by decide +kernel
theorem dX1_init_55 : decode cX1_init 55 = .ok (.iconst 1, 1) := by decide +kernel
theorem dX1_init_56 : decode cX1_init 56 = .ok (.iload 5, 2) := by decide +kernel
theorem dX1_init_58 : decode cX1_init 58 = .ok (.ishl, 1) := by decide +kernel
theorem dX1_init_59 : decode cX1_init 59 = .ok (.goto 4, 3) := by decide +kernel
theorem dX1_init_62 : decode cX1_init 62 = .ok (.iconst 0, 1) := by decide +kernel
theorem dX1_init_63 : decode cX1_init 63 = .ok (.ior, 1) := by decide +kernel
theorem dX1_init_64 : decode cX1_init 64 = .ok (.istore_n 3, 1) := by decide +kernel
theorem dX1_init_65 : decode cX1_init 65 = .ok (.iload 4, 2) := by decide +kernel
theorem dX1_init_67 : decode cX1_init 67 = .ok (.iload_n 2, 1) := by decide +kernel
theorem dX1_init_68 : decode cX1_init 68 = .ok (.iconst 3, 1) := by decide +kernel
theorem dX1_init_69 : decode cX1_init 69 = .ok (.irem, 1) := by decide +kernel
theorem dX1_init_70 : decode cX1_init 70 = .ok (.iconst 1, 1) := by decide +kernel
theorem dX1_init_71 : decode cX1_init 71 = .ok (.if_icmp .le 10, 3) := by decide +kernel
theorem dX1_init_74 : decode cX1_init 74 = .ok (.iconst 1, 1) := by decide +kernel
theorem dX1_init_75 : decode cX1_init 75 = .ok (.iload 5, 2) := by decide +kernel
theorem dX1_init_77 : decode cX1_init 77 = .ok (.ishl, 1) := by decide +kernel
theorem dX1_init_78 : decode cX1_init 78 = .ok (.goto 4, 3) := by decide +kernel
theorem dX1_init_81 : decode cX1_init 81 = .ok (.iconst 0, 1) := by decide +kernel
theorem dX1_init_82 : decode cX1_init 82 = .ok (.ior, 1) := by decide +kernel
theorem dX1_init_83 : decode cX1_init 83 = .ok (.istore 4, 2) := by decide +kernel
theorem dX1_init_85 : decode cX1_init 85 = .ok (.iload_n 2, 1) := by decide +kernel
theorem dX1_init_86 : decode cX1_init 86 = .ok (.iconst 3, 1) := by decide +kernel
theorem dX1_init_87 : decode cX1_init 87 = .ok (.idiv, 1) := by decide +kernel
theorem dX1_init_88 : decode cX1_init 88 = .ok (.istore_n 2, 1) := by decide +kernel
theorem dX1_init_89 : decode cX1_init 89 = .ok (.iinc 5 1, 3) := by decide +kernel
theorem dX1_init_92 : decode cX1_init 92 = .ok (.goto (-51), 3) := by decide +kernel
theorem dX1_init_95 : decode cX1_init 95 = .ok (.aload_n 0, 1) := by decide +kernel
theorem dX1_init_96 : decode cX1_init 96 = .ok (.getfield 11, 3) := by decide +kernel
theorem dX1_init_99 : decode cX1_init 99 = .ok (.iload_n 1, 1) := by decide +kernel
theorem dX1_init_100 : decode cX1_init 100 = .ok (.iload 4, 2) := by decide +kernel
theorem dX1_init_102 : decode cX1_init 102 = .ok (.bipush 6, 2) := by decide +kernel
theorem dX1_init_104 : decode cX1_init 104 = .ok (.ishl, 1) := by decide +kernel
theorem dX1_init_105 : decode cX1_init 105 = .ok (.iload_n 3, 1) := by decide +kernel
theorem dX1_init_106 : decode cX1_init 106 = .ok (.ior, 1) := by decide +kernel
theorem dX1_init_107 : decode cX1_init 107 = .ok (.iastore, 1) := by decide +kernel
theorem dX1_init_108 : decode cX1_init 108 = .ok (.iinc 1 1, 3) := by decide +kernel
theorem dX1_init_111 : decode cX1_init 111 = .ok (.goto (-87), 3) := by decide +kernel
theorem dX1_init_114 : decode cX1_init 114 = .ok (.return_, 1) := by decide +kernel
theorem dX1_fewest_0 : decode cX1_fewest 0 = .ok (.aload_n 1, 1) := by decide +kernel
theorem dX1_fewest_1 : decode cX1_fewest 1 = .ok (.invokevirtual 18, 3) := by decide +kernel
theorem dX1_fewest_4 : decode cX1_fewest 4 = .ok (.istore_n 2, 1) := by decide +kernel
theorem dX1_fewest_5 : decode cX1_fewest 5 = .ok (.iload_n 2, 1) := by decide +kernel
theorem dX1_fewest_6 : decode cX1_fewest 6 = .ok (.invokestatic 24, 3) := by decide +kernel
theorem dX1_fewest_9 : decode cX1_fewest 9 = .ok (.istore_n 3, 1) := by decide +kernel
theorem dX1_fewest_10 : decode cX1_fewest 10 = .ok (.iload_n 3, 1) := by decide +kernel
theorem dX1_fewest_11 : decode cX1_fewest 11 = .ok (.bipush 6, 2) := by decide +kernel
theorem dX1_fewest_13 : decode cX1_fewest 13 = .ok (.if_icmp .le 6, 3) := by decide +kernel
theorem dX1_fewest_16 : decode cX1_fewest 16 = .ok (.bipush (-6), 2) := by decide +kernel
theorem dX1_fewest_18 : decode cX1_fewest 18 = .ok (.ireturn, 1) := by decide +kernel
theorem dX1_fewest_19 : decode cX1_fewest 19 = .ok (.iconst 1, 1) := by decide +kernel
theorem dX1_fewest_20 : decode cX1_fewest 20 = .ok (.istore 4, 2) := by decide +kernel
theorem dX1_fewest_22 : decode cX1_fewest 22 = .ok (.iconst 0, 1) := by decide +kernel
theorem dX1_fewest_23 : decode cX1_fewest 23 = .ok (.istore 5, 2) := by decide +kernel
theorem dX1_fewest_25 : decode cX1_fewest 25 = .ok (.iload 5, 2) := by decide +kernel
theorem dX1_fewest_27 : decode cX1_fewest 27 = .ok (.iload_n 3, 1) := by decide +kernel
theorem dX1_fewest_28 : decode cX1_fewest 28 = .ok (.if_icmp .ge 15, 3) := by decide +kernel
theorem dX1_fewest_31 : decode cX1_fewest 31 = .ok (.iload 4, 2) := by decide +kernel
theorem dX1_fewest_33 : decode cX1_fewest 33 = .ok (.iconst 3, 1) := by decide +kernel
theorem dX1_fewest_34 : decode cX1_fewest 34 = .ok (.imul, 1) := by decide +kernel
theorem dX1_fewest_35 : decode cX1_fewest 35 = .ok (.istore 4, 2) := by decide +kernel
theorem dX1_fewest_37 : decode cX1_fewest 37 = .ok (.iinc 5 1, 3) := by decide +kernel
theorem dX1_fewest_40 : decode cX1_fewest 40 = .ok (.goto (-15), 3) := by decide +kernel
theorem dX1_fewest_43 : decode cX1_fewest 43 = .ok (.aload_n 0, 1) := by decide +kernel
theorem dX1_fewest_44 : decode cX1_fewest 44 = .ok (.getfield 15, 3) := by decide +kernel
theorem dX1_fewest_47 : decode cX1_fewest 47 = .ok (.ldc 30, 2) := by decide +kernel
theorem dX1_fewest_49 : decode cX1_fewest 49 = .ok (.invokestatic 31, 3) := by decide +kernel
theorem dX1_fewest_52 : decode cX1_fewest 52 = .ok (.aload_n 0, 1) := by decide +kernel
theorem dX1_fewest_53 : decode cX1_fewest 53 = .ok (.getfield 15, 3) := by decide +kernel
theorem dX1_fewest_56 : decode cX1_fewest 56 = .ok (.iconst 0, 1) := by decide +kernel
theorem dX1_fewest_57 : decode cX1_fewest 57 = .ok (.iconst 0, 1) := by decide +kernel
theorem dX1_fewest_58 : decode cX1_fewest 58 = .ok (.iastore, 1) := by decide +kernel
theorem dX1_fewest_59 : decode cX1_fewest 59 = .ok (.iconst 0, 1) := by decide +kernel
theorem dX1_fewest_60 : decode cX1_fewest 60 = .ok (.istore 5, 2) := by decide +kernel
theorem dX1_fewest_62 : decode cX1_fewest 62 = .ok (.iload 5, 2) := by decide +kernel
theorem dX1_fewest_64 : decode cX1_fewest 64 = .ok (.aload_n 1, 1) := by decide +kernel
theorem dX1_fewest_65 : decode cX1_fewest 65 = .ok (.getfield 37, 3) := by decide +kernel
theorem dX1_fewest_68 : decode cX1_fewest 68 = .ok (.if_icmp .ge 52, 3) := by decide +kernel
theorem dX1_fewest_71 : decode cX1_fewest 71 = .ok (.aload_n 1, 1) := by decide +kernel
theorem dX1_fewest_72 : decode cX1_fewest 72 = .ok (.getfield 41, 3) := by decide +kernel
theorem dX1_fewest_75 : decode cX1_fewest 75 = .ok (.iload 5, 2) := by decide +kernel
theorem dX1_fewest_77 : decode cX1_fewest 77 = .ok (.aaload, 1) := by decide +kernel
theorem dX1_fewest_78 : decode cX1_fewest 78 = .ok (.astore 6, 2) := by decide +kernel
theorem dX1_fewest_80 : decode cX1_fewest 80 = .ok (.aload_n 0, 1) := by decide +kernel
theorem dX1_fewest_81 : decode cX1_fewest 81 = .ok (.iload 4, 2) := by decide +kernel
theorem dX1_fewest_83 : decode cX1_fewest 83 = .ok (.invokevirtual 45, 3) := by decide +kernel
theorem dX1_fewest_86 : decode cX1_fewest 86 = .ok (.aload_n 0, 1) := by decide +kernel
theorem dX1_fewest_87 : decode cX1_fewest 87 = .ok (.iload 4, 2) := by decide +kernel
theorem dX1_fewest_89 : decode cX1_fewest 89 = .ok (.aload 6, 2) := by decide +kernel
theorem dX1_fewest_91 : decode cX1_fewest 91 = .ok (.getfield 49, 3) := by decide +kernel
theorem dX1_fewest_94 : decode cX1_fewest 94 = .ok (.iload_n 2, 1) := by decide +kernel
theorem dX1_fewest_95 : decode cX1_fewest 95 = .ok (.invokestatic 54, 3) := by decide +kernel
theorem dX1_fewest_98 : decode cX1_fewest 98 = .ok (.bipush 6, 2) := by decide +kernel
theorem dX1_fewest_100 : decode cX1_fewest 100 = .ok (.ishl, 1) := by decide +kernel
theorem dX1_fewest_101 : decode cX1_fewest 101 = .ok (.aload 6, 2) := by decide +kernel
theorem dX1_fewest_103 : decode cX1_fewest 103 = .ok (.getfield 58, 3) := by decide +kernel
theorem dX1_fewest_106 : decode cX1_fewest 106 = .ok (.iload_n 2, 1) := by decide +kernel
theorem dX1_fewest_107 : decode cX1_fewest 107 = .ok (.invokestatic 54, 3) := by decide +kernel
theorem dX1_fewest_110 : decode cX1_fewest 110 = .ok (.ior, 1) := by decide +kernel
theorem dX1_fewest_111 : decode cX1_fewest 111 = .ok (.invokevirtual 61, 3) := by decide +kernel
theorem dX1_fewest_114 : decode cX1_fewest 114 = .ok (.iinc 5 1, 3) := by decide +kernel
theorem dX1_fewest_117 : decode cX1_fewest 117 = .ok (.goto (-55), 3) := by decide +kernel
theorem dX1_fewest_120 : decode cX1_fewest 120 = .ok (.aload_n 0, 1) := by decide +kernel
theorem dX1_fewest_121 : decode cX1_fewest 121 = .ok (.iload 4, 2) := by decide +kernel
theorem dX1_fewest_123 : decode cX1_fewest 123 = .ok (.invokevirtual 45, 3) := by decide +kernel
theorem dX1_fewest_126 : decode cX1_fewest 126 = .ok (.aload_n 0, 1) := by decide +kernel
theorem dX1_fewest_127 : decode cX1_fewest 127 = .ok (.getfield 15, 3) := by decide +kernel
theorem dX1_fewest_130 : decode cX1_fewest 130 = .ok (.iconst 0, 1) := by decide +kernel
theorem dX1_fewest_131 : decode cX1_fewest 131 = .ok (.iaload, 1) := by decide +kernel
theorem dX1_fewest_132 : decode cX1_fewest 132 = .ok (.ireturn, 1) := by decide +kernel
theorem dX1_packed_0 : decode cX1_packed 0 = .ok (.iconst 0, 1) := by decide +kernel
theorem dX1_packed_1 : decode cX1_packed 1 = .ok (.istore_n 2, 1) := by decide +kernel
theorem dX1_packed_2 : decode cX1_packed 2 = .ok (.iconst 0, 1) := by decide +kernel
theorem dX1_packed_3 : decode cX1_packed 3 = .ok (.istore_n 3, 1) := by decide +kernel
theorem dX1_packed_4 : decode cX1_packed 4 = .ok (.iconst 0, 1) := by decide +kernel
theorem dX1_packed_5 : decode cX1_packed 5 = .ok (.istore 4, 2) := by decide +kernel
theorem dX1_packed_7 : decode cX1_packed 7 = .ok (.iload 4, 2) := by decide +kernel
theorem dX1_packed_9 : decode cX1_packed 9 = .ok (.bipush 8, 2) := by decide +kernel
theorem dX1_packed_11 : decode cX1_packed 11 = .ok (.if_icmp .ge 32, 3) := by decide +kernel
theorem dX1_packed_14 : decode cX1_packed 14 = .ok (.iload_n 1, 1) := by decide +kernel
theorem dX1_packed_15 : decode cX1_packed 15 = .ok (.iload 4, 2) := by decide +kernel
theorem dX1_packed_17 : decode cX1_packed 17 = .ok (.ishr, 1) := by decide +kernel
theorem dX1_packed_18 : decode cX1_packed 18 = .ok (.iconst 1, 1) := by decide +kernel
theorem dX1_packed_19 : decode cX1_packed 19 = .ok (.iand, 1) := by decide +kernel
theorem dX1_packed_20 : decode cX1_packed 20 = .ok (.ifCond .eq 17, 3) := by decide +kernel
theorem dX1_packed_23 : decode cX1_packed 23 = .ok (.iload_n 2, 1) := by decide +kernel
theorem dX1_packed_24 : decode cX1_packed 24 = .ok (.iload_n 0, 1) := by decide +kernel
theorem dX1_packed_25 : decode cX1_packed 25 = .ok (.iload 4, 2) := by decide +kernel
theorem dX1_packed_27 : decode cX1_packed 27 = .ok (.ishr, 1) := by decide +kernel
theorem dX1_packed_28 : decode cX1_packed 28 = .ok (.iconst 1, 1) := by decide +kernel
theorem dX1_packed_29 : decode cX1_packed 29 = .ok (.iand, 1) := by decide +kernel
theorem dX1_packed_30 : decode cX1_packed 30 = .ok (.iload_n 3, 1) := by decide +kernel
theorem dX1_packed_31 : decode cX1_packed 31 = .ok (.ishl, 1) := by decide +kernel
theorem dX1_packed_32 : decode cX1_packed 32 = .ok (.ior, 1) := by decide +kernel
theorem dX1_packed_33 : decode cX1_packed 33 = .ok (.istore_n 2, 1) := by decide +kernel
theorem dX1_packed_34 : decode cX1_packed 34 = .ok (.iinc 3 1, 3) := by decide +kernel
theorem dX1_packed_37 : decode cX1_packed 37 = .ok (.iinc 4 1, 3) := by decide +kernel
theorem dX1_packed_40 : decode cX1_packed 40 = .ok (.goto (-33), 3) := by decide +kernel
theorem dX1_packed_43 : decode cX1_packed 43 = .ok (.iload_n 2, 1) := by decide +kernel
theorem dX1_packed_44 : decode cX1_packed 44 = .ok (.ireturn, 1) := by decide +kernel
theorem dX1_change_0 : decode cX1_change 0 = .ok (.iconst 1, 1) := by decide +kernel
theorem dX1_change_1 : decode cX1_change 1 = .ok (.istore_n 2, 1) := by decide +kernel
theorem dX1_change_2 : decode cX1_change 2 = .ok (.iload_n 2, 1) := by decide +kernel
theorem dX1_change_3 : decode cX1_change 3 = .ok (.iload_n 1, 1) := by decide +kernel
theorem dX1_change_4 : decode cX1_change 4 = .ok (.if_icmp .ge 50, 3) := by decide +kernel
theorem dX1_change_7 : decode cX1_change 7 = .ok (.iconst 0, 1) := by decide +kernel
theorem dX1_change_8 : decode cX1_change 8 = .ok (.istore_n 3, 1) := by decide +kernel
theorem dX1_change_9 : decode cX1_change 9 = .ok (.iload_n 3, 1) := by decide +kernel
theorem dX1_change_10 : decode cX1_change 10 = .ok (.iload_n 1, 1) := by decide +kernel
theorem dX1_change_11 : decode cX1_change 11 = .ok (.if_icmp .ge 36, 3) := by decide +kernel
theorem dX1_change_14 : decode cX1_change 14 = .ok (.iconst 0, 1) := by decide +kernel
theorem dX1_change_15 : decode cX1_change 15 = .ok (.istore 4, 2) := by decide +kernel
theorem dX1_change_17 : decode cX1_change 17 = .ok (.iload 4, 2) := by decide +kernel
theorem dX1_change_19 : decode cX1_change 19 = .ok (.iload_n 2, 1) := by decide +kernel
theorem dX1_change_20 : decode cX1_change 20 = .ok (.if_icmp .ge 18, 3) := by decide +kernel
theorem dX1_change_23 : decode cX1_change 23 = .ok (.aload_n 0, 1) := by decide +kernel
theorem dX1_change_24 : decode cX1_change 24 = .ok (.iload_n 3, 1) := by decide +kernel
theorem dX1_change_25 : decode cX1_change 25 = .ok (.iload 4, 2) := by decide +kernel
theorem dX1_change_27 : decode cX1_change 27 = .ok (.iadd, 1) := by decide +kernel
theorem dX1_change_28 : decode cX1_change 28 = .ok (.iload_n 2, 1) := by decide +kernel
theorem dX1_change_29 : decode cX1_change 29 = .ok (.invokevirtual 65, 3) := by decide +kernel
theorem dX1_change_32 : decode cX1_change 32 = .ok (.iinc 4 1, 3) := by decide +kernel
theorem dX1_change_35 : decode cX1_change 35 = .ok (.goto (-18), 3) := by decide +kernel
theorem dX1_change_38 : decode cX1_change 38 = .ok (.iload_n 3, 1) := by decide +kernel
theorem dX1_change_39 : decode cX1_change 39 = .ok (.iconst 3, 1) := by decide +kernel
theorem dX1_change_40 : decode cX1_change 40 = .ok (.iload_n 2, 1) := by decide +kernel
theorem dX1_change_41 : decode cX1_change 41 = .ok (.imul, 1) := by decide +kernel
theorem dX1_change_42 : decode cX1_change 42 = .ok (.iadd, 1) := by decide +kernel
theorem dX1_change_43 : decode cX1_change 43 = .ok (.istore_n 3, 1) := by decide +kernel
theorem dX1_change_44 : decode cX1_change 44 = .ok (.goto (-35), 3) := by decide +kernel
theorem dX1_change_47 : decode cX1_change 47 = .ok (.iload_n 2, 1) := by decide +kernel
theorem dX1_change_48 : decode cX1_change 48 = .ok (.iconst 3, 1) := by decide +kernel
theorem dX1_change_49 : decode cX1_change 49 = .ok (.imul, 1) := by decide +kernel
theorem dX1_change_50 : decode cX1_change 50 = .ok (.istore_n 2, 1) := by decide +kernel
theorem dX1_change_51 : decode cX1_change 51 = .ok (.goto (-49), 3) := by decide +kernel
theorem dX1_change_54 : decode cX1_change 54 = .ok (.return_, 1) := by decide +kernel
theorem dX1_changeOne_0 : decode cX1_changeOne 0 = .ok (.iload_n 1, 1) := by decide +kernel
theorem dX1_changeOne_1 : decode cX1_changeOne 1 = .ok (.ifCond .lt 18, 3) := by decide +kernel
theorem dX1_changeOne_4 : decode cX1_changeOne 4 = .ok (.iload_n 2, 1) := by decide +kernel
theorem dX1_changeOne_5 : decode cX1_changeOne 5 = .ok (.ifCond .lt 14, 3) := by decide +kernel
theorem dX1_changeOne_8 : decode cX1_changeOne 8 = .ok (.iload_n 1, 1) := by decide +kernel
theorem dX1_changeOne_9 : decode cX1_changeOne 9 = .ok (.iconst 2, 1) := by decide +kernel
theorem dX1_changeOne_10 : decode cX1_changeOne 10 = .ok (.iload_n 2, 1) := by decide +kernel
theorem dX1_changeOne_11 : decode cX1_changeOne 11 = .ok (.imul, 1) := by decide +kernel
theorem dX1_changeOne_12 : decode cX1_changeOne 12 = .ok (.iadd, 1) := by decide +kernel
theorem dX1_changeOne_13 : decode cX1_changeOne 13 = .ok (.sipush 729, 3) := by decide +kernel
theorem dX1_changeOne_16 : decode cX1_changeOne 16 = .ok (.if_icmp .lt 4, 3) := by decide +kernel
theorem dX1_changeOne_19 : decode cX1_changeOne 19 = .ok (.return_, 1) := by decide +kernel
theorem dX1_changeOne_20 : decode cX1_changeOne 20 = .ok (.aload_n 0, 1) := by decide +kernel
theorem dX1_changeOne_21 : decode cX1_changeOne 21 = .ok (.getfield 15, 3) := by decide +kernel
theorem dX1_changeOne_24 : decode cX1_changeOne 24 = .ok (.iload_n 1, 1) := by decide +kernel
theorem dX1_changeOne_25 : decode cX1_changeOne 25 = .ok (.iaload, 1) := by decide +kernel
theorem dX1_changeOne_26 : decode cX1_changeOne 26 = .ok (.istore_n 3, 1) := by decide +kernel
theorem dX1_changeOne_27 : decode cX1_changeOne 27 = .ok (.aload_n 0, 1) := by decide +kernel
theorem dX1_changeOne_28 : decode cX1_changeOne 28 = .ok (.getfield 15, 3) := by decide +kernel
theorem dX1_changeOne_31 : decode cX1_changeOne 31 = .ok (.iload_n 1, 1) := by decide +kernel
theorem dX1_changeOne_32 : decode cX1_changeOne 32 = .ok (.iload_n 2, 1) := by decide +kernel
theorem dX1_changeOne_33 : decode cX1_changeOne 33 = .ok (.iadd, 1) := by decide +kernel
theorem dX1_changeOne_34 : decode cX1_changeOne 34 = .ok (.iaload, 1) := by decide +kernel
theorem dX1_changeOne_35 : decode cX1_changeOne 35 = .ok (.istore 4, 2) := by decide +kernel
theorem dX1_changeOne_37 : decode cX1_changeOne 37 = .ok (.aload_n 0, 1) := by decide +kernel
theorem dX1_changeOne_38 : decode cX1_changeOne 38 = .ok (.getfield 15, 3) := by decide +kernel
theorem dX1_changeOne_41 : decode cX1_changeOne 41 = .ok (.iload_n 1, 1) := by decide +kernel
theorem dX1_changeOne_42 : decode cX1_changeOne 42 = .ok (.iconst 2, 1) := by decide +kernel
theorem dX1_changeOne_43 : decode cX1_changeOne 43 = .ok (.iload_n 2, 1) := by decide +kernel
theorem dX1_changeOne_44 : decode cX1_changeOne 44 = .ok (.imul, 1) := by decide +kernel
theorem dX1_changeOne_45 : decode cX1_changeOne 45 = .ok (.iadd, 1) := by decide +kernel
theorem dX1_changeOne_46 : decode cX1_changeOne 46 = .ok (.iaload, 1) := by decide +kernel
theorem dX1_changeOne_47 : decode cX1_changeOne 47 = .ok (.istore 5, 2) := by decide +kernel
theorem dX1_changeOne_49 : decode cX1_changeOne 49 = .ok (.aload_n 0, 1) := by decide +kernel
theorem dX1_changeOne_50 : decode cX1_changeOne 50 = .ok (.getfield 15, 3) := by decide +kernel
theorem dX1_changeOne_53 : decode cX1_changeOne 53 = .ok (.iload_n 1, 1) := by decide +kernel
theorem dX1_changeOne_54 : decode cX1_changeOne 54 = .ok (.iload_n 3, 1) := by decide +kernel
theorem dX1_changeOne_55 : decode cX1_changeOne 55 = .ok (.iload 5, 2) := by decide +kernel
theorem dX1_changeOne_57 : decode cX1_changeOne 57 = .ok (.iconst 1, 1) := by decide +kernel
theorem dX1_changeOne_58 : decode cX1_changeOne 58 = .ok (.iadd, 1) := by decide +kernel
theorem dX1_changeOne_59 : decode cX1_changeOne 59 = .ok (.iload 4, 2) := by decide +kernel
theorem dX1_changeOne_61 : decode cX1_changeOne 61 = .ok (.iconst 2, 1) := by decide +kernel
theorem dX1_changeOne_62 : decode cX1_changeOne 62 = .ok (.iadd, 1) := by decide +kernel
theorem dX1_changeOne_63 : decode cX1_changeOne 63 = .ok (.invokestatic 68, 3) := by decide +kernel
theorem dX1_changeOne_66 : decode cX1_changeOne 66 = .ok (.invokestatic 68, 3) := by decide +kernel
theorem dX1_changeOne_69 : decode cX1_changeOne 69 = .ok (.iastore, 1) := by decide +kernel
theorem dX1_changeOne_70 : decode cX1_changeOne 70 = .ok (.aload_n 0, 1) := by decide +kernel
theorem dX1_changeOne_71 : decode cX1_changeOne 71 = .ok (.getfield 15, 3) := by decide +kernel
theorem dX1_changeOne_74 : decode cX1_changeOne 74 = .ok (.iload_n 1, 1) := by decide +kernel
theorem dX1_changeOne_75 : decode cX1_changeOne 75 = .ok (.iload_n 2, 1) := by decide +kernel
theorem dX1_changeOne_76 : decode cX1_changeOne 76 = .ok (.iadd, 1) := by decide +kernel
theorem dX1_changeOne_77 : decode cX1_changeOne 77 = .ok (.iload 4, 2) := by decide +kernel
theorem dX1_changeOne_79 : decode cX1_changeOne 79 = .ok (.iload 5, 2) := by decide +kernel
theorem dX1_changeOne_81 : decode cX1_changeOne 81 = .ok (.iconst 1, 1) := by decide +kernel
theorem dX1_changeOne_82 : decode cX1_changeOne 82 = .ok (.iadd, 1) := by decide +kernel
theorem dX1_changeOne_83 : decode cX1_changeOne 83 = .ok (.iload_n 3, 1) := by decide +kernel
theorem dX1_changeOne_84 : decode cX1_changeOne 84 = .ok (.iconst 2, 1) := by decide +kernel
theorem dX1_changeOne_85 : decode cX1_changeOne 85 = .ok (.iadd, 1) := by decide +kernel
theorem dX1_changeOne_86 : decode cX1_changeOne 86 = .ok (.invokestatic 68, 3) := by decide +kernel
theorem dX1_changeOne_89 : decode cX1_changeOne 89 = .ok (.invokestatic 68, 3) := by decide +kernel
theorem dX1_changeOne_92 : decode cX1_changeOne 92 = .ok (.iastore, 1) := by decide +kernel
theorem dX1_changeOne_93 : decode cX1_changeOne 93 = .ok (.aload_n 0, 1) := by decide +kernel
theorem dX1_changeOne_94 : decode cX1_changeOne 94 = .ok (.getfield 15, 3) := by decide +kernel
theorem dX1_changeOne_97 : decode cX1_changeOne 97 = .ok (.iload_n 1, 1) := by decide +kernel
theorem dX1_changeOne_98 : decode cX1_changeOne 98 = .ok (.iconst 2, 1) := by decide +kernel
theorem dX1_changeOne_99 : decode cX1_changeOne 99 = .ok (.iload_n 2, 1) := by decide +kernel
theorem dX1_changeOne_100 : decode cX1_changeOne 100 = .ok (.imul, 1) := by decide +kernel
theorem dX1_changeOne_101 : decode cX1_changeOne 101 = .ok (.iadd, 1) := by decide +kernel
theorem dX1_changeOne_102 : decode cX1_changeOne 102 = .ok (.iload 5, 2) := by decide +kernel
theorem dX1_changeOne_104 : decode cX1_changeOne 104 = .ok (.iload_n 3, 1) := by decide +kernel
theorem dX1_changeOne_105 : decode cX1_changeOne 105 = .ok (.iload 4, 2) := by decide +kernel
theorem dX1_changeOne_107 : decode cX1_changeOne 107 = .ok (.invokestatic 68, 3) := by decide +kernel
theorem dX1_changeOne_110 : decode cX1_changeOne 110 = .ok (.iconst 1, 1) := by decide +kernel
theorem dX1_changeOne_111 : decode cX1_changeOne 111 = .ok (.iadd, 1) := by decide +kernel
theorem dX1_changeOne_112 : decode cX1_changeOne 112 = .ok (.invokestatic 68, 3) := by decide +kernel
theorem dX1_changeOne_115 : decode cX1_changeOne 115 = .ok (.iastore, 1) := by decide +kernel
theorem dX1_changeOne_116 : decode cX1_changeOne 116 = .ok (.return_, 1) := by decide +kernel
theorem dX1_keepFitting_0 : decode cX1_keepFitting 0 = .ok (.iconst 0, 1) := by decide +kernel
theorem dX1_keepFitting_1 : decode cX1_keepFitting 1 = .ok (.istore_n 3, 1) := by decide +kernel
theorem dX1_keepFitting_2 : decode cX1_keepFitting 2 = .ok (.iload_n 3, 1) := by decide +kernel
theorem dX1_keepFitting_3 : decode cX1_keepFitting 3 = .ok (.iload_n 1, 1) := by decide +kernel
theorem dX1_keepFitting_4 : decode cX1_keepFitting 4 = .ok (.if_icmp .ge 65, 3) := by decide +kernel
theorem dX1_keepFitting_7 : decode cX1_keepFitting 7 = .ok (.iload_n 3, 1) := by decide +kernel
theorem dX1_keepFitting_8 : decode cX1_keepFitting 8 = .ok (.sipush 729, 3) := by decide +kernel
theorem dX1_keepFitting_11 : decode cX1_keepFitting 11 = .ok (.if_icmp .ge 58, 3) := by decide +kernel
theorem dX1_keepFitting_14 : decode cX1_keepFitting 14 = .ok (.iload_n 2, 1) := by decide +kernel
theorem dX1_keepFitting_15 : decode cX1_keepFitting 15 = .ok (.aload_n 0, 1) := by decide +kernel
theorem dX1_keepFitting_16 : decode cX1_keepFitting 16 = .ok (.getfield 11, 3) := by decide +kernel
theorem dX1_keepFitting_19 : decode cX1_keepFitting 19 = .ok (.iload_n 3, 1) := by decide +kernel
theorem dX1_keepFitting_20 : decode cX1_keepFitting 20 = .ok (.iaload, 1) := by decide +kernel
theorem dX1_keepFitting_21 : decode cX1_keepFitting 21 = .ok (.iconst (-1), 1) := by decide +kernel
theorem dX1_keepFitting_22 : decode cX1_keepFitting 22 = .ok (.ixor, 1) := by decide +kernel
theorem dX1_keepFitting_23 : decode cX1_keepFitting 23 = .ok (.iand, 1) := by decide +kernel
theorem dX1_keepFitting_24 : decode cX1_keepFitting 24 = .ok (.ifCond .ne 7, 3) := by decide +kernel
theorem dX1_keepFitting_27 : decode cX1_keepFitting 27 = .ok (.iconst 1, 1) := by decide +kernel
theorem dX1_keepFitting_28 : decode cX1_keepFitting 28 = .ok (.goto 4, 3) := by decide +kernel
theorem dX1_keepFitting_31 : decode cX1_keepFitting 31 = .ok (.iconst 0, 1) := by decide +kernel
theorem dX1_keepFitting_32 : decode cX1_keepFitting 32 = .ok (.istore 4, 2) := by decide +kernel
theorem dX1_keepFitting_34 : decode cX1_keepFitting 34 = .ok (.iload 4, 2) := by decide +kernel
theorem dX1_keepFitting_36 : decode cX1_keepFitting 36 = .ok (.ifCond .eq 19, 3) := by decide +kernel
theorem dX1_keepFitting_39 : decode cX1_keepFitting 39 = .ok (.aload_n 0, 1) := by decide +kernel
theorem dX1_keepFitting_40 : decode cX1_keepFitting 40 = .ok (.getfield 11, 3) := by decide +kernel
theorem dX1_keepFitting_43 : decode cX1_keepFitting 43 = .ok (.iload_n 3, 1) := by decide +kernel
theorem dX1_keepFitting_44 : decode cX1_keepFitting 44 = .ok (.iaload, 1) := by decide +kernel
theorem dX1_keepFitting_45 : decode cX1_keepFitting 45 = .ok (.bipush 6, 2) := by decide +kernel
theorem dX1_keepFitting_47 : decode cX1_keepFitting 47 = .ok (.ishr, 1) := by decide +kernel
theorem dX1_keepFitting_48 : decode cX1_keepFitting 48 = .ok (.invokestatic 24, 3) := by decide +kernel
theorem dX1_keepFitting_51 : decode cX1_keepFitting 51 = .ok (.iconst 2, 1) := by decide +kernel
theorem dX1_keepFitting_52 : decode cX1_keepFitting 52 = .ok (.if_icmp .le 11, 3) := by decide +kernel
theorem dX1_keepFitting_55 : decode cX1_keepFitting 55 = .ok (.aload_n 0, 1) := by decide +kernel
theorem dX1_keepFitting_56 : decode cX1_keepFitting 56 = .ok (.getfield 15, 3) := by decide +kernel
theorem dX1_keepFitting_59 : decode cX1_keepFitting 59 = .ok (.iload_n 3, 1) := by decide +kernel
theorem dX1_keepFitting_60 : decode cX1_keepFitting 60 = .ok (.ldc 30, 2) := by decide +kernel
theorem dX1_keepFitting_62 : decode cX1_keepFitting 62 = .ok (.iastore, 1) := by decide +kernel
theorem dX1_keepFitting_63 : decode cX1_keepFitting 63 = .ok (.iinc 3 1, 3) := by decide +kernel
theorem dX1_keepFitting_66 : decode cX1_keepFitting 66 = .ok (.goto (-64), 3) := by decide +kernel
theorem dX1_keepFitting_69 : decode cX1_keepFitting 69 = .ok (.return_, 1) := by decide +kernel
theorem dX2_init_0 : decode cX2_init 0 = .ok (.aload_n 0, 1) := by decide +kernel
theorem dX2_init_1 : decode cX2_init 1 = .ok (.invokespecial 1, 3) := by decide +kernel
theorem dX2_init_4 : decode cX2_init 4 = .ok (.aload_n 0, 1) := by decide +kernel
theorem dX2_init_5 : decode cX2_init 5 = .ok (.iconst 0, 1) := by decide +kernel
theorem dX2_init_6 : decode cX2_init 6 = .ok (.putfield 7, 3) := by decide +kernel
theorem dX2_init_9 : decode cX2_init 9 = .ok (.aload_n 0, 1) := by decide +kernel
theorem dX2_init_10 : decode cX2_init 10 = .ok (.iconst 0, 1) := by decide +kernel
theorem dX2_init_11 : decode cX2_init 11 = .ok (.putfield 13, 3) := by decide +kernel
theorem dX2_init_14 : decode cX2_init 14 = .ok (.aload_n 0, 1) := by decide +kernel
theorem dX2_init_15 : decode cX2_init 15 = .ok (.iconst 0, 1) := by decide +kernel
theorem dX2_init_16 : decode cX2_init 16 = .ok (.putfield 17, 3) := by decide +kernel
theorem dX2_init_19 : decode cX2_init 19 = .ok (.aload_n 0, 1) := by decide +kernel
theorem dX2_init_20 : decode cX2_init 20 = .ok (.iconst 0, 1) := by decide +kernel
theorem dX2_init_21 : decode cX2_init 21 = .ok (.putfield 20, 3) := by decide +kernel
theorem dX2_init_24 : decode cX2_init 24 = .ok (.return_, 1) := by decide +kernel
theorem dX2_make_0 : decode cX2_make 0 = .ok (.aload_n 0, 1) := by decide +kernel
theorem dX2_make_1 : decode cX2_make 1 = .ok (.iconst 1, 1) := by decide +kernel
theorem dX2_make_2 : decode cX2_make 2 = .ok (.putfield 7, 3) := by decide +kernel
theorem dX2_make_5 : decode cX2_make 5 = .ok (.aload_n 0, 1) := by decide +kernel
theorem dX2_make_6 : decode cX2_make 6 = .ok (.iload_n 1, 1) := by decide +kernel
theorem dX2_make_7 : decode cX2_make 7 = .ok (.putfield 13, 3) := by decide +kernel
theorem dX2_make_10 : decode cX2_make 10 = .ok (.aload_n 0, 1) := by decide +kernel
theorem dX2_make_11 : decode cX2_make 11 = .ok (.iload_n 2, 1) := by decide +kernel
theorem dX2_make_12 : decode cX2_make 12 = .ok (.putfield 17, 3) := by decide +kernel
theorem dX2_make_15 : decode cX2_make 15 = .ok (.aload_n 0, 1) := by decide +kernel
theorem dX2_make_16 : decode cX2_make 16 = .ok (.iload_n 3, 1) := by decide +kernel
theorem dX2_make_17 : decode cX2_make 17 = .ok (.putfield 20, 3) := by decide +kernel
theorem dX2_make_20 : decode cX2_make 20 = .ok (.return_, 1) := by decide +kernel
theorem dX2_tells_0 : decode cX2_tells 0 = .ok (.iload_n 1, 1) := by decide +kernel
theorem dX2_tells_1 : decode cX2_tells 1 = .ok (.tableswitch 42 0 2 #[27, 32, 37], 27) := by decide +kernel
theorem dX2_tells_28 : decode cX2_tells 28 = .ok (.aload_n 0, 1) := by decide +kernel
theorem dX2_tells_29 : decode cX2_tells 29 = .ok (.getfield 13, 3) := by decide +kernel
theorem dX2_tells_32 : decode cX2_tells 32 = .ok (.ireturn, 1) := by decide +kernel
theorem dX2_tells_33 : decode cX2_tells 33 = .ok (.aload_n 0, 1) := by decide +kernel
theorem dX2_tells_34 : decode cX2_tells 34 = .ok (.getfield 17, 3) := by decide +kernel
theorem dX2_tells_37 : decode cX2_tells 37 = .ok (.ireturn, 1) := by decide +kernel
theorem dX2_tells_38 : decode cX2_tells 38 = .ok (.aload_n 0, 1) := by decide +kernel
theorem dX2_tells_39 : decode cX2_tells 39 = .ok (.getfield 20, 3) := by decide +kernel
theorem dX2_tells_42 : decode cX2_tells 42 = .ok (.ireturn, 1) := by decide +kernel
theorem dX2_tells_43 : decode cX2_tells 43 = .ok (.aload_n 0, 1) := by decide +kernel
theorem dX2_tells_44 : decode cX2_tells 44 = .ok (.getfield 20, 3) := by decide +kernel
theorem dX2_tells_47 : decode cX2_tells 47 = .ok (.invokestatic 23, 3) := by decide +kernel
theorem dX2_tells_50 : decode cX2_tells 50 = .ok (.ireturn, 1) := by decide +kernel
theorem dX2_turned_0 : decode cX2_turned 0 = .ok (.iload_n 0, 1) := by decide +kernel
theorem dX2_turned_1 : decode cX2_turned 1 = .ok (.sipush 21845, 3) := by decide +kernel
theorem dX2_turned_4 : decode cX2_turned 4 = .ok (.iand, 1) := by decide +kernel
theorem dX2_turned_5 : decode cX2_turned 5 = .ok (.iconst 1, 1) := by decide +kernel
theorem dX2_turned_6 : decode cX2_turned 6 = .ok (.ishl, 1) := by decide +kernel
theorem dX2_turned_7 : decode cX2_turned 7 = .ok (.iload_n 0, 1) := by decide +kernel
theorem dX2_turned_8 : decode cX2_turned 8 = .ok (.iconst 1, 1) := by decide +kernel
theorem dX2_turned_9 : decode cX2_turned 9 = .ok (.ishr, 1) := by decide +kernel
theorem dX2_turned_10 : decode cX2_turned 10 = .ok (.sipush 21845, 3) := by decide +kernel
theorem dX2_turned_13 : decode cX2_turned 13 = .ok (.iand, 1) := by decide +kernel
theorem dX2_turned_14 : decode cX2_turned 14 = .ok (.ior, 1) := by decide +kernel
theorem dX2_turned_15 : decode cX2_turned 15 = .ok (.istore_n 1, 1) := by decide +kernel
theorem dX2_turned_16 : decode cX2_turned 16 = .ok (.iload_n 1, 1) := by decide +kernel
theorem dX2_turned_17 : decode cX2_turned 17 = .ok (.sipush 13107, 3) := by decide +kernel
theorem dX2_turned_20 : decode cX2_turned 20 = .ok (.iand, 1) := by decide +kernel
theorem dX2_turned_21 : decode cX2_turned 21 = .ok (.iconst 2, 1) := by decide +kernel
theorem dX2_turned_22 : decode cX2_turned 22 = .ok (.ishl, 1) := by decide +kernel
theorem dX2_turned_23 : decode cX2_turned 23 = .ok (.iload_n 1, 1) := by decide +kernel
theorem dX2_turned_24 : decode cX2_turned 24 = .ok (.iconst 2, 1) := by decide +kernel
theorem dX2_turned_25 : decode cX2_turned 25 = .ok (.ishr, 1) := by decide +kernel
theorem dX2_turned_26 : decode cX2_turned 26 = .ok (.sipush 13107, 3) := by decide +kernel
theorem dX2_turned_29 : decode cX2_turned 29 = .ok (.iand, 1) := by decide +kernel
theorem dX2_turned_30 : decode cX2_turned 30 = .ok (.ior, 1) := by decide +kernel
theorem dX2_turned_31 : decode cX2_turned 31 = .ok (.ireturn, 1) := by decide +kernel
theorem dX2_between_0 : decode cX2_between 0 = .ok (.iload_n 0, 1) := by decide +kernel
theorem dX2_between_1 : decode cX2_between 1 = .ok (.iload_n 1, 1) := by decide +kernel
theorem dX2_between_2 : decode cX2_between 2 = .ok (.ixor, 1) := by decide +kernel
theorem dX2_between_3 : decode cX2_between 3 = .ok (.invokestatic 27, 3) := by decide +kernel
theorem dX2_between_6 : decode cX2_between 6 = .ok (.iload_n 0, 1) := by decide +kernel
theorem dX2_between_7 : decode cX2_between 7 = .ok (.invokestatic 23, 3) := by decide +kernel
theorem dX2_between_10 : decode cX2_between 10 = .ok (.iload_n 1, 1) := by decide +kernel
theorem dX2_between_11 : decode cX2_between 11 = .ok (.ixor, 1) := by decide +kernel
theorem dX2_between_12 : decode cX2_between 12 = .ok (.invokestatic 27, 3) := by decide +kernel
theorem dX2_between_15 : decode cX2_between 15 = .ok (.invokestatic 32, 3) := by decide +kernel
theorem dX2_between_18 : decode cX2_between 18 = .ok (.ireturn, 1) := by decide +kernel
theorem dX3_init_0 : decode cX3_init 0 = .ok (.aload_n 0, 1) := by decide +kernel
theorem dX3_init_1 : decode cX3_init 1 = .ok (.invokespecial 3, 3) := by decide +kernel
theorem dX3_init_4 : decode cX3_init 4 = .ok (.aload_n 0, 1) := by decide +kernel
theorem dX3_init_5 : decode cX3_init 5 = .ok (.iconst 0, 1) := by decide +kernel
theorem dX3_init_6 : decode cX3_init 6 = .ok (.putfield 9, 3) := by decide +kernel
theorem dX3_init_9 : decode cX3_init 9 = .ok (.aload_n 0, 1) := by decide +kernel
theorem dX3_init_10 : decode cX3_init 10 = .ok (.iconst 0, 1) := by decide +kernel
theorem dX3_init_11 : decode cX3_init 11 = .ok (.putfield 15, 3) := by decide +kernel
theorem dX3_init_14 : decode cX3_init 14 = .ok (.aload_n 0, 1) := by decide +kernel
theorem dX3_init_15 : decode cX3_init 15 = .ok (.bipush (-9), 2) := by decide +kernel
theorem dX3_init_17 : decode cX3_init 17 = .ok (.putfield 18, 3) := by decide +kernel
theorem dX3_init_20 : decode cX3_init 20 = .ok (.aload_n 0, 1) := by decide +kernel
theorem dX3_init_21 : decode cX3_init 21 = .ok (.iconst 0, 1) := by decide +kernel
theorem dX3_init_22 : decode cX3_init 22 = .ok (.putfield 21, 3) := by decide +kernel
theorem dX3_init_25 : decode cX3_init 25 = .ok (.aload_n 0, 1) := by decide +kernel
theorem dX3_init_26 : decode cX3_init 26 = .ok (.iconst 0, 1) := by decide +kernel
theorem dX3_init_27 : decode cX3_init 27 = .ok (.putfield 24, 3) := by decide +kernel
theorem dX3_init_30 : decode cX3_init 30 = .ok (.return_, 1) := by decide +kernel
theorem dX3_hasHide_0 : decode cX3_hasHide 0 = .ok (.iload_n 0, 1) := by decide +kernel
theorem dX3_hasHide_1 : decode cX3_hasHide 1 = .ok (.ifCond .eq 12, 3) := by decide +kernel
theorem dX3_hasHide_4 : decode cX3_hasHide 4 = .ok (.iload_n 0, 1) := by decide +kernel
theorem dX3_hasHide_5 : decode cX3_hasHide 5 = .ok (.iconst 5, 1) := by decide +kernel
theorem dX3_hasHide_6 : decode cX3_hasHide 6 = .ok (.if_icmp .eq 7, 3) := by decide +kernel
theorem dX3_hasHide_9 : decode cX3_hasHide 9 = .ok (.iconst 1, 1) := by decide +kernel
theorem dX3_hasHide_10 : decode cX3_hasHide 10 = .ok (.goto 4, 3) := by decide +kernel
theorem dX3_hasHide_13 : decode cX3_hasHide 13 = .ok (.iconst 0, 1) := by decide +kernel
theorem dX3_hasHide_14 : decode cX3_hasHide 14 = .ok (.ireturn, 1) := by decide +kernel
theorem dX3_fits_0 : decode cX3_fits 0 = .ok (.iload_n 0, 1) := by decide +kernel
theorem dX3_fits_1 : decode cX3_fits 1 = .ok (.invokestatic 27, 3) := by decide +kernel
theorem dX3_fits_4 : decode cX3_fits 4 = .ok (.ifCond .eq 14, 3) := by decide +kernel
theorem dX3_fits_7 : decode cX3_fits 7 = .ok (.iload_n 1, 1) := by decide +kernel
theorem dX3_fits_8 : decode cX3_fits 8 = .ok (.bipush 8, 2) := by decide +kernel
theorem dX3_fits_10 : decode cX3_fits 10 = .ok (.invokestatic 31, 3) := by decide +kernel
theorem dX3_fits_13 : decode cX3_fits 13 = .ok (.ifCond .eq 5, 3) := by decide +kernel
theorem dX3_fits_16 : decode cX3_fits 16 = .ok (.iconst 0, 1) := by decide +kernel
theorem dX3_fits_17 : decode cX3_fits 17 = .ok (.ireturn, 1) := by decide +kernel
theorem dX3_fits_18 : decode cX3_fits 18 = .ok (.iload_n 0, 1) := by decide +kernel
theorem dX3_fits_19 : decode cX3_fits 19 = .ok (.tableswitch 130 1 6 #[37, 44, 52, 78, 107, 122], 37) := by decide +kernel
theorem dX3_fits_56 : decode cX3_fits 56 = .ok (.iload_n 2, 1) := by decide +kernel
theorem dX3_fits_57 : decode cX3_fits 57 = .ok (.iconst 0, 1) := by decide +kernel
theorem dX3_fits_58 : decode cX3_fits 58 = .ok (.iconst 1, 1) := by decide +kernel
theorem dX3_fits_59 : decode cX3_fits 59 = .ok (.invokestatic 35, 3) := by decide +kernel
theorem dX3_fits_62 : decode cX3_fits 62 = .ok (.ireturn, 1) := by decide +kernel
theorem dX3_fits_63 : decode cX3_fits 63 = .ok (.iload_n 2, 1) := by decide +kernel
theorem dX3_fits_64 : decode cX3_fits 64 = .ok (.iconst 0, 1) := by decide +kernel
theorem dX3_fits_65 : decode cX3_fits 65 = .ok (.bipush 9, 2) := by decide +kernel
theorem dX3_fits_67 : decode cX3_fits 67 = .ok (.invokestatic 35, 3) := by decide +kernel
theorem dX3_fits_70 : decode cX3_fits 70 = .ok (.ireturn, 1) := by decide +kernel
theorem dX3_fits_71 : decode cX3_fits 71 = .ok (.iload_n 2, 1) := by decide +kernel
theorem dX3_fits_72 : decode cX3_fits 72 = .ok (.iconst 0, 1) := by decide +kernel
theorem dX3_fits_73 : decode cX3_fits 73 = .ok (.iconst 1, 1) := by decide +kernel
theorem dX3_fits_74 : decode cX3_fits 74 = .ok (.invokestatic 35, 3) := by decide +kernel
theorem dX3_fits_77 : decode cX3_fits 77 = .ok (.ifCond .eq 18, 3) := by decide +kernel
theorem dX3_fits_80 : decode cX3_fits 80 = .ok (.iload_n 3, 1) := by decide +kernel
theorem dX3_fits_81 : decode cX3_fits 81 = .ok (.bipush (-99), 2) := by decide +kernel
theorem dX3_fits_83 : decode cX3_fits 83 = .ok (.bipush 99, 2) := by decide +kernel
theorem dX3_fits_85 : decode cX3_fits 85 = .ok (.invokestatic 35, 3) := by decide +kernel
theorem dX3_fits_88 : decode cX3_fits 88 = .ok (.ifCond .eq 7, 3) := by decide +kernel
theorem dX3_fits_91 : decode cX3_fits 91 = .ok (.iconst 1, 1) := by decide +kernel
theorem dX3_fits_92 : decode cX3_fits 92 = .ok (.goto 4, 3) := by decide +kernel
theorem dX3_fits_95 : decode cX3_fits 95 = .ok (.iconst 0, 1) := by decide +kernel
theorem dX3_fits_96 : decode cX3_fits 96 = .ok (.ireturn, 1) := by decide +kernel
theorem dX3_fits_97 : decode cX3_fits 97 = .ok (.iload_n 2, 1) := by decide +kernel
theorem dX3_fits_98 : decode cX3_fits 98 = .ok (.iconst 0, 1) := by decide +kernel
theorem dX3_fits_99 : decode cX3_fits 99 = .ok (.iconst 1, 1) := by decide +kernel
theorem dX3_fits_100 : decode cX3_fits 100 = .ok (.invokestatic 35, 3) := by decide +kernel
theorem dX3_fits_103 : decode cX3_fits 103 = .ok (.ifCond .eq 21, 3) := by decide +kernel
theorem dX3_fits_106 : decode cX3_fits 106 = .ok (.iload_n 3, 1) := by decide +kernel
theorem dX3_fits_107 : decode cX3_fits 107 = .ok (.bipush 8, 2) := by decide +kernel
theorem dX3_fits_109 : decode cX3_fits 109 = .ok (.invokestatic 31, 3) := by decide +kernel
theorem dX3_fits_112 : decode cX3_fits 112 = .ok (.ifCond .ne 12, 3) := by decide +kernel
theorem dX3_fits_115 : decode cX3_fits 115 = .ok (.iload_n 3, 1) := by decide +kernel
theorem dX3_fits_116 : decode cX3_fits 116 = .ok (.iload_n 1, 1) := by decide +kernel
theorem dX3_fits_117 : decode cX3_fits 117 = .ok (.if_icmp .eq 7, 3) := by decide +kernel
theorem dX3_fits_120 : decode cX3_fits 120 = .ok (.iconst 1, 1) := by decide +kernel
theorem dX3_fits_121 : decode cX3_fits 121 = .ok (.goto 4, 3) := by decide +kernel
theorem dX3_fits_124 : decode cX3_fits 124 = .ok (.iconst 0, 1) := by decide +kernel
theorem dX3_fits_125 : decode cX3_fits 125 = .ok (.ireturn, 1) := by decide +kernel
theorem dX3_fits_126 : decode cX3_fits 126 = .ok (.iload_n 2, 1) := by decide +kernel
theorem dX3_fits_127 : decode cX3_fits 127 = .ok (.bipush 8, 2) := by decide +kernel
theorem dX3_fits_129 : decode cX3_fits 129 = .ok (.invokestatic 31, 3) := by decide +kernel
theorem dX3_fits_132 : decode cX3_fits 132 = .ok (.ifCond .ne 7, 3) := by decide +kernel
theorem dX3_fits_135 : decode cX3_fits 135 = .ok (.iconst 1, 1) := by decide +kernel
theorem dX3_fits_136 : decode cX3_fits 136 = .ok (.goto 4, 3) := by decide +kernel
theorem dX3_fits_139 : decode cX3_fits 139 = .ok (.iconst 0, 1) := by decide +kernel
theorem dX3_fits_140 : decode cX3_fits 140 = .ok (.ireturn, 1) := by decide +kernel
theorem dX3_fits_141 : decode cX3_fits 141 = .ok (.iload_n 2, 1) := by decide +kernel
theorem dX3_fits_142 : decode cX3_fits 142 = .ok (.iconst 0, 1) := by decide +kernel
theorem dX3_fits_143 : decode cX3_fits 143 = .ok (.bipush 9, 2) := by decide +kernel
theorem dX3_fits_145 : decode cX3_fits 145 = .ok (.invokestatic 35, 3) := by decide +kernel
theorem dX3_fits_148 : decode cX3_fits 148 = .ok (.ireturn, 1) := by decide +kernel
theorem dX3_fits_149 : decode cX3_fits 149 = .ok (.iconst 1, 1) := by decide +kernel
theorem dX3_fits_150 : decode cX3_fits 150 = .ok (.ireturn, 1) := by decide +kernel
theorem dX3_isOf_0 : decode cX3_isOf 0 = .ok (.aload_n 0, 1) := by decide +kernel
theorem dX3_isOf_1 : decode cX3_isOf 1 = .ok (.getfield 9, 3) := by decide +kernel
theorem dX3_isOf_4 : decode cX3_isOf 4 = .ok (.iconst 1, 1) := by decide +kernel
theorem dX3_isOf_5 : decode cX3_isOf 5 = .ok (.if_icmp .eq 19, 3) := by decide +kernel
theorem dX3_isOf_8 : decode cX3_isOf 8 = .ok (.aload_n 0, 1) := by decide +kernel
theorem dX3_isOf_9 : decode cX3_isOf 9 = .ok (.getfield 9, 3) := by decide +kernel
theorem dX3_isOf_12 : decode cX3_isOf 12 = .ok (.iconst 3, 1) := by decide +kernel
theorem dX3_isOf_13 : decode cX3_isOf 13 = .ok (.if_icmp .eq 11, 3) := by decide +kernel
theorem dX3_isOf_16 : decode cX3_isOf 16 = .ok (.aload_n 0, 1) := by decide +kernel
theorem dX3_isOf_17 : decode cX3_isOf 17 = .ok (.getfield 9, 3) := by decide +kernel
theorem dX3_isOf_20 : decode cX3_isOf 20 = .ok (.iconst 4, 1) := by decide +kernel
theorem dX3_isOf_21 : decode cX3_isOf 21 = .ok (.if_icmp .ne 7, 3) := by decide +kernel
theorem dX3_isOf_24 : decode cX3_isOf 24 = .ok (.iconst 1, 1) := by decide +kernel
theorem dX3_isOf_25 : decode cX3_isOf 25 = .ok (.goto 4, 3) := by decide +kernel
theorem dX3_isOf_28 : decode cX3_isOf 28 = .ok (.iconst 0, 1) := by decide +kernel
theorem dX3_isOf_29 : decode cX3_isOf 29 = .ok (.istore_n 2, 1) := by decide +kernel
theorem dX3_isOf_30 : decode cX3_isOf 30 = .ok (.iload_n 1, 1) := by decide +kernel
theorem dX3_isOf_31 : decode cX3_isOf 31 = .ok (.ifCond .eq 20, 3) := by decide +kernel
theorem dX3_isOf_34 : decode cX3_isOf 34 = .ok (.iload_n 1, 1) := by decide +kernel
theorem dX3_isOf_35 : decode cX3_isOf 35 = .ok (.aload_n 0, 1) := by decide +kernel
theorem dX3_isOf_36 : decode cX3_isOf 36 = .ok (.getfield 9, 3) := by decide +kernel
theorem dX3_isOf_39 : decode cX3_isOf 39 = .ok (.if_icmp .eq 12, 3) := by decide +kernel
theorem dX3_isOf_42 : decode cX3_isOf 42 = .ok (.iload_n 1, 1) := by decide +kernel
theorem dX3_isOf_43 : decode cX3_isOf 43 = .ok (.iconst 1, 1) := by decide +kernel
theorem dX3_isOf_44 : decode cX3_isOf 44 = .ok (.if_icmp .ne 11, 3) := by decide +kernel
theorem dX3_isOf_47 : decode cX3_isOf 47 = .ok (.iload_n 2, 1) := by decide +kernel
theorem dX3_isOf_48 : decode cX3_isOf 48 = .ok (.ifCond .eq 7, 3) := by decide +kernel
theorem dX3_isOf_51 : decode cX3_isOf 51 = .ok (.iconst 1, 1) := by decide +kernel
theorem dX3_isOf_52 : decode cX3_isOf 52 = .ok (.goto 4, 3) := by decide +kernel
theorem dX3_isOf_55 : decode cX3_isOf 55 = .ok (.iconst 0, 1) := by decide +kernel
theorem dX3_isOf_56 : decode cX3_isOf 56 = .ok (.ireturn, 1) := by decide +kernel
theorem dX3_wantsHeld_0 : decode cX3_wantsHeld 0 = .ok (.aload_n 0, 1) := by decide +kernel
theorem dX3_wantsHeld_1 : decode cX3_wantsHeld 1 = .ok (.iconst 1, 1) := by decide +kernel
theorem dX3_wantsHeld_2 : decode cX3_wantsHeld 2 = .ok (.invokevirtual 39, 3) := by decide +kernel
theorem dX3_wantsHeld_5 : decode cX3_wantsHeld 5 = .ok (.ifCond .eq 31, 3) := by decide +kernel
theorem dX3_wantsHeld_8 : decode cX3_wantsHeld 8 = .ok (.aload_n 0, 1) := by decide +kernel
theorem dX3_wantsHeld_9 : decode cX3_wantsHeld 9 = .ok (.getfield 18, 3) := by decide +kernel
theorem dX3_wantsHeld_12 : decode cX3_wantsHeld 12 = .ok (.iload_n 1, 1) := by decide +kernel
theorem dX3_wantsHeld_13 : decode cX3_wantsHeld 13 = .ok (.if_icmp .eq 19, 3) := by decide +kernel
theorem dX3_wantsHeld_16 : decode cX3_wantsHeld 16 = .ok (.aload_n 0, 1) := by decide +kernel
theorem dX3_wantsHeld_17 : decode cX3_wantsHeld 17 = .ok (.getfield 9, 3) := by decide +kernel
theorem dX3_wantsHeld_20 : decode cX3_wantsHeld 20 = .ok (.iconst 4, 1) := by decide +kernel
theorem dX3_wantsHeld_21 : decode cX3_wantsHeld 21 = .ok (.if_icmp .ne 15, 3) := by decide +kernel
theorem dX3_wantsHeld_24 : decode cX3_wantsHeld 24 = .ok (.aload_n 0, 1) := by decide +kernel
theorem dX3_wantsHeld_25 : decode cX3_wantsHeld 25 = .ok (.getfield 24, 3) := by decide +kernel
theorem dX3_wantsHeld_28 : decode cX3_wantsHeld 28 = .ok (.iload_n 1, 1) := by decide +kernel
theorem dX3_wantsHeld_29 : decode cX3_wantsHeld 29 = .ok (.if_icmp .ne 7, 3) := by decide +kernel
theorem dX3_wantsHeld_32 : decode cX3_wantsHeld 32 = .ok (.iconst 1, 1) := by decide +kernel
theorem dX3_wantsHeld_33 : decode cX3_wantsHeld 33 = .ok (.goto 4, 3) := by decide +kernel
theorem dX3_wantsHeld_36 : decode cX3_wantsHeld 36 = .ok (.iconst 0, 1) := by decide +kernel
theorem dX3_wantsHeld_37 : decode cX3_wantsHeld 37 = .ok (.ireturn, 1) := by decide +kernel
theorem dX3_tells_0 : decode cX3_tells 0 = .ok (.iload_n 1, 1) := by decide +kernel
theorem dX3_tells_1 : decode cX3_tells 1 = .ok (.tableswitch 51 0 3 #[31, 36, 41, 46], 31) := by decide +kernel
theorem dX3_tells_32 : decode cX3_tells 32 = .ok (.aload_n 0, 1) := by decide +kernel
theorem dX3_tells_33 : decode cX3_tells 33 = .ok (.getfield 9, 3) := by decide +kernel
theorem dX3_tells_36 : decode cX3_tells 36 = .ok (.ireturn, 1) := by decide +kernel
theorem dX3_tells_37 : decode cX3_tells 37 = .ok (.aload_n 0, 1) := by decide +kernel
theorem dX3_tells_38 : decode cX3_tells 38 = .ok (.getfield 15, 3) := by decide +kernel
theorem dX3_tells_41 : decode cX3_tells 41 = .ok (.ireturn, 1) := by decide +kernel
theorem dX3_tells_42 : decode cX3_tells 42 = .ok (.aload_n 0, 1) := by decide +kernel
theorem dX3_tells_43 : decode cX3_tells 43 = .ok (.getfield 18, 3) := by decide +kernel
theorem dX3_tells_46 : decode cX3_tells 46 = .ok (.ireturn, 1) := by decide +kernel
theorem dX3_tells_47 : decode cX3_tells 47 = .ok (.aload_n 0, 1) := by decide +kernel
theorem dX3_tells_48 : decode cX3_tells 48 = .ok (.getfield 21, 3) := by decide +kernel
theorem dX3_tells_51 : decode cX3_tells 51 = .ok (.ireturn, 1) := by decide +kernel
theorem dX3_tells_52 : decode cX3_tells 52 = .ok (.aload_n 0, 1) := by decide +kernel
theorem dX3_tells_53 : decode cX3_tells 53 = .ok (.getfield 24, 3) := by decide +kernel
theorem dX3_tells_56 : decode cX3_tells 56 = .ok (.ireturn, 1) := by decide +kernel
theorem dX4_init_0 : decode cX4_init 0 = .ok (.aload_n 0, 1) := by decide +kernel
theorem dX4_init_1 : decode cX4_init 1 = .ok (.invokespecial 3, 3) := by decide +kernel
theorem dX4_init_4 : decode cX4_init 4 = .ok (.aload_n 0, 1) := by decide +kernel
theorem dX4_init_5 : decode cX4_init 5 = .ok (.iconst 0, 1) := by decide +kernel
theorem dX4_init_6 : decode cX4_init 6 = .ok (.putfield 9, 3) := by decide +kernel
theorem dX4_init_9 : decode cX4_init 9 = .ok (.aload_n 0, 1) := by decide +kernel
theorem dX4_init_10 : decode cX4_init 10 = .ok (.iconst 0, 1) := by decide +kernel
theorem dX4_init_11 : decode cX4_init 11 = .ok (.putfield 15, 3) := by decide +kernel
theorem dX4_init_14 : decode cX4_init 14 = .ok (.aload_n 0, 1) := by decide +kernel
theorem dX4_init_15 : decode cX4_init 15 = .ok (.iconst 0, 1) := by decide +kernel
theorem dX4_init_16 : decode cX4_init 16 = .ok (.putfield 18, 3) := by decide +kernel
theorem dX4_init_19 : decode cX4_init 19 = .ok (.aload_n 0, 1) := by decide +kernel
theorem dX4_init_20 : decode cX4_init 20 = .ok (.bipush (-9), 2) := by decide +kernel
theorem dX4_init_22 : decode cX4_init 22 = .ok (.putfield 21, 3) := by decide +kernel
theorem dX4_init_25 : decode cX4_init 25 = .ok (.aload_n 0, 1) := by decide +kernel
theorem dX4_init_26 : decode cX4_init 26 = .ok (.iconst 0, 1) := by decide +kernel
theorem dX4_init_27 : decode cX4_init 27 = .ok (.putfield 24, 3) := by decide +kernel
theorem dX4_init_30 : decode cX4_init 30 = .ok (.return_, 1) := by decide +kernel
theorem dX4_open_0 : decode cX4_open 0 = .ok (.aload_n 0, 1) := by decide +kernel
theorem dX4_open_1 : decode cX4_open 1 = .ok (.iconst 0, 1) := by decide +kernel
theorem dX4_open_2 : decode cX4_open 2 = .ok (.putfield 9, 3) := by decide +kernel
theorem dX4_open_5 : decode cX4_open 5 = .ok (.aload_n 0, 1) := by decide +kernel
theorem dX4_open_6 : decode cX4_open 6 = .ok (.iconst 0, 1) := by decide +kernel
theorem dX4_open_7 : decode cX4_open 7 = .ok (.putfield 15, 3) := by decide +kernel
theorem dX4_open_10 : decode cX4_open 10 = .ok (.return_, 1) := by decide +kernel
theorem dX4_meets_0 : decode cX4_meets 0 = .ok (.aload_n 1, 1) := by decide +kernel
theorem dX4_meets_1 : decode cX4_meets 1 = .ok (.invokevirtual 27, 3) := by decide +kernel
theorem dX4_meets_4 : decode cX4_meets 4 = .ok (.ifCond .eq 33, 3) := by decide +kernel
theorem dX4_meets_7 : decode cX4_meets 7 = .ok (.aload_n 0, 1) := by decide +kernel
theorem dX4_meets_8 : decode cX4_meets 8 = .ok (.aload_n 0, 1) := by decide +kernel
theorem dX4_meets_9 : decode cX4_meets 9 = .ok (.getfield 9, 3) := by decide +kernel
theorem dX4_meets_12 : decode cX4_meets 12 = .ok (.aload_n 1, 1) := by decide +kernel
theorem dX4_meets_13 : decode cX4_meets 13 = .ok (.getfield 33, 3) := by decide +kernel
theorem dX4_meets_16 : decode cX4_meets 16 = .ok (.invokestatic 36, 3) := by decide +kernel
theorem dX4_meets_19 : decode cX4_meets 19 = .ok (.putfield 9, 3) := by decide +kernel
theorem dX4_meets_22 : decode cX4_meets 22 = .ok (.aload_n 0, 1) := by decide +kernel
theorem dX4_meets_23 : decode cX4_meets 23 = .ok (.aload_n 0, 1) := by decide +kernel
theorem dX4_meets_24 : decode cX4_meets 24 = .ok (.getfield 15, 3) := by decide +kernel
theorem dX4_meets_27 : decode cX4_meets 27 = .ok (.aload_n 1, 1) := by decide +kernel
theorem dX4_meets_28 : decode cX4_meets 28 = .ok (.getfield 42, 3) := by decide +kernel
theorem dX4_meets_31 : decode cX4_meets 31 = .ok (.invokestatic 45, 3) := by decide +kernel
theorem dX4_meets_34 : decode cX4_meets 34 = .ok (.putfield 15, 3) := by decide +kernel
theorem dX4_meets_37 : decode cX4_meets 37 = .ok (.aload_n 0, 1) := by decide +kernel
theorem dX4_meets_38 : decode cX4_meets 38 = .ok (.getfield 9, 3) := by decide +kernel
theorem dX4_meets_41 : decode cX4_meets 41 = .ok (.aload_n 0, 1) := by decide +kernel
theorem dX4_meets_42 : decode cX4_meets 42 = .ok (.getfield 15, 3) := by decide +kernel
theorem dX4_meets_45 : decode cX4_meets 45 = .ok (.if_icmp .gt 7, 3) := by decide +kernel
theorem dX4_meets_48 : decode cX4_meets 48 = .ok (.iconst 1, 1) := by decide +kernel
theorem dX4_meets_49 : decode cX4_meets 49 = .ok (.goto 4, 3) := by decide +kernel
theorem dX4_meets_52 : decode cX4_meets 52 = .ok (.iconst 0, 1) := by decide +kernel
theorem dX4_meets_53 : decode cX4_meets 53 = .ok (.ireturn, 1) := by decide +kernel
theorem dX4_pass_0 : decode cX4_pass 0 = .ok (.aload_n 0, 1) := by decide +kernel
theorem dX4_pass_1 : decode cX4_pass 1 = .ok (.dup, 1) := by decide +kernel
theorem dX4_pass_2 : decode cX4_pass 2 = .ok (.getfield 9, 3) := by decide +kernel
theorem dX4_pass_5 : decode cX4_pass 5 = .ok (.iload_n 1, 1) := by decide +kernel
theorem dX4_pass_6 : decode cX4_pass 6 = .ok (.iadd, 1) := by decide +kernel
theorem dX4_pass_7 : decode cX4_pass 7 = .ok (.putfield 9, 3) := by decide +kernel
theorem dX4_pass_10 : decode cX4_pass 10 = .ok (.aload_n 0, 1) := by decide +kernel
theorem dX4_pass_11 : decode cX4_pass 11 = .ok (.dup, 1) := by decide +kernel
theorem dX4_pass_12 : decode cX4_pass 12 = .ok (.getfield 15, 3) := by decide +kernel
theorem dX4_pass_15 : decode cX4_pass 15 = .ok (.iload_n 2, 1) := by decide +kernel
theorem dX4_pass_16 : decode cX4_pass 16 = .ok (.iadd, 1) := by decide +kernel
theorem dX4_pass_17 : decode cX4_pass 17 = .ok (.putfield 15, 3) := by decide +kernel
theorem dX4_pass_20 : decode cX4_pass 20 = .ok (.return_, 1) := by decide +kernel
theorem dX4_canStay_0 : decode cX4_canStay 0 = .ok (.aload_n 1, 1) := by decide +kernel
theorem dX4_canStay_1 : decode cX4_canStay 1 = .ok (.getfield 48, 3) := by decide +kernel
theorem dX4_canStay_4 : decode cX4_canStay 4 = .ok (.iload_n 2, 1) := by decide +kernel
theorem dX4_canStay_5 : decode cX4_canStay 5 = .ok (.iconst (-1), 1) := by decide +kernel
theorem dX4_canStay_6 : decode cX4_canStay 6 = .ok (.ixor, 1) := by decide +kernel
theorem dX4_canStay_7 : decode cX4_canStay 7 = .ok (.iand, 1) := by decide +kernel
theorem dX4_canStay_8 : decode cX4_canStay 8 = .ok (.ifCond .ne 15, 3) := by decide +kernel
theorem dX4_canStay_11 : decode cX4_canStay 11 = .ok (.aload_n 0, 1) := by decide +kernel
theorem dX4_canStay_12 : decode cX4_canStay 12 = .ok (.aload_n 1, 1) := by decide +kernel
theorem dX4_canStay_13 : decode cX4_canStay 13 = .ok (.invokevirtual 51, 3) := by decide +kernel
theorem dX4_canStay_16 : decode cX4_canStay 16 = .ok (.ifCond .eq 7, 3) := by decide +kernel
theorem dX4_canStay_19 : decode cX4_canStay 19 = .ok (.iconst 1, 1) := by decide +kernel
theorem dX4_canStay_20 : decode cX4_canStay 20 = .ok (.goto 4, 3) := by decide +kernel
theorem dX4_canStay_23 : decode cX4_canStay 23 = .ok (.iconst 0, 1) := by decide +kernel
theorem dX4_canStay_24 : decode cX4_canStay 24 = .ok (.ireturn, 1) := by decide +kernel
theorem dX4_isGood_0 : decode cX4_isGood 0 = .ok (.aload_n 0, 1) := by decide +kernel
theorem dX4_isGood_1 : decode cX4_isGood 1 = .ok (.invokevirtual 55, 3) := by decide +kernel
theorem dX4_isGood_4 : decode cX4_isGood 4 = .ok (.iconst 0, 1) := by decide +kernel
theorem dX4_isGood_5 : decode cX4_isGood 5 = .ok (.istore 5, 2) := by decide +kernel
theorem dX4_isGood_7 : decode cX4_isGood 7 = .ok (.iconst 0, 1) := by decide +kernel
theorem dX4_isGood_8 : decode cX4_isGood 8 = .ok (.istore 6, 2) := by decide +kernel
theorem dX4_isGood_10 : decode cX4_isGood 10 = .ok (.iload 6, 2) := by decide +kernel
theorem dX4_isGood_12 : decode cX4_isGood 12 = .ok (.aload_n 1, 1) := by decide +kernel
theorem dX4_isGood_13 : decode cX4_isGood 13 = .ok (.getfield 58, 3) := by decide +kernel
theorem dX4_isGood_16 : decode cX4_isGood 16 = .ok (.if_icmp .ge 130, 3) := by decide +kernel
theorem dX4_isGood_19 : decode cX4_isGood 19 = .ok (.aload_n 1, 1) := by decide +kernel
theorem dX4_isGood_20 : decode cX4_isGood 20 = .ok (.getfield 63, 3) := by decide +kernel
theorem dX4_isGood_23 : decode cX4_isGood 23 = .ok (.iload 6, 2) := by decide +kernel
theorem dX4_isGood_25 : decode cX4_isGood 25 = .ok (.aaload, 1) := by decide +kernel
theorem dX4_isGood_26 : decode cX4_isGood 26 = .ok (.astore 7, 2) := by decide +kernel
theorem dX4_isGood_28 : decode cX4_isGood 28 = .ok (.iload_n 2, 1) := by decide +kernel
theorem dX4_isGood_29 : decode cX4_isGood 29 = .ok (.iload 6, 2) := by decide +kernel
theorem dX4_isGood_31 : decode cX4_isGood 31 = .ok (.ishr, 1) := by decide +kernel
theorem dX4_isGood_32 : decode cX4_isGood 32 = .ok (.iconst 1, 1) := by decide +kernel
theorem dX4_isGood_33 : decode cX4_isGood 33 = .ok (.iand, 1) := by decide +kernel
theorem dX4_isGood_34 : decode cX4_isGood 34 = .ok (.ifCond .eq 7, 3) := by decide +kernel
theorem dX4_isGood_37 : decode cX4_isGood 37 = .ok (.iconst 1, 1) := by decide +kernel
theorem dX4_isGood_38 : decode cX4_isGood 38 = .ok (.goto 4, 3) := by decide +kernel
theorem dX4_isGood_41 : decode cX4_isGood 41 = .ok (.iconst 0, 1) := by decide +kernel
theorem dX4_isGood_42 : decode cX4_isGood 42 = .ok (.istore 8, 2) := by decide +kernel
theorem dX4_isGood_44 : decode cX4_isGood 44 = .ok (.iload 8, 2) := by decide +kernel
theorem dX4_isGood_46 : decode cX4_isGood 46 = .ok (.ifCond .eq 14, 3) := by decide +kernel
theorem dX4_isGood_49 : decode cX4_isGood 49 = .ok (.aload 7, 2) := by decide +kernel
theorem dX4_isGood_51 : decode cX4_isGood 51 = .ok (.invokevirtual 67, 3) := by decide +kernel
theorem dX4_isGood_54 : decode cX4_isGood 54 = .ok (.ifCond .ne 19, 3) := by decide +kernel
theorem dX4_isGood_57 : decode cX4_isGood 57 = .ok (.goto 14, 3) := by decide +kernel
theorem dX4_isGood_60 : decode cX4_isGood 60 = .ok (.aload_n 0, 1) := by decide +kernel
theorem dX4_isGood_61 : decode cX4_isGood 61 = .ok (.aload 7, 2) := by decide +kernel
theorem dX4_isGood_63 : decode cX4_isGood 63 = .ok (.iload 5, 2) := by decide +kernel
theorem dX4_isGood_65 : decode cX4_isGood 65 = .ok (.invokevirtual 70, 3) := by decide +kernel
theorem dX4_isGood_68 : decode cX4_isGood 68 = .ok (.ifCond .ne 5, 3) := by decide +kernel
theorem dX4_isGood_71 : decode cX4_isGood 71 = .ok (.iconst 0, 1) := by decide +kernel
theorem dX4_isGood_72 : decode cX4_isGood 72 = .ok (.ireturn, 1) := by decide +kernel
theorem dX4_isGood_73 : decode cX4_isGood 73 = .ok (.iload 8, 2) := by decide +kernel
theorem dX4_isGood_75 : decode cX4_isGood 75 = .ok (.ifCond .ne 65, 3) := by decide +kernel
theorem dX4_isGood_78 : decode cX4_isGood 78 = .ok (.iload 6, 2) := by decide +kernel
theorem dX4_isGood_80 : decode cX4_isGood 80 = .ok (.iload_n 3, 1) := by decide +kernel
theorem dX4_isGood_81 : decode cX4_isGood 81 = .ok (.if_icmp .ne 11, 3) := by decide +kernel
theorem dX4_isGood_84 : decode cX4_isGood 84 = .ok (.aload 7, 2) := by decide +kernel
theorem dX4_isGood_86 : decode cX4_isGood 86 = .ok (.getfield 74, 3) := by decide +kernel
theorem dX4_isGood_89 : decode cX4_isGood 89 = .ok (.goto 8, 3) := by decide +kernel
theorem dX4_isGood_92 : decode cX4_isGood 92 = .ok (.aload 7, 2) := by decide +kernel
theorem dX4_isGood_94 : decode cX4_isGood 94 = .ok (.getfield 77, 3) := by decide +kernel
theorem dX4_isGood_97 : decode cX4_isGood 97 = .ok (.istore 9, 2) := by decide +kernel
theorem dX4_isGood_99 : decode cX4_isGood 99 = .ok (.iload 6, 2) := by decide +kernel
theorem dX4_isGood_101 : decode cX4_isGood 101 = .ok (.iload_n 3, 1) := by decide +kernel
theorem dX4_isGood_102 : decode cX4_isGood 102 = .ok (.if_icmp .ne 8, 3) := by decide +kernel
theorem dX4_isGood_105 : decode cX4_isGood 105 = .ok (.iload 4, 2) := by decide +kernel
theorem dX4_isGood_107 : decode cX4_isGood 107 = .ok (.goto 4, 3) := by decide +kernel
theorem dX4_isGood_110 : decode cX4_isGood 110 = .ok (.iconst 0, 1) := by decide +kernel
theorem dX4_isGood_111 : decode cX4_isGood 111 = .ok (.istore 10, 2) := by decide +kernel
theorem dX4_isGood_113 : decode cX4_isGood 113 = .ok (.aload_n 0, 1) := by decide +kernel
theorem dX4_isGood_114 : decode cX4_isGood 114 = .ok (.aload 7, 2) := by decide +kernel
theorem dX4_isGood_116 : decode cX4_isGood 116 = .ok (.getfield 74, 3) := by decide +kernel
theorem dX4_isGood_119 : decode cX4_isGood 119 = .ok (.iload 10, 2) := by decide +kernel
theorem dX4_isGood_121 : decode cX4_isGood 121 = .ok (.iadd, 1) := by decide +kernel
theorem dX4_isGood_122 : decode cX4_isGood 122 = .ok (.iload 9, 2) := by decide +kernel
theorem dX4_isGood_124 : decode cX4_isGood 124 = .ok (.iload 10, 2) := by decide +kernel
theorem dX4_isGood_126 : decode cX4_isGood 126 = .ok (.iadd, 1) := by decide +kernel
theorem dX4_isGood_127 : decode cX4_isGood 127 = .ok (.invokevirtual 80, 3) := by decide +kernel
theorem dX4_isGood_130 : decode cX4_isGood 130 = .ok (.iload 5, 2) := by decide +kernel
theorem dX4_isGood_132 : decode cX4_isGood 132 = .ok (.aload 7, 2) := by decide +kernel
theorem dX4_isGood_134 : decode cX4_isGood 134 = .ok (.getfield 84, 3) := by decide +kernel
theorem dX4_isGood_137 : decode cX4_isGood 137 = .ok (.ior, 1) := by decide +kernel
theorem dX4_isGood_138 : decode cX4_isGood 138 = .ok (.istore 5, 2) := by decide +kernel
theorem dX4_isGood_140 : decode cX4_isGood 140 = .ok (.iinc 6 1, 3) := by decide +kernel
theorem dX4_isGood_143 : decode cX4_isGood 143 = .ok (.goto (-133), 3) := by decide +kernel
theorem dX4_isGood_146 : decode cX4_isGood 146 = .ok (.iconst 1, 1) := by decide +kernel
theorem dX4_isGood_147 : decode cX4_isGood 147 = .ok (.ireturn, 1) := by decide +kernel
theorem dX4_leastCut_0 : decode cX4_leastCut 0 = .ok (.aload_n 0, 1) := by decide +kernel
theorem dX4_leastCut_1 : decode cX4_leastCut 1 = .ok (.invokevirtual 55, 3) := by decide +kernel
theorem dX4_leastCut_4 : decode cX4_leastCut 4 = .ok (.aload_n 0, 1) := by decide +kernel
theorem dX4_leastCut_5 : decode cX4_leastCut 5 = .ok (.bipush (-9), 2) := by decide +kernel
theorem dX4_leastCut_7 : decode cX4_leastCut 7 = .ok (.putfield 21, 3) := by decide +kernel
theorem dX4_leastCut_10 : decode cX4_leastCut 10 = .ok (.aload_n 0, 1) := by decide +kernel
theorem dX4_leastCut_11 : decode cX4_leastCut 11 = .ok (.ldc 87, 2) := by decide +kernel
theorem dX4_leastCut_13 : decode cX4_leastCut 13 = .ok (.putfield 18, 3) := by decide +kernel
theorem dX4_leastCut_16 : decode cX4_leastCut 16 = .ok (.aload_n 0, 1) := by decide +kernel
theorem dX4_leastCut_17 : decode cX4_leastCut 17 = .ok (.aload_n 1, 1) := by decide +kernel
theorem dX4_leastCut_18 : decode cX4_leastCut 18 = .ok (.iconst 0, 1) := by decide +kernel
theorem dX4_leastCut_19 : decode cX4_leastCut 19 = .ok (.iconst 0, 1) := by decide +kernel
theorem dX4_leastCut_20 : decode cX4_leastCut 20 = .ok (.iconst 0, 1) := by decide +kernel
theorem dX4_leastCut_21 : decode cX4_leastCut 21 = .ok (.iconst 0, 1) := by decide +kernel
theorem dX4_leastCut_22 : decode cX4_leastCut 22 = .ok (.invokestatic 88, 3) := by decide +kernel
theorem dX4_leastCut_25 : decode cX4_leastCut 25 = .ok (.aload_n 0, 1) := by decide +kernel
theorem dX4_leastCut_26 : decode cX4_leastCut 26 = .ok (.getfield 21, 3) := by decide +kernel
theorem dX4_leastCut_29 : decode cX4_leastCut 29 = .ok (.ireturn, 1) := by decide +kernel
theorem dX4_cutFrom_0 : decode cX4_cutFrom 0 = .ok (.iload 4, 2) := by decide +kernel
theorem dX4_cutFrom_2 : decode cX4_cutFrom 2 = .ok (.aload_n 0, 1) := by decide +kernel
theorem dX4_cutFrom_3 : decode cX4_cutFrom 3 = .ok (.getfield 18, 3) := by decide +kernel
theorem dX4_cutFrom_6 : decode cX4_cutFrom 6 = .ok (.if_icmp .le 4, 3) := by decide +kernel
theorem dX4_cutFrom_9 : decode cX4_cutFrom 9 = .ok (.return_, 1) := by decide +kernel
theorem dX4_cutFrom_10 : decode cX4_cutFrom 10 = .ok (.aload_n 1, 1) := by decide +kernel
theorem dX4_cutFrom_11 : decode cX4_cutFrom 11 = .ok (.iload_n 2, 1) := by decide +kernel
theorem dX4_cutFrom_12 : decode cX4_cutFrom 12 = .ok (.invokevirtual 92, 3) := by decide +kernel
theorem dX4_cutFrom_15 : decode cX4_cutFrom 15 = .ok (.ifCond .ne 35, 3) := by decide +kernel
theorem dX4_cutFrom_18 : decode cX4_cutFrom 18 = .ok (.aload_n 0, 1) := by decide +kernel
theorem dX4_cutFrom_19 : decode cX4_cutFrom 19 = .ok (.iload 4, 2) := by decide +kernel
theorem dX4_cutFrom_21 : decode cX4_cutFrom 21 = .ok (.aload_n 0, 1) := by decide +kernel
theorem dX4_cutFrom_22 : decode cX4_cutFrom 22 = .ok (.getfield 18, 3) := by decide +kernel
theorem dX4_cutFrom_25 : decode cX4_cutFrom 25 = .ok (.if_icmp .ge 7, 3) := by decide +kernel
theorem dX4_cutFrom_28 : decode cX4_cutFrom 28 = .ok (.iload_n 3, 1) := by decide +kernel
theorem dX4_cutFrom_29 : decode cX4_cutFrom 29 = .ok (.goto 11, 3) := by decide +kernel
theorem dX4_cutFrom_32 : decode cX4_cutFrom 32 = .ok (.iload_n 3, 1) := by decide +kernel
theorem dX4_cutFrom_33 : decode cX4_cutFrom 33 = .ok (.aload_n 0, 1) := by decide +kernel
theorem dX4_cutFrom_34 : decode cX4_cutFrom 34 = .ok (.getfield 21, 3) := by decide +kernel
theorem dX4_cutFrom_37 : decode cX4_cutFrom 37 = .ok (.invokestatic 45, 3) := by decide +kernel
theorem dX4_cutFrom_40 : decode cX4_cutFrom 40 = .ok (.putfield 21, 3) := by decide +kernel
theorem dX4_cutFrom_43 : decode cX4_cutFrom 43 = .ok (.aload_n 0, 1) := by decide +kernel
theorem dX4_cutFrom_44 : decode cX4_cutFrom 44 = .ok (.iload 4, 2) := by decide +kernel
theorem dX4_cutFrom_46 : decode cX4_cutFrom 46 = .ok (.putfield 18, 3) := by decide +kernel
theorem dX4_cutFrom_49 : decode cX4_cutFrom 49 = .ok (.return_, 1) := by decide +kernel
theorem dX4_cutFrom_50 : decode cX4_cutFrom 50 = .ok (.aload_n 1, 1) := by decide +kernel
theorem dX4_cutFrom_51 : decode cX4_cutFrom 51 = .ok (.getfield 63, 3) := by decide +kernel
theorem dX4_cutFrom_54 : decode cX4_cutFrom 54 = .ok (.iload_n 2, 1) := by decide +kernel
theorem dX4_cutFrom_55 : decode cX4_cutFrom 55 = .ok (.aaload, 1) := by decide +kernel
theorem dX4_cutFrom_56 : decode cX4_cutFrom 56 = .ok (.astore 6, 2) := by decide +kernel
theorem dX4_cutFrom_58 : decode cX4_cutFrom 58 = .ok (.aload_n 0, 1) := by decide +kernel
theorem dX4_cutFrom_59 : decode cX4_cutFrom 59 = .ok (.getfield 9, 3) := by decide +kernel
theorem dX4_cutFrom_62 : decode cX4_cutFrom 62 = .ok (.istore 7, 2) := by decide +kernel
theorem dX4_cutFrom_64 : decode cX4_cutFrom 64 = .ok (.aload_n 0, 1) := by decide +kernel
theorem dX4_cutFrom_65 : decode cX4_cutFrom 65 = .ok (.getfield 15, 3) := by decide +kernel
theorem dX4_cutFrom_68 : decode cX4_cutFrom 68 = .ok (.istore 8, 2) := by decide +kernel
theorem dX4_cutFrom_70 : decode cX4_cutFrom 70 = .ok (.aload_n 0, 1) := by decide +kernel
theorem dX4_cutFrom_71 : decode cX4_cutFrom 71 = .ok (.aload 6, 2) := by decide +kernel
theorem dX4_cutFrom_73 : decode cX4_cutFrom 73 = .ok (.iload 5, 2) := by decide +kernel
theorem dX4_cutFrom_75 : decode cX4_cutFrom 75 = .ok (.invokevirtual 70, 3) := by decide +kernel
theorem dX4_cutFrom_78 : decode cX4_cutFrom 78 = .ok (.ifCond .eq 36, 3) := by decide +kernel
theorem dX4_cutFrom_81 : decode cX4_cutFrom 81 = .ok (.aload_n 0, 1) := by decide +kernel
theorem dX4_cutFrom_82 : decode cX4_cutFrom 82 = .ok (.aload 6, 2) := by decide +kernel
theorem dX4_cutFrom_84 : decode cX4_cutFrom 84 = .ok (.getfield 74, 3) := by decide +kernel
theorem dX4_cutFrom_87 : decode cX4_cutFrom 87 = .ok (.aload 6, 2) := by decide +kernel
theorem dX4_cutFrom_89 : decode cX4_cutFrom 89 = .ok (.getfield 77, 3) := by decide +kernel
theorem dX4_cutFrom_92 : decode cX4_cutFrom 92 = .ok (.invokevirtual 80, 3) := by decide +kernel
theorem dX4_cutFrom_95 : decode cX4_cutFrom 95 = .ok (.aload_n 0, 1) := by decide +kernel
theorem dX4_cutFrom_96 : decode cX4_cutFrom 96 = .ok (.aload_n 1, 1) := by decide +kernel
theorem dX4_cutFrom_97 : decode cX4_cutFrom 97 = .ok (.iload_n 2, 1) := by decide +kernel
theorem dX4_cutFrom_98 : decode cX4_cutFrom 98 = .ok (.iconst 1, 1) := by decide +kernel
theorem dX4_cutFrom_99 : decode cX4_cutFrom 99 = .ok (.iadd, 1) := by decide +kernel
theorem dX4_cutFrom_100 : decode cX4_cutFrom 100 = .ok (.iload_n 3, 1) := by decide +kernel
theorem dX4_cutFrom_101 : decode cX4_cutFrom 101 = .ok (.iload 4, 2) := by decide +kernel
theorem dX4_cutFrom_103 : decode cX4_cutFrom 103 = .ok (.iload 5, 2) := by decide +kernel
theorem dX4_cutFrom_105 : decode cX4_cutFrom 105 = .ok (.aload 6, 2) := by decide +kernel
theorem dX4_cutFrom_107 : decode cX4_cutFrom 107 = .ok (.getfield 84, 3) := by decide +kernel
theorem dX4_cutFrom_110 : decode cX4_cutFrom 110 = .ok (.ior, 1) := by decide +kernel
theorem dX4_cutFrom_111 : decode cX4_cutFrom 111 = .ok (.invokestatic 88, 3) := by decide +kernel
theorem dX4_cutFrom_114 : decode cX4_cutFrom 114 = .ok (.aload_n 0, 1) := by decide +kernel
theorem dX4_cutFrom_115 : decode cX4_cutFrom 115 = .ok (.iload 7, 2) := by decide +kernel
theorem dX4_cutFrom_117 : decode cX4_cutFrom 117 = .ok (.putfield 9, 3) := by decide +kernel
theorem dX4_cutFrom_120 : decode cX4_cutFrom 120 = .ok (.aload_n 0, 1) := by decide +kernel
theorem dX4_cutFrom_121 : decode cX4_cutFrom 121 = .ok (.iload 8, 2) := by decide +kernel
theorem dX4_cutFrom_123 : decode cX4_cutFrom 123 = .ok (.putfield 15, 3) := by decide +kernel
theorem dX4_cutFrom_126 : decode cX4_cutFrom 126 = .ok (.aload 6, 2) := by decide +kernel
theorem dX4_cutFrom_128 : decode cX4_cutFrom 128 = .ok (.invokevirtual 67, 3) := by decide +kernel
theorem dX4_cutFrom_131 : decode cX4_cutFrom 131 = .ok (.ifCond .eq 26, 3) := by decide +kernel
theorem dX4_cutFrom_134 : decode cX4_cutFrom 134 = .ok (.aload_n 0, 1) := by decide +kernel
theorem dX4_cutFrom_135 : decode cX4_cutFrom 135 = .ok (.aload_n 1, 1) := by decide +kernel
theorem dX4_cutFrom_136 : decode cX4_cutFrom 136 = .ok (.iload_n 2, 1) := by decide +kernel
theorem dX4_cutFrom_137 : decode cX4_cutFrom 137 = .ok (.iconst 1, 1) := by decide +kernel
theorem dX4_cutFrom_138 : decode cX4_cutFrom 138 = .ok (.iadd, 1) := by decide +kernel
theorem dX4_cutFrom_139 : decode cX4_cutFrom 139 = .ok (.iload_n 3, 1) := by decide +kernel
theorem dX4_cutFrom_140 : decode cX4_cutFrom 140 = .ok (.iconst 1, 1) := by decide +kernel
theorem dX4_cutFrom_141 : decode cX4_cutFrom 141 = .ok (.iload_n 2, 1) := by decide +kernel
theorem dX4_cutFrom_142 : decode cX4_cutFrom 142 = .ok (.ishl, 1) := by decide +kernel
theorem dX4_cutFrom_143 : decode cX4_cutFrom 143 = .ok (.ior, 1) := by decide +kernel
theorem dX4_cutFrom_144 : decode cX4_cutFrom 144 = .ok (.iload 4, 2) := by decide +kernel
theorem dX4_cutFrom_146 : decode cX4_cutFrom 146 = .ok (.aload 6, 2) := by decide +kernel
theorem dX4_cutFrom_148 : decode cX4_cutFrom 148 = .ok (.getfield 74, 3) := by decide +kernel
theorem dX4_cutFrom_151 : decode cX4_cutFrom 151 = .ok (.iadd, 1) := by decide +kernel
theorem dX4_cutFrom_152 : decode cX4_cutFrom 152 = .ok (.iload 5, 2) := by decide +kernel
theorem dX4_cutFrom_154 : decode cX4_cutFrom 154 = .ok (.invokestatic 88, 3) := by decide +kernel
theorem dX4_cutFrom_157 : decode cX4_cutFrom 157 = .ok (.return_, 1) := by decide +kernel
theorem dX4_canBegin_0 : decode cX4_canBegin 0 = .ok (.aload_n 1, 1) := by decide +kernel
theorem dX4_canBegin_1 : decode cX4_canBegin 1 = .ok (.iload_n 3, 1) := by decide +kernel
theorem dX4_canBegin_2 : decode cX4_canBegin 2 = .ok (.invokevirtual 92, 3) := by decide +kernel
theorem dX4_canBegin_5 : decode cX4_canBegin 5 = .ok (.ifCond .eq 11, 3) := by decide +kernel
theorem dX4_canBegin_8 : decode cX4_canBegin 8 = .ok (.iload_n 2, 1) := by decide +kernel
theorem dX4_canBegin_9 : decode cX4_canBegin 9 = .ok (.iload_n 3, 1) := by decide +kernel
theorem dX4_canBegin_10 : decode cX4_canBegin 10 = .ok (.ishr, 1) := by decide +kernel
theorem dX4_canBegin_11 : decode cX4_canBegin 11 = .ok (.iconst 1, 1) := by decide +kernel
theorem dX4_canBegin_12 : decode cX4_canBegin 12 = .ok (.iand, 1) := by decide +kernel
theorem dX4_canBegin_13 : decode cX4_canBegin 13 = .ok (.ifCond .eq 5, 3) := by decide +kernel
theorem dX4_canBegin_16 : decode cX4_canBegin 16 = .ok (.iconst 0, 1) := by decide +kernel
theorem dX4_canBegin_17 : decode cX4_canBegin 17 = .ok (.ireturn, 1) := by decide +kernel
theorem dX4_canBegin_18 : decode cX4_canBegin 18 = .ok (.aload_n 0, 1) := by decide +kernel
theorem dX4_canBegin_19 : decode cX4_canBegin 19 = .ok (.invokevirtual 55, 3) := by decide +kernel
theorem dX4_canBegin_22 : decode cX4_canBegin 22 = .ok (.iconst 0, 1) := by decide +kernel
theorem dX4_canBegin_23 : decode cX4_canBegin 23 = .ok (.istore 4, 2) := by decide +kernel
theorem dX4_canBegin_25 : decode cX4_canBegin 25 = .ok (.iload 4, 2) := by decide +kernel
theorem dX4_canBegin_27 : decode cX4_canBegin 27 = .ok (.iload_n 3, 1) := by decide +kernel
theorem dX4_canBegin_28 : decode cX4_canBegin 28 = .ok (.if_icmp .ge 52, 3) := by decide +kernel
theorem dX4_canBegin_31 : decode cX4_canBegin 31 = .ok (.aload_n 1, 1) := by decide +kernel
theorem dX4_canBegin_32 : decode cX4_canBegin 32 = .ok (.getfield 63, 3) := by decide +kernel
theorem dX4_canBegin_35 : decode cX4_canBegin 35 = .ok (.iload 4, 2) := by decide +kernel
theorem dX4_canBegin_37 : decode cX4_canBegin 37 = .ok (.aaload, 1) := by decide +kernel
theorem dX4_canBegin_38 : decode cX4_canBegin 38 = .ok (.astore 5, 2) := by decide +kernel
theorem dX4_canBegin_40 : decode cX4_canBegin 40 = .ok (.iload_n 2, 1) := by decide +kernel
theorem dX4_canBegin_41 : decode cX4_canBegin 41 = .ok (.iload 4, 2) := by decide +kernel
theorem dX4_canBegin_43 : decode cX4_canBegin 43 = .ok (.ishr, 1) := by decide +kernel
theorem dX4_canBegin_44 : decode cX4_canBegin 44 = .ok (.iconst 1, 1) := by decide +kernel
theorem dX4_canBegin_45 : decode cX4_canBegin 45 = .ok (.iand, 1) := by decide +kernel
theorem dX4_canBegin_46 : decode cX4_canBegin 46 = .ok (.ifCond .ne 28, 3) := by decide +kernel
theorem dX4_canBegin_49 : decode cX4_canBegin 49 = .ok (.aload_n 0, 1) := by decide +kernel
theorem dX4_canBegin_50 : decode cX4_canBegin 50 = .ok (.aload 5, 2) := by decide +kernel
theorem dX4_canBegin_52 : decode cX4_canBegin 52 = .ok (.invokevirtual 51, 3) := by decide +kernel
theorem dX4_canBegin_55 : decode cX4_canBegin 55 = .ok (.ifCond .ne 5, 3) := by decide +kernel
theorem dX4_canBegin_58 : decode cX4_canBegin 58 = .ok (.iconst 0, 1) := by decide +kernel
theorem dX4_canBegin_59 : decode cX4_canBegin 59 = .ok (.ireturn, 1) := by decide +kernel
theorem dX4_canBegin_60 : decode cX4_canBegin 60 = .ok (.aload_n 0, 1) := by decide +kernel
theorem dX4_canBegin_61 : decode cX4_canBegin 61 = .ok (.aload 5, 2) := by decide +kernel
theorem dX4_canBegin_63 : decode cX4_canBegin 63 = .ok (.getfield 74, 3) := by decide +kernel
theorem dX4_canBegin_66 : decode cX4_canBegin 66 = .ok (.aload 5, 2) := by decide +kernel
theorem dX4_canBegin_68 : decode cX4_canBegin 68 = .ok (.getfield 77, 3) := by decide +kernel
theorem dX4_canBegin_71 : decode cX4_canBegin 71 = .ok (.invokevirtual 80, 3) := by decide +kernel
theorem dX4_canBegin_74 : decode cX4_canBegin 74 = .ok (.iinc 4 1, 3) := by decide +kernel
theorem dX4_canBegin_77 : decode cX4_canBegin 77 = .ok (.goto (-52), 3) := by decide +kernel
theorem dX4_canBegin_80 : decode cX4_canBegin 80 = .ok (.aload_n 0, 1) := by decide +kernel
theorem dX4_canBegin_81 : decode cX4_canBegin 81 = .ok (.aload_n 1, 1) := by decide +kernel
theorem dX4_canBegin_82 : decode cX4_canBegin 82 = .ok (.getfield 63, 3) := by decide +kernel
theorem dX4_canBegin_85 : decode cX4_canBegin 85 = .ok (.iload_n 3, 1) := by decide +kernel
theorem dX4_canBegin_86 : decode cX4_canBegin 86 = .ok (.aaload, 1) := by decide +kernel
theorem dX4_canBegin_87 : decode cX4_canBegin 87 = .ok (.invokevirtual 51, 3) := by decide +kernel
theorem dX4_canBegin_90 : decode cX4_canBegin 90 = .ok (.ireturn, 1) := by decide +kernel
theorem dX4_fewestThatShow_0 : decode cX4_fewestThatShow 0 = .ok (.aload_n 0, 1) := by decide +kernel
theorem dX4_fewestThatShow_1 : decode cX4_fewestThatShow 1 = .ok (.bipush (-9), 2) := by decide +kernel
theorem dX4_fewestThatShow_3 : decode cX4_fewestThatShow 3 = .ok (.putfield 21, 3) := by decide +kernel
theorem dX4_fewestThatShow_6 : decode cX4_fewestThatShow 6 = .ok (.aload_n 0, 1) := by decide +kernel
theorem dX4_fewestThatShow_7 : decode cX4_fewestThatShow 7 = .ok (.bipush 13, 2) := by decide +kernel
theorem dX4_fewestThatShow_9 : decode cX4_fewestThatShow 9 = .ok (.putfield 24, 3) := by decide +kernel
theorem dX4_fewestThatShow_12 : decode cX4_fewestThatShow 12 = .ok (.aload_n 0, 1) := by decide +kernel
theorem dX4_fewestThatShow_13 : decode cX4_fewestThatShow 13 = .ok (.ldc 87, 2) := by decide +kernel
theorem dX4_fewestThatShow_15 : decode cX4_fewestThatShow 15 = .ok (.putfield 18, 3) := by decide +kernel
theorem dX4_fewestThatShow_18 : decode cX4_fewestThatShow 18 = .ok (.aload_n 0, 1) := by decide +kernel
theorem dX4_fewestThatShow_19 : decode cX4_fewestThatShow 19 = .ok (.aload_n 1, 1) := by decide +kernel
theorem dX4_fewestThatShow_20 : decode cX4_fewestThatShow 20 = .ok (.iconst 0, 1) := by decide +kernel
theorem dX4_fewestThatShow_21 : decode cX4_fewestThatShow 21 = .ok (.iconst 0, 1) := by decide +kernel
theorem dX4_fewestThatShow_22 : decode cX4_fewestThatShow 22 = .ok (.iconst 0, 1) := by decide +kernel
theorem dX4_fewestThatShow_23 : decode cX4_fewestThatShow 23 = .ok (.iload_n 2, 1) := by decide +kernel
theorem dX4_fewestThatShow_24 : decode cX4_fewestThatShow 24 = .ok (.invokestatic 96, 3) := by decide +kernel
theorem dX4_fewestThatShow_27 : decode cX4_fewestThatShow 27 = .ok (.aload_n 0, 1) := by decide +kernel
theorem dX4_fewestThatShow_28 : decode cX4_fewestThatShow 28 = .ok (.getfield 21, 3) := by decide +kernel
theorem dX4_fewestThatShow_31 : decode cX4_fewestThatShow 31 = .ok (.ireturn, 1) := by decide +kernel
theorem dX4_showFrom_0 : decode cX4_showFrom 0 = .ok (.iload_n 3, 1) := by decide +kernel
theorem dX4_showFrom_1 : decode cX4_showFrom 1 = .ok (.invokestatic 99, 3) := by decide +kernel
theorem dX4_showFrom_4 : decode cX4_showFrom 4 = .ok (.aload_n 0, 1) := by decide +kernel
theorem dX4_showFrom_5 : decode cX4_showFrom 5 = .ok (.getfield 24, 3) := by decide +kernel
theorem dX4_showFrom_8 : decode cX4_showFrom 8 = .ok (.if_icmp .le 4, 3) := by decide +kernel
theorem dX4_showFrom_11 : decode cX4_showFrom 11 = .ok (.return_, 1) := by decide +kernel
theorem dX4_showFrom_12 : decode cX4_showFrom 12 = .ok (.iload 5, 2) := by decide +kernel
theorem dX4_showFrom_14 : decode cX4_showFrom 14 = .ok (.ifCond .ne 11, 3) := by decide +kernel
theorem dX4_showFrom_17 : decode cX4_showFrom 17 = .ok (.aload_n 0, 1) := by decide +kernel
theorem dX4_showFrom_18 : decode cX4_showFrom 18 = .ok (.iload_n 3, 1) := by decide +kernel
theorem dX4_showFrom_19 : decode cX4_showFrom 19 = .ok (.iload 4, 2) := by decide +kernel
theorem dX4_showFrom_21 : decode cX4_showFrom 21 = .ok (.invokevirtual 105, 3) := by decide +kernel
theorem dX4_showFrom_24 : decode cX4_showFrom 24 = .ok (.return_, 1) := by decide +kernel
theorem dX4_showFrom_25 : decode cX4_showFrom 25 = .ok (.aload_n 1, 1) := by decide +kernel
theorem dX4_showFrom_26 : decode cX4_showFrom 26 = .ok (.iload_n 2, 1) := by decide +kernel
theorem dX4_showFrom_27 : decode cX4_showFrom 27 = .ok (.invokevirtual 92, 3) := by decide +kernel
theorem dX4_showFrom_30 : decode cX4_showFrom 30 = .ok (.ifCond .ne 4, 3) := by decide +kernel
theorem dX4_showFrom_33 : decode cX4_showFrom 33 = .ok (.return_, 1) := by decide +kernel
theorem dX4_showFrom_34 : decode cX4_showFrom 34 = .ok (.aload_n 1, 1) := by decide +kernel
theorem dX4_showFrom_35 : decode cX4_showFrom 35 = .ok (.getfield 63, 3) := by decide +kernel
theorem dX4_showFrom_38 : decode cX4_showFrom 38 = .ok (.iload_n 2, 1) := by decide +kernel
theorem dX4_showFrom_39 : decode cX4_showFrom 39 = .ok (.aaload, 1) := by decide +kernel
theorem dX4_showFrom_40 : decode cX4_showFrom 40 = .ok (.astore 6, 2) := by decide +kernel
theorem dX4_showFrom_42 : decode cX4_showFrom 42 = .ok (.aload 6, 2) := by decide +kernel
theorem dX4_showFrom_44 : decode cX4_showFrom 44 = .ok (.getfield 84, 3) := by decide +kernel
theorem dX4_showFrom_47 : decode cX4_showFrom 47 = .ok (.iload 5, 2) := by decide +kernel
theorem dX4_showFrom_49 : decode cX4_showFrom 49 = .ok (.iand, 1) := by decide +kernel
theorem dX4_showFrom_50 : decode cX4_showFrom 50 = .ok (.ifCond .eq 34, 3) := by decide +kernel
theorem dX4_showFrom_53 : decode cX4_showFrom 53 = .ok (.aload_n 0, 1) := by decide +kernel
theorem dX4_showFrom_54 : decode cX4_showFrom 54 = .ok (.aload_n 1, 1) := by decide +kernel
theorem dX4_showFrom_55 : decode cX4_showFrom 55 = .ok (.iload_n 2, 1) := by decide +kernel
theorem dX4_showFrom_56 : decode cX4_showFrom 56 = .ok (.iconst 1, 1) := by decide +kernel
theorem dX4_showFrom_57 : decode cX4_showFrom 57 = .ok (.iadd, 1) := by decide +kernel
theorem dX4_showFrom_58 : decode cX4_showFrom 58 = .ok (.iload_n 3, 1) := by decide +kernel
theorem dX4_showFrom_59 : decode cX4_showFrom 59 = .ok (.iconst 1, 1) := by decide +kernel
theorem dX4_showFrom_60 : decode cX4_showFrom 60 = .ok (.iload_n 2, 1) := by decide +kernel
theorem dX4_showFrom_61 : decode cX4_showFrom 61 = .ok (.ishl, 1) := by decide +kernel
theorem dX4_showFrom_62 : decode cX4_showFrom 62 = .ok (.ior, 1) := by decide +kernel
theorem dX4_showFrom_63 : decode cX4_showFrom 63 = .ok (.iload 4, 2) := by decide +kernel
theorem dX4_showFrom_65 : decode cX4_showFrom 65 = .ok (.aload 6, 2) := by decide +kernel
theorem dX4_showFrom_67 : decode cX4_showFrom 67 = .ok (.getfield 74, 3) := by decide +kernel
theorem dX4_showFrom_70 : decode cX4_showFrom 70 = .ok (.iadd, 1) := by decide +kernel
theorem dX4_showFrom_71 : decode cX4_showFrom 71 = .ok (.iload 5, 2) := by decide +kernel
theorem dX4_showFrom_73 : decode cX4_showFrom 73 = .ok (.aload 6, 2) := by decide +kernel
theorem dX4_showFrom_75 : decode cX4_showFrom 75 = .ok (.getfield 84, 3) := by decide +kernel
theorem dX4_showFrom_78 : decode cX4_showFrom 78 = .ok (.iconst (-1), 1) := by decide +kernel
theorem dX4_showFrom_79 : decode cX4_showFrom 79 = .ok (.ixor, 1) := by decide +kernel
theorem dX4_showFrom_80 : decode cX4_showFrom 80 = .ok (.iand, 1) := by decide +kernel
theorem dX4_showFrom_81 : decode cX4_showFrom 81 = .ok (.invokestatic 96, 3) := by decide +kernel
theorem dX4_showFrom_84 : decode cX4_showFrom 84 = .ok (.aload_n 0, 1) := by decide +kernel
theorem dX4_showFrom_85 : decode cX4_showFrom 85 = .ok (.aload_n 1, 1) := by decide +kernel
theorem dX4_showFrom_86 : decode cX4_showFrom 86 = .ok (.iload_n 2, 1) := by decide +kernel
theorem dX4_showFrom_87 : decode cX4_showFrom 87 = .ok (.iconst 1, 1) := by decide +kernel
theorem dX4_showFrom_88 : decode cX4_showFrom 88 = .ok (.iadd, 1) := by decide +kernel
theorem dX4_showFrom_89 : decode cX4_showFrom 89 = .ok (.iload_n 3, 1) := by decide +kernel
theorem dX4_showFrom_90 : decode cX4_showFrom 90 = .ok (.iload 4, 2) := by decide +kernel
theorem dX4_showFrom_92 : decode cX4_showFrom 92 = .ok (.iload 5, 2) := by decide +kernel
theorem dX4_showFrom_94 : decode cX4_showFrom 94 = .ok (.invokestatic 96, 3) := by decide +kernel
theorem dX4_showFrom_97 : decode cX4_showFrom 97 = .ok (.return_, 1) := by decide +kernel
theorem dX4_keepBetter_0 : decode cX4_keepBetter 0 = .ok (.iload_n 1, 1) := by decide +kernel
theorem dX4_keepBetter_1 : decode cX4_keepBetter 1 = .ok (.invokestatic 99, 3) := by decide +kernel
theorem dX4_keepBetter_4 : decode cX4_keepBetter 4 = .ok (.istore_n 3, 1) := by decide +kernel
theorem dX4_keepBetter_5 : decode cX4_keepBetter 5 = .ok (.iload_n 2, 1) := by decide +kernel
theorem dX4_keepBetter_6 : decode cX4_keepBetter 6 = .ok (.aload_n 0, 1) := by decide +kernel
theorem dX4_keepBetter_7 : decode cX4_keepBetter 7 = .ok (.getfield 18, 3) := by decide +kernel
theorem dX4_keepBetter_10 : decode cX4_keepBetter 10 = .ok (.if_icmp .lt 19, 3) := by decide +kernel
theorem dX4_keepBetter_13 : decode cX4_keepBetter 13 = .ok (.iload_n 2, 1) := by decide +kernel
theorem dX4_keepBetter_14 : decode cX4_keepBetter 14 = .ok (.aload_n 0, 1) := by decide +kernel
theorem dX4_keepBetter_15 : decode cX4_keepBetter 15 = .ok (.getfield 18, 3) := by decide +kernel
theorem dX4_keepBetter_18 : decode cX4_keepBetter 18 = .ok (.if_icmp .ne 15, 3) := by decide +kernel
theorem dX4_keepBetter_21 : decode cX4_keepBetter 21 = .ok (.iload_n 1, 1) := by decide +kernel
theorem dX4_keepBetter_22 : decode cX4_keepBetter 22 = .ok (.aload_n 0, 1) := by decide +kernel
theorem dX4_keepBetter_23 : decode cX4_keepBetter 23 = .ok (.getfield 21, 3) := by decide +kernel
theorem dX4_keepBetter_26 : decode cX4_keepBetter 26 = .ok (.if_icmp .ge 7, 3) := by decide +kernel
theorem dX4_keepBetter_29 : decode cX4_keepBetter 29 = .ok (.iconst 1, 1) := by decide +kernel
theorem dX4_keepBetter_30 : decode cX4_keepBetter 30 = .ok (.goto 4, 3) := by decide +kernel
theorem dX4_keepBetter_33 : decode cX4_keepBetter 33 = .ok (.iconst 0, 1) := by decide +kernel
theorem dX4_keepBetter_34 : decode cX4_keepBetter 34 = .ok (.istore 4, 2) := by decide +kernel
theorem dX4_keepBetter_36 : decode cX4_keepBetter 36 = .ok (.iload_n 3, 1) := by decide +kernel
theorem dX4_keepBetter_37 : decode cX4_keepBetter 37 = .ok (.aload_n 0, 1) := by decide +kernel
theorem dX4_keepBetter_38 : decode cX4_keepBetter 38 = .ok (.getfield 24, 3) := by decide +kernel
theorem dX4_keepBetter_41 : decode cX4_keepBetter 41 = .ok (.if_icmp .lt 16, 3) := by decide +kernel
theorem dX4_keepBetter_44 : decode cX4_keepBetter 44 = .ok (.iload_n 3, 1) := by decide +kernel
theorem dX4_keepBetter_45 : decode cX4_keepBetter 45 = .ok (.aload_n 0, 1) := by decide +kernel
theorem dX4_keepBetter_46 : decode cX4_keepBetter 46 = .ok (.getfield 24, 3) := by decide +kernel
theorem dX4_keepBetter_49 : decode cX4_keepBetter 49 = .ok (.if_icmp .ne 23, 3) := by decide +kernel
theorem dX4_keepBetter_52 : decode cX4_keepBetter 52 = .ok (.iload 4, 2) := by decide +kernel
theorem dX4_keepBetter_54 : decode cX4_keepBetter 54 = .ok (.ifCond .eq 18, 3) := by decide +kernel
theorem dX4_keepBetter_57 : decode cX4_keepBetter 57 = .ok (.aload_n 0, 1) := by decide +kernel
theorem dX4_keepBetter_58 : decode cX4_keepBetter 58 = .ok (.iload_n 1, 1) := by decide +kernel
theorem dX4_keepBetter_59 : decode cX4_keepBetter 59 = .ok (.putfield 21, 3) := by decide +kernel
theorem dX4_keepBetter_62 : decode cX4_keepBetter 62 = .ok (.aload_n 0, 1) := by decide +kernel
theorem dX4_keepBetter_63 : decode cX4_keepBetter 63 = .ok (.iload_n 3, 1) := by decide +kernel
theorem dX4_keepBetter_64 : decode cX4_keepBetter 64 = .ok (.putfield 24, 3) := by decide +kernel
theorem dX4_keepBetter_67 : decode cX4_keepBetter 67 = .ok (.aload_n 0, 1) := by decide +kernel
theorem dX4_keepBetter_68 : decode cX4_keepBetter 68 = .ok (.iload_n 2, 1) := by decide +kernel
theorem dX4_keepBetter_69 : decode cX4_keepBetter 69 = .ok (.putfield 18, 3) := by decide +kernel
theorem dX4_keepBetter_72 : decode cX4_keepBetter 72 = .ok (.return_, 1) := by decide +kernel
theorem dX5_init_0 : decode cX5_init 0 = .ok (.aload_n 0, 1) := by decide +kernel
theorem dX5_init_1 : decode cX5_init 1 = .ok (.invokespecial 3, 3) := by decide +kernel
theorem dX5_init_4 : decode cX5_init 4 = .ok (.aload_n 0, 1) := by decide +kernel
theorem dX5_init_5 : decode cX5_init 5 = .ok (.iconst 0, 1) := by decide +kernel
theorem dX5_init_6 : decode cX5_init 6 = .ok (.putfield 9, 3) := by decide +kernel
theorem dX5_init_9 : decode cX5_init 9 = .ok (.aload_n 0, 1) := by decide +kernel
theorem dX5_init_10 : decode cX5_init 10 = .ok (.iconst 0, 1) := by decide +kernel
theorem dX5_init_11 : decode cX5_init 11 = .ok (.putfield 15, 3) := by decide +kernel
theorem dX5_init_14 : decode cX5_init 14 = .ok (.aload_n 0, 1) := by decide +kernel
theorem dX5_init_15 : decode cX5_init 15 = .ok (.iconst 0, 1) := by decide +kernel
theorem dX5_init_16 : decode cX5_init 16 = .ok (.putfield 18, 3) := by decide +kernel
theorem dX5_init_19 : decode cX5_init 19 = .ok (.aload_n 0, 1) := by decide +kernel
theorem dX5_init_20 : decode cX5_init 20 = .ok (.iconst 0, 1) := by decide +kernel
theorem dX5_init_21 : decode cX5_init 21 = .ok (.putfield 21, 3) := by decide +kernel
theorem dX5_init_24 : decode cX5_init 24 = .ok (.aload_n 0, 1) := by decide +kernel
theorem dX5_init_25 : decode cX5_init 25 = .ok (.iconst 0, 1) := by decide +kernel
theorem dX5_init_26 : decode cX5_init 26 = .ok (.putfield 24, 3) := by decide +kernel
theorem dX5_init_29 : decode cX5_init 29 = .ok (.aload_n 0, 1) := by decide +kernel
theorem dX5_init_30 : decode cX5_init 30 = .ok (.bipush (-9), 2) := by decide +kernel
theorem dX5_init_32 : decode cX5_init 32 = .ok (.putfield 28, 3) := by decide +kernel
theorem dX5_init_35 : decode cX5_init 35 = .ok (.aload_n 0, 1) := by decide +kernel
theorem dX5_init_36 : decode cX5_init 36 = .ok (.bipush (-9), 2) := by decide +kernel
theorem dX5_init_38 : decode cX5_init 38 = .ok (.putfield 31, 3) := by decide +kernel
theorem dX5_init_41 : decode cX5_init 41 = .ok (.aload_n 0, 1) := by decide +kernel
theorem dX5_init_42 : decode cX5_init 42 = .ok (.iconst 0, 1) := by decide +kernel
theorem dX5_init_43 : decode cX5_init 43 = .ok (.putfield 34, 3) := by decide +kernel
theorem dX5_init_46 : decode cX5_init 46 = .ok (.return_, 1) := by decide +kernel
theorem dX5_empty_0 : decode cX5_empty 0 = .ok (.aload_n 0, 1) := by decide +kernel
theorem dX5_empty_1 : decode cX5_empty 1 = .ok (.iconst 0, 1) := by decide +kernel
theorem dX5_empty_2 : decode cX5_empty 2 = .ok (.putfield 9, 3) := by decide +kernel
theorem dX5_empty_5 : decode cX5_empty 5 = .ok (.aload_n 0, 1) := by decide +kernel
theorem dX5_empty_6 : decode cX5_empty 6 = .ok (.iconst 0, 1) := by decide +kernel
theorem dX5_empty_7 : decode cX5_empty 7 = .ok (.putfield 15, 3) := by decide +kernel
theorem dX5_empty_10 : decode cX5_empty 10 = .ok (.aload_n 0, 1) := by decide +kernel
theorem dX5_empty_11 : decode cX5_empty 11 = .ok (.iconst 0, 1) := by decide +kernel
theorem dX5_empty_12 : decode cX5_empty 12 = .ok (.putfield 18, 3) := by decide +kernel
theorem dX5_empty_15 : decode cX5_empty 15 = .ok (.aload_n 0, 1) := by decide +kernel
theorem dX5_empty_16 : decode cX5_empty 16 = .ok (.iconst 0, 1) := by decide +kernel
theorem dX5_empty_17 : decode cX5_empty 17 = .ok (.putfield 21, 3) := by decide +kernel
theorem dX5_empty_20 : decode cX5_empty 20 = .ok (.aload_n 0, 1) := by decide +kernel
theorem dX5_empty_21 : decode cX5_empty 21 = .ok (.iconst 0, 1) := by decide +kernel
theorem dX5_empty_22 : decode cX5_empty 22 = .ok (.putfield 24, 3) := by decide +kernel
theorem dX5_empty_25 : decode cX5_empty 25 = .ok (.aload_n 0, 1) := by decide +kernel
theorem dX5_empty_26 : decode cX5_empty 26 = .ok (.bipush (-9), 2) := by decide +kernel
theorem dX5_empty_28 : decode cX5_empty 28 = .ok (.putfield 28, 3) := by decide +kernel
theorem dX5_empty_31 : decode cX5_empty 31 = .ok (.aload_n 0, 1) := by decide +kernel
theorem dX5_empty_32 : decode cX5_empty 32 = .ok (.bipush (-9), 2) := by decide +kernel
theorem dX5_empty_34 : decode cX5_empty 34 = .ok (.putfield 31, 3) := by decide +kernel
theorem dX5_empty_37 : decode cX5_empty 37 = .ok (.aload_n 0, 1) := by decide +kernel
theorem dX5_empty_38 : decode cX5_empty 38 = .ok (.iconst 0, 1) := by decide +kernel
theorem dX5_empty_39 : decode cX5_empty 39 = .ok (.putfield 34, 3) := by decide +kernel
theorem dX5_empty_42 : decode cX5_empty 42 = .ok (.return_, 1) := by decide +kernel
theorem dX5_isMarked_0 : decode cX5_isMarked 0 = .ok (.aload_n 0, 1) := by decide +kernel
theorem dX5_isMarked_1 : decode cX5_isMarked 1 = .ok (.getfield 28, 3) := by decide +kernel
theorem dX5_isMarked_4 : decode cX5_isMarked 4 = .ok (.bipush (-9), 2) := by decide +kernel
theorem dX5_isMarked_6 : decode cX5_isMarked 6 = .ok (.if_icmp .eq 7, 3) := by decide +kernel
theorem dX5_isMarked_9 : decode cX5_isMarked 9 = .ok (.iconst 1, 1) := by decide +kernel
theorem dX5_isMarked_10 : decode cX5_isMarked 10 = .ok (.goto 4, 3) := by decide +kernel
theorem dX5_isMarked_13 : decode cX5_isMarked 13 = .ok (.iconst 0, 1) := by decide +kernel
theorem dX5_isMarked_14 : decode cX5_isMarked 14 = .ok (.ireturn, 1) := by decide +kernel
theorem dX5_canBeCut_0 : decode cX5_canBeCut 0 = .ok (.aload_n 0, 1) := by decide +kernel
theorem dX5_canBeCut_1 : decode cX5_canBeCut 1 = .ok (.getfield 24, 3) := by decide +kernel
theorem dX5_canBeCut_4 : decode cX5_canBeCut 4 = .ok (.ifCond .ne 14, 3) := by decide +kernel
theorem dX5_canBeCut_7 : decode cX5_canBeCut 7 = .ok (.aload_n 0, 1) := by decide +kernel
theorem dX5_canBeCut_8 : decode cX5_canBeCut 8 = .ok (.invokevirtual 37, 3) := by decide +kernel
theorem dX5_canBeCut_11 : decode cX5_canBeCut 11 = .ok (.ifCond .ne 7, 3) := by decide +kernel
theorem dX5_canBeCut_14 : decode cX5_canBeCut 14 = .ok (.iconst 1, 1) := by decide +kernel
theorem dX5_canBeCut_15 : decode cX5_canBeCut 15 = .ok (.goto 4, 3) := by decide +kernel
theorem dX5_canBeCut_18 : decode cX5_canBeCut 18 = .ok (.iconst 0, 1) := by decide +kernel
theorem dX5_canBeCut_19 : decode cX5_canBeCut 19 = .ok (.ireturn, 1) := by decide +kernel
theorem dX5_tells_0 : decode cX5_tells 0 = .ok (.iload_n 1, 1) := by decide +kernel
theorem dX5_tells_1 : decode cX5_tells 1 = .ok (.tableswitch 51 0 3 #[31, 36, 41, 46], 31) := by decide +kernel
theorem dX5_tells_32 : decode cX5_tells 32 = .ok (.aload_n 0, 1) := by decide +kernel
theorem dX5_tells_33 : decode cX5_tells 33 = .ok (.getfield 9, 3) := by decide +kernel
theorem dX5_tells_36 : decode cX5_tells 36 = .ok (.ireturn, 1) := by decide +kernel
theorem dX5_tells_37 : decode cX5_tells 37 = .ok (.aload_n 0, 1) := by decide +kernel
theorem dX5_tells_38 : decode cX5_tells 38 = .ok (.getfield 15, 3) := by decide +kernel
theorem dX5_tells_41 : decode cX5_tells 41 = .ok (.ireturn, 1) := by decide +kernel
theorem dX5_tells_42 : decode cX5_tells 42 = .ok (.aload_n 0, 1) := by decide +kernel
theorem dX5_tells_43 : decode cX5_tells 43 = .ok (.getfield 18, 3) := by decide +kernel
theorem dX5_tells_46 : decode cX5_tells 46 = .ok (.ireturn, 1) := by decide +kernel
theorem dX5_tells_47 : decode cX5_tells 47 = .ok (.aload_n 0, 1) := by decide +kernel
theorem dX5_tells_48 : decode cX5_tells 48 = .ok (.getfield 21, 3) := by decide +kernel
theorem dX5_tells_51 : decode cX5_tells 51 = .ok (.ireturn, 1) := by decide +kernel
theorem dX5_tells_52 : decode cX5_tells 52 = .ok (.aload_n 0, 1) := by decide +kernel
theorem dX5_tells_53 : decode cX5_tells 53 = .ok (.getfield 24, 3) := by decide +kernel
theorem dX5_tells_56 : decode cX5_tells 56 = .ok (.ifCond .eq 7, 3) := by decide +kernel
theorem dX5_tells_59 : decode cX5_tells 59 = .ok (.iconst 1, 1) := by decide +kernel
theorem dX5_tells_60 : decode cX5_tells 60 = .ok (.goto 4, 3) := by decide +kernel
theorem dX5_tells_63 : decode cX5_tells 63 = .ok (.iconst 0, 1) := by decide +kernel
theorem dX5_tells_64 : decode cX5_tells 64 = .ok (.ireturn, 1) := by decide +kernel
theorem dX5_addTo_0 : decode cX5_addTo 0 = .ok (.lload_n 1, 1) := by decide +kernel
theorem dX5_addTo_1 : decode cX5_addTo 1 = .ok (.lstore_n 3, 1) := by decide +kernel
theorem dX5_addTo_2 : decode cX5_addTo 2 = .ok (.iconst 0, 1) := by decide +kernel
theorem dX5_addTo_3 : decode cX5_addTo 3 = .ok (.istore 5, 2) := by decide +kernel
theorem dX5_addTo_5 : decode cX5_addTo 5 = .ok (.iload 5, 2) := by decide +kernel
theorem dX5_addTo_7 : decode cX5_addTo 7 = .ok (.iconst 5, 1) := by decide +kernel
theorem dX5_addTo_8 : decode cX5_addTo 8 = .ok (.if_icmp .ge 23, 3) := by decide +kernel
theorem dX5_addTo_11 : decode cX5_addTo 11 = .ok (.ldc2_w 41, 3) := by decide +kernel
theorem dX5_addTo_14 : decode cX5_addTo 14 = .ok (.lload_n 3, 1) := by decide +kernel
theorem dX5_addTo_15 : decode cX5_addTo 15 = .ok (.lmul, 1) := by decide +kernel
theorem dX5_addTo_16 : decode cX5_addTo 16 = .ok (.aload_n 0, 1) := by decide +kernel
theorem dX5_addTo_17 : decode cX5_addTo 17 = .ok (.iload 5, 2) := by decide +kernel
theorem dX5_addTo_19 : decode cX5_addTo 19 = .ok (.invokevirtual 43, 3) := by decide +kernel
theorem dX5_addTo_22 : decode cX5_addTo 22 = .ok (.i2l, 1) := by decide +kernel
theorem dX5_addTo_23 : decode cX5_addTo 23 = .ok (.ladd, 1) := by decide +kernel
theorem dX5_addTo_24 : decode cX5_addTo 24 = .ok (.lstore_n 3, 1) := by decide +kernel
theorem dX5_addTo_25 : decode cX5_addTo 25 = .ok (.iinc 5 1, 3) := by decide +kernel
theorem dX5_addTo_28 : decode cX5_addTo 28 = .ok (.goto (-23), 3) := by decide +kernel
theorem dX5_addTo_31 : decode cX5_addTo 31 = .ok (.ldc2_w 41, 3) := by decide +kernel
theorem dX5_addTo_34 : decode cX5_addTo 34 = .ok (.ldc2_w 41, 3) := by decide +kernel
theorem dX5_addTo_37 : decode cX5_addTo 37 = .ok (.ldc2_w 41, 3) := by decide +kernel
theorem dX5_addTo_40 : decode cX5_addTo 40 = .ok (.lload_n 3, 1) := by decide +kernel
theorem dX5_addTo_41 : decode cX5_addTo 41 = .ok (.lmul, 1) := by decide +kernel
theorem dX5_addTo_42 : decode cX5_addTo 42 = .ok (.aload_n 0, 1) := by decide +kernel
theorem dX5_addTo_43 : decode cX5_addTo 43 = .ok (.getfield 28, 3) := by decide +kernel
theorem dX5_addTo_46 : decode cX5_addTo 46 = .ok (.i2l, 1) := by decide +kernel
theorem dX5_addTo_47 : decode cX5_addTo 47 = .ok (.ladd, 1) := by decide +kernel
theorem dX5_addTo_48 : decode cX5_addTo 48 = .ok (.lmul, 1) := by decide +kernel
theorem dX5_addTo_49 : decode cX5_addTo 49 = .ok (.aload_n 0, 1) := by decide +kernel
theorem dX5_addTo_50 : decode cX5_addTo 50 = .ok (.getfield 31, 3) := by decide +kernel
theorem dX5_addTo_53 : decode cX5_addTo 53 = .ok (.i2l, 1) := by decide +kernel
theorem dX5_addTo_54 : decode cX5_addTo 54 = .ok (.ladd, 1) := by decide +kernel
theorem dX5_addTo_55 : decode cX5_addTo 55 = .ok (.lmul, 1) := by decide +kernel
theorem dX5_addTo_56 : decode cX5_addTo 56 = .ok (.aload_n 0, 1) := by decide +kernel
theorem dX5_addTo_57 : decode cX5_addTo 57 = .ok (.getfield 34, 3) := by decide +kernel
theorem dX5_addTo_60 : decode cX5_addTo 60 = .ok (.i2l, 1) := by decide +kernel
theorem dX5_addTo_61 : decode cX5_addTo 61 = .ok (.ladd, 1) := by decide +kernel
theorem dX5_addTo_62 : decode cX5_addTo 62 = .ok (.lreturn, 1) := by decide +kernel
theorem dX6_init_0 : decode cX6_init 0 = .ok (.aload_n 0, 1) := by decide +kernel
theorem dX6_init_1 : decode cX6_init 1 = .ok (.invokespecial 3, 3) := by decide +kernel
theorem dX6_init_4 : decode cX6_init 4 = .ok (.aload_n 0, 1) := by decide +kernel
theorem dX6_init_5 : decode cX6_init 5 = .ok (.bipush 8, 2) := by decide +kernel
theorem dX6_init_7 : decode cX6_init 7 = .ok (.newarray .int, 2) := by decide +kernel
theorem dX6_init_9 : decode cX6_init 9 = .ok (.putfield 9, 3) := by decide +kernel
theorem dX6_init_12 : decode cX6_init 12 = .ok (.aload_n 0, 1) := by decide +kernel
theorem dX6_init_13 : decode cX6_init 13 = .ok (.bipush 64, 2) := by decide +kernel
theorem dX6_init_15 : decode cX6_init 15 = .ok (.newarray .int, 2) := by decide +kernel
theorem dX6_init_17 : decode cX6_init 17 = .ok (.putfield 15, 3) := by decide +kernel
theorem dX6_init_20 : decode cX6_init 20 = .ok (.aload_n 0, 1) := by decide +kernel
theorem dX6_init_21 : decode cX6_init 21 = .ok (.bipush 8, 2) := by decide +kernel
theorem dX6_init_23 : decode cX6_init 23 = .ok (.newarray .int, 2) := by decide +kernel
theorem dX6_init_25 : decode cX6_init 25 = .ok (.putfield 18, 3) := by decide +kernel
theorem dX6_init_28 : decode cX6_init 28 = .ok (.aload_n 0, 1) := by decide +kernel
theorem dX6_init_29 : decode cX6_init 29 = .ok (.bipush 64, 2) := by decide +kernel
theorem dX6_init_31 : decode cX6_init 31 = .ok (.newarray .int, 2) := by decide +kernel
theorem dX6_init_33 : decode cX6_init 33 = .ok (.putfield 21, 3) := by decide +kernel
theorem dX6_init_36 : decode cX6_init 36 = .ok (.aload_n 0, 1) := by decide +kernel
theorem dX6_init_37 : decode cX6_init 37 = .ok (.bipush 64, 2) := by decide +kernel
theorem dX6_init_39 : decode cX6_init 39 = .ok (.newarray .boolean, 2) := by decide +kernel
theorem dX6_init_41 : decode cX6_init 41 = .ok (.putfield 24, 3) := by decide +kernel
theorem dX6_init_44 : decode cX6_init 44 = .ok (.aload_n 0, 1) := by decide +kernel
theorem dX6_init_45 : decode cX6_init 45 = .ok (.iconst 0, 1) := by decide +kernel
theorem dX6_init_46 : decode cX6_init 46 = .ok (.putfield 28, 3) := by decide +kernel
theorem dX6_init_49 : decode cX6_init 49 = .ok (.return_, 1) := by decide +kernel
theorem dX6_sizeOf_0 : decode cX6_sizeOf 0 = .ok (.iload_n 1, 1) := by decide +kernel
theorem dX6_sizeOf_1 : decode cX6_sizeOf 1 = .ok (.bipush 8, 2) := by decide +kernel
theorem dX6_sizeOf_3 : decode cX6_sizeOf 3 = .ok (.invokestatic 32, 3) := by decide +kernel
theorem dX6_sizeOf_6 : decode cX6_sizeOf 6 = .ok (.ifCond .eq 7, 3) := by decide +kernel
theorem dX6_sizeOf_9 : decode cX6_sizeOf 9 = .ok (.iconst 0, 1) := by decide +kernel
theorem dX6_sizeOf_10 : decode cX6_sizeOf 10 = .ok (.goto 9, 3) := by decide +kernel
theorem dX6_sizeOf_13 : decode cX6_sizeOf 13 = .ok (.aload_n 0, 1) := by decide +kernel
theorem dX6_sizeOf_14 : decode cX6_sizeOf 14 = .ok (.getfield 9, 3) := by decide +kernel
theorem dX6_sizeOf_17 : decode cX6_sizeOf 17 = .ok (.iload_n 1, 1) := by decide +kernel
theorem dX6_sizeOf_18 : decode cX6_sizeOf 18 = .ok (.iaload, 1) := by decide +kernel
theorem dX6_sizeOf_19 : decode cX6_sizeOf 19 = .ok (.ireturn, 1) := by decide +kernel
theorem dX6_withKnocks_0 : decode cX6_withKnocks 0 = .ok (.iconst 0, 1) := by decide +kernel
theorem dX6_withKnocks_1 : decode cX6_withKnocks 1 = .ok (.istore_n 1, 1) := by decide +kernel
theorem dX6_withKnocks_2 : decode cX6_withKnocks 2 = .ok (.iconst 0, 1) := by decide +kernel
theorem dX6_withKnocks_3 : decode cX6_withKnocks 3 = .ok (.istore_n 2, 1) := by decide +kernel
theorem dX6_withKnocks_4 : decode cX6_withKnocks 4 = .ok (.iload_n 2, 1) := by decide +kernel
theorem dX6_withKnocks_5 : decode cX6_withKnocks 5 = .ok (.bipush 8, 2) := by decide +kernel
theorem dX6_withKnocks_7 : decode cX6_withKnocks 7 = .ok (.if_icmp .ge 21, 3) := by decide +kernel
theorem dX6_withKnocks_10 : decode cX6_withKnocks 10 = .ok (.aload_n 0, 1) := by decide +kernel
theorem dX6_withKnocks_11 : decode cX6_withKnocks 11 = .ok (.getfield 9, 3) := by decide +kernel
theorem dX6_withKnocks_14 : decode cX6_withKnocks 14 = .ok (.iload_n 2, 1) := by decide +kernel
theorem dX6_withKnocks_15 : decode cX6_withKnocks 15 = .ok (.iaload, 1) := by decide +kernel
theorem dX6_withKnocks_16 : decode cX6_withKnocks 16 = .ok (.ifCond .le 6, 3) := by decide +kernel
theorem dX6_withKnocks_19 : decode cX6_withKnocks 19 = .ok (.iinc 1 1, 3) := by decide +kernel
theorem dX6_withKnocks_22 : decode cX6_withKnocks 22 = .ok (.iinc 2 1, 3) := by decide +kernel
theorem dX6_withKnocks_25 : decode cX6_withKnocks 25 = .ok (.goto (-21), 3) := by decide +kernel
theorem dX6_withKnocks_28 : decode cX6_withKnocks 28 = .ok (.iload_n 1, 1) := by decide +kernel
theorem dX6_withKnocks_29 : decode cX6_withKnocks 29 = .ok (.ireturn, 1) := by decide +kernel
theorem dX6_learn_0 : decode cX6_learn 0 = .ok (.iload_n 1, 1) := by decide +kernel
theorem dX6_learn_1 : decode cX6_learn 1 = .ok (.bipush 8, 2) := by decide +kernel
theorem dX6_learn_3 : decode cX6_learn 3 = .ok (.invokestatic 32, 3) := by decide +kernel
theorem dX6_learn_6 : decode cX6_learn 6 = .ok (.ifCond .ne 12, 3) := by decide +kernel
theorem dX6_learn_9 : decode cX6_learn 9 = .ok (.aload_n 2, 1) := by decide +kernel
theorem dX6_learn_10 : decode cX6_learn 10 = .ok (.getfield 36, 3) := by decide +kernel
theorem dX6_learn_13 : decode cX6_learn 13 = .ok (.bipush 8, 2) := by decide +kernel
theorem dX6_learn_15 : decode cX6_learn 15 = .ok (.if_icmp .le 4, 3) := by decide +kernel
theorem dX6_learn_18 : decode cX6_learn 18 = .ok (.return_, 1) := by decide +kernel
theorem dX6_learn_19 : decode cX6_learn 19 = .ok (.iconst 0, 1) := by decide +kernel
theorem dX6_learn_20 : decode cX6_learn 20 = .ok (.istore_n 3, 1) := by decide +kernel
theorem dX6_learn_21 : decode cX6_learn 21 = .ok (.iload_n 3, 1) := by decide +kernel
theorem dX6_learn_22 : decode cX6_learn 22 = .ok (.aload_n 2, 1) := by decide +kernel
theorem dX6_learn_23 : decode cX6_learn 23 = .ok (.getfield 36, 3) := by decide +kernel
theorem dX6_learn_26 : decode cX6_learn 26 = .ok (.if_icmp .ge 25, 3) := by decide +kernel
theorem dX6_learn_29 : decode cX6_learn 29 = .ok (.aload_n 0, 1) := by decide +kernel
theorem dX6_learn_30 : decode cX6_learn 30 = .ok (.getfield 15, 3) := by decide +kernel
theorem dX6_learn_33 : decode cX6_learn 33 = .ok (.iload_n 1, 1) := by decide +kernel
theorem dX6_learn_34 : decode cX6_learn 34 = .ok (.bipush 8, 2) := by decide +kernel
theorem dX6_learn_36 : decode cX6_learn 36 = .ok (.imul, 1) := by decide +kernel
theorem dX6_learn_37 : decode cX6_learn 37 = .ok (.iload_n 3, 1) := by decide +kernel
theorem dX6_learn_38 : decode cX6_learn 38 = .ok (.iadd, 1) := by decide +kernel
theorem dX6_learn_39 : decode cX6_learn 39 = .ok (.aload_n 2, 1) := by decide +kernel
theorem dX6_learn_40 : decode cX6_learn 40 = .ok (.iload_n 3, 1) := by decide +kernel
theorem dX6_learn_41 : decode cX6_learn 41 = .ok (.invokevirtual 41, 3) := by decide +kernel
theorem dX6_learn_44 : decode cX6_learn 44 = .ok (.iastore, 1) := by decide +kernel
theorem dX6_learn_45 : decode cX6_learn 45 = .ok (.iinc 3 1, 3) := by decide +kernel
theorem dX6_learn_48 : decode cX6_learn 48 = .ok (.goto (-27), 3) := by decide +kernel
theorem dX6_learn_51 : decode cX6_learn 51 = .ok (.aload_n 0, 1) := by decide +kernel
theorem dX6_learn_52 : decode cX6_learn 52 = .ok (.getfield 9, 3) := by decide +kernel
theorem dX6_learn_55 : decode cX6_learn 55 = .ok (.iload_n 1, 1) := by decide +kernel
theorem dX6_learn_56 : decode cX6_learn 56 = .ok (.aload_n 2, 1) := by decide +kernel
theorem dX6_learn_57 : decode cX6_learn 57 = .ok (.getfield 36, 3) := by decide +kernel
theorem dX6_learn_60 : decode cX6_learn 60 = .ok (.iastore, 1) := by decide +kernel
theorem dX6_learn_61 : decode cX6_learn 61 = .ok (.return_, 1) := by decide +kernel
theorem dX6_firstBeginning_0 : decode cX6_firstBeginning 0 = .ok (.iconst 0, 1) := by decide +kernel
theorem dX6_firstBeginning_1 : decode cX6_firstBeginning 1 = .ok (.istore_n 1, 1) := by decide +kernel
theorem dX6_firstBeginning_2 : decode cX6_firstBeginning 2 = .ok (.iload_n 1, 1) := by decide +kernel
theorem dX6_firstBeginning_3 : decode cX6_firstBeginning 3 = .ok (.bipush 8, 2) := by decide +kernel
theorem dX6_firstBeginning_5 : decode cX6_firstBeginning 5 = .ok (.if_icmp .ge 69, 3) := by decide +kernel
theorem dX6_firstBeginning_8 : decode cX6_firstBeginning 8 = .ok (.iconst 0, 1) := by decide +kernel
theorem dX6_firstBeginning_9 : decode cX6_firstBeginning 9 = .ok (.istore_n 2, 1) := by decide +kernel
theorem dX6_firstBeginning_10 : decode cX6_firstBeginning 10 = .ok (.iload_n 2, 1) := by decide +kernel
theorem dX6_firstBeginning_11 : decode cX6_firstBeginning 11 = .ok (.bipush 8, 2) := by decide +kernel
theorem dX6_firstBeginning_13 : decode cX6_firstBeginning 13 = .ok (.if_icmp .ge 55, 3) := by decide +kernel
theorem dX6_firstBeginning_16 : decode cX6_firstBeginning 16 = .ok (.iload_n 1, 1) := by decide +kernel
theorem dX6_firstBeginning_17 : decode cX6_firstBeginning 17 = .ok (.iload_n 2, 1) := by decide +kernel
theorem dX6_firstBeginning_18 : decode cX6_firstBeginning 18 = .ok (.if_icmp .eq 44, 3) := by decide +kernel
theorem dX6_firstBeginning_21 : decode cX6_firstBeginning 21 = .ok (.aload_n 0, 1) := by decide +kernel
theorem dX6_firstBeginning_22 : decode cX6_firstBeginning 22 = .ok (.getfield 9, 3) := by decide +kernel
theorem dX6_firstBeginning_25 : decode cX6_firstBeginning 25 = .ok (.iload_n 1, 1) := by decide +kernel
theorem dX6_firstBeginning_26 : decode cX6_firstBeginning 26 = .ok (.iaload, 1) := by decide +kernel
theorem dX6_firstBeginning_27 : decode cX6_firstBeginning 27 = .ok (.ifCond .le 35, 3) := by decide +kernel
theorem dX6_firstBeginning_30 : decode cX6_firstBeginning 30 = .ok (.aload_n 0, 1) := by decide +kernel
theorem dX6_firstBeginning_31 : decode cX6_firstBeginning 31 = .ok (.getfield 9, 3) := by decide +kernel
theorem dX6_firstBeginning_34 : decode cX6_firstBeginning 34 = .ok (.iload_n 1, 1) := by decide +kernel
theorem dX6_firstBeginning_35 : decode cX6_firstBeginning 35 = .ok (.iaload, 1) := by decide +kernel
theorem dX6_firstBeginning_36 : decode cX6_firstBeginning 36 = .ok (.aload_n 0, 1) := by decide +kernel
theorem dX6_firstBeginning_37 : decode cX6_firstBeginning 37 = .ok (.getfield 9, 3) := by decide +kernel
theorem dX6_firstBeginning_40 : decode cX6_firstBeginning 40 = .ok (.iload_n 2, 1) := by decide +kernel
theorem dX6_firstBeginning_41 : decode cX6_firstBeginning 41 = .ok (.iaload, 1) := by decide +kernel
theorem dX6_firstBeginning_42 : decode cX6_firstBeginning 42 = .ok (.if_icmp .gt 20, 3) := by decide +kernel
theorem dX6_firstBeginning_45 : decode cX6_firstBeginning 45 = .ok (.aload_n 0, 1) := by decide +kernel
theorem dX6_firstBeginning_46 : decode cX6_firstBeginning 46 = .ok (.iload_n 1, 1) := by decide +kernel
theorem dX6_firstBeginning_47 : decode cX6_firstBeginning 47 = .ok (.iconst 0, 1) := by decide +kernel
theorem dX6_firstBeginning_48 : decode cX6_firstBeginning 48 = .ok (.iload_n 2, 1) := by decide +kernel
theorem dX6_firstBeginning_49 : decode cX6_firstBeginning 49 = .ok (.invokevirtual 45, 3) := by decide +kernel
theorem dX6_firstBeginning_52 : decode cX6_firstBeginning 52 = .ok (.ifCond .eq 10, 3) := by decide +kernel
theorem dX6_firstBeginning_55 : decode cX6_firstBeginning 55 = .ok (.bipush 10, 2) := by decide +kernel
theorem dX6_firstBeginning_57 : decode cX6_firstBeginning 57 = .ok (.iload_n 1, 1) := by decide +kernel
theorem dX6_firstBeginning_58 : decode cX6_firstBeginning 58 = .ok (.imul, 1) := by decide +kernel
theorem dX6_firstBeginning_59 : decode cX6_firstBeginning 59 = .ok (.iload_n 2, 1) := by decide +kernel
theorem dX6_firstBeginning_60 : decode cX6_firstBeginning 60 = .ok (.iadd, 1) := by decide +kernel
theorem dX6_firstBeginning_61 : decode cX6_firstBeginning 61 = .ok (.ireturn, 1) := by decide +kernel
theorem dX6_firstBeginning_62 : decode cX6_firstBeginning 62 = .ok (.iinc 2 1, 3) := by decide +kernel
theorem dX6_firstBeginning_65 : decode cX6_firstBeginning 65 = .ok (.goto (-55), 3) := by decide +kernel
theorem dX6_firstBeginning_68 : decode cX6_firstBeginning 68 = .ok (.iinc 1 1, 3) := by decide +kernel
theorem dX6_firstBeginning_71 : decode cX6_firstBeginning 71 = .ok (.goto (-69), 3) := by decide +kernel
theorem dX6_firstBeginning_74 : decode cX6_firstBeginning 74 = .ok (.bipush (-9), 2) := by decide +kernel
theorem dX6_firstBeginning_76 : decode cX6_firstBeginning 76 = .ok (.ireturn, 1) := by decide +kernel
theorem dX6_agree_0 : decode cX6_agree 0 = .ok (.iconst 0, 1) := by decide +kernel
theorem dX6_agree_1 : decode cX6_agree 1 = .ok (.istore 4, 2) := by decide +kernel
theorem dX6_agree_3 : decode cX6_agree 3 = .ok (.iload 4, 2) := by decide +kernel
theorem dX6_agree_5 : decode cX6_agree 5 = .ok (.bipush 8, 2) := by decide +kernel
theorem dX6_agree_7 : decode cX6_agree 7 = .ok (.if_icmp .ge 64, 3) := by decide +kernel
theorem dX6_agree_10 : decode cX6_agree 10 = .ok (.iload_n 2, 1) := by decide +kernel
theorem dX6_agree_11 : decode cX6_agree 11 = .ok (.iload 4, 2) := by decide +kernel
theorem dX6_agree_13 : decode cX6_agree 13 = .ok (.iadd, 1) := by decide +kernel
theorem dX6_agree_14 : decode cX6_agree 14 = .ok (.aload_n 0, 1) := by decide +kernel
theorem dX6_agree_15 : decode cX6_agree 15 = .ok (.getfield 9, 3) := by decide +kernel
theorem dX6_agree_18 : decode cX6_agree 18 = .ok (.iload_n 1, 1) := by decide +kernel
theorem dX6_agree_19 : decode cX6_agree 19 = .ok (.iaload, 1) := by decide +kernel
theorem dX6_agree_20 : decode cX6_agree 20 = .ok (.if_icmp .ge 51, 3) := by decide +kernel
theorem dX6_agree_23 : decode cX6_agree 23 = .ok (.iload 4, 2) := by decide +kernel
theorem dX6_agree_25 : decode cX6_agree 25 = .ok (.aload_n 0, 1) := by decide +kernel
theorem dX6_agree_26 : decode cX6_agree 26 = .ok (.getfield 9, 3) := by decide +kernel
theorem dX6_agree_29 : decode cX6_agree 29 = .ok (.iload_n 3, 1) := by decide +kernel
theorem dX6_agree_30 : decode cX6_agree 30 = .ok (.iaload, 1) := by decide +kernel
theorem dX6_agree_31 : decode cX6_agree 31 = .ok (.if_icmp .ge 40, 3) := by decide +kernel
theorem dX6_agree_34 : decode cX6_agree 34 = .ok (.aload_n 0, 1) := by decide +kernel
theorem dX6_agree_35 : decode cX6_agree 35 = .ok (.getfield 15, 3) := by decide +kernel
theorem dX6_agree_38 : decode cX6_agree 38 = .ok (.iload_n 1, 1) := by decide +kernel
theorem dX6_agree_39 : decode cX6_agree 39 = .ok (.bipush 8, 2) := by decide +kernel
theorem dX6_agree_41 : decode cX6_agree 41 = .ok (.imul, 1) := by decide +kernel
theorem dX6_agree_42 : decode cX6_agree 42 = .ok (.iload_n 2, 1) := by decide +kernel
theorem dX6_agree_43 : decode cX6_agree 43 = .ok (.iadd, 1) := by decide +kernel
theorem dX6_agree_44 : decode cX6_agree 44 = .ok (.iload 4, 2) := by decide +kernel
theorem dX6_agree_46 : decode cX6_agree 46 = .ok (.iadd, 1) := by decide +kernel
theorem dX6_agree_47 : decode cX6_agree 47 = .ok (.iaload, 1) := by decide +kernel
theorem dX6_agree_48 : decode cX6_agree 48 = .ok (.aload_n 0, 1) := by decide +kernel
theorem dX6_agree_49 : decode cX6_agree 49 = .ok (.getfield 15, 3) := by decide +kernel
theorem dX6_agree_52 : decode cX6_agree 52 = .ok (.iload_n 3, 1) := by decide +kernel
theorem dX6_agree_53 : decode cX6_agree 53 = .ok (.bipush 8, 2) := by decide +kernel
theorem dX6_agree_55 : decode cX6_agree 55 = .ok (.imul, 1) := by decide +kernel
theorem dX6_agree_56 : decode cX6_agree 56 = .ok (.iload 4, 2) := by decide +kernel
theorem dX6_agree_58 : decode cX6_agree 58 = .ok (.iadd, 1) := by decide +kernel
theorem dX6_agree_59 : decode cX6_agree 59 = .ok (.iaload, 1) := by decide +kernel
theorem dX6_agree_60 : decode cX6_agree 60 = .ok (.if_icmp .eq 5, 3) := by decide +kernel
theorem dX6_agree_63 : decode cX6_agree 63 = .ok (.iconst 0, 1) := by decide +kernel
theorem dX6_agree_64 : decode cX6_agree 64 = .ok (.ireturn, 1) := by decide +kernel
theorem dX6_agree_65 : decode cX6_agree 65 = .ok (.iinc 4 1, 3) := by decide +kernel
theorem dX6_agree_68 : decode cX6_agree 68 = .ok (.goto (-65), 3) := by decide +kernel
theorem dX6_agree_71 : decode cX6_agree 71 = .ok (.iconst 1, 1) := by decide +kernel
theorem dX6_agree_72 : decode cX6_agree 72 = .ok (.ireturn, 1) := by decide +kernel
theorem dX6_areSure_0 : decode cX6_areSure 0 = .ok (.aload_n 0, 1) := by decide +kernel
theorem dX6_areSure_1 : decode cX6_areSure 1 = .ok (.invokevirtual 49, 3) := by decide +kernel
theorem dX6_areSure_4 : decode cX6_areSure 4 = .ok (.iconst 0, 1) := by decide +kernel
theorem dX6_areSure_5 : decode cX6_areSure 5 = .ok (.istore_n 1, 1) := by decide +kernel
theorem dX6_areSure_6 : decode cX6_areSure 6 = .ok (.iload_n 1, 1) := by decide +kernel
theorem dX6_areSure_7 : decode cX6_areSure 7 = .ok (.bipush 8, 2) := by decide +kernel
theorem dX6_areSure_9 : decode cX6_areSure 9 = .ok (.if_icmp .ge 46, 3) := by decide +kernel
theorem dX6_areSure_12 : decode cX6_areSure 12 = .ok (.iload_n 1, 1) := by decide +kernel
theorem dX6_areSure_13 : decode cX6_areSure 13 = .ok (.iconst 1, 1) := by decide +kernel
theorem dX6_areSure_14 : decode cX6_areSure 14 = .ok (.iadd, 1) := by decide +kernel
theorem dX6_areSure_15 : decode cX6_areSure 15 = .ok (.istore_n 2, 1) := by decide +kernel
theorem dX6_areSure_16 : decode cX6_areSure 16 = .ok (.iload_n 2, 1) := by decide +kernel
theorem dX6_areSure_17 : decode cX6_areSure 17 = .ok (.bipush 8, 2) := by decide +kernel
theorem dX6_areSure_19 : decode cX6_areSure 19 = .ok (.if_icmp .ge 30, 3) := by decide +kernel
theorem dX6_areSure_22 : decode cX6_areSure 22 = .ok (.aload_n 0, 1) := by decide +kernel
theorem dX6_areSure_23 : decode cX6_areSure 23 = .ok (.getfield 9, 3) := by decide +kernel
theorem dX6_areSure_26 : decode cX6_areSure 26 = .ok (.iload_n 2, 1) := by decide +kernel
theorem dX6_areSure_27 : decode cX6_areSure 27 = .ok (.iaload, 1) := by decide +kernel
theorem dX6_areSure_28 : decode cX6_areSure 28 = .ok (.ifCond .le 15, 3) := by decide +kernel
theorem dX6_areSure_31 : decode cX6_areSure 31 = .ok (.aload_n 0, 1) := by decide +kernel
theorem dX6_areSure_32 : decode cX6_areSure 32 = .ok (.iload_n 1, 1) := by decide +kernel
theorem dX6_areSure_33 : decode cX6_areSure 33 = .ok (.iconst 0, 1) := by decide +kernel
theorem dX6_areSure_34 : decode cX6_areSure 34 = .ok (.iload_n 2, 1) := by decide +kernel
theorem dX6_areSure_35 : decode cX6_areSure 35 = .ok (.invokevirtual 52, 3) := by decide +kernel
theorem dX6_areSure_38 : decode cX6_areSure 38 = .ok (.ifCond .ne 5, 3) := by decide +kernel
theorem dX6_areSure_41 : decode cX6_areSure 41 = .ok (.iconst 0, 1) := by decide +kernel
theorem dX6_areSure_42 : decode cX6_areSure 42 = .ok (.ireturn, 1) := by decide +kernel
theorem dX6_areSure_43 : decode cX6_areSure 43 = .ok (.iinc 2 1, 3) := by decide +kernel
theorem dX6_areSure_46 : decode cX6_areSure 46 = .ok (.goto (-30), 3) := by decide +kernel
theorem dX6_areSure_49 : decode cX6_areSure 49 = .ok (.iinc 1 1, 3) := by decide +kernel
theorem dX6_areSure_52 : decode cX6_areSure 52 = .ok (.goto (-46), 3) := by decide +kernel
theorem dX6_areSure_55 : decode cX6_areSure 55 = .ok (.iconst 0, 1) := by decide +kernel
theorem dX6_areSure_56 : decode cX6_areSure 56 = .ok (.istore_n 1, 1) := by decide +kernel
theorem dX6_areSure_57 : decode cX6_areSure 57 = .ok (.iload_n 1, 1) := by decide +kernel
theorem dX6_areSure_58 : decode cX6_areSure 58 = .ok (.aload_n 0, 1) := by decide +kernel
theorem dX6_areSure_59 : decode cX6_areSure 59 = .ok (.getfield 28, 3) := by decide +kernel
theorem dX6_areSure_62 : decode cX6_areSure 62 = .ok (.if_icmp .ge 63, 3) := by decide +kernel
theorem dX6_areSure_65 : decode cX6_areSure 65 = .ok (.iload_n 1, 1) := by decide +kernel
theorem dX6_areSure_66 : decode cX6_areSure 66 = .ok (.bipush 64, 2) := by decide +kernel
theorem dX6_areSure_68 : decode cX6_areSure 68 = .ok (.if_icmp .ge 57, 3) := by decide +kernel
theorem dX6_areSure_71 : decode cX6_areSure 71 = .ok (.aload_n 0, 1) := by decide +kernel
theorem dX6_areSure_72 : decode cX6_areSure 72 = .ok (.getfield 21, 3) := by decide +kernel
theorem dX6_areSure_75 : decode cX6_areSure 75 = .ok (.iload_n 1, 1) := by decide +kernel
theorem dX6_areSure_76 : decode cX6_areSure 76 = .ok (.iaload, 1) := by decide +kernel
theorem dX6_areSure_77 : decode cX6_areSure 77 = .ok (.istore_n 2, 1) := by decide +kernel
theorem dX6_areSure_78 : decode cX6_areSure 78 = .ok (.iconst 0, 1) := by decide +kernel
theorem dX6_areSure_79 : decode cX6_areSure 79 = .ok (.istore_n 3, 1) := by decide +kernel
theorem dX6_areSure_80 : decode cX6_areSure 80 = .ok (.iload_n 3, 1) := by decide +kernel
theorem dX6_areSure_81 : decode cX6_areSure 81 = .ok (.bipush 8, 2) := by decide +kernel
theorem dX6_areSure_83 : decode cX6_areSure 83 = .ok (.if_icmp .ge 36, 3) := by decide +kernel
theorem dX6_areSure_86 : decode cX6_areSure 86 = .ok (.aload_n 0, 1) := by decide +kernel
theorem dX6_areSure_87 : decode cX6_areSure 87 = .ok (.getfield 9, 3) := by decide +kernel
theorem dX6_areSure_90 : decode cX6_areSure 90 = .ok (.iload_n 3, 1) := by decide +kernel
theorem dX6_areSure_91 : decode cX6_areSure 91 = .ok (.iaload, 1) := by decide +kernel
theorem dX6_areSure_92 : decode cX6_areSure 92 = .ok (.ifCond .le 21, 3) := by decide +kernel
theorem dX6_areSure_95 : decode cX6_areSure 95 = .ok (.aload_n 0, 1) := by decide +kernel
theorem dX6_areSure_96 : decode cX6_areSure 96 = .ok (.iload_n 2, 1) := by decide +kernel
theorem dX6_areSure_97 : decode cX6_areSure 97 = .ok (.bipush 8, 2) := by decide +kernel
theorem dX6_areSure_99 : decode cX6_areSure 99 = .ok (.idiv, 1) := by decide +kernel
theorem dX6_areSure_100 : decode cX6_areSure 100 = .ok (.iload_n 2, 1) := by decide +kernel
theorem dX6_areSure_101 : decode cX6_areSure 101 = .ok (.bipush 8, 2) := by decide +kernel
theorem dX6_areSure_103 : decode cX6_areSure 103 = .ok (.irem, 1) := by decide +kernel
theorem dX6_areSure_104 : decode cX6_areSure 104 = .ok (.iload_n 3, 1) := by decide +kernel
theorem dX6_areSure_105 : decode cX6_areSure 105 = .ok (.invokevirtual 52, 3) := by decide +kernel
theorem dX6_areSure_108 : decode cX6_areSure 108 = .ok (.ifCond .ne 5, 3) := by decide +kernel
theorem dX6_areSure_111 : decode cX6_areSure 111 = .ok (.iconst 0, 1) := by decide +kernel
theorem dX6_areSure_112 : decode cX6_areSure 112 = .ok (.ireturn, 1) := by decide +kernel
theorem dX6_areSure_113 : decode cX6_areSure 113 = .ok (.iinc 3 1, 3) := by decide +kernel
theorem dX6_areSure_116 : decode cX6_areSure 116 = .ok (.goto (-36), 3) := by decide +kernel
theorem dX6_areSure_119 : decode cX6_areSure 119 = .ok (.iinc 1 1, 3) := by decide +kernel
theorem dX6_areSure_122 : decode cX6_areSure 122 = .ok (.goto (-65), 3) := by decide +kernel
theorem dX6_areSure_125 : decode cX6_areSure 125 = .ok (.iconst 1, 1) := by decide +kernel
theorem dX6_areSure_126 : decode cX6_areSure 126 = .ok (.ireturn, 1) := by decide +kernel
theorem dX6_follow_0 : decode cX6_follow 0 = .ok (.aload_n 0, 1) := by decide +kernel
theorem dX6_follow_1 : decode cX6_follow 1 = .ok (.getfield 9, 3) := by decide +kernel
theorem dX6_follow_4 : decode cX6_follow 4 = .ok (.iload_n 1, 1) := by decide +kernel
theorem dX6_follow_5 : decode cX6_follow 5 = .ok (.iaload, 1) := by decide +kernel
theorem dX6_follow_6 : decode cX6_follow 6 = .ok (.iload_n 2, 1) := by decide +kernel
theorem dX6_follow_7 : decode cX6_follow 7 = .ok (.isub, 1) := by decide +kernel
theorem dX6_follow_8 : decode cX6_follow 8 = .ok (.istore 4, 2) := by decide +kernel
theorem dX6_follow_10 : decode cX6_follow 10 = .ok (.iload 4, 2) := by decide +kernel
theorem dX6_follow_12 : decode cX6_follow 12 = .ok (.ifCond .le 13, 3) := by decide +kernel
theorem dX6_follow_15 : decode cX6_follow 15 = .ok (.aload_n 0, 1) := by decide +kernel
theorem dX6_follow_16 : decode cX6_follow 16 = .ok (.iload_n 1, 1) := by decide +kernel
theorem dX6_follow_17 : decode cX6_follow 17 = .ok (.iload_n 2, 1) := by decide +kernel
theorem dX6_follow_18 : decode cX6_follow 18 = .ok (.iload_n 3, 1) := by decide +kernel
theorem dX6_follow_19 : decode cX6_follow 19 = .ok (.invokevirtual 45, 3) := by decide +kernel
theorem dX6_follow_22 : decode cX6_follow 22 = .ok (.ifCond .ne 5, 3) := by decide +kernel
theorem dX6_follow_25 : decode cX6_follow 25 = .ok (.iconst 1, 1) := by decide +kernel
theorem dX6_follow_26 : decode cX6_follow 26 = .ok (.ireturn, 1) := by decide +kernel
theorem dX6_follow_27 : decode cX6_follow 27 = .ok (.iload 4, 2) := by decide +kernel
theorem dX6_follow_29 : decode cX6_follow 29 = .ok (.aload_n 0, 1) := by decide +kernel
theorem dX6_follow_30 : decode cX6_follow 30 = .ok (.getfield 9, 3) := by decide +kernel
theorem dX6_follow_33 : decode cX6_follow 33 = .ok (.iload_n 3, 1) := by decide +kernel
theorem dX6_follow_34 : decode cX6_follow 34 = .ok (.iaload, 1) := by decide +kernel
theorem dX6_follow_35 : decode cX6_follow 35 = .ok (.if_icmp .le 23, 3) := by decide +kernel
theorem dX6_follow_38 : decode cX6_follow 38 = .ok (.aload_n 0, 1) := by decide +kernel
theorem dX6_follow_39 : decode cX6_follow 39 = .ok (.iload_n 1, 1) := by decide +kernel
theorem dX6_follow_40 : decode cX6_follow 40 = .ok (.bipush 8, 2) := by decide +kernel
theorem dX6_follow_42 : decode cX6_follow 42 = .ok (.imul, 1) := by decide +kernel
theorem dX6_follow_43 : decode cX6_follow 43 = .ok (.iload_n 2, 1) := by decide +kernel
theorem dX6_follow_44 : decode cX6_follow 44 = .ok (.iadd, 1) := by decide +kernel
theorem dX6_follow_45 : decode cX6_follow 45 = .ok (.aload_n 0, 1) := by decide +kernel
theorem dX6_follow_46 : decode cX6_follow 46 = .ok (.getfield 9, 3) := by decide +kernel
theorem dX6_follow_49 : decode cX6_follow 49 = .ok (.iload_n 3, 1) := by decide +kernel
theorem dX6_follow_50 : decode cX6_follow 50 = .ok (.iaload, 1) := by decide +kernel
theorem dX6_follow_51 : decode cX6_follow 51 = .ok (.iadd, 1) := by decide +kernel
theorem dX6_follow_52 : decode cX6_follow 52 = .ok (.invokevirtual 55, 3) := by decide +kernel
theorem dX6_follow_55 : decode cX6_follow 55 = .ok (.goto 25, 3) := by decide +kernel
theorem dX6_follow_58 : decode cX6_follow 58 = .ok (.iload 4, 2) := by decide +kernel
theorem dX6_follow_60 : decode cX6_follow 60 = .ok (.aload_n 0, 1) := by decide +kernel
theorem dX6_follow_61 : decode cX6_follow 61 = .ok (.getfield 9, 3) := by decide +kernel
theorem dX6_follow_64 : decode cX6_follow 64 = .ok (.iload_n 3, 1) := by decide +kernel
theorem dX6_follow_65 : decode cX6_follow 65 = .ok (.iaload, 1) := by decide +kernel
theorem dX6_follow_66 : decode cX6_follow 66 = .ok (.if_icmp .ge 14, 3) := by decide +kernel
theorem dX6_follow_69 : decode cX6_follow 69 = .ok (.aload_n 0, 1) := by decide +kernel
theorem dX6_follow_70 : decode cX6_follow 70 = .ok (.iload_n 3, 1) := by decide +kernel
theorem dX6_follow_71 : decode cX6_follow 71 = .ok (.bipush 8, 2) := by decide +kernel
theorem dX6_follow_73 : decode cX6_follow 73 = .ok (.imul, 1) := by decide +kernel
theorem dX6_follow_74 : decode cX6_follow 74 = .ok (.iload 4, 2) := by decide +kernel
theorem dX6_follow_76 : decode cX6_follow 76 = .ok (.iadd, 1) := by decide +kernel
theorem dX6_follow_77 : decode cX6_follow 77 = .ok (.invokevirtual 55, 3) := by decide +kernel
theorem dX6_follow_80 : decode cX6_follow 80 = .ok (.iload 4, 2) := by decide +kernel
theorem dX6_follow_82 : decode cX6_follow 82 = .ok (.aload_n 0, 1) := by decide +kernel
theorem dX6_follow_83 : decode cX6_follow 83 = .ok (.getfield 9, 3) := by decide +kernel
theorem dX6_follow_86 : decode cX6_follow 86 = .ok (.iload_n 3, 1) := by decide +kernel
theorem dX6_follow_87 : decode cX6_follow 87 = .ok (.iaload, 1) := by decide +kernel
theorem dX6_follow_88 : decode cX6_follow 88 = .ok (.if_icmp .eq 7, 3) := by decide +kernel
theorem dX6_follow_91 : decode cX6_follow 91 = .ok (.iconst 1, 1) := by decide +kernel
theorem dX6_follow_92 : decode cX6_follow 92 = .ok (.goto 4, 3) := by decide +kernel
theorem dX6_follow_95 : decode cX6_follow 95 = .ok (.iconst 0, 1) := by decide +kernel
theorem dX6_follow_96 : decode cX6_follow 96 = .ok (.ireturn, 1) := by decide +kernel
theorem dX6_emptyQueue_0 : decode cX6_emptyQueue 0 = .ok (.iconst 0, 1) := by decide +kernel
theorem dX6_emptyQueue_1 : decode cX6_emptyQueue 1 = .ok (.istore_n 1, 1) := by decide +kernel
theorem dX6_emptyQueue_2 : decode cX6_emptyQueue 2 = .ok (.iload_n 1, 1) := by decide +kernel
theorem dX6_emptyQueue_3 : decode cX6_emptyQueue 3 = .ok (.bipush 64, 2) := by decide +kernel
theorem dX6_emptyQueue_5 : decode cX6_emptyQueue 5 = .ok (.if_icmp .ge 16, 3) := by decide +kernel
theorem dX6_emptyQueue_8 : decode cX6_emptyQueue 8 = .ok (.aload_n 0, 1) := by decide +kernel
theorem dX6_emptyQueue_9 : decode cX6_emptyQueue 9 = .ok (.getfield 24, 3) := by decide +kernel
theorem dX6_emptyQueue_12 : decode cX6_emptyQueue 12 = .ok (.iload_n 1, 1) := by decide +kernel
theorem dX6_emptyQueue_13 : decode cX6_emptyQueue 13 = .ok (.iconst 0, 1) := by decide +kernel
theorem dX6_emptyQueue_14 : decode cX6_emptyQueue 14 = .ok (.bastore, 1) := by decide +kernel
theorem dX6_emptyQueue_15 : decode cX6_emptyQueue 15 = .ok (.iinc 1 1, 3) := by decide +kernel
theorem dX6_emptyQueue_18 : decode cX6_emptyQueue 18 = .ok (.goto (-16), 3) := by decide +kernel
theorem dX6_emptyQueue_21 : decode cX6_emptyQueue 21 = .ok (.aload_n 0, 1) := by decide +kernel
theorem dX6_emptyQueue_22 : decode cX6_emptyQueue 22 = .ok (.iconst 0, 1) := by decide +kernel
theorem dX6_emptyQueue_23 : decode cX6_emptyQueue 23 = .ok (.putfield 28, 3) := by decide +kernel
theorem dX6_emptyQueue_26 : decode cX6_emptyQueue 26 = .ok (.return_, 1) := by decide +kernel
theorem dX6_enqueue_0 : decode cX6_enqueue 0 = .ok (.iload_n 1, 1) := by decide +kernel
theorem dX6_enqueue_1 : decode cX6_enqueue 1 = .ok (.bipush 64, 2) := by decide +kernel
theorem dX6_enqueue_3 : decode cX6_enqueue 3 = .ok (.invokestatic 32, 3) := by decide +kernel
theorem dX6_enqueue_6 : decode cX6_enqueue 6 = .ok (.ifCond .ne 48, 3) := by decide +kernel
theorem dX6_enqueue_9 : decode cX6_enqueue 9 = .ok (.aload_n 0, 1) := by decide +kernel
theorem dX6_enqueue_10 : decode cX6_enqueue 10 = .ok (.getfield 24, 3) := by decide +kernel
theorem dX6_enqueue_13 : decode cX6_enqueue 13 = .ok (.iload_n 1, 1) := by decide +kernel
theorem dX6_enqueue_14 : decode cX6_enqueue 14 = .ok (.baload, 1) := by decide +kernel
theorem dX6_enqueue_15 : decode cX6_enqueue 15 = .ok (.ifCond .ne 39, 3) := by decide +kernel
theorem dX6_enqueue_18 : decode cX6_enqueue 18 = .ok (.aload_n 0, 1) := by decide +kernel
theorem dX6_enqueue_19 : decode cX6_enqueue 19 = .ok (.getfield 28, 3) := by decide +kernel
theorem dX6_enqueue_22 : decode cX6_enqueue 22 = .ok (.bipush 64, 2) := by decide +kernel
theorem dX6_enqueue_24 : decode cX6_enqueue 24 = .ok (.if_icmp .ge 30, 3) := by decide +kernel
theorem dX6_enqueue_27 : decode cX6_enqueue 27 = .ok (.aload_n 0, 1) := by decide +kernel
theorem dX6_enqueue_28 : decode cX6_enqueue 28 = .ok (.getfield 24, 3) := by decide +kernel
theorem dX6_enqueue_31 : decode cX6_enqueue 31 = .ok (.iload_n 1, 1) := by decide +kernel
theorem dX6_enqueue_32 : decode cX6_enqueue 32 = .ok (.iconst 1, 1) := by decide +kernel
theorem dX6_enqueue_33 : decode cX6_enqueue 33 = .ok (.bastore, 1) := by decide +kernel
theorem dX6_enqueue_34 : decode cX6_enqueue 34 = .ok (.aload_n 0, 1) := by decide +kernel
theorem dX6_enqueue_35 : decode cX6_enqueue 35 = .ok (.getfield 21, 3) := by decide +kernel
theorem dX6_enqueue_38 : decode cX6_enqueue 38 = .ok (.aload_n 0, 1) := by decide +kernel
theorem dX6_enqueue_39 : decode cX6_enqueue 39 = .ok (.getfield 28, 3) := by decide +kernel
theorem dX6_enqueue_42 : decode cX6_enqueue 42 = .ok (.iload_n 1, 1) := by decide +kernel
theorem dX6_enqueue_43 : decode cX6_enqueue 43 = .ok (.iastore, 1) := by decide +kernel
theorem dX6_enqueue_44 : decode cX6_enqueue 44 = .ok (.aload_n 0, 1) := by decide +kernel
theorem dX6_enqueue_45 : decode cX6_enqueue 45 = .ok (.dup, 1) := by decide +kernel
theorem dX6_enqueue_46 : decode cX6_enqueue 46 = .ok (.getfield 28, 3) := by decide +kernel
theorem dX6_enqueue_49 : decode cX6_enqueue 49 = .ok (.iconst 1, 1) := by decide +kernel
theorem dX6_enqueue_50 : decode cX6_enqueue 50 = .ok (.iadd, 1) := by decide +kernel
theorem dX6_enqueue_51 : decode cX6_enqueue 51 = .ok (.putfield 28, 3) := by decide +kernel
theorem dX6_enqueue_54 : decode cX6_enqueue 54 = .ok (.return_, 1) := by decide +kernel
theorem dX6_leastKnocks_0 : decode cX6_leastKnocks 0 = .ok (.aload_n 1, 1) := by decide +kernel
theorem dX6_leastKnocks_1 : decode cX6_leastKnocks 1 = .ok (.getfield 36, 3) := by decide +kernel
theorem dX6_leastKnocks_4 : decode cX6_leastKnocks 4 = .ok (.bipush 8, 2) := by decide +kernel
theorem dX6_leastKnocks_6 : decode cX6_leastKnocks 6 = .ok (.invokestatic 59, 3) := by decide +kernel
theorem dX6_leastKnocks_9 : decode cX6_leastKnocks 9 = .ok (.istore_n 2, 1) := by decide +kernel
theorem dX6_leastKnocks_10 : decode cX6_leastKnocks 10 = .ok (.iconst 0, 1) := by decide +kernel
theorem dX6_leastKnocks_11 : decode cX6_leastKnocks 11 = .ok (.istore_n 3, 1) := by decide +kernel
theorem dX6_leastKnocks_12 : decode cX6_leastKnocks 12 = .ok (.iload_n 3, 1) := by decide +kernel
theorem dX6_leastKnocks_13 : decode cX6_leastKnocks 13 = .ok (.iload_n 2, 1) := by decide +kernel
theorem dX6_leastKnocks_14 : decode cX6_leastKnocks 14 = .ok (.if_icmp .ge 20, 3) := by decide +kernel
theorem dX6_leastKnocks_17 : decode cX6_leastKnocks 17 = .ok (.aload_n 0, 1) := by decide +kernel
theorem dX6_leastKnocks_18 : decode cX6_leastKnocks 18 = .ok (.getfield 18, 3) := by decide +kernel
theorem dX6_leastKnocks_21 : decode cX6_leastKnocks 21 = .ok (.iload_n 3, 1) := by decide +kernel
theorem dX6_leastKnocks_22 : decode cX6_leastKnocks 22 = .ok (.aload_n 1, 1) := by decide +kernel
theorem dX6_leastKnocks_23 : decode cX6_leastKnocks 23 = .ok (.iload_n 3, 1) := by decide +kernel
theorem dX6_leastKnocks_24 : decode cX6_leastKnocks 24 = .ok (.invokevirtual 41, 3) := by decide +kernel
theorem dX6_leastKnocks_27 : decode cX6_leastKnocks 27 = .ok (.iastore, 1) := by decide +kernel
theorem dX6_leastKnocks_28 : decode cX6_leastKnocks 28 = .ok (.iinc 3 1, 3) := by decide +kernel
theorem dX6_leastKnocks_31 : decode cX6_leastKnocks 31 = .ok (.goto (-19), 3) := by decide +kernel
theorem dX6_leastKnocks_34 : decode cX6_leastKnocks 34 = .ok (.iload_n 2, 1) := by decide +kernel
theorem dX6_leastKnocks_35 : decode cX6_leastKnocks 35 = .ok (.iconst 1, 1) := by decide +kernel
theorem dX6_leastKnocks_36 : decode cX6_leastKnocks 36 = .ok (.if_icmp .ne 10, 3) := by decide +kernel
theorem dX6_leastKnocks_39 : decode cX6_leastKnocks 39 = .ok (.aload_n 0, 1) := by decide +kernel
theorem dX6_leastKnocks_40 : decode cX6_leastKnocks 40 = .ok (.getfield 18, 3) := by decide +kernel
theorem dX6_leastKnocks_43 : decode cX6_leastKnocks 43 = .ok (.iconst 0, 1) := by decide +kernel
theorem dX6_leastKnocks_44 : decode cX6_leastKnocks 44 = .ok (.iaload, 1) := by decide +kernel
theorem dX6_leastKnocks_45 : decode cX6_leastKnocks 45 = .ok (.ireturn, 1) := by decide +kernel
theorem dX6_leastKnocks_46 : decode cX6_leastKnocks 46 = .ok (.iconst 0, 1) := by decide +kernel
theorem dX6_leastKnocks_47 : decode cX6_leastKnocks 47 = .ok (.istore_n 3, 1) := by decide +kernel
theorem dX6_leastKnocks_48 : decode cX6_leastKnocks 48 = .ok (.iload_n 2, 1) := by decide +kernel
theorem dX6_leastKnocks_49 : decode cX6_leastKnocks 49 = .ok (.istore 4, 2) := by decide +kernel
theorem dX6_leastKnocks_51 : decode cX6_leastKnocks 51 = .ok (.iload 4, 2) := by decide +kernel
theorem dX6_leastKnocks_53 : decode cX6_leastKnocks 53 = .ok (.iconst 1, 1) := by decide +kernel
theorem dX6_leastKnocks_54 : decode cX6_leastKnocks 54 = .ok (.if_icmp .le 56, 3) := by decide +kernel
theorem dX6_leastKnocks_57 : decode cX6_leastKnocks 57 = .ok (.aload_n 0, 1) := by decide +kernel
theorem dX6_leastKnocks_58 : decode cX6_leastKnocks 58 = .ok (.iload 4, 2) := by decide +kernel
theorem dX6_leastKnocks_60 : decode cX6_leastKnocks 60 = .ok (.invokevirtual 65, 3) := by decide +kernel
theorem dX6_leastKnocks_63 : decode cX6_leastKnocks 63 = .ok (.aload_n 0, 1) := by decide +kernel
theorem dX6_leastKnocks_64 : decode cX6_leastKnocks 64 = .ok (.iload 4, 2) := by decide +kernel
theorem dX6_leastKnocks_66 : decode cX6_leastKnocks 66 = .ok (.iconst 1, 1) := by decide +kernel
theorem dX6_leastKnocks_67 : decode cX6_leastKnocks 67 = .ok (.isub, 1) := by decide +kernel
theorem dX6_leastKnocks_68 : decode cX6_leastKnocks 68 = .ok (.invokevirtual 65, 3) := by decide +kernel
theorem dX6_leastKnocks_71 : decode cX6_leastKnocks 71 = .ok (.aload_n 0, 1) := by decide +kernel
theorem dX6_leastKnocks_72 : decode cX6_leastKnocks 72 = .ok (.getfield 18, 3) := by decide +kernel
theorem dX6_leastKnocks_75 : decode cX6_leastKnocks 75 = .ok (.iload 4, 2) := by decide +kernel
theorem dX6_leastKnocks_77 : decode cX6_leastKnocks 77 = .ok (.iconst 2, 1) := by decide +kernel
theorem dX6_leastKnocks_78 : decode cX6_leastKnocks 78 = .ok (.isub, 1) := by decide +kernel
theorem dX6_leastKnocks_79 : decode cX6_leastKnocks 79 = .ok (.dup2, 1) := by decide +kernel
theorem dX6_leastKnocks_80 : decode cX6_leastKnocks 80 = .ok (.iaload, 1) := by decide +kernel
theorem dX6_leastKnocks_81 : decode cX6_leastKnocks 81 = .ok (.aload_n 0, 1) := by decide +kernel
theorem dX6_leastKnocks_82 : decode cX6_leastKnocks 82 = .ok (.getfield 18, 3) := by decide +kernel
theorem dX6_leastKnocks_85 : decode cX6_leastKnocks 85 = .ok (.iload 4, 2) := by decide +kernel
theorem dX6_leastKnocks_87 : decode cX6_leastKnocks 87 = .ok (.iconst 1, 1) := by decide +kernel
theorem dX6_leastKnocks_88 : decode cX6_leastKnocks 88 = .ok (.isub, 1) := by decide +kernel
theorem dX6_leastKnocks_89 : decode cX6_leastKnocks 89 = .ok (.iaload, 1) := by decide +kernel
theorem dX6_leastKnocks_90 : decode cX6_leastKnocks 90 = .ok (.iadd, 1) := by decide +kernel
theorem dX6_leastKnocks_91 : decode cX6_leastKnocks 91 = .ok (.iastore, 1) := by decide +kernel
theorem dX6_leastKnocks_92 : decode cX6_leastKnocks 92 = .ok (.iload_n 3, 1) := by decide +kernel
theorem dX6_leastKnocks_93 : decode cX6_leastKnocks 93 = .ok (.aload_n 0, 1) := by decide +kernel
theorem dX6_leastKnocks_94 : decode cX6_leastKnocks 94 = .ok (.getfield 18, 3) := by decide +kernel
theorem dX6_leastKnocks_97 : decode cX6_leastKnocks 97 = .ok (.iload 4, 2) := by decide +kernel
theorem dX6_leastKnocks_99 : decode cX6_leastKnocks 99 = .ok (.iconst 2, 1) := by decide +kernel
theorem dX6_leastKnocks_100 : decode cX6_leastKnocks 100 = .ok (.isub, 1) := by decide +kernel
theorem dX6_leastKnocks_101 : decode cX6_leastKnocks 101 = .ok (.iaload, 1) := by decide +kernel
theorem dX6_leastKnocks_102 : decode cX6_leastKnocks 102 = .ok (.iadd, 1) := by decide +kernel
theorem dX6_leastKnocks_103 : decode cX6_leastKnocks 103 = .ok (.istore_n 3, 1) := by decide +kernel
theorem dX6_leastKnocks_104 : decode cX6_leastKnocks 104 = .ok (.iinc 4 (-1), 3) := by decide +kernel
theorem dX6_leastKnocks_107 : decode cX6_leastKnocks 107 = .ok (.goto (-56), 3) := by decide +kernel
theorem dX6_leastKnocks_110 : decode cX6_leastKnocks 110 = .ok (.iload_n 3, 1) := by decide +kernel
theorem dX6_leastKnocks_111 : decode cX6_leastKnocks 111 = .ok (.ireturn, 1) := by decide +kernel
theorem dX6_moveLeastBehind_0 : decode cX6_moveLeastBehind 0 = .ok (.iconst 0, 1) := by decide +kernel
theorem dX6_moveLeastBehind_1 : decode cX6_moveLeastBehind 1 = .ok (.istore_n 2, 1) := by decide +kernel
theorem dX6_moveLeastBehind_2 : decode cX6_moveLeastBehind 2 = .ok (.iload_n 2, 1) := by decide +kernel
theorem dX6_moveLeastBehind_3 : decode cX6_moveLeastBehind 3 = .ok (.iconst 1, 1) := by decide +kernel
theorem dX6_moveLeastBehind_4 : decode cX6_moveLeastBehind 4 = .ok (.iadd, 1) := by decide +kernel
theorem dX6_moveLeastBehind_5 : decode cX6_moveLeastBehind 5 = .ok (.iload_n 1, 1) := by decide +kernel
theorem dX6_moveLeastBehind_6 : decode cX6_moveLeastBehind 6 = .ok (.if_icmp .ge 62, 3) := by decide +kernel
theorem dX6_moveLeastBehind_9 : decode cX6_moveLeastBehind 9 = .ok (.iload_n 1, 1) := by decide +kernel
theorem dX6_moveLeastBehind_10 : decode cX6_moveLeastBehind 10 = .ok (.bipush 8, 2) := by decide +kernel
theorem dX6_moveLeastBehind_12 : decode cX6_moveLeastBehind 12 = .ok (.if_icmp .gt 56, 3) := by decide +kernel
theorem dX6_moveLeastBehind_15 : decode cX6_moveLeastBehind 15 = .ok (.aload_n 0, 1) := by decide +kernel
theorem dX6_moveLeastBehind_16 : decode cX6_moveLeastBehind 16 = .ok (.getfield 18, 3) := by decide +kernel
theorem dX6_moveLeastBehind_19 : decode cX6_moveLeastBehind 19 = .ok (.iload_n 2, 1) := by decide +kernel
theorem dX6_moveLeastBehind_20 : decode cX6_moveLeastBehind 20 = .ok (.iaload, 1) := by decide +kernel
theorem dX6_moveLeastBehind_21 : decode cX6_moveLeastBehind 21 = .ok (.aload_n 0, 1) := by decide +kernel
theorem dX6_moveLeastBehind_22 : decode cX6_moveLeastBehind 22 = .ok (.getfield 18, 3) := by decide +kernel
theorem dX6_moveLeastBehind_25 : decode cX6_moveLeastBehind 25 = .ok (.iload_n 1, 1) := by decide +kernel
theorem dX6_moveLeastBehind_26 : decode cX6_moveLeastBehind 26 = .ok (.iconst 1, 1) := by decide +kernel
theorem dX6_moveLeastBehind_27 : decode cX6_moveLeastBehind 27 = .ok (.isub, 1) := by decide +kernel
theorem dX6_moveLeastBehind_28 : decode cX6_moveLeastBehind 28 = .ok (.iaload, 1) := by decide +kernel
theorem dX6_moveLeastBehind_29 : decode cX6_moveLeastBehind 29 = .ok (.if_icmp .ge 33, 3) := by decide +kernel
theorem dX6_moveLeastBehind_32 : decode cX6_moveLeastBehind 32 = .ok (.aload_n 0, 1) := by decide +kernel
theorem dX6_moveLeastBehind_33 : decode cX6_moveLeastBehind 33 = .ok (.getfield 18, 3) := by decide +kernel
theorem dX6_moveLeastBehind_36 : decode cX6_moveLeastBehind 36 = .ok (.iload_n 2, 1) := by decide +kernel
theorem dX6_moveLeastBehind_37 : decode cX6_moveLeastBehind 37 = .ok (.iaload, 1) := by decide +kernel
theorem dX6_moveLeastBehind_38 : decode cX6_moveLeastBehind 38 = .ok (.istore_n 3, 1) := by decide +kernel
theorem dX6_moveLeastBehind_39 : decode cX6_moveLeastBehind 39 = .ok (.aload_n 0, 1) := by decide +kernel
theorem dX6_moveLeastBehind_40 : decode cX6_moveLeastBehind 40 = .ok (.getfield 18, 3) := by decide +kernel
theorem dX6_moveLeastBehind_43 : decode cX6_moveLeastBehind 43 = .ok (.iload_n 2, 1) := by decide +kernel
theorem dX6_moveLeastBehind_44 : decode cX6_moveLeastBehind 44 = .ok (.aload_n 0, 1) := by decide +kernel
theorem dX6_moveLeastBehind_45 : decode cX6_moveLeastBehind 45 = .ok (.getfield 18, 3) := by decide +kernel
theorem dX6_moveLeastBehind_48 : decode cX6_moveLeastBehind 48 = .ok (.iload_n 1, 1) := by decide +kernel
theorem dX6_moveLeastBehind_49 : decode cX6_moveLeastBehind 49 = .ok (.iconst 1, 1) := by decide +kernel
theorem dX6_moveLeastBehind_50 : decode cX6_moveLeastBehind 50 = .ok (.isub, 1) := by decide +kernel
theorem dX6_moveLeastBehind_51 : decode cX6_moveLeastBehind 51 = .ok (.iaload, 1) := by decide +kernel
theorem dX6_moveLeastBehind_52 : decode cX6_moveLeastBehind 52 = .ok (.iastore, 1) := by decide +kernel
theorem dX6_moveLeastBehind_53 : decode cX6_moveLeastBehind 53 = .ok (.aload_n 0, 1) := by decide +kernel
theorem dX6_moveLeastBehind_54 : decode cX6_moveLeastBehind 54 = .ok (.getfield 18, 3) := by decide +kernel
theorem dX6_moveLeastBehind_57 : decode cX6_moveLeastBehind 57 = .ok (.iload_n 1, 1) := by decide +kernel
theorem dX6_moveLeastBehind_58 : decode cX6_moveLeastBehind 58 = .ok (.iconst 1, 1) := by decide +kernel
theorem dX6_moveLeastBehind_59 : decode cX6_moveLeastBehind 59 = .ok (.isub, 1) := by decide +kernel
theorem dX6_moveLeastBehind_60 : decode cX6_moveLeastBehind 60 = .ok (.iload_n 3, 1) := by decide +kernel
theorem dX6_moveLeastBehind_61 : decode cX6_moveLeastBehind 61 = .ok (.iastore, 1) := by decide +kernel
theorem dX6_moveLeastBehind_62 : decode cX6_moveLeastBehind 62 = .ok (.iinc 2 1, 3) := by decide +kernel
theorem dX6_moveLeastBehind_65 : decode cX6_moveLeastBehind 65 = .ok (.goto (-63), 3) := by decide +kernel
theorem dX6_moveLeastBehind_68 : decode cX6_moveLeastBehind 68 = .ok (.return_, 1) := by decide +kernel
theorem dX6_addTo_0 : decode cX6_addTo 0 = .ok (.lload_n 1, 1) := by decide +kernel
theorem dX6_addTo_1 : decode cX6_addTo 1 = .ok (.lstore_n 3, 1) := by decide +kernel
theorem dX6_addTo_2 : decode cX6_addTo 2 = .ok (.iconst 0, 1) := by decide +kernel
theorem dX6_addTo_3 : decode cX6_addTo 3 = .ok (.istore 5, 2) := by decide +kernel
theorem dX6_addTo_5 : decode cX6_addTo 5 = .ok (.iload 5, 2) := by decide +kernel
theorem dX6_addTo_7 : decode cX6_addTo 7 = .ok (.bipush 8, 2) := by decide +kernel
theorem dX6_addTo_9 : decode cX6_addTo 9 = .ok (.if_icmp .ge 87, 3) := by decide +kernel
theorem dX6_addTo_12 : decode cX6_addTo 12 = .ok (.ldc2_w 68, 3) := by decide +kernel
theorem dX6_addTo_15 : decode cX6_addTo 15 = .ok (.lload_n 3, 1) := by decide +kernel
theorem dX6_addTo_16 : decode cX6_addTo 16 = .ok (.lmul, 1) := by decide +kernel
theorem dX6_addTo_17 : decode cX6_addTo 17 = .ok (.aload_n 0, 1) := by decide +kernel
theorem dX6_addTo_18 : decode cX6_addTo 18 = .ok (.getfield 9, 3) := by decide +kernel
theorem dX6_addTo_21 : decode cX6_addTo 21 = .ok (.iload 5, 2) := by decide +kernel
theorem dX6_addTo_23 : decode cX6_addTo 23 = .ok (.iaload, 1) := by decide +kernel
theorem dX6_addTo_24 : decode cX6_addTo 24 = .ok (.ifCond .ne 7, 3) := by decide +kernel
theorem dX6_addTo_27 : decode cX6_addTo 27 = .ok (.iconst (-1), 1) := by decide +kernel
theorem dX6_addTo_28 : decode cX6_addTo 28 = .ok (.goto 10, 3) := by decide +kernel
theorem dX6_addTo_31 : decode cX6_addTo 31 = .ok (.aload_n 0, 1) := by decide +kernel
theorem dX6_addTo_32 : decode cX6_addTo 32 = .ok (.getfield 9, 3) := by decide +kernel
theorem dX6_addTo_35 : decode cX6_addTo 35 = .ok (.iload 5, 2) := by decide +kernel
theorem dX6_addTo_37 : decode cX6_addTo 37 = .ok (.iaload, 1) := by decide +kernel
theorem dX6_addTo_38 : decode cX6_addTo 38 = .ok (.i2l, 1) := by decide +kernel
theorem dX6_addTo_39 : decode cX6_addTo 39 = .ok (.ladd, 1) := by decide +kernel
theorem dX6_addTo_40 : decode cX6_addTo 40 = .ok (.lstore_n 3, 1) := by decide +kernel
theorem dX6_addTo_41 : decode cX6_addTo 41 = .ok (.iconst 0, 1) := by decide +kernel
theorem dX6_addTo_42 : decode cX6_addTo 42 = .ok (.istore 6, 2) := by decide +kernel
theorem dX6_addTo_44 : decode cX6_addTo 44 = .ok (.iload 6, 2) := by decide +kernel
theorem dX6_addTo_46 : decode cX6_addTo 46 = .ok (.aload_n 0, 1) := by decide +kernel
theorem dX6_addTo_47 : decode cX6_addTo 47 = .ok (.getfield 9, 3) := by decide +kernel
theorem dX6_addTo_50 : decode cX6_addTo 50 = .ok (.iload 5, 2) := by decide +kernel
theorem dX6_addTo_52 : decode cX6_addTo 52 = .ok (.iaload, 1) := by decide +kernel
theorem dX6_addTo_53 : decode cX6_addTo 53 = .ok (.if_icmp .ge 37, 3) := by decide +kernel
theorem dX6_addTo_56 : decode cX6_addTo 56 = .ok (.iload 6, 2) := by decide +kernel
theorem dX6_addTo_58 : decode cX6_addTo 58 = .ok (.bipush 8, 2) := by decide +kernel
theorem dX6_addTo_60 : decode cX6_addTo 60 = .ok (.if_icmp .ge 30, 3) := by decide +kernel
theorem dX6_addTo_63 : decode cX6_addTo 63 = .ok (.ldc2_w 68, 3) := by decide +kernel
theorem dX6_addTo_66 : decode cX6_addTo 66 = .ok (.lload_n 3, 1) := by decide +kernel
theorem dX6_addTo_67 : decode cX6_addTo 67 = .ok (.lmul, 1) := by decide +kernel
theorem dX6_addTo_68 : decode cX6_addTo 68 = .ok (.aload_n 0, 1) := by decide +kernel
theorem dX6_addTo_69 : decode cX6_addTo 69 = .ok (.getfield 15, 3) := by decide +kernel
theorem dX6_addTo_72 : decode cX6_addTo 72 = .ok (.iload 5, 2) := by decide +kernel
theorem dX6_addTo_74 : decode cX6_addTo 74 = .ok (.bipush 8, 2) := by decide +kernel
theorem dX6_addTo_76 : decode cX6_addTo 76 = .ok (.imul, 1) := by decide +kernel
theorem dX6_addTo_77 : decode cX6_addTo 77 = .ok (.iload 6, 2) := by decide +kernel
theorem dX6_addTo_79 : decode cX6_addTo 79 = .ok (.iadd, 1) := by decide +kernel
theorem dX6_addTo_80 : decode cX6_addTo 80 = .ok (.iaload, 1) := by decide +kernel
theorem dX6_addTo_81 : decode cX6_addTo 81 = .ok (.i2l, 1) := by decide +kernel
theorem dX6_addTo_82 : decode cX6_addTo 82 = .ok (.ladd, 1) := by decide +kernel
theorem dX6_addTo_83 : decode cX6_addTo 83 = .ok (.lstore_n 3, 1) := by decide +kernel
theorem dX6_addTo_84 : decode cX6_addTo 84 = .ok (.iinc 6 1, 3) := by decide +kernel
theorem dX6_addTo_87 : decode cX6_addTo 87 = .ok (.goto (-43), 3) := by decide +kernel
theorem dX6_addTo_90 : decode cX6_addTo 90 = .ok (.iinc 5 1, 3) := by decide +kernel
theorem dX6_addTo_93 : decode cX6_addTo 93 = .ok (.goto (-88), 3) := by decide +kernel
theorem dX6_addTo_96 : decode cX6_addTo 96 = .ok (.lload_n 3, 1) := by decide +kernel
theorem dX6_addTo_97 : decode cX6_addTo 97 = .ok (.lreturn, 1) := by decide +kernel
theorem dX7_init_0 : decode cX7_init 0 = .ok (.aload_n 0, 1) := by decide +kernel
theorem dX7_init_1 : decode cX7_init 1 = .ok (.invokespecial 3, 3) := by decide +kernel
theorem dX7_init_4 : decode cX7_init 4 = .ok (.aload_n 0, 1) := by decide +kernel
theorem dX7_init_5 : decode cX7_init 5 = .ok (.bipush 8, 2) := by decide +kernel
theorem dX7_init_7 : decode cX7_init 7 = .ok (.anewarray 9, 3) := by decide +kernel
theorem dX7_init_10 : decode cX7_init 10 = .ok (.putfield 11, 3) := by decide +kernel
theorem dX7_init_13 : decode cX7_init 13 = .ok (.aload_n 0, 1) := by decide +kernel
theorem dX7_init_14 : decode cX7_init 14 = .ok (.bipush 30, 2) := by decide +kernel
theorem dX7_init_16 : decode cX7_init 16 = .ok (.putfield 17, 3) := by decide +kernel
theorem dX7_init_19 : decode cX7_init 19 = .ok (.aload_n 0, 1) := by decide +kernel
theorem dX7_init_20 : decode cX7_init 20 = .ok (.iconst 2, 1) := by decide +kernel
theorem dX7_init_21 : decode cX7_init 21 = .ok (.putfield 21, 3) := by decide +kernel
theorem dX7_init_24 : decode cX7_init 24 = .ok (.aload_n 0, 1) := by decide +kernel
theorem dX7_init_25 : decode cX7_init 25 = .ok (.bipush (-9), 2) := by decide +kernel
theorem dX7_init_27 : decode cX7_init 27 = .ok (.putfield 24, 3) := by decide +kernel
theorem dX7_init_30 : decode cX7_init 30 = .ok (.iconst 0, 1) := by decide +kernel
theorem dX7_init_31 : decode cX7_init 31 = .ok (.istore_n 1, 1) := by decide +kernel
theorem dX7_init_32 : decode cX7_init 32 = .ok (.iload_n 1, 1) := by decide +kernel
theorem dX7_init_33 : decode cX7_init 33 = .ok (.aload_n 0, 1) := by decide +kernel
theorem dX7_init_34 : decode cX7_init 34 = .ok (.getfield 11, 3) := by decide +kernel
theorem dX7_init_37 : decode cX7_init 37 = .ok (.arraylength, 1) := by decide +kernel
theorem dX7_init_38 : decode cX7_init 38 = .ok (.if_icmp .ge 22, 3) := by decide +kernel
theorem dX7_init_41 : decode cX7_init 41 = .ok (.aload_n 0, 1) := by decide +kernel
theorem dX7_init_42 : decode cX7_init 42 = .ok (.getfield 11, 3) := by decide +kernel
theorem dX7_init_45 : decode cX7_init 45 = .ok (.iload_n 1, 1) := by decide +kernel
theorem dX7_init_46 : decode cX7_init 46 = .ok (.new 9, 3) := by decide +kernel
theorem dX7_init_49 : decode cX7_init 49 = .ok (.dup, 1) := by decide +kernel
theorem dX7_init_50 : decode cX7_init 50 = .ok (.invokespecial 27, 3) := by decide +kernel
theorem dX7_init_53 : decode cX7_init 53 = .ok (.aastore, 1) := by decide +kernel
theorem dX7_init_54 : decode cX7_init 54 = .ok (.iinc 1 1, 3) := by decide +kernel
theorem dX7_init_57 : decode cX7_init 57 = .ok (.goto (-25), 3) := by decide +kernel
theorem dX7_init_60 : decode cX7_init 60 = .ok (.return_, 1) := by decide +kernel
theorem dX7_hasHide_0 : decode cX7_hasHide 0 = .ok (.iload_n 1, 1) := by decide +kernel
theorem dX7_hasHide_1 : decode cX7_hasHide 1 = .ok (.ifCond .lt 28, 3) := by decide +kernel
theorem dX7_hasHide_4 : decode cX7_hasHide 4 = .ok (.iload_n 1, 1) := by decide +kernel
theorem dX7_hasHide_5 : decode cX7_hasHide 5 = .ok (.aload_n 0, 1) := by decide +kernel
theorem dX7_hasHide_6 : decode cX7_hasHide 6 = .ok (.getfield 11, 3) := by decide +kernel
theorem dX7_hasHide_9 : decode cX7_hasHide 9 = .ok (.arraylength, 1) := by decide +kernel
theorem dX7_hasHide_10 : decode cX7_hasHide 10 = .ok (.if_icmp .ge 19, 3) := by decide +kernel
theorem dX7_hasHide_13 : decode cX7_hasHide 13 = .ok (.aload_n 0, 1) := by decide +kernel
theorem dX7_hasHide_14 : decode cX7_hasHide 14 = .ok (.getfield 11, 3) := by decide +kernel
theorem dX7_hasHide_17 : decode cX7_hasHide 17 = .ok (.iload_n 1, 1) := by decide +kernel
theorem dX7_hasHide_18 : decode cX7_hasHide 18 = .ok (.aaload, 1) := by decide +kernel
theorem dX7_hasHide_19 : decode cX7_hasHide 19 = .ok (.getfield 28, 3) := by decide +kernel
theorem dX7_hasHide_22 : decode cX7_hasHide 22 = .ok (.ifCond .eq 7, 3) := by decide +kernel
theorem dX7_hasHide_25 : decode cX7_hasHide 25 = .ok (.iconst 1, 1) := by decide +kernel
theorem dX7_hasHide_26 : decode cX7_hasHide 26 = .ok (.goto 4, 3) := by decide +kernel
theorem dX7_hasHide_29 : decode cX7_hasHide 29 = .ok (.iconst 0, 1) := by decide +kernel
theorem dX7_hasHide_30 : decode cX7_hasHide 30 = .ok (.ireturn, 1) := by decide +kernel
theorem dX7_hidesThere_0 : decode cX7_hidesThere 0 = .ok (.iconst 0, 1) := by decide +kernel
theorem dX7_hidesThere_1 : decode cX7_hidesThere 1 = .ok (.istore_n 1, 1) := by decide +kernel
theorem dX7_hidesThere_2 : decode cX7_hidesThere 2 = .ok (.iconst 0, 1) := by decide +kernel
theorem dX7_hidesThere_3 : decode cX7_hidesThere 3 = .ok (.istore_n 2, 1) := by decide +kernel
theorem dX7_hidesThere_4 : decode cX7_hidesThere 4 = .ok (.iload_n 2, 1) := by decide +kernel
theorem dX7_hidesThere_5 : decode cX7_hidesThere 5 = .ok (.aload_n 0, 1) := by decide +kernel
theorem dX7_hidesThere_6 : decode cX7_hidesThere 6 = .ok (.getfield 11, 3) := by decide +kernel
theorem dX7_hidesThere_9 : decode cX7_hidesThere 9 = .ok (.arraylength, 1) := by decide +kernel
theorem dX7_hidesThere_10 : decode cX7_hidesThere 10 = .ok (.if_icmp .ge 24, 3) := by decide +kernel
theorem dX7_hidesThere_13 : decode cX7_hidesThere 13 = .ok (.aload_n 0, 1) := by decide +kernel
theorem dX7_hidesThere_14 : decode cX7_hidesThere 14 = .ok (.getfield 11, 3) := by decide +kernel
theorem dX7_hidesThere_17 : decode cX7_hidesThere 17 = .ok (.iload_n 2, 1) := by decide +kernel
theorem dX7_hidesThere_18 : decode cX7_hidesThere 18 = .ok (.aaload, 1) := by decide +kernel
theorem dX7_hidesThere_19 : decode cX7_hidesThere 19 = .ok (.getfield 28, 3) := by decide +kernel
theorem dX7_hidesThere_22 : decode cX7_hidesThere 22 = .ok (.ifCond .eq 6, 3) := by decide +kernel
theorem dX7_hidesThere_25 : decode cX7_hidesThere 25 = .ok (.iinc 1 1, 3) := by decide +kernel
theorem dX7_hidesThere_28 : decode cX7_hidesThere 28 = .ok (.iinc 2 1, 3) := by decide +kernel
theorem dX7_hidesThere_31 : decode cX7_hidesThere 31 = .ok (.goto (-27), 3) := by decide +kernel
theorem dX7_hidesThere_34 : decode cX7_hidesThere 34 = .ok (.iload_n 1, 1) := by decide +kernel
theorem dX7_hidesThere_35 : decode cX7_hidesThere 35 = .ok (.ireturn, 1) := by decide +kernel
theorem dX7_canHold_0 : decode cX7_canHold 0 = .ok (.iload_n 1, 1) := by decide +kernel
theorem dX7_canHold_1 : decode cX7_canHold 1 = .ok (.ifCond .lt 26, 3) := by decide +kernel
theorem dX7_canHold_4 : decode cX7_canHold 4 = .ok (.iload_n 1, 1) := by decide +kernel
theorem dX7_canHold_5 : decode cX7_canHold 5 = .ok (.aload_n 0, 1) := by decide +kernel
theorem dX7_canHold_6 : decode cX7_canHold 6 = .ok (.getfield 17, 3) := by decide +kernel
theorem dX7_canHold_9 : decode cX7_canHold 9 = .ok (.if_icmp .ge 18, 3) := by decide +kernel
theorem dX7_canHold_12 : decode cX7_canHold 12 = .ok (.iload_n 2, 1) := by decide +kernel
theorem dX7_canHold_13 : decode cX7_canHold 13 = .ok (.bipush (-99), 2) := by decide +kernel
theorem dX7_canHold_15 : decode cX7_canHold 15 = .ok (.bipush 99, 2) := by decide +kernel
theorem dX7_canHold_17 : decode cX7_canHold 17 = .ok (.invokestatic 32, 3) := by decide +kernel
theorem dX7_canHold_20 : decode cX7_canHold 20 = .ok (.ifCond .eq 7, 3) := by decide +kernel
theorem dX7_canHold_23 : decode cX7_canHold 23 = .ok (.iconst 1, 1) := by decide +kernel
theorem dX7_canHold_24 : decode cX7_canHold 24 = .ok (.goto 4, 3) := by decide +kernel
theorem dX7_canHold_27 : decode cX7_canHold 27 = .ok (.iconst 0, 1) := by decide +kernel
theorem dX7_canHold_28 : decode cX7_canHold 28 = .ok (.ireturn, 1) := by decide +kernel
theorem dX7_shadowUpper_0 : decode cX7_shadowUpper 0 = .ok (.iload 4, 2) := by decide +kernel
theorem dX7_shadowUpper_2 : decode cX7_shadowUpper 2 = .ok (.tableswitch 59 0 2 #[26, 38, 50], 26) := by decide +kernel
theorem dX7_shadowUpper_28 : decode cX7_shadowUpper 28 = .ok (.aload_n 1, 1) := by decide +kernel
theorem dX7_shadowUpper_29 : decode cX7_shadowUpper 29 = .ok (.getfield 36, 3) := by decide +kernel
theorem dX7_shadowUpper_32 : decode cX7_shadowUpper 32 = .ok (.i2l, 1) := by decide +kernel
theorem dX7_shadowUpper_33 : decode cX7_shadowUpper 33 = .ok (.aload_n 0, 1) := by decide +kernel
theorem dX7_shadowUpper_34 : decode cX7_shadowUpper 34 = .ok (.getfield 17, 3) := by decide +kernel
theorem dX7_shadowUpper_37 : decode cX7_shadowUpper 37 = .ok (.i2l, 1) := by decide +kernel
theorem dX7_shadowUpper_38 : decode cX7_shadowUpper 38 = .ok (.lmul, 1) := by decide +kernel
theorem dX7_shadowUpper_39 : decode cX7_shadowUpper 39 = .ok (.lreturn, 1) := by decide +kernel
theorem dX7_shadowUpper_40 : decode cX7_shadowUpper 40 = .ok (.aload_n 1, 1) := by decide +kernel
theorem dX7_shadowUpper_41 : decode cX7_shadowUpper 41 = .ok (.getfield 39, 3) := by decide +kernel
theorem dX7_shadowUpper_44 : decode cX7_shadowUpper 44 = .ok (.i2l, 1) := by decide +kernel
theorem dX7_shadowUpper_45 : decode cX7_shadowUpper 45 = .ok (.aload_n 0, 1) := by decide +kernel
theorem dX7_shadowUpper_46 : decode cX7_shadowUpper 46 = .ok (.getfield 17, 3) := by decide +kernel
theorem dX7_shadowUpper_49 : decode cX7_shadowUpper 49 = .ok (.i2l, 1) := by decide +kernel
theorem dX7_shadowUpper_50 : decode cX7_shadowUpper 50 = .ok (.lmul, 1) := by decide +kernel
theorem dX7_shadowUpper_51 : decode cX7_shadowUpper 51 = .ok (.lreturn, 1) := by decide +kernel
theorem dX7_shadowUpper_52 : decode cX7_shadowUpper 52 = .ok (.iload_n 3, 1) := by decide +kernel
theorem dX7_shadowUpper_53 : decode cX7_shadowUpper 53 = .ok (.i2l, 1) := by decide +kernel
theorem dX7_shadowUpper_54 : decode cX7_shadowUpper 54 = .ok (.aload_n 0, 1) := by decide +kernel
theorem dX7_shadowUpper_55 : decode cX7_shadowUpper 55 = .ok (.getfield 17, 3) := by decide +kernel
theorem dX7_shadowUpper_58 : decode cX7_shadowUpper 58 = .ok (.i2l, 1) := by decide +kernel
theorem dX7_shadowUpper_59 : decode cX7_shadowUpper 59 = .ok (.lmul, 1) := by decide +kernel
theorem dX7_shadowUpper_60 : decode cX7_shadowUpper 60 = .ok (.lreturn, 1) := by decide +kernel
theorem dX7_shadowUpper_61 : decode cX7_shadowUpper 61 = .ok (.aload_n 0, 1) := by decide +kernel
theorem dX7_shadowUpper_62 : decode cX7_shadowUpper 62 = .ok (.getfield 21, 3) := by decide +kernel
theorem dX7_shadowUpper_65 : decode cX7_shadowUpper 65 = .ok (.i2l, 1) := by decide +kernel
theorem dX7_shadowUpper_66 : decode cX7_shadowUpper 66 = .ok (.iload_n 2, 1) := by decide +kernel
theorem dX7_shadowUpper_67 : decode cX7_shadowUpper 67 = .ok (.i2l, 1) := by decide +kernel
theorem dX7_shadowUpper_68 : decode cX7_shadowUpper 68 = .ok (.lmul, 1) := by decide +kernel
theorem dX7_shadowUpper_69 : decode cX7_shadowUpper 69 = .ok (.lreturn, 1) := by decide +kernel
theorem dX7_findNearest_0 : decode cX7_findNearest 0 = .ok (.bipush (-9), 2) := by decide +kernel
theorem dX7_findNearest_2 : decode cX7_findNearest 2 = .ok (.istore_n 1, 1) := by decide +kernel
theorem dX7_findNearest_3 : decode cX7_findNearest 3 = .ok (.iconst 0, 1) := by decide +kernel
theorem dX7_findNearest_4 : decode cX7_findNearest 4 = .ok (.istore_n 2, 1) := by decide +kernel
theorem dX7_findNearest_5 : decode cX7_findNearest 5 = .ok (.iload_n 2, 1) := by decide +kernel
theorem dX7_findNearest_6 : decode cX7_findNearest 6 = .ok (.aload_n 0, 1) := by decide +kernel
theorem dX7_findNearest_7 : decode cX7_findNearest 7 = .ok (.getfield 11, 3) := by decide +kernel
theorem dX7_findNearest_10 : decode cX7_findNearest 10 = .ok (.arraylength, 1) := by decide +kernel
theorem dX7_findNearest_11 : decode cX7_findNearest 11 = .ok (.if_icmp .ge 100, 3) := by decide +kernel
theorem dX7_findNearest_14 : decode cX7_findNearest 14 = .ok (.iload_n 2, 1) := by decide +kernel
theorem dX7_findNearest_15 : decode cX7_findNearest 15 = .ok (.iconst 1, 1) := by decide +kernel
theorem dX7_findNearest_16 : decode cX7_findNearest 16 = .ok (.iadd, 1) := by decide +kernel
theorem dX7_findNearest_17 : decode cX7_findNearest 17 = .ok (.istore_n 3, 1) := by decide +kernel
theorem dX7_findNearest_18 : decode cX7_findNearest 18 = .ok (.iload_n 3, 1) := by decide +kernel
theorem dX7_findNearest_19 : decode cX7_findNearest 19 = .ok (.aload_n 0, 1) := by decide +kernel
theorem dX7_findNearest_20 : decode cX7_findNearest 20 = .ok (.getfield 11, 3) := by decide +kernel
theorem dX7_findNearest_23 : decode cX7_findNearest 23 = .ok (.arraylength, 1) := by decide +kernel
theorem dX7_findNearest_24 : decode cX7_findNearest 24 = .ok (.if_icmp .ge 81, 3) := by decide +kernel
theorem dX7_findNearest_27 : decode cX7_findNearest 27 = .ok (.aload_n 0, 1) := by decide +kernel
theorem dX7_findNearest_28 : decode cX7_findNearest 28 = .ok (.getfield 11, 3) := by decide +kernel
theorem dX7_findNearest_31 : decode cX7_findNearest 31 = .ok (.iload_n 2, 1) := by decide +kernel
theorem dX7_findNearest_32 : decode cX7_findNearest 32 = .ok (.aaload, 1) := by decide +kernel
theorem dX7_findNearest_33 : decode cX7_findNearest 33 = .ok (.getfield 28, 3) := by decide +kernel
theorem dX7_findNearest_36 : decode cX7_findNearest 36 = .ok (.ifCond .eq 63, 3) := by decide +kernel
theorem dX7_findNearest_39 : decode cX7_findNearest 39 = .ok (.aload_n 0, 1) := by decide +kernel
theorem dX7_findNearest_40 : decode cX7_findNearest 40 = .ok (.getfield 11, 3) := by decide +kernel
theorem dX7_findNearest_43 : decode cX7_findNearest 43 = .ok (.iload_n 3, 1) := by decide +kernel
theorem dX7_findNearest_44 : decode cX7_findNearest 44 = .ok (.aaload, 1) := by decide +kernel
theorem dX7_findNearest_45 : decode cX7_findNearest 45 = .ok (.getfield 28, 3) := by decide +kernel
theorem dX7_findNearest_48 : decode cX7_findNearest 48 = .ok (.ifCond .eq 51, 3) := by decide +kernel
theorem dX7_findNearest_51 : decode cX7_findNearest 51 = .ok (.aload_n 0, 1) := by decide +kernel
theorem dX7_findNearest_52 : decode cX7_findNearest 52 = .ok (.getfield 11, 3) := by decide +kernel
theorem dX7_findNearest_55 : decode cX7_findNearest 55 = .ok (.iload_n 2, 1) := by decide +kernel
theorem dX7_findNearest_56 : decode cX7_findNearest 56 = .ok (.aaload, 1) := by decide +kernel
theorem dX7_findNearest_57 : decode cX7_findNearest 57 = .ok (.getfield 42, 3) := by decide +kernel
theorem dX7_findNearest_60 : decode cX7_findNearest 60 = .ok (.aload_n 0, 1) := by decide +kernel
theorem dX7_findNearest_61 : decode cX7_findNearest 61 = .ok (.getfield 11, 3) := by decide +kernel
theorem dX7_findNearest_64 : decode cX7_findNearest 64 = .ok (.iload_n 3, 1) := by decide +kernel
theorem dX7_findNearest_65 : decode cX7_findNearest 65 = .ok (.aaload, 1) := by decide +kernel
theorem dX7_findNearest_66 : decode cX7_findNearest 66 = .ok (.getfield 42, 3) := by decide +kernel
theorem dX7_findNearest_69 : decode cX7_findNearest 69 = .ok (.invokestatic 45, 3) := by decide +kernel
theorem dX7_findNearest_72 : decode cX7_findNearest 72 = .ok (.istore 4, 2) := by decide +kernel
theorem dX7_findNearest_74 : decode cX7_findNearest 74 = .ok (.iload_n 1, 1) := by decide +kernel
theorem dX7_findNearest_75 : decode cX7_findNearest 75 = .ok (.bipush (-9), 2) := by decide +kernel
theorem dX7_findNearest_77 : decode cX7_findNearest 77 = .ok (.if_icmp .eq 9, 3) := by decide +kernel
theorem dX7_findNearest_80 : decode cX7_findNearest 80 = .ok (.iload 4, 2) := by decide +kernel
theorem dX7_findNearest_82 : decode cX7_findNearest 82 = .ok (.iload_n 1, 1) := by decide +kernel
theorem dX7_findNearest_83 : decode cX7_findNearest 83 = .ok (.if_icmp .ge 16, 3) := by decide +kernel
theorem dX7_findNearest_86 : decode cX7_findNearest 86 = .ok (.iload 4, 2) := by decide +kernel
theorem dX7_findNearest_88 : decode cX7_findNearest 88 = .ok (.istore_n 1, 1) := by decide +kernel
theorem dX7_findNearest_89 : decode cX7_findNearest 89 = .ok (.aload_n 0, 1) := by decide +kernel
theorem dX7_findNearest_90 : decode cX7_findNearest 90 = .ok (.bipush 10, 2) := by decide +kernel
theorem dX7_findNearest_92 : decode cX7_findNearest 92 = .ok (.iload_n 2, 1) := by decide +kernel
theorem dX7_findNearest_93 : decode cX7_findNearest 93 = .ok (.imul, 1) := by decide +kernel
theorem dX7_findNearest_94 : decode cX7_findNearest 94 = .ok (.iload_n 3, 1) := by decide +kernel
theorem dX7_findNearest_95 : decode cX7_findNearest 95 = .ok (.iadd, 1) := by decide +kernel
theorem dX7_findNearest_96 : decode cX7_findNearest 96 = .ok (.putfield 24, 3) := by decide +kernel
theorem dX7_findNearest_99 : decode cX7_findNearest 99 = .ok (.iinc 3 1, 3) := by decide +kernel
theorem dX7_findNearest_102 : decode cX7_findNearest 102 = .ok (.goto (-84), 3) := by decide +kernel
theorem dX7_findNearest_105 : decode cX7_findNearest 105 = .ok (.iinc 2 1, 3) := by decide +kernel
theorem dX7_findNearest_108 : decode cX7_findNearest 108 = .ok (.goto (-103), 3) := by decide +kernel
theorem dX7_findNearest_111 : decode cX7_findNearest 111 = .ok (.iload_n 1, 1) := by decide +kernel
theorem dX7_findNearest_112 : decode cX7_findNearest 112 = .ok (.ireturn, 1) := by decide +kernel
theorem dX7_fromNearest_0 : decode cX7_fromNearest 0 = .ok (.bipush 17, 2) := by decide +kernel
theorem dX7_fromNearest_2 : decode cX7_fromNearest 2 = .ok (.istore_n 3, 1) := by decide +kernel
theorem dX7_fromNearest_3 : decode cX7_fromNearest 3 = .ok (.iconst 0, 1) := by decide +kernel
theorem dX7_fromNearest_4 : decode cX7_fromNearest 4 = .ok (.istore 4, 2) := by decide +kernel
theorem dX7_fromNearest_6 : decode cX7_fromNearest 6 = .ok (.iload 4, 2) := by decide +kernel
theorem dX7_fromNearest_8 : decode cX7_fromNearest 8 = .ok (.aload_n 0, 1) := by decide +kernel
theorem dX7_fromNearest_9 : decode cX7_fromNearest 9 = .ok (.getfield 11, 3) := by decide +kernel
theorem dX7_fromNearest_12 : decode cX7_fromNearest 12 = .ok (.arraylength, 1) := by decide +kernel
theorem dX7_fromNearest_13 : decode cX7_fromNearest 13 = .ok (.if_icmp .ge 47, 3) := by decide +kernel
theorem dX7_fromNearest_16 : decode cX7_fromNearest 16 = .ok (.iload 4, 2) := by decide +kernel
theorem dX7_fromNearest_18 : decode cX7_fromNearest 18 = .ok (.iload_n 1, 1) := by decide +kernel
theorem dX7_fromNearest_19 : decode cX7_fromNearest 19 = .ok (.if_icmp .eq 35, 3) := by decide +kernel
theorem dX7_fromNearest_22 : decode cX7_fromNearest 22 = .ok (.aload_n 0, 1) := by decide +kernel
theorem dX7_fromNearest_23 : decode cX7_fromNearest 23 = .ok (.getfield 11, 3) := by decide +kernel
theorem dX7_fromNearest_26 : decode cX7_fromNearest 26 = .ok (.iload 4, 2) := by decide +kernel
theorem dX7_fromNearest_28 : decode cX7_fromNearest 28 = .ok (.aaload, 1) := by decide +kernel
theorem dX7_fromNearest_29 : decode cX7_fromNearest 29 = .ok (.getfield 28, 3) := by decide +kernel
theorem dX7_fromNearest_32 : decode cX7_fromNearest 32 = .ok (.ifCond .eq 22, 3) := by decide +kernel
theorem dX7_fromNearest_35 : decode cX7_fromNearest 35 = .ok (.iload_n 3, 1) := by decide +kernel
theorem dX7_fromNearest_36 : decode cX7_fromNearest 36 = .ok (.iload_n 2, 1) := by decide +kernel
theorem dX7_fromNearest_37 : decode cX7_fromNearest 37 = .ok (.aload_n 0, 1) := by decide +kernel
theorem dX7_fromNearest_38 : decode cX7_fromNearest 38 = .ok (.getfield 11, 3) := by decide +kernel
theorem dX7_fromNearest_41 : decode cX7_fromNearest 41 = .ok (.iload 4, 2) := by decide +kernel
theorem dX7_fromNearest_43 : decode cX7_fromNearest 43 = .ok (.aaload, 1) := by decide +kernel
theorem dX7_fromNearest_44 : decode cX7_fromNearest 44 = .ok (.getfield 42, 3) := by decide +kernel
theorem dX7_fromNearest_47 : decode cX7_fromNearest 47 = .ok (.invokestatic 45, 3) := by decide +kernel
theorem dX7_fromNearest_50 : decode cX7_fromNearest 50 = .ok (.invokestatic 49, 3) := by decide +kernel
theorem dX7_fromNearest_53 : decode cX7_fromNearest 53 = .ok (.istore_n 3, 1) := by decide +kernel
theorem dX7_fromNearest_54 : decode cX7_fromNearest 54 = .ok (.iinc 4 1, 3) := by decide +kernel
theorem dX7_fromNearest_57 : decode cX7_fromNearest 57 = .ok (.goto (-51), 3) := by decide +kernel
theorem dX7_fromNearest_60 : decode cX7_fromNearest 60 = .ok (.iload_n 3, 1) := by decide +kernel
theorem dX7_fromNearest_61 : decode cX7_fromNearest 61 = .ok (.ireturn, 1) := by decide +kernel
theorem dX7_standsOut_0 : decode cX7_standsOut 0 = .ok (.aload_n 0, 1) := by decide +kernel
theorem dX7_standsOut_1 : decode cX7_standsOut 1 = .ok (.iload_n 1, 1) := by decide +kernel
theorem dX7_standsOut_2 : decode cX7_standsOut 2 = .ok (.invokevirtual 54, 3) := by decide +kernel
theorem dX7_standsOut_5 : decode cX7_standsOut 5 = .ok (.ifCond .eq 25, 3) := by decide +kernel
theorem dX7_standsOut_8 : decode cX7_standsOut 8 = .ok (.aload_n 0, 1) := by decide +kernel
theorem dX7_standsOut_9 : decode cX7_standsOut 9 = .ok (.iload_n 1, 1) := by decide +kernel
theorem dX7_standsOut_10 : decode cX7_standsOut 10 = .ok (.aload_n 0, 1) := by decide +kernel
theorem dX7_standsOut_11 : decode cX7_standsOut 11 = .ok (.getfield 11, 3) := by decide +kernel
theorem dX7_standsOut_14 : decode cX7_standsOut 14 = .ok (.iload_n 1, 1) := by decide +kernel
theorem dX7_standsOut_15 : decode cX7_standsOut 15 = .ok (.aaload, 1) := by decide +kernel
theorem dX7_standsOut_16 : decode cX7_standsOut 16 = .ok (.getfield 42, 3) := by decide +kernel
theorem dX7_standsOut_19 : decode cX7_standsOut 19 = .ok (.invokevirtual 58, 3) := by decide +kernel
theorem dX7_standsOut_22 : decode cX7_standsOut 22 = .ok (.iload_n 2, 1) := by decide +kernel
theorem dX7_standsOut_23 : decode cX7_standsOut 23 = .ok (.if_icmp .le 7, 3) := by decide +kernel
theorem dX7_standsOut_26 : decode cX7_standsOut 26 = .ok (.iconst 1, 1) := by decide +kernel
theorem dX7_standsOut_27 : decode cX7_standsOut 27 = .ok (.goto 4, 3) := by decide +kernel
theorem dX7_standsOut_30 : decode cX7_standsOut 30 = .ok (.iconst 0, 1) := by decide +kernel
theorem dX7_standsOut_31 : decode cX7_standsOut 31 = .ok (.ireturn, 1) := by decide +kernel
theorem dX7_idleCells_0 : decode cX7_idleCells 0 = .ok (.aload_n 0, 1) := by decide +kernel
theorem dX7_idleCells_1 : decode cX7_idleCells 1 = .ok (.iload_n 1, 1) := by decide +kernel
theorem dX7_idleCells_2 : decode cX7_idleCells 2 = .ok (.invokevirtual 54, 3) := by decide +kernel
theorem dX7_idleCells_5 : decode cX7_idleCells 5 = .ok (.ifCond .ne 5, 3) := by decide +kernel
theorem dX7_idleCells_8 : decode cX7_idleCells 8 = .ok (.iconst 0, 1) := by decide +kernel
theorem dX7_idleCells_9 : decode cX7_idleCells 9 = .ok (.ireturn, 1) := by decide +kernel
theorem dX7_idleCells_10 : decode cX7_idleCells 10 = .ok (.aload_n 0, 1) := by decide +kernel
theorem dX7_idleCells_11 : decode cX7_idleCells 11 = .ok (.invokevirtual 61, 3) := by decide +kernel
theorem dX7_idleCells_14 : decode cX7_idleCells 14 = .ok (.istore_n 2, 1) := by decide +kernel
theorem dX7_idleCells_15 : decode cX7_idleCells 15 = .ok (.iconst 0, 1) := by decide +kernel
theorem dX7_idleCells_16 : decode cX7_idleCells 16 = .ok (.istore_n 3, 1) := by decide +kernel
theorem dX7_idleCells_17 : decode cX7_idleCells 17 = .ok (.iconst 0, 1) := by decide +kernel
theorem dX7_idleCells_18 : decode cX7_idleCells 18 = .ok (.istore 4, 2) := by decide +kernel
theorem dX7_idleCells_20 : decode cX7_idleCells 20 = .ok (.iload 4, 2) := by decide +kernel
theorem dX7_idleCells_22 : decode cX7_idleCells 22 = .ok (.bipush 16, 2) := by decide +kernel
theorem dX7_idleCells_24 : decode cX7_idleCells 24 = .ok (.if_icmp .ge 78, 3) := by decide +kernel
theorem dX7_idleCells_27 : decode cX7_idleCells 27 = .ok (.iconst 1, 1) := by decide +kernel
theorem dX7_idleCells_28 : decode cX7_idleCells 28 = .ok (.iload 4, 2) := by decide +kernel
theorem dX7_idleCells_30 : decode cX7_idleCells 30 = .ok (.ishl, 1) := by decide +kernel
theorem dX7_idleCells_31 : decode cX7_idleCells 31 = .ok (.istore 5, 2) := by decide +kernel
theorem dX7_idleCells_33 : decode cX7_idleCells 33 = .ok (.aload_n 0, 1) := by decide +kernel
theorem dX7_idleCells_34 : decode cX7_idleCells 34 = .ok (.getfield 11, 3) := by decide +kernel
theorem dX7_idleCells_37 : decode cX7_idleCells 37 = .ok (.iload_n 1, 1) := by decide +kernel
theorem dX7_idleCells_38 : decode cX7_idleCells 38 = .ok (.aaload, 1) := by decide +kernel
theorem dX7_idleCells_39 : decode cX7_idleCells 39 = .ok (.getfield 42, 3) := by decide +kernel
theorem dX7_idleCells_42 : decode cX7_idleCells 42 = .ok (.iload 5, 2) := by decide +kernel
theorem dX7_idleCells_44 : decode cX7_idleCells 44 = .ok (.iconst (-1), 1) := by decide +kernel
theorem dX7_idleCells_45 : decode cX7_idleCells 45 = .ok (.ixor, 1) := by decide +kernel
theorem dX7_idleCells_46 : decode cX7_idleCells 46 = .ok (.iand, 1) := by decide +kernel
theorem dX7_idleCells_47 : decode cX7_idleCells 47 = .ok (.istore 6, 2) := by decide +kernel
theorem dX7_idleCells_49 : decode cX7_idleCells 49 = .ok (.iload 6, 2) := by decide +kernel
theorem dX7_idleCells_51 : decode cX7_idleCells 51 = .ok (.aload_n 0, 1) := by decide +kernel
theorem dX7_idleCells_52 : decode cX7_idleCells 52 = .ok (.getfield 11, 3) := by decide +kernel
theorem dX7_idleCells_55 : decode cX7_idleCells 55 = .ok (.iload_n 1, 1) := by decide +kernel
theorem dX7_idleCells_56 : decode cX7_idleCells 56 = .ok (.aaload, 1) := by decide +kernel
theorem dX7_idleCells_57 : decode cX7_idleCells 57 = .ok (.getfield 42, 3) := by decide +kernel
theorem dX7_idleCells_60 : decode cX7_idleCells 60 = .ok (.if_icmp .eq 7, 3) := by decide +kernel
theorem dX7_idleCells_63 : decode cX7_idleCells 63 = .ok (.iconst 1, 1) := by decide +kernel
theorem dX7_idleCells_64 : decode cX7_idleCells 64 = .ok (.goto 4, 3) := by decide +kernel
theorem dX7_idleCells_67 : decode cX7_idleCells 67 = .ok (.iconst 0, 1) := by decide +kernel
theorem dX7_idleCells_68 : decode cX7_idleCells 68 = .ok (.istore 7, 2) := by decide +kernel
theorem dX7_idleCells_70 : decode cX7_idleCells 70 = .ok (.iload 7, 2) := by decide +kernel
theorem dX7_idleCells_72 : decode cX7_idleCells 72 = .ok (.ifCond .eq 24, 3) := by decide +kernel
theorem dX7_idleCells_75 : decode cX7_idleCells 75 = .ok (.iload 6, 2) := by decide +kernel
theorem dX7_idleCells_77 : decode cX7_idleCells 77 = .ok (.ifCond .eq 19, 3) := by decide +kernel
theorem dX7_idleCells_80 : decode cX7_idleCells 80 = .ok (.aload_n 0, 1) := by decide +kernel
theorem dX7_idleCells_81 : decode cX7_idleCells 81 = .ok (.iload_n 1, 1) := by decide +kernel
theorem dX7_idleCells_82 : decode cX7_idleCells 82 = .ok (.iload 6, 2) := by decide +kernel
theorem dX7_idleCells_84 : decode cX7_idleCells 84 = .ok (.invokevirtual 58, 3) := by decide +kernel
theorem dX7_idleCells_87 : decode cX7_idleCells 87 = .ok (.iload_n 2, 1) := by decide +kernel
theorem dX7_idleCells_88 : decode cX7_idleCells 88 = .ok (.if_icmp .lt 8, 3) := by decide +kernel
theorem dX7_idleCells_91 : decode cX7_idleCells 91 = .ok (.iload_n 3, 1) := by decide +kernel
theorem dX7_idleCells_92 : decode cX7_idleCells 92 = .ok (.iload 5, 2) := by decide +kernel
theorem dX7_idleCells_94 : decode cX7_idleCells 94 = .ok (.ior, 1) := by decide +kernel
theorem dX7_idleCells_95 : decode cX7_idleCells 95 = .ok (.istore_n 3, 1) := by decide +kernel
theorem dX7_idleCells_96 : decode cX7_idleCells 96 = .ok (.iinc 4 1, 3) := by decide +kernel
theorem dX7_idleCells_99 : decode cX7_idleCells 99 = .ok (.goto (-79), 3) := by decide +kernel
theorem dX7_idleCells_102 : decode cX7_idleCells 102 = .ok (.iload_n 3, 1) := by decide +kernel
theorem dX7_idleCells_103 : decode cX7_idleCells 103 = .ok (.ireturn, 1) := by decide +kernel
theorem dX7_addTo_0 : decode cX7_addTo 0 = .ok (.lload_n 1, 1) := by decide +kernel
theorem dX7_addTo_1 : decode cX7_addTo 1 = .ok (.lstore_n 3, 1) := by decide +kernel
theorem dX7_addTo_2 : decode cX7_addTo 2 = .ok (.iconst 0, 1) := by decide +kernel
theorem dX7_addTo_3 : decode cX7_addTo 3 = .ok (.istore 5, 2) := by decide +kernel
theorem dX7_addTo_5 : decode cX7_addTo 5 = .ok (.iload 5, 2) := by decide +kernel
theorem dX7_addTo_7 : decode cX7_addTo 7 = .ok (.aload_n 0, 1) := by decide +kernel
theorem dX7_addTo_8 : decode cX7_addTo 8 = .ok (.getfield 11, 3) := by decide +kernel
theorem dX7_addTo_11 : decode cX7_addTo 11 = .ok (.arraylength, 1) := by decide +kernel
theorem dX7_addTo_12 : decode cX7_addTo 12 = .ok (.if_icmp .ge 68, 3) := by decide +kernel
theorem dX7_addTo_15 : decode cX7_addTo 15 = .ok (.aload_n 0, 1) := by decide +kernel
theorem dX7_addTo_16 : decode cX7_addTo 16 = .ok (.getfield 11, 3) := by decide +kernel
theorem dX7_addTo_19 : decode cX7_addTo 19 = .ok (.iload 5, 2) := by decide +kernel
theorem dX7_addTo_21 : decode cX7_addTo 21 = .ok (.aaload, 1) := by decide +kernel
theorem dX7_addTo_22 : decode cX7_addTo 22 = .ok (.getfield 28, 3) := by decide +kernel
theorem dX7_addTo_25 : decode cX7_addTo 25 = .ok (.ifCond .ne 14, 3) := by decide +kernel
theorem dX7_addTo_28 : decode cX7_addTo 28 = .ok (.ldc2_w 65, 3) := by decide +kernel
theorem dX7_addTo_31 : decode cX7_addTo 31 = .ok (.lload_n 3, 1) := by decide +kernel
theorem dX7_addTo_32 : decode cX7_addTo 32 = .ok (.lmul, 1) := by decide +kernel
theorem dX7_addTo_33 : decode cX7_addTo 33 = .ok (.lconst 1, 1) := by decide +kernel
theorem dX7_addTo_34 : decode cX7_addTo 34 = .ok (.lsub, 1) := by decide +kernel
theorem dX7_addTo_35 : decode cX7_addTo 35 = .ok (.lstore_n 3, 1) := by decide +kernel
theorem dX7_addTo_36 : decode cX7_addTo 36 = .ok (.goto 38, 3) := by decide +kernel
theorem dX7_addTo_39 : decode cX7_addTo 39 = .ok (.iconst 0, 1) := by decide +kernel
theorem dX7_addTo_40 : decode cX7_addTo 40 = .ok (.istore 6, 2) := by decide +kernel
theorem dX7_addTo_42 : decode cX7_addTo 42 = .ok (.iload 6, 2) := by decide +kernel
theorem dX7_addTo_44 : decode cX7_addTo 44 = .ok (.iconst 3, 1) := by decide +kernel
theorem dX7_addTo_45 : decode cX7_addTo 45 = .ok (.if_icmp .ge 29, 3) := by decide +kernel
theorem dX7_addTo_48 : decode cX7_addTo 48 = .ok (.ldc2_w 65, 3) := by decide +kernel
theorem dX7_addTo_51 : decode cX7_addTo 51 = .ok (.lload_n 3, 1) := by decide +kernel
theorem dX7_addTo_52 : decode cX7_addTo 52 = .ok (.lmul, 1) := by decide +kernel
theorem dX7_addTo_53 : decode cX7_addTo 53 = .ok (.aload_n 0, 1) := by decide +kernel
theorem dX7_addTo_54 : decode cX7_addTo 54 = .ok (.getfield 11, 3) := by decide +kernel
theorem dX7_addTo_57 : decode cX7_addTo 57 = .ok (.iload 5, 2) := by decide +kernel
theorem dX7_addTo_59 : decode cX7_addTo 59 = .ok (.aaload, 1) := by decide +kernel
theorem dX7_addTo_60 : decode cX7_addTo 60 = .ok (.iload 6, 2) := by decide +kernel
theorem dX7_addTo_62 : decode cX7_addTo 62 = .ok (.invokevirtual 67, 3) := by decide +kernel
theorem dX7_addTo_65 : decode cX7_addTo 65 = .ok (.i2l, 1) := by decide +kernel
theorem dX7_addTo_66 : decode cX7_addTo 66 = .ok (.ladd, 1) := by decide +kernel
theorem dX7_addTo_67 : decode cX7_addTo 67 = .ok (.lstore_n 3, 1) := by decide +kernel
theorem dX7_addTo_68 : decode cX7_addTo 68 = .ok (.iinc 6 1, 3) := by decide +kernel
theorem dX7_addTo_71 : decode cX7_addTo 71 = .ok (.goto (-29), 3) := by decide +kernel
theorem dX7_addTo_74 : decode cX7_addTo 74 = .ok (.iinc 5 1, 3) := by decide +kernel
theorem dX7_addTo_77 : decode cX7_addTo 77 = .ok (.goto (-72), 3) := by decide +kernel
theorem dX7_addTo_80 : decode cX7_addTo 80 = .ok (.ldc2_w 65, 3) := by decide +kernel
theorem dX7_addTo_83 : decode cX7_addTo 83 = .ok (.ldc2_w 65, 3) := by decide +kernel
theorem dX7_addTo_86 : decode cX7_addTo 86 = .ok (.lload_n 3, 1) := by decide +kernel
theorem dX7_addTo_87 : decode cX7_addTo 87 = .ok (.lmul, 1) := by decide +kernel
theorem dX7_addTo_88 : decode cX7_addTo 88 = .ok (.aload_n 0, 1) := by decide +kernel
theorem dX7_addTo_89 : decode cX7_addTo 89 = .ok (.getfield 17, 3) := by decide +kernel
theorem dX7_addTo_92 : decode cX7_addTo 92 = .ok (.i2l, 1) := by decide +kernel
theorem dX7_addTo_93 : decode cX7_addTo 93 = .ok (.ladd, 1) := by decide +kernel
theorem dX7_addTo_94 : decode cX7_addTo 94 = .ok (.lmul, 1) := by decide +kernel
theorem dX7_addTo_95 : decode cX7_addTo 95 = .ok (.aload_n 0, 1) := by decide +kernel
theorem dX7_addTo_96 : decode cX7_addTo 96 = .ok (.getfield 21, 3) := by decide +kernel
theorem dX7_addTo_99 : decode cX7_addTo 99 = .ok (.i2l, 1) := by decide +kernel
theorem dX7_addTo_100 : decode cX7_addTo 100 = .ok (.ladd, 1) := by decide +kernel
theorem dX7_addTo_101 : decode cX7_addTo 101 = .ok (.lreturn, 1) := by decide +kernel
theorem dX8_init_0 : decode cX8_init 0 = .ok (.aload_n 0, 1) := by decide +kernel
theorem dX8_init_1 : decode cX8_init 1 = .ok (.invokespecial 3, 3) := by decide +kernel
theorem dX8_init_4 : decode cX8_init 4 = .ok (.aload_n 0, 1) := by decide +kernel
theorem dX8_init_5 : decode cX8_init 5 = .ok (.bipush 12, 2) := by decide +kernel
theorem dX8_init_7 : decode cX8_init 7 = .ok (.anewarray 9, 3) := by decide +kernel
theorem dX8_init_10 : decode cX8_init 10 = .ok (.putfield 11, 3) := by decide +kernel
theorem dX8_init_13 : decode cX8_init 13 = .ok (.aload_n 0, 1) := by decide +kernel
theorem dX8_init_14 : decode cX8_init 14 = .ok (.iconst 0, 1) := by decide +kernel
theorem dX8_init_15 : decode cX8_init 15 = .ok (.putfield 17, 3) := by decide +kernel
theorem dX8_init_18 : decode cX8_init 18 = .ok (.aload_n 0, 1) := by decide +kernel
theorem dX8_init_19 : decode cX8_init 19 = .ok (.bipush 12, 2) := by decide +kernel
theorem dX8_init_21 : decode cX8_init 21 = .ok (.anewarray 9, 3) := by decide +kernel
theorem dX8_init_24 : decode cX8_init 24 = .ok (.putfield 21, 3) := by decide +kernel
theorem dX8_init_27 : decode cX8_init 27 = .ok (.aload_n 0, 1) := by decide +kernel
theorem dX8_init_28 : decode cX8_init 28 = .ok (.iconst 0, 1) := by decide +kernel
theorem dX8_init_29 : decode cX8_init 29 = .ok (.putfield 24, 3) := by decide +kernel
theorem dX8_init_32 : decode cX8_init 32 = .ok (.aload_n 0, 1) := by decide +kernel
theorem dX8_init_33 : decode cX8_init 33 = .ok (.iconst 0, 1) := by decide +kernel
theorem dX8_init_34 : decode cX8_init 34 = .ok (.putfield 27, 3) := by decide +kernel
theorem dX8_init_37 : decode cX8_init 37 = .ok (.iconst 0, 1) := by decide +kernel
theorem dX8_init_38 : decode cX8_init 38 = .ok (.istore_n 1, 1) := by decide +kernel
theorem dX8_init_39 : decode cX8_init 39 = .ok (.iload_n 1, 1) := by decide +kernel
theorem dX8_init_40 : decode cX8_init 40 = .ok (.bipush 12, 2) := by decide +kernel
theorem dX8_init_42 : decode cX8_init 42 = .ok (.if_icmp .ge 35, 3) := by decide +kernel
theorem dX8_init_45 : decode cX8_init 45 = .ok (.aload_n 0, 1) := by decide +kernel
theorem dX8_init_46 : decode cX8_init 46 = .ok (.getfield 11, 3) := by decide +kernel
theorem dX8_init_49 : decode cX8_init 49 = .ok (.iload_n 1, 1) := by decide +kernel
theorem dX8_init_50 : decode cX8_init 50 = .ok (.new 9, 3) := by decide +kernel
theorem dX8_init_53 : decode cX8_init 53 = .ok (.dup, 1) := by decide +kernel
theorem dX8_init_54 : decode cX8_init 54 = .ok (.invokespecial 30, 3) := by decide +kernel
theorem dX8_init_57 : decode cX8_init 57 = .ok (.aastore, 1) := by decide +kernel
theorem dX8_init_58 : decode cX8_init 58 = .ok (.aload_n 0, 1) := by decide +kernel
theorem dX8_init_59 : decode cX8_init 59 = .ok (.getfield 21, 3) := by decide +kernel
theorem dX8_init_62 : decode cX8_init 62 = .ok (.iload_n 1, 1) := by decide +kernel
theorem dX8_init_63 : decode cX8_init 63 = .ok (.new 9, 3) := by decide +kernel
theorem dX8_init_66 : decode cX8_init 66 = .ok (.dup, 1) := by decide +kernel
theorem dX8_init_67 : decode cX8_init 67 = .ok (.invokespecial 30, 3) := by decide +kernel
theorem dX8_init_70 : decode cX8_init 70 = .ok (.aastore, 1) := by decide +kernel
theorem dX8_init_71 : decode cX8_init 71 = .ok (.iinc 1 1, 3) := by decide +kernel
theorem dX8_init_74 : decode cX8_init 74 = .ok (.goto (-35), 3) := by decide +kernel
theorem dX8_init_77 : decode cX8_init 77 = .ok (.return_, 1) := by decide +kernel
theorem dX8_has_0 : decode cX8_has 0 = .ok (.iload_n 1, 1) := by decide +kernel
theorem dX8_has_1 : decode cX8_has 1 = .ok (.ifCond .lt 15, 3) := by decide +kernel
theorem dX8_has_4 : decode cX8_has 4 = .ok (.iload_n 1, 1) := by decide +kernel
theorem dX8_has_5 : decode cX8_has 5 = .ok (.aload_n 0, 1) := by decide +kernel
theorem dX8_has_6 : decode cX8_has 6 = .ok (.getfield 17, 3) := by decide +kernel
theorem dX8_has_9 : decode cX8_has 9 = .ok (.if_icmp .ge 7, 3) := by decide +kernel
theorem dX8_has_12 : decode cX8_has 12 = .ok (.iconst 1, 1) := by decide +kernel
theorem dX8_has_13 : decode cX8_has 13 = .ok (.goto 4, 3) := by decide +kernel
theorem dX8_has_16 : decode cX8_has 16 = .ok (.iconst 0, 1) := by decide +kernel
theorem dX8_has_17 : decode cX8_has 17 = .ok (.ireturn, 1) := by decide +kernel
theorem dX8_hasAll_0 : decode cX8_hasAll 0 = .ok (.iload_n 1, 1) := by decide +kernel
theorem dX8_hasAll_1 : decode cX8_hasAll 1 = .ok (.ifCond .lt 17, 3) := by decide +kernel
theorem dX8_hasAll_4 : decode cX8_hasAll 4 = .ok (.iload_n 1, 1) := by decide +kernel
theorem dX8_hasAll_5 : decode cX8_hasAll 5 = .ok (.iconst 1, 1) := by decide +kernel
theorem dX8_hasAll_6 : decode cX8_hasAll 6 = .ok (.aload_n 0, 1) := by decide +kernel
theorem dX8_hasAll_7 : decode cX8_hasAll 7 = .ok (.getfield 17, 3) := by decide +kernel
theorem dX8_hasAll_10 : decode cX8_hasAll 10 = .ok (.ishl, 1) := by decide +kernel
theorem dX8_hasAll_11 : decode cX8_hasAll 11 = .ok (.if_icmp .ge 7, 3) := by decide +kernel
theorem dX8_hasAll_14 : decode cX8_hasAll 14 = .ok (.iconst 1, 1) := by decide +kernel
theorem dX8_hasAll_15 : decode cX8_hasAll 15 = .ok (.goto 4, 3) := by decide +kernel
theorem dX8_hasAll_18 : decode cX8_hasAll 18 = .ok (.iconst 0, 1) := by decide +kernel
theorem dX8_hasAll_19 : decode cX8_hasAll 19 = .ok (.ireturn, 1) := by decide +kernel
theorem dX8_named_0 : decode cX8_named 0 = .ok (.iconst 0, 1) := by decide +kernel
theorem dX8_named_1 : decode cX8_named 1 = .ok (.istore_n 1, 1) := by decide +kernel
theorem dX8_named_2 : decode cX8_named 2 = .ok (.iconst 0, 1) := by decide +kernel
theorem dX8_named_3 : decode cX8_named 3 = .ok (.istore_n 2, 1) := by decide +kernel
theorem dX8_named_4 : decode cX8_named 4 = .ok (.iload_n 2, 1) := by decide +kernel
theorem dX8_named_5 : decode cX8_named 5 = .ok (.aload_n 0, 1) := by decide +kernel
theorem dX8_named_6 : decode cX8_named 6 = .ok (.getfield 17, 3) := by decide +kernel
theorem dX8_named_9 : decode cX8_named 9 = .ok (.if_icmp .ge 21, 3) := by decide +kernel
theorem dX8_named_12 : decode cX8_named 12 = .ok (.iload_n 1, 1) := by decide +kernel
theorem dX8_named_13 : decode cX8_named 13 = .ok (.aload_n 0, 1) := by decide +kernel
theorem dX8_named_14 : decode cX8_named 14 = .ok (.getfield 11, 3) := by decide +kernel
theorem dX8_named_17 : decode cX8_named 17 = .ok (.iload_n 2, 1) := by decide +kernel
theorem dX8_named_18 : decode cX8_named 18 = .ok (.aaload, 1) := by decide +kernel
theorem dX8_named_19 : decode cX8_named 19 = .ok (.getfield 31, 3) := by decide +kernel
theorem dX8_named_22 : decode cX8_named 22 = .ok (.ior, 1) := by decide +kernel
theorem dX8_named_23 : decode cX8_named 23 = .ok (.istore_n 1, 1) := by decide +kernel
theorem dX8_named_24 : decode cX8_named 24 = .ok (.iinc 2 1, 3) := by decide +kernel
theorem dX8_named_27 : decode cX8_named 27 = .ok (.goto (-23), 3) := by decide +kernel
theorem dX8_named_30 : decode cX8_named 30 = .ok (.iload_n 1, 1) := by decide +kernel
theorem dX8_named_31 : decode cX8_named 31 = .ok (.ireturn, 1) := by decide +kernel
theorem dX8_marked_0 : decode cX8_marked 0 = .ok (.iconst 0, 1) := by decide +kernel
theorem dX8_marked_1 : decode cX8_marked 1 = .ok (.istore_n 1, 1) := by decide +kernel
theorem dX8_marked_2 : decode cX8_marked 2 = .ok (.iconst 0, 1) := by decide +kernel
theorem dX8_marked_3 : decode cX8_marked 3 = .ok (.istore_n 2, 1) := by decide +kernel
theorem dX8_marked_4 : decode cX8_marked 4 = .ok (.iload_n 2, 1) := by decide +kernel
theorem dX8_marked_5 : decode cX8_marked 5 = .ok (.aload_n 0, 1) := by decide +kernel
theorem dX8_marked_6 : decode cX8_marked 6 = .ok (.getfield 17, 3) := by decide +kernel
theorem dX8_marked_9 : decode cX8_marked 9 = .ok (.if_icmp .ge 24, 3) := by decide +kernel
theorem dX8_marked_12 : decode cX8_marked 12 = .ok (.aload_n 0, 1) := by decide +kernel
theorem dX8_marked_13 : decode cX8_marked 13 = .ok (.getfield 11, 3) := by decide +kernel
theorem dX8_marked_16 : decode cX8_marked 16 = .ok (.iload_n 2, 1) := by decide +kernel
theorem dX8_marked_17 : decode cX8_marked 17 = .ok (.aaload, 1) := by decide +kernel
theorem dX8_marked_18 : decode cX8_marked 18 = .ok (.invokevirtual 34, 3) := by decide +kernel
theorem dX8_marked_21 : decode cX8_marked 21 = .ok (.ifCond .eq 6, 3) := by decide +kernel
theorem dX8_marked_24 : decode cX8_marked 24 = .ok (.iinc 1 1, 3) := by decide +kernel
theorem dX8_marked_27 : decode cX8_marked 27 = .ok (.iinc 2 1, 3) := by decide +kernel
theorem dX8_marked_30 : decode cX8_marked 30 = .ok (.goto (-26), 3) := by decide +kernel
theorem dX8_marked_33 : decode cX8_marked 33 = .ok (.iload_n 1, 1) := by decide +kernel
theorem dX8_marked_34 : decode cX8_marked 34 = .ok (.ireturn, 1) := by decide +kernel
theorem dX8_takeDraft_0 : decode cX8_takeDraft 0 = .ok (.aload_n 0, 1) := by decide +kernel
theorem dX8_takeDraft_1 : decode cX8_takeDraft 1 = .ok (.getfield 11, 3) := by decide +kernel
theorem dX8_takeDraft_4 : decode cX8_takeDraft 4 = .ok (.astore_n 1, 1) := by decide +kernel
theorem dX8_takeDraft_5 : decode cX8_takeDraft 5 = .ok (.aload_n 0, 1) := by decide +kernel
theorem dX8_takeDraft_6 : decode cX8_takeDraft 6 = .ok (.aload_n 0, 1) := by decide +kernel
theorem dX8_takeDraft_7 : decode cX8_takeDraft 7 = .ok (.getfield 21, 3) := by decide +kernel
theorem dX8_takeDraft_10 : decode cX8_takeDraft 10 = .ok (.putfield 11, 3) := by decide +kernel
theorem dX8_takeDraft_13 : decode cX8_takeDraft 13 = .ok (.aload_n 0, 1) := by decide +kernel
theorem dX8_takeDraft_14 : decode cX8_takeDraft 14 = .ok (.aload_n 1, 1) := by decide +kernel
theorem dX8_takeDraft_15 : decode cX8_takeDraft 15 = .ok (.putfield 21, 3) := by decide +kernel
theorem dX8_takeDraft_18 : decode cX8_takeDraft 18 = .ok (.aload_n 0, 1) := by decide +kernel
theorem dX8_takeDraft_19 : decode cX8_takeDraft 19 = .ok (.aload_n 0, 1) := by decide +kernel
theorem dX8_takeDraft_20 : decode cX8_takeDraft 20 = .ok (.getfield 24, 3) := by decide +kernel
theorem dX8_takeDraft_23 : decode cX8_takeDraft 23 = .ok (.putfield 17, 3) := by decide +kernel
theorem dX8_takeDraft_26 : decode cX8_takeDraft 26 = .ok (.return_, 1) := by decide +kernel
theorem dX8_read_0 : decode cX8_read 0 = .ok (.aload_n 0, 1) := by decide +kernel
theorem dX8_read_1 : decode cX8_read 1 = .ok (.iconst 0, 1) := by decide +kernel
theorem dX8_read_2 : decode cX8_read 2 = .ok (.putfield 27, 3) := by decide +kernel
theorem dX8_read_5 : decode cX8_read 5 = .ok (.aload_n 0, 1) := by decide +kernel
theorem dX8_read_6 : decode cX8_read 6 = .ok (.iconst 0, 1) := by decide +kernel
theorem dX8_read_7 : decode cX8_read 7 = .ok (.putfield 24, 3) := by decide +kernel
theorem dX8_read_10 : decode cX8_read 10 = .ok (.aload_n 0, 1) := by decide +kernel
theorem dX8_read_11 : decode cX8_read 11 = .ok (.aload_n 1, 1) := by decide +kernel
theorem dX8_read_12 : decode cX8_read 12 = .ok (.invokevirtual 38, 3) := by decide +kernel
theorem dX8_read_15 : decode cX8_read 15 = .ok (.iconst 1, 1) := by decide +kernel
theorem dX8_read_16 : decode cX8_read 16 = .ok (.istore_n 2, 1) := by decide +kernel
theorem dX8_read_17 : decode cX8_read 17 = .ok (.iconst 0, 1) := by decide +kernel
theorem dX8_read_18 : decode cX8_read 18 = .ok (.istore_n 3, 1) := by decide +kernel
theorem dX8_read_19 : decode cX8_read 19 = .ok (.iload_n 3, 1) := by decide +kernel
theorem dX8_read_20 : decode cX8_read 20 = .ok (.bipush 12, 2) := by decide +kernel
theorem dX8_read_22 : decode cX8_read 22 = .ok (.if_icmp .ge 78, 3) := by decide +kernel
theorem dX8_read_25 : decode cX8_read 25 = .ok (.iload_n 2, 1) := by decide +kernel
theorem dX8_read_26 : decode cX8_read 26 = .ok (.ifCond .eq 74, 3) := by decide +kernel
theorem dX8_read_29 : decode cX8_read 29 = .ok (.aload_n 0, 1) := by decide +kernel
theorem dX8_read_30 : decode cX8_read 30 = .ok (.aload_n 1, 1) := by decide +kernel
theorem dX8_read_31 : decode cX8_read 31 = .ok (.aload_n 0, 1) := by decide +kernel
theorem dX8_read_32 : decode cX8_read 32 = .ok (.getfield 21, 3) := by decide +kernel
theorem dX8_read_35 : decode cX8_read 35 = .ok (.iload_n 3, 1) := by decide +kernel
theorem dX8_read_36 : decode cX8_read 36 = .ok (.aaload, 1) := by decide +kernel
theorem dX8_read_37 : decode cX8_read 37 = .ok (.invokevirtual 42, 3) := by decide +kernel
theorem dX8_read_40 : decode cX8_read 40 = .ok (.ifCond .ne 8, 3) := by decide +kernel
theorem dX8_read_43 : decode cX8_read 43 = .ok (.aload_n 0, 1) := by decide +kernel
theorem dX8_read_44 : decode cX8_read 44 = .ok (.getfield 27, 3) := by decide +kernel
theorem dX8_read_47 : decode cX8_read 47 = .ok (.ireturn, 1) := by decide +kernel
theorem dX8_read_48 : decode cX8_read 48 = .ok (.aload_n 0, 1) := by decide +kernel
theorem dX8_read_49 : decode cX8_read 49 = .ok (.iload_n 3, 1) := by decide +kernel
theorem dX8_read_50 : decode cX8_read 50 = .ok (.iconst 1, 1) := by decide +kernel
theorem dX8_read_51 : decode cX8_read 51 = .ok (.iadd, 1) := by decide +kernel
theorem dX8_read_52 : decode cX8_read 52 = .ok (.putfield 24, 3) := by decide +kernel
theorem dX8_read_55 : decode cX8_read 55 = .ok (.aload_n 0, 1) := by decide +kernel
theorem dX8_read_56 : decode cX8_read 56 = .ok (.getfield 24, 3) := by decide +kernel
theorem dX8_read_59 : decode cX8_read 59 = .ok (.bipush 12, 2) := by decide +kernel
theorem dX8_read_61 : decode cX8_read 61 = .ok (.if_icmp .ge 17, 3) := by decide +kernel
theorem dX8_read_64 : decode cX8_read 64 = .ok (.aload_n 0, 1) := by decide +kernel
theorem dX8_read_65 : decode cX8_read 65 = .ok (.aload_n 1, 1) := by decide +kernel
theorem dX8_read_66 : decode cX8_read 66 = .ok (.invokevirtual 46, 3) := by decide +kernel
theorem dX8_read_69 : decode cX8_read 69 = .ok (.bipush 47, 2) := by decide +kernel
theorem dX8_read_71 : decode cX8_read 71 = .ok (.if_icmp .ne 7, 3) := by decide +kernel
theorem dX8_read_74 : decode cX8_read 74 = .ok (.iconst 1, 1) := by decide +kernel
theorem dX8_read_75 : decode cX8_read 75 = .ok (.goto 4, 3) := by decide +kernel
theorem dX8_read_78 : decode cX8_read 78 = .ok (.iconst 0, 1) := by decide +kernel
theorem dX8_read_79 : decode cX8_read 79 = .ok (.istore_n 2, 1) := by decide +kernel
theorem dX8_read_80 : decode cX8_read 80 = .ok (.iload_n 2, 1) := by decide +kernel
theorem dX8_read_81 : decode cX8_read 81 = .ok (.ifCond .eq 13, 3) := by decide +kernel
theorem dX8_read_84 : decode cX8_read 84 = .ok (.aload_n 0, 1) := by decide +kernel
theorem dX8_read_85 : decode cX8_read 85 = .ok (.dup, 1) := by decide +kernel
theorem dX8_read_86 : decode cX8_read 86 = .ok (.getfield 27, 3) := by decide +kernel
theorem dX8_read_89 : decode cX8_read 89 = .ok (.iconst 1, 1) := by decide +kernel
theorem dX8_read_90 : decode cX8_read 90 = .ok (.iadd, 1) := by decide +kernel
theorem dX8_read_91 : decode cX8_read 91 = .ok (.putfield 27, 3) := by decide +kernel
theorem dX8_read_94 : decode cX8_read 94 = .ok (.iinc 3 1, 3) := by decide +kernel
theorem dX8_read_97 : decode cX8_read 97 = .ok (.goto (-78), 3) := by decide +kernel
theorem dX8_read_100 : decode cX8_read 100 = .ok (.aload_n 0, 1) := by decide +kernel
theorem dX8_read_101 : decode cX8_read 101 = .ok (.aload_n 1, 1) := by decide +kernel
theorem dX8_read_102 : decode cX8_read 102 = .ok (.invokevirtual 38, 3) := by decide +kernel
theorem dX8_read_105 : decode cX8_read 105 = .ok (.aload_n 0, 1) := by decide +kernel
theorem dX8_read_106 : decode cX8_read 106 = .ok (.getfield 27, 3) := by decide +kernel
theorem dX8_read_109 : decode cX8_read 109 = .ok (.aload_n 1, 1) := by decide +kernel
theorem dX8_read_110 : decode cX8_read 110 = .ok (.getfield 50, 3) := by decide +kernel
theorem dX8_read_113 : decode cX8_read 113 = .ok (.if_icmp .ge 10, 3) := by decide +kernel
theorem dX8_read_116 : decode cX8_read 116 = .ok (.aload_n 0, 1) := by decide +kernel
theorem dX8_read_117 : decode cX8_read 117 = .ok (.getfield 27, 3) := by decide +kernel
theorem dX8_read_120 : decode cX8_read 120 = .ok (.goto 5, 3) := by decide +kernel
theorem dX8_read_123 : decode cX8_read 123 = .ok (.bipush (-9), 2) := by decide +kernel
theorem dX8_read_125 : decode cX8_read 125 = .ok (.ireturn, 1) := by decide +kernel
theorem dX8_sign_0 : decode cX8_sign 0 = .ok (.aload_n 1, 1) := by decide +kernel
theorem dX8_sign_1 : decode cX8_sign 1 = .ok (.aload_n 0, 1) := by decide +kernel
theorem dX8_sign_2 : decode cX8_sign 2 = .ok (.getfield 27, 3) := by decide +kernel
theorem dX8_sign_5 : decode cX8_sign 5 = .ok (.invokevirtual 53, 3) := by decide +kernel
theorem dX8_sign_8 : decode cX8_sign 8 = .ok (.ifCond .eq 14, 3) := by decide +kernel
theorem dX8_sign_11 : decode cX8_sign 11 = .ok (.aload_n 1, 1) := by decide +kernel
theorem dX8_sign_12 : decode cX8_sign 12 = .ok (.aload_n 0, 1) := by decide +kernel
theorem dX8_sign_13 : decode cX8_sign 13 = .ok (.getfield 27, 3) := by decide +kernel
theorem dX8_sign_16 : decode cX8_sign 16 = .ok (.invokevirtual 57, 3) := by decide +kernel
theorem dX8_sign_19 : decode cX8_sign 19 = .ok (.goto 6, 3) := by decide +kernel
theorem dX8_sign_22 : decode cX8_sign 22 = .ok (.sipush (-999), 3) := by decide +kernel
theorem dX8_sign_25 : decode cX8_sign 25 = .ok (.ireturn, 1) := by decide +kernel
theorem dX8_skipBlanks_0 : decode cX8_skipBlanks 0 = .ok (.iconst 0, 1) := by decide +kernel
theorem dX8_skipBlanks_1 : decode cX8_skipBlanks 1 = .ok (.istore_n 2, 1) := by decide +kernel
theorem dX8_skipBlanks_2 : decode cX8_skipBlanks 2 = .ok (.iload_n 2, 1) := by decide +kernel
theorem dX8_skipBlanks_3 : decode cX8_skipBlanks 3 = .ok (.bipush 60, 2) := by decide +kernel
theorem dX8_skipBlanks_5 : decode cX8_skipBlanks 5 = .ok (.if_icmp .ge 29, 3) := by decide +kernel
theorem dX8_skipBlanks_8 : decode cX8_skipBlanks 8 = .ok (.aload_n 0, 1) := by decide +kernel
theorem dX8_skipBlanks_9 : decode cX8_skipBlanks 9 = .ok (.aload_n 1, 1) := by decide +kernel
theorem dX8_skipBlanks_10 : decode cX8_skipBlanks 10 = .ok (.invokevirtual 46, 3) := by decide +kernel
theorem dX8_skipBlanks_13 : decode cX8_skipBlanks 13 = .ok (.bipush 32, 2) := by decide +kernel
theorem dX8_skipBlanks_15 : decode cX8_skipBlanks 15 = .ok (.if_icmp .ne 19, 3) := by decide +kernel
theorem dX8_skipBlanks_18 : decode cX8_skipBlanks 18 = .ok (.aload_n 0, 1) := by decide +kernel
theorem dX8_skipBlanks_19 : decode cX8_skipBlanks 19 = .ok (.dup, 1) := by decide +kernel
theorem dX8_skipBlanks_20 : decode cX8_skipBlanks 20 = .ok (.getfield 27, 3) := by decide +kernel
theorem dX8_skipBlanks_23 : decode cX8_skipBlanks 23 = .ok (.iconst 1, 1) := by decide +kernel
theorem dX8_skipBlanks_24 : decode cX8_skipBlanks 24 = .ok (.iadd, 1) := by decide +kernel
theorem dX8_skipBlanks_25 : decode cX8_skipBlanks 25 = .ok (.putfield 27, 3) := by decide +kernel
theorem dX8_skipBlanks_28 : decode cX8_skipBlanks 28 = .ok (.iinc 2 1, 3) := by decide +kernel
theorem dX8_skipBlanks_31 : decode cX8_skipBlanks 31 = .ok (.goto (-29), 3) := by decide +kernel
theorem dX8_skipBlanks_34 : decode cX8_skipBlanks 34 = .ok (.return_, 1) := by decide +kernel
theorem dX8_readScene_0 : decode cX8_readScene 0 = .ok (.aload_n 2, 1) := by decide +kernel
theorem dX8_readScene_1 : decode cX8_readScene 1 = .ok (.invokevirtual 61, 3) := by decide +kernel
theorem dX8_readScene_4 : decode cX8_readScene 4 = .ok (.aload_n 0, 1) := by decide +kernel
theorem dX8_readScene_5 : decode cX8_readScene 5 = .ok (.aload_n 1, 1) := by decide +kernel
theorem dX8_readScene_6 : decode cX8_readScene 6 = .ok (.aload_n 2, 1) := by decide +kernel
theorem dX8_readScene_7 : decode cX8_readScene 7 = .ok (.invokevirtual 64, 3) := by decide +kernel
theorem dX8_readScene_10 : decode cX8_readScene 10 = .ok (.ifCond .ne 5, 3) := by decide +kernel
theorem dX8_readScene_13 : decode cX8_readScene 13 = .ok (.iconst 0, 1) := by decide +kernel
theorem dX8_readScene_14 : decode cX8_readScene 14 = .ok (.ireturn, 1) := by decide +kernel
theorem dX8_readScene_15 : decode cX8_readScene 15 = .ok (.aload_n 2, 1) := by decide +kernel
theorem dX8_readScene_16 : decode cX8_readScene 16 = .ok (.aload_n 0, 1) := by decide +kernel
theorem dX8_readScene_17 : decode cX8_readScene 17 = .ok (.aload_n 1, 1) := by decide +kernel
theorem dX8_readScene_18 : decode cX8_readScene 18 = .ok (.invokevirtual 67, 3) := by decide +kernel
theorem dX8_readScene_21 : decode cX8_readScene 21 = .ok (.putfield 70, 3) := by decide +kernel
theorem dX8_readScene_24 : decode cX8_readScene 24 = .ok (.aload_n 2, 1) := by decide +kernel
theorem dX8_readScene_25 : decode cX8_readScene 25 = .ok (.aload_n 2, 1) := by decide +kernel
theorem dX8_readScene_26 : decode cX8_readScene 26 = .ok (.getfield 70, 3) := by decide +kernel
theorem dX8_readScene_29 : decode cX8_readScene 29 = .ok (.putfield 73, 3) := by decide +kernel
theorem dX8_readScene_32 : decode cX8_readScene 32 = .ok (.aload_n 2, 1) := by decide +kernel
theorem dX8_readScene_33 : decode cX8_readScene 33 = .ok (.getfield 70, 3) := by decide +kernel
theorem dX8_readScene_36 : decode cX8_readScene 36 = .ok (.ifCond .ne 5, 3) := by decide +kernel
theorem dX8_readScene_39 : decode cX8_readScene 39 = .ok (.iconst 0, 1) := by decide +kernel
theorem dX8_readScene_40 : decode cX8_readScene 40 = .ok (.ireturn, 1) := by decide +kernel
theorem dX8_readScene_41 : decode cX8_readScene 41 = .ok (.aload_n 0, 1) := by decide +kernel
theorem dX8_readScene_42 : decode cX8_readScene 42 = .ok (.aload_n 1, 1) := by decide +kernel
theorem dX8_readScene_43 : decode cX8_readScene 43 = .ok (.invokevirtual 46, 3) := by decide +kernel
theorem dX8_readScene_46 : decode cX8_readScene 46 = .ok (.bipush 45, 2) := by decide +kernel
theorem dX8_readScene_48 : decode cX8_readScene 48 = .ok (.if_icmp .ne 35, 3) := by decide +kernel
theorem dX8_readScene_51 : decode cX8_readScene 51 = .ok (.aload_n 0, 1) := by decide +kernel
theorem dX8_readScene_52 : decode cX8_readScene 52 = .ok (.dup, 1) := by decide +kernel
theorem dX8_readScene_53 : decode cX8_readScene 53 = .ok (.getfield 27, 3) := by decide +kernel
theorem dX8_readScene_56 : decode cX8_readScene 56 = .ok (.iconst 1, 1) := by decide +kernel
theorem dX8_readScene_57 : decode cX8_readScene 57 = .ok (.iadd, 1) := by decide +kernel
theorem dX8_readScene_58 : decode cX8_readScene 58 = .ok (.putfield 27, 3) := by decide +kernel
theorem dX8_readScene_61 : decode cX8_readScene 61 = .ok (.aload_n 2, 1) := by decide +kernel
theorem dX8_readScene_62 : decode cX8_readScene 62 = .ok (.aload_n 0, 1) := by decide +kernel
theorem dX8_readScene_63 : decode cX8_readScene 63 = .ok (.aload_n 1, 1) := by decide +kernel
theorem dX8_readScene_64 : decode cX8_readScene 64 = .ok (.invokevirtual 67, 3) := by decide +kernel
theorem dX8_readScene_67 : decode cX8_readScene 67 = .ok (.putfield 73, 3) := by decide +kernel
theorem dX8_readScene_70 : decode cX8_readScene 70 = .ok (.aload_n 2, 1) := by decide +kernel
theorem dX8_readScene_71 : decode cX8_readScene 71 = .ok (.getfield 73, 3) := by decide +kernel
theorem dX8_readScene_74 : decode cX8_readScene 74 = .ok (.aload_n 2, 1) := by decide +kernel
theorem dX8_readScene_75 : decode cX8_readScene 75 = .ok (.getfield 70, 3) := by decide +kernel
theorem dX8_readScene_78 : decode cX8_readScene 78 = .ok (.if_icmp .ge 5, 3) := by decide +kernel
theorem dX8_readScene_81 : decode cX8_readScene 81 = .ok (.iconst 0, 1) := by decide +kernel
theorem dX8_readScene_82 : decode cX8_readScene 82 = .ok (.ireturn, 1) := by decide +kernel
theorem dX8_readScene_83 : decode cX8_readScene 83 = .ok (.aload_n 0, 1) := by decide +kernel
theorem dX8_readScene_84 : decode cX8_readScene 84 = .ok (.aload_n 1, 1) := by decide +kernel
theorem dX8_readScene_85 : decode cX8_readScene 85 = .ok (.invokevirtual 46, 3) := by decide +kernel
theorem dX8_readScene_88 : decode cX8_readScene 88 = .ok (.bipush 33, 2) := by decide +kernel
theorem dX8_readScene_90 : decode cX8_readScene 90 = .ok (.if_icmp .ne 18, 3) := by decide +kernel
theorem dX8_readScene_93 : decode cX8_readScene 93 = .ok (.aload_n 0, 1) := by decide +kernel
theorem dX8_readScene_94 : decode cX8_readScene 94 = .ok (.dup, 1) := by decide +kernel
theorem dX8_readScene_95 : decode cX8_readScene 95 = .ok (.getfield 27, 3) := by decide +kernel
theorem dX8_readScene_98 : decode cX8_readScene 98 = .ok (.iconst 1, 1) := by decide +kernel
theorem dX8_readScene_99 : decode cX8_readScene 99 = .ok (.iadd, 1) := by decide +kernel
theorem dX8_readScene_100 : decode cX8_readScene 100 = .ok (.putfield 27, 3) := by decide +kernel
theorem dX8_readScene_103 : decode cX8_readScene 103 = .ok (.aload_n 2, 1) := by decide +kernel
theorem dX8_readScene_104 : decode cX8_readScene 104 = .ok (.iconst 1, 1) := by decide +kernel
theorem dX8_readScene_105 : decode cX8_readScene 105 = .ok (.putfield 76, 3) := by decide +kernel
theorem dX8_readScene_108 : decode cX8_readScene 108 = .ok (.iconst 1, 1) := by decide +kernel
theorem dX8_readScene_109 : decode cX8_readScene 109 = .ok (.ireturn, 1) := by decide +kernel
theorem dX8_readHides_0 : decode cX8_readHides 0 = .ok (.iconst 0, 1) := by decide +kernel
theorem dX8_readHides_1 : decode cX8_readHides 1 = .ok (.istore_n 3, 1) := by decide +kernel
theorem dX8_readHides_2 : decode cX8_readHides 2 = .ok (.iload_n 3, 1) := by decide +kernel
theorem dX8_readHides_3 : decode cX8_readHides 3 = .ok (.bipush 60, 2) := by decide +kernel
theorem dX8_readHides_5 : decode cX8_readHides 5 = .ok (.if_icmp .ge 137, 3) := by decide +kernel
theorem dX8_readHides_8 : decode cX8_readHides 8 = .ok (.aload_n 0, 1) := by decide +kernel
theorem dX8_readHides_9 : decode cX8_readHides 9 = .ok (.aload_n 1, 1) := by decide +kernel
theorem dX8_readHides_10 : decode cX8_readHides 10 = .ok (.invokevirtual 46, 3) := by decide +kernel
theorem dX8_readHides_13 : decode cX8_readHides 13 = .ok (.istore 4, 2) := by decide +kernel
theorem dX8_readHides_15 : decode cX8_readHides 15 = .ok (.iload 4, 2) := by decide +kernel
theorem dX8_readHides_17 : decode cX8_readHides 17 = .ok (.bipush 65, 2) := by decide +kernel
theorem dX8_readHides_19 : decode cX8_readHides 19 = .ok (.bipush 72, 2) := by decide +kernel
theorem dX8_readHides_21 : decode cX8_readHides 21 = .ok (.invokestatic 80, 3) := by decide +kernel
theorem dX8_readHides_24 : decode cX8_readHides 24 = .ok (.istore 5, 2) := by decide +kernel
theorem dX8_readHides_26 : decode cX8_readHides 26 = .ok (.iload 5, 2) := by decide +kernel
theorem dX8_readHides_28 : decode cX8_readHides 28 = .ok (.ifCond .ne 17, 3) := by decide +kernel
theorem dX8_readHides_31 : decode cX8_readHides 31 = .ok (.iload 4, 2) := by decide +kernel
theorem dX8_readHides_33 : decode cX8_readHides 33 = .ok (.bipush 97, 2) := by decide +kernel
theorem dX8_readHides_35 : decode cX8_readHides 35 = .ok (.bipush 104, 2) := by decide +kernel
theorem dX8_readHides_37 : decode cX8_readHides 37 = .ok (.invokestatic 80, 3) := by decide +kernel
theorem dX8_readHides_40 : decode cX8_readHides 40 = .ok (.ifCond .ne 5, 3) := by decide +kernel
theorem dX8_readHides_43 : decode cX8_readHides 43 = .ok (.iconst 1, 1) := by decide +kernel
theorem dX8_readHides_44 : decode cX8_readHides 44 = .ok (.ireturn, 1) := by decide +kernel
theorem dX8_readHides_45 : decode cX8_readHides 45 = .ok (.iconst 1, 1) := by decide +kernel
theorem dX8_readHides_46 : decode cX8_readHides 46 = .ok (.iload 5, 2) := by decide +kernel
theorem dX8_readHides_48 : decode cX8_readHides 48 = .ok (.ifCond .eq 11, 3) := by decide +kernel
theorem dX8_readHides_51 : decode cX8_readHides 51 = .ok (.iload 4, 2) := by decide +kernel
theorem dX8_readHides_53 : decode cX8_readHides 53 = .ok (.bipush 65, 2) := by decide +kernel
theorem dX8_readHides_55 : decode cX8_readHides 55 = .ok (.isub, 1) := by decide +kernel
theorem dX8_readHides_56 : decode cX8_readHides 56 = .ok (.goto 8, 3) := by decide +kernel
theorem dX8_readHides_59 : decode cX8_readHides 59 = .ok (.iload 4, 2) := by decide +kernel
theorem dX8_readHides_61 : decode cX8_readHides 61 = .ok (.bipush 97, 2) := by decide +kernel
theorem dX8_readHides_63 : decode cX8_readHides 63 = .ok (.isub, 1) := by decide +kernel
theorem dX8_readHides_64 : decode cX8_readHides 64 = .ok (.ishl, 1) := by decide +kernel
theorem dX8_readHides_65 : decode cX8_readHides 65 = .ok (.istore 6, 2) := by decide +kernel
theorem dX8_readHides_67 : decode cX8_readHides 67 = .ok (.aload_n 2, 1) := by decide +kernel
theorem dX8_readHides_68 : decode cX8_readHides 68 = .ok (.getfield 31, 3) := by decide +kernel
theorem dX8_readHides_71 : decode cX8_readHides 71 = .ok (.iload 6, 2) := by decide +kernel
theorem dX8_readHides_73 : decode cX8_readHides 73 = .ok (.iand, 1) := by decide +kernel
theorem dX8_readHides_74 : decode cX8_readHides 74 = .ok (.ifCond .ne 19, 3) := by decide +kernel
theorem dX8_readHides_77 : decode cX8_readHides 77 = .ok (.iload 5, 2) := by decide +kernel
theorem dX8_readHides_79 : decode cX8_readHides 79 = .ok (.ifCond .eq 16, 3) := by decide +kernel
theorem dX8_readHides_82 : decode cX8_readHides 82 = .ok (.aload_n 2, 1) := by decide +kernel
theorem dX8_readHides_83 : decode cX8_readHides 83 = .ok (.getfield 84, 3) := by decide +kernel
theorem dX8_readHides_86 : decode cX8_readHides 86 = .ok (.invokestatic 87, 3) := by decide +kernel
theorem dX8_readHides_89 : decode cX8_readHides 89 = .ok (.iconst 2, 1) := by decide +kernel
theorem dX8_readHides_90 : decode cX8_readHides 90 = .ok (.if_icmp .lt 5, 3) := by decide +kernel
theorem dX8_readHides_93 : decode cX8_readHides 93 = .ok (.iconst 0, 1) := by decide +kernel
theorem dX8_readHides_94 : decode cX8_readHides 94 = .ok (.ireturn, 1) := by decide +kernel
theorem dX8_readHides_95 : decode cX8_readHides 95 = .ok (.aload_n 2, 1) := by decide +kernel
theorem dX8_readHides_96 : decode cX8_readHides 96 = .ok (.dup, 1) := by decide +kernel
theorem dX8_readHides_97 : decode cX8_readHides 97 = .ok (.getfield 31, 3) := by decide +kernel
theorem dX8_readHides_100 : decode cX8_readHides 100 = .ok (.iload 6, 2) := by decide +kernel
theorem dX8_readHides_102 : decode cX8_readHides 102 = .ok (.ior, 1) := by decide +kernel
theorem dX8_readHides_103 : decode cX8_readHides 103 = .ok (.putfield 31, 3) := by decide +kernel
theorem dX8_readHides_106 : decode cX8_readHides 106 = .ok (.aload_n 2, 1) := by decide +kernel
theorem dX8_readHides_107 : decode cX8_readHides 107 = .ok (.dup, 1) := by decide +kernel
theorem dX8_readHides_108 : decode cX8_readHides 108 = .ok (.getfield 84, 3) := by decide +kernel
theorem dX8_readHides_111 : decode cX8_readHides 111 = .ok (.iload 5, 2) := by decide +kernel
theorem dX8_readHides_113 : decode cX8_readHides 113 = .ok (.ifCond .eq 8, 3) := by decide +kernel
theorem dX8_readHides_116 : decode cX8_readHides 116 = .ok (.iload 6, 2) := by decide +kernel
theorem dX8_readHides_118 : decode cX8_readHides 118 = .ok (.goto 4, 3) := by decide +kernel
theorem dX8_readHides_121 : decode cX8_readHides 121 = .ok (.iconst 0, 1) := by decide +kernel
theorem dX8_readHides_122 : decode cX8_readHides 122 = .ok (.ior, 1) := by decide +kernel
theorem dX8_readHides_123 : decode cX8_readHides 123 = .ok (.putfield 84, 3) := by decide +kernel
theorem dX8_readHides_126 : decode cX8_readHides 126 = .ok (.aload_n 0, 1) := by decide +kernel
theorem dX8_readHides_127 : decode cX8_readHides 127 = .ok (.dup, 1) := by decide +kernel
theorem dX8_readHides_128 : decode cX8_readHides 128 = .ok (.getfield 27, 3) := by decide +kernel
theorem dX8_readHides_131 : decode cX8_readHides 131 = .ok (.iconst 1, 1) := by decide +kernel
theorem dX8_readHides_132 : decode cX8_readHides 132 = .ok (.iadd, 1) := by decide +kernel
theorem dX8_readHides_133 : decode cX8_readHides 133 = .ok (.putfield 27, 3) := by decide +kernel
theorem dX8_readHides_136 : decode cX8_readHides 136 = .ok (.iinc 3 1, 3) := by decide +kernel
theorem dX8_readHides_139 : decode cX8_readHides 139 = .ok (.goto (-137), 3) := by decide +kernel
theorem dX8_readHides_142 : decode cX8_readHides 142 = .ok (.iconst 1, 1) := by decide +kernel
theorem dX8_readHides_143 : decode cX8_readHides 143 = .ok (.ireturn, 1) := by decide +kernel
theorem dX8_readLength_0 : decode cX8_readLength 0 = .ok (.iconst 0, 1) := by decide +kernel
theorem dX8_readLength_1 : decode cX8_readLength 1 = .ok (.istore_n 2, 1) := by decide +kernel
theorem dX8_readLength_2 : decode cX8_readLength 2 = .ok (.iconst 0, 1) := by decide +kernel
theorem dX8_readLength_3 : decode cX8_readLength 3 = .ok (.istore_n 3, 1) := by decide +kernel
theorem dX8_readLength_4 : decode cX8_readLength 4 = .ok (.iload_n 3, 1) := by decide +kernel
theorem dX8_readLength_5 : decode cX8_readLength 5 = .ok (.iconst 2, 1) := by decide +kernel
theorem dX8_readLength_6 : decode cX8_readLength 6 = .ok (.if_icmp .ge 48, 3) := by decide +kernel
theorem dX8_readLength_9 : decode cX8_readLength 9 = .ok (.aload_n 0, 1) := by decide +kernel
theorem dX8_readLength_10 : decode cX8_readLength 10 = .ok (.aload_n 1, 1) := by decide +kernel
theorem dX8_readLength_11 : decode cX8_readLength 11 = .ok (.invokevirtual 46, 3) := by decide +kernel
theorem dX8_readLength_14 : decode cX8_readLength 14 = .ok (.bipush 48, 2) := by decide +kernel
theorem dX8_readLength_16 : decode cX8_readLength 16 = .ok (.bipush 57, 2) := by decide +kernel
theorem dX8_readLength_18 : decode cX8_readLength 18 = .ok (.invokestatic 80, 3) := by decide +kernel
theorem dX8_readLength_21 : decode cX8_readLength 21 = .ok (.ifCond .eq 33, 3) := by decide +kernel
theorem dX8_readLength_24 : decode cX8_readLength 24 = .ok (.bipush 10, 2) := by decide +kernel
theorem dX8_readLength_26 : decode cX8_readLength 26 = .ok (.iload_n 2, 1) := by decide +kernel
theorem dX8_readLength_27 : decode cX8_readLength 27 = .ok (.imul, 1) := by decide +kernel
theorem dX8_readLength_28 : decode cX8_readLength 28 = .ok (.aload_n 0, 1) := by decide +kernel
theorem dX8_readLength_29 : decode cX8_readLength 29 = .ok (.aload_n 1, 1) := by decide +kernel
theorem dX8_readLength_30 : decode cX8_readLength 30 = .ok (.invokevirtual 46, 3) := by decide +kernel
theorem dX8_readLength_33 : decode cX8_readLength 33 = .ok (.iadd, 1) := by decide +kernel
theorem dX8_readLength_34 : decode cX8_readLength 34 = .ok (.bipush 48, 2) := by decide +kernel
theorem dX8_readLength_36 : decode cX8_readLength 36 = .ok (.isub, 1) := by decide +kernel
theorem dX8_readLength_37 : decode cX8_readLength 37 = .ok (.istore_n 2, 1) := by decide +kernel
theorem dX8_readLength_38 : decode cX8_readLength 38 = .ok (.aload_n 0, 1) := by decide +kernel
theorem dX8_readLength_39 : decode cX8_readLength 39 = .ok (.dup, 1) := by decide +kernel
theorem dX8_readLength_40 : decode cX8_readLength 40 = .ok (.getfield 27, 3) := by decide +kernel
theorem dX8_readLength_43 : decode cX8_readLength 43 = .ok (.iconst 1, 1) := by decide +kernel
theorem dX8_readLength_44 : decode cX8_readLength 44 = .ok (.iadd, 1) := by decide +kernel
theorem dX8_readLength_45 : decode cX8_readLength 45 = .ok (.putfield 27, 3) := by decide +kernel
theorem dX8_readLength_48 : decode cX8_readLength 48 = .ok (.iinc 3 1, 3) := by decide +kernel
theorem dX8_readLength_51 : decode cX8_readLength 51 = .ok (.goto (-47), 3) := by decide +kernel
theorem dX8_readLength_54 : decode cX8_readLength 54 = .ok (.iload_n 2, 1) := by decide +kernel
theorem dX8_readLength_55 : decode cX8_readLength 55 = .ok (.ireturn, 1) := by decide +kernel
theorem dX8_addTo_0 : decode cX8_addTo 0 = .ok (.lload_n 1, 1) := by decide +kernel
theorem dX8_addTo_1 : decode cX8_addTo 1 = .ok (.lstore_n 3, 1) := by decide +kernel
theorem dX8_addTo_2 : decode cX8_addTo 2 = .ok (.iconst 0, 1) := by decide +kernel
theorem dX8_addTo_3 : decode cX8_addTo 3 = .ok (.istore 5, 2) := by decide +kernel
theorem dX8_addTo_5 : decode cX8_addTo 5 = .ok (.iload 5, 2) := by decide +kernel
theorem dX8_addTo_7 : decode cX8_addTo 7 = .ok (.aload_n 0, 1) := by decide +kernel
theorem dX8_addTo_8 : decode cX8_addTo 8 = .ok (.getfield 17, 3) := by decide +kernel
theorem dX8_addTo_11 : decode cX8_addTo 11 = .ok (.if_icmp .ge 21, 3) := by decide +kernel
theorem dX8_addTo_14 : decode cX8_addTo 14 = .ok (.aload_n 0, 1) := by decide +kernel
theorem dX8_addTo_15 : decode cX8_addTo 15 = .ok (.getfield 11, 3) := by decide +kernel
theorem dX8_addTo_18 : decode cX8_addTo 18 = .ok (.iload 5, 2) := by decide +kernel
theorem dX8_addTo_20 : decode cX8_addTo 20 = .ok (.aaload, 1) := by decide +kernel
theorem dX8_addTo_21 : decode cX8_addTo 21 = .ok (.lload_n 3, 1) := by decide +kernel
theorem dX8_addTo_22 : decode cX8_addTo 22 = .ok (.invokevirtual 92, 3) := by decide +kernel
theorem dX8_addTo_25 : decode cX8_addTo 25 = .ok (.lstore_n 3, 1) := by decide +kernel
theorem dX8_addTo_26 : decode cX8_addTo 26 = .ok (.iinc 5 1, 3) := by decide +kernel
theorem dX8_addTo_29 : decode cX8_addTo 29 = .ok (.goto (-24), 3) := by decide +kernel
theorem dX8_addTo_32 : decode cX8_addTo 32 = .ok (.lload_n 3, 1) := by decide +kernel
theorem dX8_addTo_33 : decode cX8_addTo 33 = .ok (.lreturn, 1) := by decide +kernel
theorem dX9_init_0 : decode cX9_init 0 = .ok (.aload_n 0, 1) := by decide +kernel
theorem dX9_init_1 : decode cX9_init 1 = .ok (.invokespecial 3, 3) := by decide +kernel
theorem dX9_init_4 : decode cX9_init 4 = .ok (.aload_n 0, 1) := by decide +kernel
theorem dX9_init_5 : decode cX9_init 5 = .ok (.bipush 60, 2) := by decide +kernel
theorem dX9_init_7 : decode cX9_init 7 = .ok (.newarray .int, 2) := by decide +kernel
theorem dX9_init_9 : decode cX9_init 9 = .ok (.putfield 9, 3) := by decide +kernel
theorem dX9_init_12 : decode cX9_init 12 = .ok (.aload_n 0, 1) := by decide +kernel
theorem dX9_init_13 : decode cX9_init 13 = .ok (.iconst (-1), 1) := by decide +kernel
theorem dX9_init_14 : decode cX9_init 14 = .ok (.putfield 15, 3) := by decide +kernel
theorem dX9_init_17 : decode cX9_init 17 = .ok (.return_, 1) := by decide +kernel
theorem dX9_isThere_0 : decode cX9_isThere 0 = .ok (.aload_n 0, 1) := by decide +kernel
theorem dX9_isThere_1 : decode cX9_isThere 1 = .ok (.getfield 15, 3) := by decide +kernel
theorem dX9_isThere_4 : decode cX9_isThere 4 = .ok (.ifCond .lt 7, 3) := by decide +kernel
theorem dX9_isThere_7 : decode cX9_isThere 7 = .ok (.iconst 1, 1) := by decide +kernel
theorem dX9_isThere_8 : decode cX9_isThere 8 = .ok (.goto 4, 3) := by decide +kernel
theorem dX9_isThere_11 : decode cX9_isThere 11 = .ok (.iconst 0, 1) := by decide +kernel
theorem dX9_isThere_12 : decode cX9_isThere 12 = .ok (.ireturn, 1) := by decide +kernel
theorem dX9_make_0 : decode cX9_make 0 = .ok (.iload_n 1, 1) := by decide +kernel
theorem dX9_make_1 : decode cX9_make 1 = .ok (.ifCond .lt 12, 3) := by decide +kernel
theorem dX9_make_4 : decode cX9_make 4 = .ok (.iload_n 1, 1) := by decide +kernel
theorem dX9_make_5 : decode cX9_make 5 = .ok (.aload_n 0, 1) := by decide +kernel
theorem dX9_make_6 : decode cX9_make 6 = .ok (.getfield 9, 3) := by decide +kernel
theorem dX9_make_9 : decode cX9_make 9 = .ok (.arraylength, 1) := by decide +kernel
theorem dX9_make_10 : decode cX9_make 10 = .ok (.if_icmp .le 4, 3) := by decide +kernel
theorem dX9_make_13 : decode cX9_make 13 = .ok (.return_, 1) := by decide +kernel
theorem dX9_make_14 : decode cX9_make 14 = .ok (.aload_n 0, 1) := by decide +kernel
theorem dX9_make_15 : decode cX9_make 15 = .ok (.getfield 9, 3) := by decide +kernel
theorem dX9_make_18 : decode cX9_make 18 = .ok (.iconst 0, 1) := by decide +kernel
theorem dX9_make_19 : decode cX9_make 19 = .ok (.iload_n 1, 1) := by decide +kernel
theorem dX9_make_20 : decode cX9_make 20 = .ok (.iload_n 2, 1) := by decide +kernel
theorem dX9_make_21 : decode cX9_make 21 = .ok (.invokestatic 19, 3) := by decide +kernel
theorem dX9_make_24 : decode cX9_make 24 = .ok (.aload_n 0, 1) := by decide +kernel
theorem dX9_make_25 : decode cX9_make 25 = .ok (.iload_n 1, 1) := by decide +kernel
theorem dX9_make_26 : decode cX9_make 26 = .ok (.putfield 15, 3) := by decide +kernel
theorem dX9_make_29 : decode cX9_make 29 = .ok (.return_, 1) := by decide +kernel
theorem dX9_remove_0 : decode cX9_remove 0 = .ok (.aload_n 0, 1) := by decide +kernel
theorem dX9_remove_1 : decode cX9_remove 1 = .ok (.iconst (-1), 1) := by decide +kernel
theorem dX9_remove_2 : decode cX9_remove 2 = .ok (.putfield 15, 3) := by decide +kernel
theorem dX9_remove_5 : decode cX9_remove 5 = .ok (.return_, 1) := by decide +kernel
theorem dX9_has_0 : decode cX9_has 0 = .ok (.iload_n 1, 1) := by decide +kernel
theorem dX9_has_1 : decode cX9_has 1 = .ok (.ifCond .lt 15, 3) := by decide +kernel
theorem dX9_has_4 : decode cX9_has 4 = .ok (.iload_n 1, 1) := by decide +kernel
theorem dX9_has_5 : decode cX9_has 5 = .ok (.aload_n 0, 1) := by decide +kernel
theorem dX9_has_6 : decode cX9_has 6 = .ok (.getfield 15, 3) := by decide +kernel
