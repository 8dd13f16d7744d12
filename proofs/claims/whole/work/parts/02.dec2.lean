theorem dX12_copy_80 : decode cX12_copy 80 = .ok (.iload 5, 2) := by decide +kernel
theorem dX12_copy_82 : decode cX12_copy 82 = .ok (.i2l, 1) := by decide +kernel
theorem dX12_copy_83 : decode cX12_copy 83 = .ok (.ladd, 1) := by decide +kernel
theorem dX12_copy_84 : decode cX12_copy 84 = .ok (.aload_n 0, 1) := by decide +kernel
theorem dX12_copy_85 : decode cX12_copy 85 = .ok (.getfield 17, 3) := by decide +kernel
theorem dX12_copy_88 : decode cX12_copy 88 = .ok (.iload_n 3, 1) := by decide +kernel
theorem dX12_copy_89 : decode cX12_copy 89 = .ok (.iaload, 1) := by decide +kernel
theorem dX12_copy_90 : decode cX12_copy 90 = .ok (.i2l, 1) := by decide +kernel
theorem dX12_copy_91 : decode cX12_copy 91 = .ok (.lcmp, 1) := by decide +kernel
theorem dX12_copy_92 : decode cX12_copy 92 = .ok (.ifCond .le 9, 3) := by decide +kernel
theorem dX12_copy_95 : decode cX12_copy 95 = .ok (.aload_n 0, 1) := by decide +kernel
theorem dX12_copy_96 : decode cX12_copy 96 = .ok (.iconst 2, 1) := by decide +kernel
theorem dX12_copy_97 : decode cX12_copy 97 = .ok (.invokevirtual 138, 3) := by decide +kernel
theorem dX12_copy_100 : decode cX12_copy 100 = .ok (.ireturn, 1) := by decide +kernel
theorem dX12_copy_101 : decode cX12_copy 101 = .ok (.iconst 0, 1) := by decide +kernel
theorem dX12_copy_102 : decode cX12_copy 102 = .ok (.istore 6, 2) := by decide +kernel
theorem dX12_copy_104 : decode cX12_copy 104 = .ok (.iload 6, 2) := by decide +kernel
theorem dX12_copy_106 : decode cX12_copy 106 = .ok (.iload 5, 2) := by decide +kernel
theorem dX12_copy_108 : decode cX12_copy 108 = .ok (.if_icmp .ge 25, 3) := by decide +kernel
theorem dX12_copy_111 : decode cX12_copy 111 = .ok (.aload_n 0, 1) := by decide +kernel
theorem dX12_copy_112 : decode cX12_copy 112 = .ok (.getfield 23, 3) := by decide +kernel
theorem dX12_copy_115 : decode cX12_copy 115 = .ok (.iload 6, 2) := by decide +kernel
theorem dX12_copy_117 : decode cX12_copy 117 = .ok (.aload_n 0, 1) := by decide +kernel
theorem dX12_copy_118 : decode cX12_copy 118 = .ok (.iload_n 1, 1) := by decide +kernel
theorem dX12_copy_119 : decode cX12_copy 119 = .ok (.iload_n 2, 1) := by decide +kernel
theorem dX12_copy_120 : decode cX12_copy 120 = .ok (.iload 6, 2) := by decide +kernel
theorem dX12_copy_122 : decode cX12_copy 122 = .ok (.iadd, 1) := by decide +kernel
theorem dX12_copy_123 : decode cX12_copy 123 = .ok (.invokevirtual 148, 3) := by decide +kernel
theorem dX12_copy_126 : decode cX12_copy 126 = .ok (.iastore, 1) := by decide +kernel
theorem dX12_copy_127 : decode cX12_copy 127 = .ok (.iinc 6 1, 3) := by decide +kernel
theorem dX12_copy_130 : decode cX12_copy 130 = .ok (.goto (-26), 3) := by decide +kernel
theorem dX12_copy_133 : decode cX12_copy 133 = .ok (.iconst 0, 1) := by decide +kernel
theorem dX12_copy_134 : decode cX12_copy 134 = .ok (.istore 6, 2) := by decide +kernel
theorem dX12_copy_136 : decode cX12_copy 136 = .ok (.iload 6, 2) := by decide +kernel
theorem dX12_copy_138 : decode cX12_copy 138 = .ok (.iload 5, 2) := by decide +kernel
theorem dX12_copy_140 : decode cX12_copy 140 = .ok (.if_icmp .ge 31, 3) := by decide +kernel
theorem dX12_copy_143 : decode cX12_copy 143 = .ok (.aload_n 0, 1) := by decide +kernel
theorem dX12_copy_144 : decode cX12_copy 144 = .ok (.getfield 20, 3) := by decide +kernel
theorem dX12_copy_147 : decode cX12_copy 147 = .ok (.bipush 40, 2) := by decide +kernel
theorem dX12_copy_149 : decode cX12_copy 149 = .ok (.iload_n 3, 1) := by decide +kernel
theorem dX12_copy_150 : decode cX12_copy 150 = .ok (.imul, 1) := by decide +kernel
theorem dX12_copy_151 : decode cX12_copy 151 = .ok (.iload 4, 2) := by decide +kernel
theorem dX12_copy_153 : decode cX12_copy 153 = .ok (.iadd, 1) := by decide +kernel
theorem dX12_copy_154 : decode cX12_copy 154 = .ok (.iload 6, 2) := by decide +kernel
theorem dX12_copy_156 : decode cX12_copy 156 = .ok (.iadd, 1) := by decide +kernel
theorem dX12_copy_157 : decode cX12_copy 157 = .ok (.aload_n 0, 1) := by decide +kernel
theorem dX12_copy_158 : decode cX12_copy 158 = .ok (.getfield 23, 3) := by decide +kernel
theorem dX12_copy_161 : decode cX12_copy 161 = .ok (.iload 6, 2) := by decide +kernel
theorem dX12_copy_163 : decode cX12_copy 163 = .ok (.iaload, 1) := by decide +kernel
theorem dX12_copy_164 : decode cX12_copy 164 = .ok (.iastore, 1) := by decide +kernel
theorem dX12_copy_165 : decode cX12_copy 165 = .ok (.iinc 6 1, 3) := by decide +kernel
theorem dX12_copy_168 : decode cX12_copy 168 = .ok (.goto (-32), 3) := by decide +kernel
theorem dX12_copy_171 : decode cX12_copy 171 = .ok (.iconst 1, 1) := by decide +kernel
theorem dX12_copy_172 : decode cX12_copy 172 = .ok (.ireturn, 1) := by decide +kernel
theorem dX12_mean_0 : decode cX12_mean 0 = .ok (.aload_n 0, 1) := by decide +kernel
theorem dX12_mean_1 : decode cX12_mean 1 = .ok (.iload_n 1, 1) := by decide +kernel
theorem dX12_mean_2 : decode cX12_mean 2 = .ok (.invokevirtual 145, 3) := by decide +kernel
theorem dX12_mean_5 : decode cX12_mean 5 = .ok (.istore_n 2, 1) := by decide +kernel
theorem dX12_mean_6 : decode cX12_mean 6 = .ok (.iload_n 2, 1) := by decide +kernel
theorem dX12_mean_7 : decode cX12_mean 7 = .ok (.ifCond .ge 5, 3) := by decide +kernel
theorem dX12_mean_10 : decode cX12_mean 10 = .ok (.iload_n 2, 1) := by decide +kernel
theorem dX12_mean_11 : decode cX12_mean 11 = .ok (.ireturn, 1) := by decide +kernel
theorem dX12_mean_12 : decode cX12_mean 12 = .ok (.lconst 0, 1) := by decide +kernel
theorem dX12_mean_13 : decode cX12_mean 13 = .ok (.lstore_n 3, 1) := by decide +kernel
theorem dX12_mean_14 : decode cX12_mean 14 = .ok (.iconst 0, 1) := by decide +kernel
theorem dX12_mean_15 : decode cX12_mean 15 = .ok (.istore 5, 2) := by decide +kernel
theorem dX12_mean_17 : decode cX12_mean 17 = .ok (.iload 5, 2) := by decide +kernel
theorem dX12_mean_19 : decode cX12_mean 19 = .ok (.aload_n 0, 1) := by decide +kernel
theorem dX12_mean_20 : decode cX12_mean 20 = .ok (.getfield 17, 3) := by decide +kernel
theorem dX12_mean_23 : decode cX12_mean 23 = .ok (.iload_n 1, 1) := by decide +kernel
theorem dX12_mean_24 : decode cX12_mean 24 = .ok (.iaload, 1) := by decide +kernel
theorem dX12_mean_25 : decode cX12_mean 25 = .ok (.if_icmp .ge 20, 3) := by decide +kernel
theorem dX12_mean_28 : decode cX12_mean 28 = .ok (.lload_n 3, 1) := by decide +kernel
theorem dX12_mean_29 : decode cX12_mean 29 = .ok (.aload_n 0, 1) := by decide +kernel
theorem dX12_mean_30 : decode cX12_mean 30 = .ok (.iload_n 1, 1) := by decide +kernel
theorem dX12_mean_31 : decode cX12_mean 31 = .ok (.iload 5, 2) := by decide +kernel
theorem dX12_mean_33 : decode cX12_mean 33 = .ok (.invokevirtual 148, 3) := by decide +kernel
theorem dX12_mean_36 : decode cX12_mean 36 = .ok (.i2l, 1) := by decide +kernel
theorem dX12_mean_37 : decode cX12_mean 37 = .ok (.ladd, 1) := by decide +kernel
theorem dX12_mean_38 : decode cX12_mean 38 = .ok (.lstore_n 3, 1) := by decide +kernel
theorem dX12_mean_39 : decode cX12_mean 39 = .ok (.iinc 5 1, 3) := by decide +kernel
theorem dX12_mean_42 : decode cX12_mean 42 = .ok (.goto (-25), 3) := by decide +kernel
theorem dX12_mean_45 : decode cX12_mean 45 = .ok (.aload_n 0, 1) := by decide +kernel
theorem dX12_mean_46 : decode cX12_mean 46 = .ok (.getfield 17, 3) := by decide +kernel
theorem dX12_mean_49 : decode cX12_mean 49 = .ok (.iload_n 1, 1) := by decide +kernel
theorem dX12_mean_50 : decode cX12_mean 50 = .ok (.iaload, 1) := by decide +kernel
theorem dX12_mean_51 : decode cX12_mean 51 = .ok (.ifCond .ne 11, 3) := by decide +kernel
theorem dX12_mean_54 : decode cX12_mean 54 = .ok (.aload_n 0, 1) := by decide +kernel
theorem dX12_mean_55 : decode cX12_mean 55 = .ok (.iconst 4, 1) := by decide +kernel
theorem dX12_mean_56 : decode cX12_mean 56 = .ok (.invokevirtual 138, 3) := by decide +kernel
theorem dX12_mean_59 : decode cX12_mean 59 = .ok (.goto 18, 3) := by decide +kernel
theorem dX12_mean_62 : decode cX12_mean 62 = .ok (.aload_n 0, 1) := by decide +kernel
theorem dX12_mean_63 : decode cX12_mean 63 = .ok (.lload_n 3, 1) := by decide +kernel
theorem dX12_mean_64 : decode cX12_mean 64 = .ok (.aload_n 0, 1) := by decide +kernel
theorem dX12_mean_65 : decode cX12_mean 65 = .ok (.getfield 17, 3) := by decide +kernel
theorem dX12_mean_68 : decode cX12_mean 68 = .ok (.iload_n 1, 1) := by decide +kernel
theorem dX12_mean_69 : decode cX12_mean 69 = .ok (.iaload, 1) := by decide +kernel
theorem dX12_mean_70 : decode cX12_mean 70 = .ok (.i2l, 1) := by decide +kernel
theorem dX12_mean_71 : decode cX12_mean 71 = .ok (.ldiv, 1) := by decide +kernel
theorem dX12_mean_72 : decode cX12_mean 72 = .ok (.l2i, 1) := by decide +kernel
theorem dX12_mean_73 : decode cX12_mean 73 = .ok (.iconst 1, 1) := by decide +kernel
theorem dX12_mean_74 : decode cX12_mean 74 = .ok (.invokevirtual 152, 3) := by decide +kernel
theorem dX12_mean_77 : decode cX12_mean 77 = .ok (.ireturn, 1) := by decide +kernel
theorem dX12_text_0 : decode cX12_text 0 = .ok (.iload_n 1, 1) := by decide +kernel
theorem dX12_text_1 : decode cX12_text 1 = .ok (.invokestatic 142, 3) := by decide +kernel
theorem dX12_text_4 : decode cX12_text 4 = .ok (.ifCond .eq 9, 3) := by decide +kernel
theorem dX12_text_7 : decode cX12_text 7 = .ok (.iload_n 2, 1) := by decide +kernel
theorem dX12_text_8 : decode cX12_text 8 = .ok (.bipush 60, 2) := by decide +kernel
theorem dX12_text_10 : decode cX12_text 10 = .ok (.if_icmp .le 5, 3) := by decide +kernel
theorem dX12_text_13 : decode cX12_text 13 = .ok (.iconst (-1), 1) := by decide +kernel
theorem dX12_text_14 : decode cX12_text 14 = .ok (.ireturn, 1) := by decide +kernel
theorem dX12_text_15 : decode cX12_text 15 = .ok (.iload_n 2, 1) := by decide +kernel
theorem dX12_text_16 : decode cX12_text 16 = .ok (.ifCond .ge 9, 3) := by decide +kernel
theorem dX12_text_19 : decode cX12_text 19 = .ok (.aload_n 0, 1) := by decide +kernel
theorem dX12_text_20 : decode cX12_text 20 = .ok (.iconst 5, 1) := by decide +kernel
theorem dX12_text_21 : decode cX12_text 21 = .ok (.invokevirtual 138, 3) := by decide +kernel
theorem dX12_text_24 : decode cX12_text 24 = .ok (.ireturn, 1) := by decide +kernel
theorem dX12_text_25 : decode cX12_text 25 = .ok (.aload_n 0, 1) := by decide +kernel
theorem dX12_text_26 : decode cX12_text 26 = .ok (.getfield 26, 3) := by decide +kernel
theorem dX12_text_29 : decode cX12_text 29 = .ok (.iload_n 1, 1) := by decide +kernel
theorem dX12_text_30 : decode cX12_text 30 = .ok (.iload_n 2, 1) := by decide +kernel
theorem dX12_text_31 : decode cX12_text 31 = .ok (.iastore, 1) := by decide +kernel
theorem dX12_text_32 : decode cX12_text 32 = .ok (.iconst 0, 1) := by decide +kernel
theorem dX12_text_33 : decode cX12_text 33 = .ok (.istore_n 3, 1) := by decide +kernel
theorem dX12_text_34 : decode cX12_text 34 = .ok (.iload_n 3, 1) := by decide +kernel
theorem dX12_text_35 : decode cX12_text 35 = .ok (.bipush 60, 2) := by decide +kernel
theorem dX12_text_37 : decode cX12_text 37 = .ok (.if_icmp .ge 22, 3) := by decide +kernel
theorem dX12_text_40 : decode cX12_text 40 = .ok (.aload_n 0, 1) := by decide +kernel
theorem dX12_text_41 : decode cX12_text 41 = .ok (.getfield 29, 3) := by decide +kernel
theorem dX12_text_44 : decode cX12_text 44 = .ok (.bipush 60, 2) := by decide +kernel
theorem dX12_text_46 : decode cX12_text 46 = .ok (.iload_n 1, 1) := by decide +kernel
theorem dX12_text_47 : decode cX12_text 47 = .ok (.imul, 1) := by decide +kernel
theorem dX12_text_48 : decode cX12_text 48 = .ok (.iload_n 3, 1) := by decide +kernel
theorem dX12_text_49 : decode cX12_text 49 = .ok (.iadd, 1) := by decide +kernel
theorem dX12_text_50 : decode cX12_text 50 = .ok (.bipush 32, 2) := by decide +kernel
theorem dX12_text_52 : decode cX12_text 52 = .ok (.iastore, 1) := by decide +kernel
theorem dX12_text_53 : decode cX12_text 53 = .ok (.iinc 3 1, 3) := by decide +kernel
theorem dX12_text_56 : decode cX12_text 56 = .ok (.goto (-22), 3) := by decide +kernel
theorem dX12_text_59 : decode cX12_text 59 = .ok (.iload_n 2, 1) := by decide +kernel
theorem dX12_text_60 : decode cX12_text 60 = .ok (.ireturn, 1) := by decide +kernel
theorem dX12_put_0 : decode cX12_put 0 = .ok (.aload_n 0, 1) := by decide +kernel
theorem dX12_put_1 : decode cX12_put 1 = .ok (.iload_n 1, 1) := by decide +kernel
theorem dX12_put_2 : decode cX12_put 2 = .ok (.invokevirtual 158, 3) := by decide +kernel
theorem dX12_put_5 : decode cX12_put 5 = .ok (.istore 4, 2) := by decide +kernel
theorem dX12_put_7 : decode cX12_put 7 = .ok (.iload 4, 2) := by decide +kernel
theorem dX12_put_9 : decode cX12_put 9 = .ok (.ifCond .ge 6, 3) := by decide +kernel
theorem dX12_put_12 : decode cX12_put 12 = .ok (.iload 4, 2) := by decide +kernel
theorem dX12_put_14 : decode cX12_put 14 = .ok (.ireturn, 1) := by decide +kernel
theorem dX12_put_15 : decode cX12_put 15 = .ok (.iload_n 2, 1) := by decide +kernel
theorem dX12_put_16 : decode cX12_put 16 = .ok (.iconst 0, 1) := by decide +kernel
theorem dX12_put_17 : decode cX12_put 17 = .ok (.aload_n 0, 1) := by decide +kernel
theorem dX12_put_18 : decode cX12_put 18 = .ok (.getfield 26, 3) := by decide +kernel
theorem dX12_put_21 : decode cX12_put 21 = .ok (.iload_n 1, 1) := by decide +kernel
theorem dX12_put_22 : decode cX12_put 22 = .ok (.iaload, 1) := by decide +kernel
theorem dX12_put_23 : decode cX12_put 23 = .ok (.iconst 1, 1) := by decide +kernel
theorem dX12_put_24 : decode cX12_put 24 = .ok (.isub, 1) := by decide +kernel
theorem dX12_put_25 : decode cX12_put 25 = .ok (.invokestatic 130, 3) := by decide +kernel
theorem dX12_put_28 : decode cX12_put 28 = .ok (.ifCond .ne 9, 3) := by decide +kernel
theorem dX12_put_31 : decode cX12_put 31 = .ok (.aload_n 0, 1) := by decide +kernel
theorem dX12_put_32 : decode cX12_put 32 = .ok (.iconst 2, 1) := by decide +kernel
theorem dX12_put_33 : decode cX12_put 33 = .ok (.invokevirtual 138, 3) := by decide +kernel
theorem dX12_put_36 : decode cX12_put 36 = .ok (.ireturn, 1) := by decide +kernel
theorem dX12_put_37 : decode cX12_put 37 = .ok (.aload_n 0, 1) := by decide +kernel
theorem dX12_put_38 : decode cX12_put 38 = .ok (.getfield 29, 3) := by decide +kernel
theorem dX12_put_41 : decode cX12_put 41 = .ok (.bipush 60, 2) := by decide +kernel
theorem dX12_put_43 : decode cX12_put 43 = .ok (.iload_n 1, 1) := by decide +kernel
theorem dX12_put_44 : decode cX12_put 44 = .ok (.imul, 1) := by decide +kernel
theorem dX12_put_45 : decode cX12_put 45 = .ok (.iload_n 2, 1) := by decide +kernel
theorem dX12_put_46 : decode cX12_put 46 = .ok (.iadd, 1) := by decide +kernel
theorem dX12_put_47 : decode cX12_put 47 = .ok (.iaload, 1) := by decide +kernel
theorem dX12_put_48 : decode cX12_put 48 = .ok (.istore 5, 2) := by decide +kernel
theorem dX12_put_50 : decode cX12_put 50 = .ok (.aload_n 0, 1) := by decide +kernel
theorem dX12_put_51 : decode cX12_put 51 = .ok (.getfield 29, 3) := by decide +kernel
theorem dX12_put_54 : decode cX12_put 54 = .ok (.bipush 60, 2) := by decide +kernel
theorem dX12_put_56 : decode cX12_put 56 = .ok (.iload_n 1, 1) := by decide +kernel
theorem dX12_put_57 : decode cX12_put 57 = .ok (.imul, 1) := by decide +kernel
theorem dX12_put_58 : decode cX12_put 58 = .ok (.iload_n 2, 1) := by decide +kernel
theorem dX12_put_59 : decode cX12_put 59 = .ok (.iadd, 1) := by decide +kernel
theorem dX12_put_60 : decode cX12_put 60 = .ok (.iload_n 3, 1) := by decide +kernel
theorem dX12_put_61 : decode cX12_put 61 = .ok (.i2b, 1) := by decide +kernel
theorem dX12_put_62 : decode cX12_put 62 = .ok (.iastore, 1) := by decide +kernel
theorem dX12_put_63 : decode cX12_put 63 = .ok (.iload 5, 2) := by decide +kernel
theorem dX12_put_65 : decode cX12_put 65 = .ok (.sipush 1000, 3) := by decide +kernel
theorem dX12_put_68 : decode cX12_put 68 = .ok (.iadd, 1) := by decide +kernel
theorem dX12_put_69 : decode cX12_put 69 = .ok (.ireturn, 1) := by decide +kernel
theorem dX12_isHide_0 : decode cX12_isHide 0 = .ok (.iload_n 0, 1) := by decide +kernel
theorem dX12_isHide_1 : decode cX12_isHide 1 = .ok (.iconst 0, 1) := by decide +kernel
theorem dX12_isHide_2 : decode cX12_isHide 2 = .ok (.bipush 7, 2) := by decide +kernel
theorem dX12_isHide_4 : decode cX12_isHide 4 = .ok (.invokestatic 130, 3) := by decide +kernel
theorem dX12_isHide_7 : decode cX12_isHide 7 = .ok (.ireturn, 1) := by decide +kernel
theorem dX12_isThere_0 : decode cX12_isThere 0 = .ok (.aload_n 0, 1) := by decide +kernel
theorem dX12_isThere_1 : decode cX12_isThere 1 = .ok (.getfield 38, 3) := by decide +kernel
theorem dX12_isThere_4 : decode cX12_isThere 4 = .ok (.iload_n 1, 1) := by decide +kernel
theorem dX12_isThere_5 : decode cX12_isThere 5 = .ok (.iaload, 1) := by decide +kernel
theorem dX12_isThere_6 : decode cX12_isThere 6 = .ok (.ifCond .eq 7, 3) := by decide +kernel
theorem dX12_isThere_9 : decode cX12_isThere 9 = .ok (.iconst 1, 1) := by decide +kernel
theorem dX12_isThere_10 : decode cX12_isThere 10 = .ok (.goto 4, 3) := by decide +kernel
theorem dX12_isThere_13 : decode cX12_isThere 13 = .ok (.iconst 0, 1) := by decide +kernel
theorem dX12_isThere_14 : decode cX12_isThere 14 = .ok (.ireturn, 1) := by decide +kernel
theorem dX12_askedHide_0 : decode cX12_askedHide 0 = .ok (.iload_n 1, 1) := by decide +kernel
theorem dX12_askedHide_1 : decode cX12_askedHide 1 = .ok (.invokestatic 161, 3) := by decide +kernel
theorem dX12_askedHide_4 : decode cX12_askedHide 4 = .ok (.ifCond .ne 7, 3) := by decide +kernel
theorem dX12_askedHide_7 : decode cX12_askedHide 7 = .ok (.iconst (-1), 1) := by decide +kernel
theorem dX12_askedHide_8 : decode cX12_askedHide 8 = .ok (.goto 20, 3) := by decide +kernel
theorem dX12_askedHide_11 : decode cX12_askedHide 11 = .ok (.aload_n 0, 1) := by decide +kernel
theorem dX12_askedHide_12 : decode cX12_askedHide 12 = .ok (.iload_n 1, 1) := by decide +kernel
theorem dX12_askedHide_13 : decode cX12_askedHide 13 = .ok (.invokevirtual 164, 3) := by decide +kernel
theorem dX12_askedHide_16 : decode cX12_askedHide 16 = .ok (.ifCond .ne 11, 3) := by decide +kernel
theorem dX12_askedHide_19 : decode cX12_askedHide 19 = .ok (.aload_n 0, 1) := by decide +kernel
theorem dX12_askedHide_20 : decode cX12_askedHide 20 = .ok (.iconst 1, 1) := by decide +kernel
theorem dX12_askedHide_21 : decode cX12_askedHide 21 = .ok (.invokevirtual 138, 3) := by decide +kernel
theorem dX12_askedHide_24 : decode cX12_askedHide 24 = .ok (.goto 4, 3) := by decide +kernel
theorem dX12_askedHide_27 : decode cX12_askedHide 27 = .ok (.iconst 0, 1) := by decide +kernel
theorem dX12_askedHide_28 : decode cX12_askedHide 28 = .ok (.ireturn, 1) := by decide +kernel
theorem dX12_hide_0 : decode cX12_hide 0 = .ok (.iload_n 1, 1) := by decide +kernel
theorem dX12_hide_1 : decode cX12_hide 1 = .ok (.invokestatic 161, 3) := by decide +kernel
theorem dX12_hide_4 : decode cX12_hide 4 = .ok (.ifCond .eq 34, 3) := by decide +kernel
theorem dX12_hide_7 : decode cX12_hide 7 = .ok (.iload_n 2, 1) := by decide +kernel
theorem dX12_hide_8 : decode cX12_hide 8 = .ok (.iconst 1, 1) := by decide +kernel
theorem dX12_hide_9 : decode cX12_hide 9 = .ok (.bipush 60, 2) := by decide +kernel
theorem dX12_hide_11 : decode cX12_hide 11 = .ok (.invokestatic 130, 3) := by decide +kernel
theorem dX12_hide_14 : decode cX12_hide 14 = .ok (.ifCond .eq 24, 3) := by decide +kernel
theorem dX12_hide_17 : decode cX12_hide 17 = .ok (.iload_n 3, 1) := by decide +kernel
theorem dX12_hide_18 : decode cX12_hide 18 = .ok (.iconst 1, 1) := by decide +kernel
theorem dX12_hide_19 : decode cX12_hide 19 = .ok (.bipush 60, 2) := by decide +kernel
theorem dX12_hide_21 : decode cX12_hide 21 = .ok (.invokestatic 130, 3) := by decide +kernel
theorem dX12_hide_24 : decode cX12_hide 24 = .ok (.ifCond .eq 14, 3) := by decide +kernel
theorem dX12_hide_27 : decode cX12_hide 27 = .ok (.iload 4, 2) := by decide +kernel
theorem dX12_hide_29 : decode cX12_hide 29 = .ok (.iconst 1, 1) := by decide +kernel
theorem dX12_hide_30 : decode cX12_hide 30 = .ok (.ldc 167, 2) := by decide +kernel
theorem dX12_hide_32 : decode cX12_hide 32 = .ok (.invokestatic 130, 3) := by decide +kernel
theorem dX12_hide_35 : decode cX12_hide 35 = .ok (.ifCond .ne 5, 3) := by decide +kernel
theorem dX12_hide_38 : decode cX12_hide 38 = .ok (.iconst (-1), 1) := by decide +kernel
theorem dX12_hide_39 : decode cX12_hide 39 = .ok (.ireturn, 1) := by decide +kernel
theorem dX12_hide_40 : decode cX12_hide 40 = .ok (.aload_n 0, 1) := by decide +kernel
theorem dX12_hide_41 : decode cX12_hide 41 = .ok (.getfield 32, 3) := by decide +kernel
theorem dX12_hide_44 : decode cX12_hide 44 = .ok (.iload_n 1, 1) := by decide +kernel
theorem dX12_hide_45 : decode cX12_hide 45 = .ok (.iload_n 2, 1) := by decide +kernel
theorem dX12_hide_46 : decode cX12_hide 46 = .ok (.iastore, 1) := by decide +kernel
theorem dX12_hide_47 : decode cX12_hide 47 = .ok (.aload_n 0, 1) := by decide +kernel
theorem dX12_hide_48 : decode cX12_hide 48 = .ok (.getfield 35, 3) := by decide +kernel
theorem dX12_hide_51 : decode cX12_hide 51 = .ok (.iload_n 1, 1) := by decide +kernel
theorem dX12_hide_52 : decode cX12_hide 52 = .ok (.iload_n 3, 1) := by decide +kernel
theorem dX12_hide_53 : decode cX12_hide 53 = .ok (.iastore, 1) := by decide +kernel
theorem dX12_hide_54 : decode cX12_hide 54 = .ok (.aload_n 0, 1) := by decide +kernel
theorem dX12_hide_55 : decode cX12_hide 55 = .ok (.getfield 38, 3) := by decide +kernel
theorem dX12_hide_58 : decode cX12_hide 58 = .ok (.iload_n 1, 1) := by decide +kernel
theorem dX12_hide_59 : decode cX12_hide 59 = .ok (.iload 4, 2) := by decide +kernel
theorem dX12_hide_61 : decode cX12_hide 61 = .ok (.iastore, 1) := by decide +kernel
theorem dX12_hide_62 : decode cX12_hide 62 = .ok (.iload 4, 2) := by decide +kernel
theorem dX12_hide_64 : decode cX12_hide 64 = .ok (.invokestatic 168, 3) := by decide +kernel
theorem dX12_hide_67 : decode cX12_hide 67 = .ok (.ireturn, 1) := by decide +kernel
theorem dX12_drop_0 : decode cX12_drop 0 = .ok (.aload_n 0, 1) := by decide +kernel
theorem dX12_drop_1 : decode cX12_drop 1 = .ok (.iload_n 1, 1) := by decide +kernel
theorem dX12_drop_2 : decode cX12_drop 2 = .ok (.invokevirtual 171, 3) := by decide +kernel
theorem dX12_drop_5 : decode cX12_drop 5 = .ok (.istore_n 2, 1) := by decide +kernel
theorem dX12_drop_6 : decode cX12_drop 6 = .ok (.iload_n 2, 1) := by decide +kernel
theorem dX12_drop_7 : decode cX12_drop 7 = .ok (.ifCond .ge 5, 3) := by decide +kernel
theorem dX12_drop_10 : decode cX12_drop 10 = .ok (.iload_n 2, 1) := by decide +kernel
theorem dX12_drop_11 : decode cX12_drop 11 = .ok (.ireturn, 1) := by decide +kernel
theorem dX12_drop_12 : decode cX12_drop 12 = .ok (.aload_n 0, 1) := by decide +kernel
theorem dX12_drop_13 : decode cX12_drop 13 = .ok (.getfield 38, 3) := by decide +kernel
theorem dX12_drop_16 : decode cX12_drop 16 = .ok (.iload_n 1, 1) := by decide +kernel
theorem dX12_drop_17 : decode cX12_drop 17 = .ok (.iconst 0, 1) := by decide +kernel
theorem dX12_drop_18 : decode cX12_drop 18 = .ok (.iastore, 1) := by decide +kernel
theorem dX12_drop_19 : decode cX12_drop 19 = .ok (.iconst 1, 1) := by decide +kernel
theorem dX12_drop_20 : decode cX12_drop 20 = .ok (.ireturn, 1) := by decide +kernel
theorem dX12_lamp_0 : decode cX12_lamp 0 = .ok (.iload_n 1, 1) := by decide +kernel
theorem dX12_lamp_1 : decode cX12_lamp 1 = .ok (.iconst 2, 1) := by decide +kernel
theorem dX12_lamp_2 : decode cX12_lamp 2 = .ok (.bipush 60, 2) := by decide +kernel
theorem dX12_lamp_4 : decode cX12_lamp 4 = .ok (.invokestatic 130, 3) := by decide +kernel
theorem dX12_lamp_7 : decode cX12_lamp 7 = .ok (.ifCond .eq 13, 3) := by decide +kernel
theorem dX12_lamp_10 : decode cX12_lamp 10 = .ok (.iload_n 2, 1) := by decide +kernel
theorem dX12_lamp_11 : decode cX12_lamp 11 = .ok (.iconst 0, 1) := by decide +kernel
theorem dX12_lamp_12 : decode cX12_lamp 12 = .ok (.bipush 9, 2) := by decide +kernel
theorem dX12_lamp_14 : decode cX12_lamp 14 = .ok (.invokestatic 130, 3) := by decide +kernel
theorem dX12_lamp_17 : decode cX12_lamp 17 = .ok (.ifCond .ne 5, 3) := by decide +kernel
theorem dX12_lamp_20 : decode cX12_lamp 20 = .ok (.iconst (-1), 1) := by decide +kernel
theorem dX12_lamp_21 : decode cX12_lamp 21 = .ok (.ireturn, 1) := by decide +kernel
theorem dX12_lamp_22 : decode cX12_lamp 22 = .ok (.aload_n 0, 1) := by decide +kernel
theorem dX12_lamp_23 : decode cX12_lamp 23 = .ok (.iload_n 1, 1) := by decide +kernel
theorem dX12_lamp_24 : decode cX12_lamp 24 = .ok (.putfield 41, 3) := by decide +kernel
theorem dX12_lamp_27 : decode cX12_lamp 27 = .ok (.aload_n 0, 1) := by decide +kernel
theorem dX12_lamp_28 : decode cX12_lamp 28 = .ok (.iload_n 2, 1) := by decide +kernel
theorem dX12_lamp_29 : decode cX12_lamp 29 = .ok (.putfield 45, 3) := by decide +kernel
theorem dX12_lamp_32 : decode cX12_lamp 32 = .ok (.iconst 1, 1) := by decide +kernel
theorem dX12_lamp_33 : decode cX12_lamp 33 = .ok (.ireturn, 1) := by decide +kernel
theorem dX12_turned_0 : decode cX12_turned 0 = .ok (.iconst 0, 1) := by decide +kernel
theorem dX12_turned_1 : decode cX12_turned 1 = .ok (.istore_n 1, 1) := by decide +kernel
theorem dX12_turned_2 : decode cX12_turned 2 = .ok (.iconst 0, 1) := by decide +kernel
theorem dX12_turned_3 : decode cX12_turned 3 = .ok (.istore_n 2, 1) := by decide +kernel
theorem dX12_turned_4 : decode cX12_turned 4 = .ok (.iload_n 2, 1) := by decide +kernel
theorem dX12_turned_5 : decode cX12_turned 5 = .ok (.bipush 16, 2) := by decide +kernel
theorem dX12_turned_7 : decode cX12_turned 7 = .ok (.if_icmp .ge 37, 3) := by decide +kernel
theorem dX12_turned_10 : decode cX12_turned 10 = .ok (.iload_n 1, 1) := by decide +kernel
theorem dX12_turned_11 : decode cX12_turned 11 = .ok (.iload_n 0, 1) := by decide +kernel
theorem dX12_turned_12 : decode cX12_turned 12 = .ok (.iload_n 2, 1) := by decide +kernel
theorem dX12_turned_13 : decode cX12_turned 13 = .ok (.invokestatic 174, 3) := by decide +kernel
theorem dX12_turned_16 : decode cX12_turned 16 = .ok (.ifCond .eq 19, 3) := by decide +kernel
theorem dX12_turned_19 : decode cX12_turned 19 = .ok (.iconst 1, 1) := by decide +kernel
theorem dX12_turned_20 : decode cX12_turned 20 = .ok (.iload_n 2, 1) := by decide +kernel
theorem dX12_turned_21 : decode cX12_turned 21 = .ok (.iconst 4, 1) := by decide +kernel
theorem dX12_turned_22 : decode cX12_turned 22 = .ok (.idiv, 1) := by decide +kernel
theorem dX12_turned_23 : decode cX12_turned 23 = .ok (.iconst 4, 1) := by decide +kernel
theorem dX12_turned_24 : decode cX12_turned 24 = .ok (.imul, 1) := by decide +kernel
theorem dX12_turned_25 : decode cX12_turned 25 = .ok (.iconst 3, 1) := by decide +kernel
theorem dX12_turned_26 : decode cX12_turned 26 = .ok (.iadd, 1) := by decide +kernel
theorem dX12_turned_27 : decode cX12_turned 27 = .ok (.iload_n 2, 1) := by decide +kernel
theorem dX12_turned_28 : decode cX12_turned 28 = .ok (.iconst 4, 1) := by decide +kernel
theorem dX12_turned_29 : decode cX12_turned 29 = .ok (.irem, 1) := by decide +kernel
theorem dX12_turned_30 : decode cX12_turned 30 = .ok (.isub, 1) := by decide +kernel
theorem dX12_turned_31 : decode cX12_turned 31 = .ok (.ishl, 1) := by decide +kernel
theorem dX12_turned_32 : decode cX12_turned 32 = .ok (.goto 4, 3) := by decide +kernel
theorem dX12_turned_35 : decode cX12_turned 35 = .ok (.iconst 0, 1) := by decide +kernel
theorem dX12_turned_36 : decode cX12_turned 36 = .ok (.ior, 1) := by decide +kernel
theorem dX12_turned_37 : decode cX12_turned 37 = .ok (.istore_n 1, 1) := by decide +kernel
theorem dX12_turned_38 : decode cX12_turned 38 = .ok (.iinc 2 1, 3) := by decide +kernel
theorem dX12_turned_41 : decode cX12_turned 41 = .ok (.goto (-37), 3) := by decide +kernel
theorem dX12_turned_44 : decode cX12_turned 44 = .ok (.iload_n 1, 1) := by decide +kernel
theorem dX12_turned_45 : decode cX12_turned 45 = .ok (.ireturn, 1) := by decide +kernel
theorem dX12_aboutOf_0 : decode cX12_aboutOf 0 = .ok (.iload_n 2, 1) := by decide +kernel
theorem dX12_aboutOf_1 : decode cX12_aboutOf 1 = .ok (.ifCond .ne 12, 3) := by decide +kernel
theorem dX12_aboutOf_4 : decode cX12_aboutOf 4 = .ok (.aload_n 0, 1) := by decide +kernel
theorem dX12_aboutOf_5 : decode cX12_aboutOf 5 = .ok (.getfield 32, 3) := by decide +kernel
theorem dX12_aboutOf_8 : decode cX12_aboutOf 8 = .ok (.iload_n 1, 1) := by decide +kernel
theorem dX12_aboutOf_9 : decode cX12_aboutOf 9 = .ok (.iaload, 1) := by decide +kernel
theorem dX12_aboutOf_10 : decode cX12_aboutOf 10 = .ok (.goto 40, 3) := by decide +kernel
theorem dX12_aboutOf_13 : decode cX12_aboutOf 13 = .ok (.iload_n 2, 1) := by decide +kernel
theorem dX12_aboutOf_14 : decode cX12_aboutOf 14 = .ok (.iconst 1, 1) := by decide +kernel
theorem dX12_aboutOf_15 : decode cX12_aboutOf 15 = .ok (.if_icmp .ne 12, 3) := by decide +kernel
theorem dX12_aboutOf_18 : decode cX12_aboutOf 18 = .ok (.aload_n 0, 1) := by decide +kernel
theorem dX12_aboutOf_19 : decode cX12_aboutOf 19 = .ok (.getfield 35, 3) := by decide +kernel
theorem dX12_aboutOf_22 : decode cX12_aboutOf 22 = .ok (.iload_n 1, 1) := by decide +kernel
theorem dX12_aboutOf_23 : decode cX12_aboutOf 23 = .ok (.iaload, 1) := by decide +kernel
theorem dX12_aboutOf_24 : decode cX12_aboutOf 24 = .ok (.goto 26, 3) := by decide +kernel
theorem dX12_aboutOf_27 : decode cX12_aboutOf 27 = .ok (.iload_n 2, 1) := by decide +kernel
theorem dX12_aboutOf_28 : decode cX12_aboutOf 28 = .ok (.iconst 2, 1) := by decide +kernel
theorem dX12_aboutOf_29 : decode cX12_aboutOf 29 = .ok (.if_icmp .ne 12, 3) := by decide +kernel
theorem dX12_aboutOf_32 : decode cX12_aboutOf 32 = .ok (.aload_n 0, 1) := by decide +kernel
theorem dX12_aboutOf_33 : decode cX12_aboutOf 33 = .ok (.getfield 38, 3) := by decide +kernel
theorem dX12_aboutOf_36 : decode cX12_aboutOf 36 = .ok (.iload_n 1, 1) := by decide +kernel
theorem dX12_aboutOf_37 : decode cX12_aboutOf 37 = .ok (.iaload, 1) := by decide +kernel
theorem dX12_aboutOf_38 : decode cX12_aboutOf 38 = .ok (.goto 12, 3) := by decide +kernel
theorem dX12_aboutOf_41 : decode cX12_aboutOf 41 = .ok (.aload_n 0, 1) := by decide +kernel
theorem dX12_aboutOf_42 : decode cX12_aboutOf 42 = .ok (.getfield 38, 3) := by decide +kernel
theorem dX12_aboutOf_45 : decode cX12_aboutOf 45 = .ok (.iload_n 1, 1) := by decide +kernel
theorem dX12_aboutOf_46 : decode cX12_aboutOf 46 = .ok (.iaload, 1) := by decide +kernel
theorem dX12_aboutOf_47 : decode cX12_aboutOf 47 = .ok (.invokestatic 178, 3) := by decide +kernel
theorem dX12_aboutOf_50 : decode cX12_aboutOf 50 = .ok (.ireturn, 1) := by decide +kernel
theorem dX12_about_0 : decode cX12_about 0 = .ok (.iload_n 2, 1) := by decide +kernel
theorem dX12_about_1 : decode cX12_about 1 = .ok (.iconst 0, 1) := by decide +kernel
theorem dX12_about_2 : decode cX12_about 2 = .ok (.iconst 3, 1) := by decide +kernel
theorem dX12_about_3 : decode cX12_about 3 = .ok (.invokestatic 130, 3) := by decide +kernel
theorem dX12_about_6 : decode cX12_about 6 = .ok (.ifCond .ne 5, 3) := by decide +kernel
theorem dX12_about_9 : decode cX12_about 9 = .ok (.iconst (-1), 1) := by decide +kernel
theorem dX12_about_10 : decode cX12_about 10 = .ok (.ireturn, 1) := by decide +kernel
theorem dX12_about_11 : decode cX12_about 11 = .ok (.aload_n 0, 1) := by decide +kernel
theorem dX12_about_12 : decode cX12_about 12 = .ok (.iload_n 1, 1) := by decide +kernel
theorem dX12_about_13 : decode cX12_about 13 = .ok (.invokevirtual 171, 3) := by decide +kernel
theorem dX12_about_16 : decode cX12_about 16 = .ok (.istore_n 3, 1) := by decide +kernel
theorem dX12_about_17 : decode cX12_about 17 = .ok (.iload_n 3, 1) := by decide +kernel
theorem dX12_about_18 : decode cX12_about 18 = .ok (.ifCond .ge 7, 3) := by decide +kernel
theorem dX12_about_21 : decode cX12_about 21 = .ok (.iload_n 3, 1) := by decide +kernel
theorem dX12_about_22 : decode cX12_about 22 = .ok (.goto 14, 3) := by decide +kernel
theorem dX12_about_25 : decode cX12_about 25 = .ok (.aload_n 0, 1) := by decide +kernel
theorem dX12_about_26 : decode cX12_about 26 = .ok (.aload_n 0, 1) := by decide +kernel
theorem dX12_about_27 : decode cX12_about 27 = .ok (.iload_n 1, 1) := by decide +kernel
theorem dX12_about_28 : decode cX12_about 28 = .ok (.iload_n 2, 1) := by decide +kernel
theorem dX12_about_29 : decode cX12_about 29 = .ok (.invokevirtual 181, 3) := by decide +kernel
theorem dX12_about_32 : decode cX12_about 32 = .ok (.iconst 1, 1) := by decide +kernel
theorem dX12_about_33 : decode cX12_about 33 = .ok (.invokevirtual 152, 3) := by decide +kernel
theorem dX12_about_36 : decode cX12_about 36 = .ok (.ireturn, 1) := by decide +kernel
theorem dX12_isHeld_0 : decode cX12_isHeld 0 = .ok (.iload_n 1, 1) := by decide +kernel
theorem dX12_isHeld_1 : decode cX12_isHeld 1 = .ok (.iconst 0, 1) := by decide +kernel
theorem dX12_isHeld_2 : decode cX12_isHeld 2 = .ok (.aload_n 0, 1) := by decide +kernel
theorem dX12_isHeld_3 : decode cX12_isHeld 3 = .ok (.getfield 41, 3) := by decide +kernel
theorem dX12_isHeld_6 : decode cX12_isHeld 6 = .ok (.iconst 1, 1) := by decide +kernel
theorem dX12_isHeld_7 : decode cX12_isHeld 7 = .ok (.isub, 1) := by decide +kernel
theorem dX12_isHeld_8 : decode cX12_isHeld 8 = .ok (.invokestatic 130, 3) := by decide +kernel
theorem dX12_isHeld_11 : decode cX12_isHeld 11 = .ok (.ifCond .eq 18, 3) := by decide +kernel
theorem dX12_isHeld_14 : decode cX12_isHeld 14 = .ok (.iload_n 2, 1) := by decide +kernel
theorem dX12_isHeld_15 : decode cX12_isHeld 15 = .ok (.bipush (-99), 2) := by decide +kernel
theorem dX12_isHeld_17 : decode cX12_isHeld 17 = .ok (.bipush 99, 2) := by decide +kernel
theorem dX12_isHeld_19 : decode cX12_isHeld 19 = .ok (.invokestatic 130, 3) := by decide +kernel
theorem dX12_isHeld_22 : decode cX12_isHeld 22 = .ok (.ifCond .eq 7, 3) := by decide +kernel
theorem dX12_isHeld_25 : decode cX12_isHeld 25 = .ok (.iconst 1, 1) := by decide +kernel
theorem dX12_isHeld_26 : decode cX12_isHeld 26 = .ok (.goto 4, 3) := by decide +kernel
theorem dX12_isHeld_29 : decode cX12_isHeld 29 = .ok (.iconst 0, 1) := by decide +kernel
theorem dX12_isHeld_30 : decode cX12_isHeld 30 = .ok (.ireturn, 1) := by decide +kernel
theorem dX12_shadow_0 : decode cX12_shadow 0 = .ok (.aload_n 0, 1) := by decide +kernel
theorem dX12_shadow_1 : decode cX12_shadow 1 = .ok (.iload_n 2, 1) := by decide +kernel
theorem dX12_shadow_2 : decode cX12_shadow 2 = .ok (.iload_n 3, 1) := by decide +kernel
theorem dX12_shadow_3 : decode cX12_shadow 3 = .ok (.invokevirtual 184, 3) := by decide +kernel
theorem dX12_shadow_6 : decode cX12_shadow 6 = .ok (.ifCond .eq 13, 3) := by decide +kernel
theorem dX12_shadow_9 : decode cX12_shadow 9 = .ok (.iload 4, 2) := by decide +kernel
theorem dX12_shadow_11 : decode cX12_shadow 11 = .ok (.iconst 0, 1) := by decide +kernel
theorem dX12_shadow_12 : decode cX12_shadow 12 = .ok (.iconst 3, 1) := by decide +kernel
theorem dX12_shadow_13 : decode cX12_shadow 13 = .ok (.invokestatic 130, 3) := by decide +kernel
theorem dX12_shadow_16 : decode cX12_shadow 16 = .ok (.ifCond .ne 5, 3) := by decide +kernel
theorem dX12_shadow_19 : decode cX12_shadow 19 = .ok (.iconst (-1), 1) := by decide +kernel
theorem dX12_shadow_20 : decode cX12_shadow 20 = .ok (.ireturn, 1) := by decide +kernel
theorem dX12_shadow_21 : decode cX12_shadow 21 = .ok (.aload_n 0, 1) := by decide +kernel
theorem dX12_shadow_22 : decode cX12_shadow 22 = .ok (.iload_n 1, 1) := by decide +kernel
theorem dX12_shadow_23 : decode cX12_shadow 23 = .ok (.invokevirtual 171, 3) := by decide +kernel
theorem dX12_shadow_26 : decode cX12_shadow 26 = .ok (.istore 5, 2) := by decide +kernel
theorem dX12_shadow_28 : decode cX12_shadow 28 = .ok (.iload 5, 2) := by decide +kernel
theorem dX12_shadow_30 : decode cX12_shadow 30 = .ok (.ifCond .ge 6, 3) := by decide +kernel
theorem dX12_shadow_33 : decode cX12_shadow 33 = .ok (.iload 5, 2) := by decide +kernel
theorem dX12_shadow_35 : decode cX12_shadow 35 = .ok (.ireturn, 1) := by decide +kernel
theorem dX12_shadow_36 : decode cX12_shadow 36 = .ok (.iload 4, 2) := by decide +kernel
theorem dX12_shadow_38 : decode cX12_shadow 38 = .ok (.ifCond .ne 17, 3) := by decide +kernel
theorem dX12_shadow_41 : decode cX12_shadow 41 = .ok (.aload_n 0, 1) := by decide +kernel
theorem dX12_shadow_42 : decode cX12_shadow 42 = .ok (.getfield 32, 3) := by decide +kernel
theorem dX12_shadow_45 : decode cX12_shadow 45 = .ok (.iload_n 1, 1) := by decide +kernel
theorem dX12_shadow_46 : decode cX12_shadow 46 = .ok (.iaload, 1) := by decide +kernel
theorem dX12_shadow_47 : decode cX12_shadow 47 = .ok (.aload_n 0, 1) := by decide +kernel
theorem dX12_shadow_48 : decode cX12_shadow 48 = .ok (.getfield 41, 3) := by decide +kernel
theorem dX12_shadow_51 : decode cX12_shadow 51 = .ok (.imul, 1) := by decide +kernel
theorem dX12_shadow_52 : decode cX12_shadow 52 = .ok (.goto 44, 3) := by decide +kernel
theorem dX12_shadow_55 : decode cX12_shadow 55 = .ok (.iload 4, 2) := by decide +kernel
theorem dX12_shadow_57 : decode cX12_shadow 57 = .ok (.iconst 1, 1) := by decide +kernel
theorem dX12_shadow_58 : decode cX12_shadow 58 = .ok (.if_icmp .ne 17, 3) := by decide +kernel
theorem dX12_shadow_61 : decode cX12_shadow 61 = .ok (.aload_n 0, 1) := by decide +kernel
theorem dX12_shadow_62 : decode cX12_shadow 62 = .ok (.getfield 35, 3) := by decide +kernel
theorem dX12_shadow_65 : decode cX12_shadow 65 = .ok (.iload_n 1, 1) := by decide +kernel
theorem dX12_shadow_66 : decode cX12_shadow 66 = .ok (.iaload, 1) := by decide +kernel
theorem dX12_shadow_67 : decode cX12_shadow 67 = .ok (.aload_n 0, 1) := by decide +kernel
theorem dX12_shadow_68 : decode cX12_shadow 68 = .ok (.getfield 41, 3) := by decide +kernel
theorem dX12_shadow_71 : decode cX12_shadow 71 = .ok (.imul, 1) := by decide +kernel
theorem dX12_shadow_72 : decode cX12_shadow 72 = .ok (.goto 24, 3) := by decide +kernel
theorem dX12_shadow_75 : decode cX12_shadow 75 = .ok (.iload 4, 2) := by decide +kernel
theorem dX12_shadow_77 : decode cX12_shadow 77 = .ok (.iconst 2, 1) := by decide +kernel
theorem dX12_shadow_78 : decode cX12_shadow 78 = .ok (.if_icmp .ne 12, 3) := by decide +kernel
theorem dX12_shadow_81 : decode cX12_shadow 81 = .ok (.iload_n 3, 1) := by decide +kernel
theorem dX12_shadow_82 : decode cX12_shadow 82 = .ok (.aload_n 0, 1) := by decide +kernel
theorem dX12_shadow_83 : decode cX12_shadow 83 = .ok (.getfield 41, 3) := by decide +kernel
theorem dX12_shadow_86 : decode cX12_shadow 86 = .ok (.imul, 1) := by decide +kernel
theorem dX12_shadow_87 : decode cX12_shadow 87 = .ok (.goto 9, 3) := by decide +kernel
theorem dX12_shadow_90 : decode cX12_shadow 90 = .ok (.aload_n 0, 1) := by decide +kernel
theorem dX12_shadow_91 : decode cX12_shadow 91 = .ok (.getfield 45, 3) := by decide +kernel
theorem dX12_shadow_94 : decode cX12_shadow 94 = .ok (.iload_n 2, 1) := by decide +kernel
theorem dX12_shadow_95 : decode cX12_shadow 95 = .ok (.imul, 1) := by decide +kernel
theorem dX12_shadow_96 : decode cX12_shadow 96 = .ok (.istore 6, 2) := by decide +kernel
theorem dX12_shadow_98 : decode cX12_shadow 98 = .ok (.aload_n 0, 1) := by decide +kernel
theorem dX12_shadow_99 : decode cX12_shadow 99 = .ok (.iload 6, 2) := by decide +kernel
theorem dX12_shadow_101 : decode cX12_shadow 101 = .ok (.i2l, 1) := by decide +kernel
theorem dX12_shadow_102 : decode cX12_shadow 102 = .ok (.aload_n 0, 1) := by decide +kernel
theorem dX12_shadow_103 : decode cX12_shadow 103 = .ok (.getfield 41, 3) := by decide +kernel
theorem dX12_shadow_106 : decode cX12_shadow 106 = .ok (.iload_n 2, 1) := by decide +kernel
theorem dX12_shadow_107 : decode cX12_shadow 107 = .ok (.isub, 1) := by decide +kernel
theorem dX12_shadow_108 : decode cX12_shadow 108 = .ok (.i2l, 1) := by decide +kernel
theorem dX12_shadow_109 : decode cX12_shadow 109 = .ok (.iconst 1, 1) := by decide +kernel
theorem dX12_shadow_110 : decode cX12_shadow 110 = .ok (.invokevirtual 187, 3) := by decide +kernel
theorem dX12_shadow_113 : decode cX12_shadow 113 = .ok (.ireturn, 1) := by decide +kernel
theorem dX12_covers_0 : decode cX12_covers 0 = .ok (.iload_n 1, 1) := by decide +kernel
theorem dX12_covers_1 : decode cX12_covers 1 = .ok (.invokestatic 161, 3) := by decide +kernel
theorem dX12_covers_4 : decode cX12_covers 4 = .ok (.ifCond .eq 31, 3) := by decide +kernel
theorem dX12_covers_7 : decode cX12_covers 7 = .ok (.iload 4, 2) := by decide +kernel
theorem dX12_covers_9 : decode cX12_covers 9 = .ok (.invokestatic 161, 3) := by decide +kernel
theorem dX12_covers_12 : decode cX12_covers 12 = .ok (.ifCond .eq 23, 3) := by decide +kernel
theorem dX12_covers_15 : decode cX12_covers 15 = .ok (.aload_n 0, 1) := by decide +kernel
theorem dX12_covers_16 : decode cX12_covers 16 = .ok (.iload_n 2, 1) := by decide +kernel
theorem dX12_covers_17 : decode cX12_covers 17 = .ok (.iload_n 3, 1) := by decide +kernel
theorem dX12_covers_18 : decode cX12_covers 18 = .ok (.invokevirtual 184, 3) := by decide +kernel
theorem dX12_covers_21 : decode cX12_covers 21 = .ok (.ifCond .eq 14, 3) := by decide +kernel
theorem dX12_covers_24 : decode cX12_covers 24 = .ok (.aload_n 0, 1) := by decide +kernel
theorem dX12_covers_25 : decode cX12_covers 25 = .ok (.iload 5, 2) := by decide +kernel
theorem dX12_covers_27 : decode cX12_covers 27 = .ok (.iload 6, 2) := by decide +kernel
theorem dX12_covers_29 : decode cX12_covers 29 = .ok (.invokevirtual 184, 3) := by decide +kernel
theorem dX12_covers_32 : decode cX12_covers 32 = .ok (.ifCond .ne 5, 3) := by decide +kernel
theorem dX12_covers_35 : decode cX12_covers 35 = .ok (.iconst (-1), 1) := by decide +kernel
theorem dX12_covers_36 : decode cX12_covers 36 = .ok (.ireturn, 1) := by decide +kernel
theorem dX12_covers_37 : decode cX12_covers 37 = .ok (.aload_n 0, 1) := by decide +kernel
theorem dX12_covers_38 : decode cX12_covers 38 = .ok (.iload_n 1, 1) := by decide +kernel
theorem dX12_covers_39 : decode cX12_covers 39 = .ok (.invokevirtual 164, 3) := by decide +kernel
theorem dX12_covers_42 : decode cX12_covers 42 = .ok (.ifCond .eq 12, 3) := by decide +kernel
theorem dX12_covers_45 : decode cX12_covers 45 = .ok (.aload_n 0, 1) := by decide +kernel
theorem dX12_covers_46 : decode cX12_covers 46 = .ok (.iload 4, 2) := by decide +kernel
theorem dX12_covers_48 : decode cX12_covers 48 = .ok (.invokevirtual 164, 3) := by decide +kernel
theorem dX12_covers_51 : decode cX12_covers 51 = .ok (.ifCond .ne 9, 3) := by decide +kernel
theorem dX12_covers_54 : decode cX12_covers 54 = .ok (.aload_n 0, 1) := by decide +kernel
theorem dX12_covers_55 : decode cX12_covers 55 = .ok (.iconst 1, 1) := by decide +kernel
theorem dX12_covers_56 : decode cX12_covers 56 = .ok (.invokevirtual 138, 3) := by decide +kernel
theorem dX12_covers_59 : decode cX12_covers 59 = .ok (.ireturn, 1) := by decide +kernel
theorem dX12_covers_60 : decode cX12_covers 60 = .ok (.aload_n 0, 1) := by decide +kernel
theorem dX12_covers_61 : decode cX12_covers 61 = .ok (.getfield 41, 3) := by decide +kernel
theorem dX12_covers_64 : decode cX12_covers 64 = .ok (.iload_n 2, 1) := by decide +kernel
theorem dX12_covers_65 : decode cX12_covers 65 = .ok (.isub, 1) := by decide +kernel
theorem dX12_covers_66 : decode cX12_covers 66 = .ok (.istore 7, 2) := by decide +kernel
theorem dX12_covers_68 : decode cX12_covers 68 = .ok (.aload_n 0, 1) := by decide +kernel
theorem dX12_covers_69 : decode cX12_covers 69 = .ok (.getfield 41, 3) := by decide +kernel
theorem dX12_covers_72 : decode cX12_covers 72 = .ok (.iload 5, 2) := by decide +kernel
theorem dX12_covers_74 : decode cX12_covers 74 = .ok (.isub, 1) := by decide +kernel
theorem dX12_covers_75 : decode cX12_covers 75 = .ok (.istore 8, 2) := by decide +kernel
theorem dX12_covers_77 : decode cX12_covers 77 = .ok (.iconst 2, 1) := by decide +kernel
theorem dX12_covers_78 : decode cX12_covers 78 = .ok (.iload_n 3, 1) := by decide +kernel
theorem dX12_covers_79 : decode cX12_covers 79 = .ok (.imul, 1) := by decide +kernel
theorem dX12_covers_80 : decode cX12_covers 80 = .ok (.aload_n 0, 1) := by decide +kernel
theorem dX12_covers_81 : decode cX12_covers 81 = .ok (.getfield 32, 3) := by decide +kernel
theorem dX12_covers_84 : decode cX12_covers 84 = .ok (.iload_n 1, 1) := by decide +kernel
theorem dX12_covers_85 : decode cX12_covers 85 = .ok (.iaload, 1) := by decide +kernel
theorem dX12_covers_86 : decode cX12_covers 86 = .ok (.isub, 1) := by decide +kernel
theorem dX12_covers_87 : decode cX12_covers 87 = .ok (.iload 8, 2) := by decide +kernel
theorem dX12_covers_89 : decode cX12_covers 89 = .ok (.imul, 1) := by decide +kernel
theorem dX12_covers_90 : decode cX12_covers 90 = .ok (.iconst 2, 1) := by decide +kernel
theorem dX12_covers_91 : decode cX12_covers 91 = .ok (.iload 6, 2) := by decide +kernel
theorem dX12_covers_93 : decode cX12_covers 93 = .ok (.imul, 1) := by decide +kernel
theorem dX12_covers_94 : decode cX12_covers 94 = .ok (.aload_n 0, 1) := by decide +kernel
theorem dX12_covers_95 : decode cX12_covers 95 = .ok (.getfield 32, 3) := by decide +kernel
theorem dX12_covers_98 : decode cX12_covers 98 = .ok (.iload 4, 2) := by decide +kernel
theorem dX12_covers_100 : decode cX12_covers 100 = .ok (.iaload, 1) := by decide +kernel
theorem dX12_covers_101 : decode cX12_covers 101 = .ok (.isub, 1) := by decide +kernel
theorem dX12_covers_102 : decode cX12_covers 102 = .ok (.iload 7, 2) := by decide +kernel
theorem dX12_covers_104 : decode cX12_covers 104 = .ok (.imul, 1) := by decide +kernel
theorem dX12_covers_105 : decode cX12_covers 105 = .ok (.if_icmp .gt 7, 3) := by decide +kernel
theorem dX12_covers_108 : decode cX12_covers 108 = .ok (.iconst 1, 1) := by decide +kernel
theorem dX12_covers_109 : decode cX12_covers 109 = .ok (.goto 4, 3) := by decide +kernel
theorem dX12_covers_112 : decode cX12_covers 112 = .ok (.iconst 0, 1) := by decide +kernel
theorem dX12_covers_113 : decode cX12_covers 113 = .ok (.istore 9, 2) := by decide +kernel
theorem dX12_covers_115 : decode cX12_covers 115 = .ok (.iconst 2, 1) := by decide +kernel
theorem dX12_covers_116 : decode cX12_covers 116 = .ok (.iload_n 3, 1) := by decide +kernel
theorem dX12_covers_117 : decode cX12_covers 117 = .ok (.imul, 1) := by decide +kernel
theorem dX12_covers_118 : decode cX12_covers 118 = .ok (.aload_n 0, 1) := by decide +kernel
theorem dX12_covers_119 : decode cX12_covers 119 = .ok (.getfield 32, 3) := by decide +kernel
theorem dX12_covers_122 : decode cX12_covers 122 = .ok (.iload_n 1, 1) := by decide +kernel
theorem dX12_covers_123 : decode cX12_covers 123 = .ok (.iaload, 1) := by decide +kernel
theorem dX12_covers_124 : decode cX12_covers 124 = .ok (.iadd, 1) := by decide +kernel
theorem dX12_covers_125 : decode cX12_covers 125 = .ok (.iload 8, 2) := by decide +kernel
theorem dX12_covers_127 : decode cX12_covers 127 = .ok (.imul, 1) := by decide +kernel
theorem dX12_covers_128 : decode cX12_covers 128 = .ok (.iconst 2, 1) := by decide +kernel
theorem dX12_covers_129 : decode cX12_covers 129 = .ok (.iload 6, 2) := by decide +kernel
theorem dX12_covers_131 : decode cX12_covers 131 = .ok (.imul, 1) := by decide +kernel
theorem dX12_covers_132 : decode cX12_covers 132 = .ok (.aload_n 0, 1) := by decide +kernel
theorem dX12_covers_133 : decode cX12_covers 133 = .ok (.getfield 32, 3) := by decide +kernel
theorem dX12_covers_136 : decode cX12_covers 136 = .ok (.iload 4, 2) := by decide +kernel
theorem dX12_covers_138 : decode cX12_covers 138 = .ok (.iaload, 1) := by decide +kernel
theorem dX12_covers_139 : decode cX12_covers 139 = .ok (.iadd, 1) := by decide +kernel
theorem dX12_covers_140 : decode cX12_covers 140 = .ok (.iload 7, 2) := by decide +kernel
theorem dX12_covers_142 : decode cX12_covers 142 = .ok (.imul, 1) := by decide +kernel
theorem dX12_covers_143 : decode cX12_covers 143 = .ok (.if_icmp .lt 7, 3) := by decide +kernel
theorem dX12_covers_146 : decode cX12_covers 146 = .ok (.iconst 1, 1) := by decide +kernel
theorem dX12_covers_147 : decode cX12_covers 147 = .ok (.goto 4, 3) := by decide +kernel
theorem dX12_covers_150 : decode cX12_covers 150 = .ok (.iconst 0, 1) := by decide +kernel
theorem dX12_covers_151 : decode cX12_covers 151 = .ok (.istore 10, 2) := by decide +kernel
theorem dX12_covers_153 : decode cX12_covers 153 = .ok (.iload 9, 2) := by decide +kernel
theorem dX12_covers_155 : decode cX12_covers 155 = .ok (.ifCond .eq 12, 3) := by decide +kernel
theorem dX12_covers_158 : decode cX12_covers 158 = .ok (.iload 10, 2) := by decide +kernel
theorem dX12_covers_160 : decode cX12_covers 160 = .ok (.ifCond .eq 7, 3) := by decide +kernel
theorem dX12_covers_163 : decode cX12_covers 163 = .ok (.iconst 1, 1) := by decide +kernel
theorem dX12_covers_164 : decode cX12_covers 164 = .ok (.goto 4, 3) := by decide +kernel
theorem dX12_covers_167 : decode cX12_covers 167 = .ok (.iconst 0, 1) := by decide +kernel
theorem dX12_covers_168 : decode cX12_covers 168 = .ok (.ireturn, 1) := by decide +kernel
theorem dX12_place_0 : decode cX12_place 0 = .ok (.iload_n 2, 1) := by decide +kernel
theorem dX12_place_1 : decode cX12_place 1 = .ok (.iconst 1, 1) := by decide +kernel
theorem dX12_place_2 : decode cX12_place 2 = .ok (.sipush 9999, 3) := by decide +kernel
theorem dX12_place_5 : decode cX12_place 5 = .ok (.invokestatic 130, 3) := by decide +kernel
theorem dX12_place_8 : decode cX12_place 8 = .ok (.ifCond .ne 5, 3) := by decide +kernel
theorem dX12_place_11 : decode cX12_place 11 = .ok (.iconst (-1), 1) := by decide +kernel
theorem dX12_place_12 : decode cX12_place 12 = .ok (.ireturn, 1) := by decide +kernel
theorem dX12_place_13 : decode cX12_place 13 = .ok (.aload_n 0, 1) := by decide +kernel
theorem dX12_place_14 : decode cX12_place 14 = .ok (.iload_n 1, 1) := by decide +kernel
theorem dX12_place_15 : decode cX12_place 15 = .ok (.invokevirtual 171, 3) := by decide +kernel
theorem dX12_place_18 : decode cX12_place 18 = .ok (.istore_n 3, 1) := by decide +kernel
theorem dX12_place_19 : decode cX12_place 19 = .ok (.iload_n 3, 1) := by decide +kernel
theorem dX12_place_20 : decode cX12_place 20 = .ok (.ifCond .ge 5, 3) := by decide +kernel
theorem dX12_place_23 : decode cX12_place 23 = .ok (.iload_n 3, 1) := by decide +kernel
theorem dX12_place_24 : decode cX12_place 24 = .ok (.ireturn, 1) := by decide +kernel
theorem dX12_place_25 : decode cX12_place 25 = .ok (.iload_n 2, 1) := by decide +kernel
theorem dX12_place_26 : decode cX12_place 26 = .ok (.aload_n 0, 1) := by decide +kernel
theorem dX12_place_27 : decode cX12_place 27 = .ok (.getfield 32, 3) := by decide +kernel
theorem dX12_place_30 : decode cX12_place 30 = .ok (.iload_n 1, 1) := by decide +kernel
theorem dX12_place_31 : decode cX12_place 31 = .ok (.iaload, 1) := by decide +kernel
theorem dX12_place_32 : decode cX12_place 32 = .ok (.if_icmp .ge 8, 3) := by decide +kernel
theorem dX12_place_35 : decode cX12_place 35 = .ok (.bipush (-9), 2) := by decide +kernel
theorem dX12_place_37 : decode cX12_place 37 = .ok (.goto 47, 3) := by decide +kernel
theorem dX12_place_40 : decode cX12_place 40 = .ok (.aload_n 0, 1) := by decide +kernel
theorem dX12_place_41 : decode cX12_place 41 = .ok (.aload_n 0, 1) := by decide +kernel
theorem dX12_place_42 : decode cX12_place 42 = .ok (.getfield 41, 3) := by decide +kernel
theorem dX12_place_45 : decode cX12_place 45 = .ok (.i2l, 1) := by decide +kernel
theorem dX12_place_46 : decode cX12_place 46 = .ok (.iload_n 2, 1) := by decide +kernel
theorem dX12_place_47 : decode cX12_place 47 = .ok (.aload_n 0, 1) := by decide +kernel
theorem dX12_place_48 : decode cX12_place 48 = .ok (.getfield 32, 3) := by decide +kernel
theorem dX12_place_51 : decode cX12_place 51 = .ok (.iload_n 1, 1) := by decide +kernel
theorem dX12_place_52 : decode cX12_place 52 = .ok (.iaload, 1) := by decide +kernel
theorem dX12_place_53 : decode cX12_place 53 = .ok (.isub, 1) := by decide +kernel
theorem dX12_place_54 : decode cX12_place 54 = .ok (.i2l, 1) := by decide +kernel
theorem dX12_place_55 : decode cX12_place 55 = .ok (.lmul, 1) := by decide +kernel
theorem dX12_place_56 : decode cX12_place 56 = .ok (.iload_n 2, 1) := by decide +kernel
theorem dX12_place_57 : decode cX12_place 57 = .ok (.i2l, 1) := by decide +kernel
theorem dX12_place_58 : decode cX12_place 58 = .ok (.aload_n 0, 1) := by decide +kernel
theorem dX12_place_59 : decode cX12_place 59 = .ok (.getfield 41, 3) := by decide +kernel
theorem dX12_place_62 : decode cX12_place 62 = .ok (.iload_n 2, 1) := by decide +kernel
theorem dX12_place_63 : decode cX12_place 63 = .ok (.aload_n 0, 1) := by decide +kernel
theorem dX12_place_64 : decode cX12_place 64 = .ok (.getfield 32, 3) := by decide +kernel
theorem dX12_place_67 : decode cX12_place 67 = .ok (.iload_n 1, 1) := by decide +kernel
theorem dX12_place_68 : decode cX12_place 68 = .ok (.iaload, 1) := by decide +kernel
theorem dX12_place_69 : decode cX12_place 69 = .ok (.isub, 1) := by decide +kernel
theorem dX12_place_70 : decode cX12_place 70 = .ok (.imul, 1) := by decide +kernel
theorem dX12_place_71 : decode cX12_place 71 = .ok (.iload_n 2, 1) := by decide +kernel
theorem dX12_place_72 : decode cX12_place 72 = .ok (.irem, 1) := by decide +kernel
theorem dX12_place_73 : decode cX12_place 73 = .ok (.ifCond .ne 7, 3) := by decide +kernel
theorem dX12_place_76 : decode cX12_place 76 = .ok (.iconst 1, 1) := by decide +kernel
theorem dX12_place_77 : decode cX12_place 77 = .ok (.goto 4, 3) := by decide +kernel
theorem dX12_place_80 : decode cX12_place 80 = .ok (.iconst 0, 1) := by decide +kernel
theorem dX12_place_81 : decode cX12_place 81 = .ok (.invokevirtual 187, 3) := by decide +kernel
theorem dX12_place_84 : decode cX12_place 84 = .ok (.ireturn, 1) := by decide +kernel
theorem dX12_here_0 : decode cX12_here 0 = .ok (.aload_n 0, 1) := by decide +kernel
theorem dX12_here_1 : decode cX12_here 1 = .ok (.getfield 191, 3) := by decide +kernel
theorem dX12_here_4 : decode cX12_here 4 = .ok (.aload_n 0, 1) := by decide +kernel
theorem dX12_here_5 : decode cX12_here 5 = .ok (.getfield 26, 3) := by decide +kernel
theorem dX12_here_8 : decode cX12_here 8 = .ok (.iload_n 1, 1) := by decide +kernel
theorem dX12_here_9 : decode cX12_here 9 = .ok (.iaload, 1) := by decide +kernel
theorem dX12_here_10 : decode cX12_here 10 = .ok (.if_icmp .ge 20, 3) := by decide +kernel
theorem dX12_here_13 : decode cX12_here 13 = .ok (.aload_n 0, 1) := by decide +kernel
theorem dX12_here_14 : decode cX12_here 14 = .ok (.getfield 29, 3) := by decide +kernel
theorem dX12_here_17 : decode cX12_here 17 = .ok (.bipush 60, 2) := by decide +kernel
theorem dX12_here_19 : decode cX12_here 19 = .ok (.iload_n 1, 1) := by decide +kernel
theorem dX12_here_20 : decode cX12_here 20 = .ok (.imul, 1) := by decide +kernel
theorem dX12_here_21 : decode cX12_here 21 = .ok (.aload_n 0, 1) := by decide +kernel
theorem dX12_here_22 : decode cX12_here 22 = .ok (.getfield 191, 3) := by decide +kernel
theorem dX12_here_25 : decode cX12_here 25 = .ok (.iadd, 1) := by decide +kernel
theorem dX12_here_26 : decode cX12_here 26 = .ok (.iaload, 1) := by decide +kernel
theorem dX12_here_27 : decode cX12_here 27 = .ok (.goto 5, 3) := by decide +kernel
theorem dX12_here_30 : decode cX12_here 30 = .ok (.bipush (-9), 2) := by decide +kernel
theorem dX12_here_32 : decode cX12_here 32 = .ok (.ireturn, 1) := by decide +kernel
theorem dX12_readsNumber_0 : decode cX12_readsNumber 0 = .ok (.aload_n 0, 1) := by decide +kernel
theorem dX12_readsNumber_1 : decode cX12_readsNumber 1 = .ok (.getfield 191, 3) := by decide +kernel
theorem dX12_readsNumber_4 : decode cX12_readsNumber 4 = .ok (.istore_n 3, 1) := by decide +kernel
theorem dX12_readsNumber_5 : decode cX12_readsNumber 5 = .ok (.aload_n 0, 1) := by decide +kernel
theorem dX12_readsNumber_6 : decode cX12_readsNumber 6 = .ok (.iconst 0, 1) := by decide +kernel
theorem dX12_readsNumber_7 : decode cX12_readsNumber 7 = .ok (.putfield 194, 3) := by decide +kernel
theorem dX12_readsNumber_10 : decode cX12_readsNumber 10 = .ok (.aload_n 0, 1) := by decide +kernel
theorem dX12_readsNumber_11 : decode cX12_readsNumber 11 = .ok (.getfield 191, 3) := by decide +kernel
theorem dX12_readsNumber_14 : decode cX12_readsNumber 14 = .ok (.iload_n 3, 1) := by decide +kernel
theorem dX12_readsNumber_15 : decode cX12_readsNumber 15 = .ok (.isub, 1) := by decide +kernel
theorem dX12_readsNumber_16 : decode cX12_readsNumber 16 = .ok (.iconst 2, 1) := by decide +kernel
theorem dX12_readsNumber_17 : decode cX12_readsNumber 17 = .ok (.if_icmp .ge 51, 3) := by decide +kernel
theorem dX12_readsNumber_20 : decode cX12_readsNumber 20 = .ok (.aload_n 0, 1) := by decide +kernel
theorem dX12_readsNumber_21 : decode cX12_readsNumber 21 = .ok (.iload_n 1, 1) := by decide +kernel
theorem dX12_readsNumber_22 : decode cX12_readsNumber 22 = .ok (.invokevirtual 197, 3) := by decide +kernel
theorem dX12_readsNumber_25 : decode cX12_readsNumber 25 = .ok (.bipush 48, 2) := by decide +kernel
theorem dX12_readsNumber_27 : decode cX12_readsNumber 27 = .ok (.bipush 57, 2) := by decide +kernel
theorem dX12_readsNumber_29 : decode cX12_readsNumber 29 = .ok (.invokestatic 130, 3) := by decide +kernel
theorem dX12_readsNumber_32 : decode cX12_readsNumber 32 = .ok (.ifCond .eq 36, 3) := by decide +kernel
theorem dX12_readsNumber_35 : decode cX12_readsNumber 35 = .ok (.aload_n 0, 1) := by decide +kernel
theorem dX12_readsNumber_36 : decode cX12_readsNumber 36 = .ok (.bipush 10, 2) := by decide +kernel
theorem dX12_readsNumber_38 : decode cX12_readsNumber 38 = .ok (.aload_n 0, 1) := by decide +kernel
theorem dX12_readsNumber_39 : decode cX12_readsNumber 39 = .ok (.getfield 194, 3) := by decide +kernel
theorem dX12_readsNumber_42 : decode cX12_readsNumber 42 = .ok (.imul, 1) := by decide +kernel
theorem dX12_readsNumber_43 : decode cX12_readsNumber 43 = .ok (.aload_n 0, 1) := by decide +kernel
theorem dX12_readsNumber_44 : decode cX12_readsNumber 44 = .ok (.iload_n 1, 1) := by decide +kernel
theorem dX12_readsNumber_45 : decode cX12_readsNumber 45 = .ok (.invokevirtual 197, 3) := by decide +kernel
theorem dX12_readsNumber_48 : decode cX12_readsNumber 48 = .ok (.iadd, 1) := by decide +kernel
theorem dX12_readsNumber_49 : decode cX12_readsNumber 49 = .ok (.bipush 48, 2) := by decide +kernel
theorem dX12_readsNumber_51 : decode cX12_readsNumber 51 = .ok (.isub, 1) := by decide +kernel
theorem dX12_readsNumber_52 : decode cX12_readsNumber 52 = .ok (.putfield 194, 3) := by decide +kernel
theorem dX12_readsNumber_55 : decode cX12_readsNumber 55 = .ok (.aload_n 0, 1) := by decide +kernel
theorem dX12_readsNumber_56 : decode cX12_readsNumber 56 = .ok (.dup, 1) := by decide +kernel
theorem dX12_readsNumber_57 : decode cX12_readsNumber 57 = .ok (.getfield 191, 3) := by decide +kernel
theorem dX12_readsNumber_60 : decode cX12_readsNumber 60 = .ok (.iconst 1, 1) := by decide +kernel
theorem dX12_readsNumber_61 : decode cX12_readsNumber 61 = .ok (.iadd, 1) := by decide +kernel
theorem dX12_readsNumber_62 : decode cX12_readsNumber 62 = .ok (.putfield 191, 3) := by decide +kernel
theorem dX12_readsNumber_65 : decode cX12_readsNumber 65 = .ok (.goto (-55), 3) := by decide +kernel
theorem dX12_readsNumber_68 : decode cX12_readsNumber 68 = .ok (.aload_n 0, 1) := by decide +kernel
theorem dX12_readsNumber_69 : decode cX12_readsNumber 69 = .ok (.getfield 191, 3) := by decide +kernel
theorem dX12_readsNumber_72 : decode cX12_readsNumber 72 = .ok (.iload_n 3, 1) := by decide +kernel
theorem dX12_readsNumber_73 : decode cX12_readsNumber 73 = .ok (.if_icmp .le 15, 3) := by decide +kernel
theorem dX12_readsNumber_76 : decode cX12_readsNumber 76 = .ok (.aload_n 0, 1) := by decide +kernel
theorem dX12_readsNumber_77 : decode cX12_readsNumber 77 = .ok (.getfield 194, 3) := by decide +kernel
theorem dX12_readsNumber_80 : decode cX12_readsNumber 80 = .ok (.iload_n 2, 1) := by decide +kernel
theorem dX12_readsNumber_81 : decode cX12_readsNumber 81 = .ok (.if_icmp .lt 7, 3) := by decide +kernel
theorem dX12_readsNumber_84 : decode cX12_readsNumber 84 = .ok (.iconst 1, 1) := by decide +kernel
theorem dX12_readsNumber_85 : decode cX12_readsNumber 85 = .ok (.goto 4, 3) := by decide +kernel
theorem dX12_readsNumber_88 : decode cX12_readsNumber 88 = .ok (.iconst 0, 1) := by decide +kernel
theorem dX12_readsNumber_89 : decode cX12_readsNumber 89 = .ok (.ireturn, 1) := by decide +kernel
theorem dX12_readsHides_0 : decode cX12_readsHides 0 = .ok (.aload_n 0, 1) := by decide +kernel
theorem dX12_readsHides_1 : decode cX12_readsHides 1 = .ok (.getfield 200, 3) := by decide +kernel
theorem dX12_readsHides_4 : decode cX12_readsHides 4 = .ok (.istore_n 2, 1) := by decide +kernel
theorem dX12_readsHides_5 : decode cX12_readsHides 5 = .ok (.aload_n 0, 1) := by decide +kernel
theorem dX12_readsHides_6 : decode cX12_readsHides 6 = .ok (.getfield 63, 3) := by decide +kernel
theorem dX12_readsHides_9 : decode cX12_readsHides 9 = .ok (.iload_n 2, 1) := by decide +kernel
theorem dX12_readsHides_10 : decode cX12_readsHides 10 = .ok (.iconst 0, 1) := by decide +kernel
theorem dX12_readsHides_11 : decode cX12_readsHides 11 = .ok (.iastore, 1) := by decide +kernel
theorem dX12_readsHides_12 : decode cX12_readsHides 12 = .ok (.aload_n 0, 1) := by decide +kernel
theorem dX12_readsHides_13 : decode cX12_readsHides 13 = .ok (.getfield 66, 3) := by decide +kernel
theorem dX12_readsHides_16 : decode cX12_readsHides 16 = .ok (.iload_n 2, 1) := by decide +kernel
theorem dX12_readsHides_17 : decode cX12_readsHides 17 = .ok (.iconst 0, 1) := by decide +kernel
theorem dX12_readsHides_18 : decode cX12_readsHides 18 = .ok (.iastore, 1) := by decide +kernel
theorem dX12_readsHides_19 : decode cX12_readsHides 19 = .ok (.aload_n 0, 1) := by decide +kernel
theorem dX12_readsHides_20 : decode cX12_readsHides 20 = .ok (.iload_n 1, 1) := by decide +kernel
theorem dX12_readsHides_21 : decode cX12_readsHides 21 = .ok (.invokevirtual 197, 3) := by decide +kernel
theorem dX12_readsHides_24 : decode cX12_readsHides 24 = .ok (.bipush 97, 2) := by decide +kernel
theorem dX12_readsHides_26 : decode cX12_readsHides 26 = .ok (.bipush 104, 2) := by decide +kernel
theorem dX12_readsHides_28 : decode cX12_readsHides 28 = .ok (.invokestatic 130, 3) := by decide +kernel
theorem dX12_readsHides_31 : decode cX12_readsHides 31 = .ok (.ifCond .ne 18, 3) := by decide +kernel
theorem dX12_readsHides_34 : decode cX12_readsHides 34 = .ok (.aload_n 0, 1) := by decide +kernel
theorem dX12_readsHides_35 : decode cX12_readsHides 35 = .ok (.iload_n 1, 1) := by decide +kernel
theorem dX12_readsHides_36 : decode cX12_readsHides 36 = .ok (.invokevirtual 197, 3) := by decide +kernel
theorem dX12_readsHides_39 : decode cX12_readsHides 39 = .ok (.bipush 65, 2) := by decide +kernel
theorem dX12_readsHides_41 : decode cX12_readsHides 41 = .ok (.bipush 72, 2) := by decide +kernel
theorem dX12_readsHides_43 : decode cX12_readsHides 43 = .ok (.invokestatic 130, 3) := by decide +kernel
theorem dX12_readsHides_46 : decode cX12_readsHides 46 = .ok (.ifCond .eq 124, 3) := by decide +kernel
theorem dX12_readsHides_49 : decode cX12_readsHides 49 = .ok (.aload_n 0, 1) := by decide +kernel
theorem dX12_readsHides_50 : decode cX12_readsHides 50 = .ok (.iload_n 1, 1) := by decide +kernel
theorem dX12_readsHides_51 : decode cX12_readsHides 51 = .ok (.invokevirtual 197, 3) := by decide +kernel
theorem dX12_readsHides_54 : decode cX12_readsHides 54 = .ok (.bipush 97, 2) := by decide +kernel
theorem dX12_readsHides_56 : decode cX12_readsHides 56 = .ok (.if_icmp .ge 7, 3) := by decide +kernel
theorem dX12_readsHides_59 : decode cX12_readsHides 59 = .ok (.iconst 1, 1) := by decide +kernel
theorem dX12_readsHides_60 : decode cX12_readsHides 60 = .ok (.goto 4, 3) := by decide +kernel
theorem dX12_readsHides_63 : decode cX12_readsHides 63 = .ok (.iconst 0, 1) := by decide +kernel
theorem dX12_readsHides_64 : decode cX12_readsHides 64 = .ok (.istore_n 3, 1) := by decide +kernel
theorem dX12_readsHides_65 : decode cX12_readsHides 65 = .ok (.iload_n 3, 1) := by decide +kernel
theorem dX12_readsHides_66 : decode cX12_readsHides 66 = .ok (.ifCond .eq 14, 3) := by decide +kernel
theorem dX12_readsHides_69 : decode cX12_readsHides 69 = .ok (.aload_n 0, 1) := by decide +kernel
theorem dX12_readsHides_70 : decode cX12_readsHides 70 = .ok (.iload_n 1, 1) := by decide +kernel
theorem dX12_readsHides_71 : decode cX12_readsHides 71 = .ok (.invokevirtual 197, 3) := by decide +kernel
theorem dX12_readsHides_74 : decode cX12_readsHides 74 = .ok (.bipush 65, 2) := by decide +kernel
theorem dX12_readsHides_76 : decode cX12_readsHides 76 = .ok (.isub, 1) := by decide +kernel
theorem dX12_readsHides_77 : decode cX12_readsHides 77 = .ok (.goto 11, 3) := by decide +kernel
theorem dX12_readsHides_80 : decode cX12_readsHides 80 = .ok (.aload_n 0, 1) := by decide +kernel
theorem dX12_readsHides_81 : decode cX12_readsHides 81 = .ok (.iload_n 1, 1) := by decide +kernel
theorem dX12_readsHides_82 : decode cX12_readsHides 82 = .ok (.invokevirtual 197, 3) := by decide +kernel
theorem dX12_readsHides_85 : decode cX12_readsHides 85 = .ok (.bipush 97, 2) := by decide +kernel
theorem dX12_readsHides_87 : decode cX12_readsHides 87 = .ok (.isub, 1) := by decide +kernel
theorem dX12_readsHides_88 : decode cX12_readsHides 88 = .ok (.istore 4, 2) := by decide +kernel
theorem dX12_readsHides_90 : decode cX12_readsHides 90 = .ok (.aload_n 0, 1) := by decide +kernel
theorem dX12_readsHides_91 : decode cX12_readsHides 91 = .ok (.getfield 63, 3) := by decide +kernel
theorem dX12_readsHides_94 : decode cX12_readsHides 94 = .ok (.iload_n 2, 1) := by decide +kernel
theorem dX12_readsHides_95 : decode cX12_readsHides 95 = .ok (.iaload, 1) := by decide +kernel
theorem dX12_readsHides_96 : decode cX12_readsHides 96 = .ok (.iload 4, 2) := by decide +kernel
theorem dX12_readsHides_98 : decode cX12_readsHides 98 = .ok (.invokestatic 174, 3) := by decide +kernel
theorem dX12_readsHides_101 : decode cX12_readsHides 101 = .ok (.ifCond .ne 20, 3) := by decide +kernel
theorem dX12_readsHides_104 : decode cX12_readsHides 104 = .ok (.iload_n 3, 1) := by decide +kernel
theorem dX12_readsHides_105 : decode cX12_readsHides 105 = .ok (.ifCond .eq 18, 3) := by decide +kernel
theorem dX12_readsHides_108 : decode cX12_readsHides 108 = .ok (.aload_n 0, 1) := by decide +kernel
theorem dX12_readsHides_109 : decode cX12_readsHides 109 = .ok (.getfield 66, 3) := by decide +kernel
theorem dX12_readsHides_112 : decode cX12_readsHides 112 = .ok (.iload_n 2, 1) := by decide +kernel
theorem dX12_readsHides_113 : decode cX12_readsHides 113 = .ok (.iaload, 1) := by decide +kernel
theorem dX12_readsHides_114 : decode cX12_readsHides 114 = .ok (.invokestatic 168, 3) := by decide +kernel
theorem dX12_readsHides_117 : decode cX12_readsHides 117 = .ok (.iconst 2, 1) := by decide +kernel
theorem dX12_readsHides_118 : decode cX12_readsHides 118 = .ok (.if_icmp .ne 5, 3) := by decide +kernel
theorem dX12_readsHides_121 : decode cX12_readsHides 121 = .ok (.iconst 0, 1) := by decide +kernel
theorem dX12_readsHides_122 : decode cX12_readsHides 122 = .ok (.ireturn, 1) := by decide +kernel
theorem dX12_readsHides_123 : decode cX12_readsHides 123 = .ok (.aload_n 0, 1) := by decide +kernel
theorem dX12_readsHides_124 : decode cX12_readsHides 124 = .ok (.getfield 63, 3) := by decide +kernel
theorem dX12_readsHides_127 : decode cX12_readsHides 127 = .ok (.iload_n 2, 1) := by decide +kernel
theorem dX12_readsHides_128 : decode cX12_readsHides 128 = .ok (.dup2, 1) := by decide +kernel
theorem dX12_readsHides_129 : decode cX12_readsHides 129 = .ok (.iaload, 1) := by decide +kernel
theorem dX12_readsHides_130 : decode cX12_readsHides 130 = .ok (.iconst 1, 1) := by decide +kernel
theorem dX12_readsHides_131 : decode cX12_readsHides 131 = .ok (.iload 4, 2) := by decide +kernel
theorem dX12_readsHides_133 : decode cX12_readsHides 133 = .ok (.ishl, 1) := by decide +kernel
theorem dX12_readsHides_134 : decode cX12_readsHides 134 = .ok (.ior, 1) := by decide +kernel
theorem dX12_readsHides_135 : decode cX12_readsHides 135 = .ok (.iastore, 1) := by decide +kernel
theorem dX12_readsHides_136 : decode cX12_readsHides 136 = .ok (.aload_n 0, 1) := by decide +kernel
theorem dX12_readsHides_137 : decode cX12_readsHides 137 = .ok (.getfield 66, 3) := by decide +kernel
theorem dX12_readsHides_140 : decode cX12_readsHides 140 = .ok (.iload_n 2, 1) := by decide +kernel
theorem dX12_readsHides_141 : decode cX12_readsHides 141 = .ok (.dup2, 1) := by decide +kernel
theorem dX12_readsHides_142 : decode cX12_readsHides 142 = .ok (.iaload, 1) := by decide +kernel
theorem dX12_readsHides_143 : decode cX12_readsHides 143 = .ok (.iload_n 3, 1) := by decide +kernel
theorem dX12_readsHides_144 : decode cX12_readsHides 144 = .ok (.ifCond .eq 10, 3) := by decide +kernel
theorem dX12_readsHides_147 : decode cX12_readsHides 147 = .ok (.iconst 1, 1) := by decide +kernel
theorem dX12_readsHides_148 : decode cX12_readsHides 148 = .ok (.iload 4, 2) := by decide +kernel
theorem dX12_readsHides_150 : decode cX12_readsHides 150 = .ok (.ishl, 1) := by decide +kernel
theorem dX12_readsHides_151 : decode cX12_readsHides 151 = .ok (.goto 4, 3) := by decide +kernel
theorem dX12_readsHides_154 : decode cX12_readsHides 154 = .ok (.iconst 0, 1) := by decide +kernel
theorem dX12_readsHides_155 : decode cX12_readsHides 155 = .ok (.ior, 1) := by decide +kernel
theorem dX12_readsHides_156 : decode cX12_readsHides 156 = .ok (.iastore, 1) := by decide +kernel
theorem dX12_readsHides_157 : decode cX12_readsHides 157 = .ok (.aload_n 0, 1) := by decide +kernel
theorem dX12_readsHides_158 : decode cX12_readsHides 158 = .ok (.dup, 1) := by decide +kernel
theorem dX12_readsHides_159 : decode cX12_readsHides 159 = .ok (.getfield 191, 3) := by decide +kernel
theorem dX12_readsHides_162 : decode cX12_readsHides 162 = .ok (.iconst 1, 1) := by decide +kernel
theorem dX12_readsHides_163 : decode cX12_readsHides 163 = .ok (.iadd, 1) := by decide +kernel
theorem dX12_readsHides_164 : decode cX12_readsHides 164 = .ok (.putfield 191, 3) := by decide +kernel
theorem dX12_readsHides_167 : decode cX12_readsHides 167 = .ok (.goto (-148), 3) := by decide +kernel
theorem dX12_readsHides_170 : decode cX12_readsHides 170 = .ok (.iconst 1, 1) := by decide +kernel
theorem dX12_readsHides_171 : decode cX12_readsHides 171 = .ok (.ireturn, 1) := by decide +kernel
theorem dX12_readsScene_0 : decode cX12_readsScene 0 = .ok (.aload_n 0, 1) := by decide +kernel
theorem dX12_readsScene_1 : decode cX12_readsScene 1 = .ok (.getfield 200, 3) := by decide +kernel
theorem dX12_readsScene_4 : decode cX12_readsScene 4 = .ok (.istore_n 2, 1) := by decide +kernel
theorem dX12_readsScene_5 : decode cX12_readsScene 5 = .ok (.aload_n 0, 1) := by decide +kernel
theorem dX12_readsScene_6 : decode cX12_readsScene 6 = .ok (.iload_n 1, 1) := by decide +kernel
theorem dX12_readsScene_7 : decode cX12_readsScene 7 = .ok (.invokevirtual 203, 3) := by decide +kernel
theorem dX12_readsScene_10 : decode cX12_readsScene 10 = .ok (.ifCond .eq 12, 3) := by decide +kernel
theorem dX12_readsScene_13 : decode cX12_readsScene 13 = .ok (.aload_n 0, 1) := by decide +kernel
theorem dX12_readsScene_14 : decode cX12_readsScene 14 = .ok (.iload_n 1, 1) := by decide +kernel
theorem dX12_readsScene_15 : decode cX12_readsScene 15 = .ok (.iconst 1, 1) := by decide +kernel
theorem dX12_readsScene_16 : decode cX12_readsScene 16 = .ok (.invokevirtual 206, 3) := by decide +kernel
theorem dX12_readsScene_19 : decode cX12_readsScene 19 = .ok (.ifCond .ne 5, 3) := by decide +kernel
theorem dX12_readsScene_22 : decode cX12_readsScene 22 = .ok (.iconst 0, 1) := by decide +kernel
theorem dX12_readsScene_23 : decode cX12_readsScene 23 = .ok (.ireturn, 1) := by decide +kernel
theorem dX12_readsScene_24 : decode cX12_readsScene 24 = .ok (.aload_n 0, 1) := by decide +kernel
theorem dX12_readsScene_25 : decode cX12_readsScene 25 = .ok (.getfield 69, 3) := by decide +kernel
theorem dX12_readsScene_28 : decode cX12_readsScene 28 = .ok (.iload_n 2, 1) := by decide +kernel
theorem dX12_readsScene_29 : decode cX12_readsScene 29 = .ok (.aload_n 0, 1) := by decide +kernel
theorem dX12_readsScene_30 : decode cX12_readsScene 30 = .ok (.getfield 194, 3) := by decide +kernel
theorem dX12_readsScene_33 : decode cX12_readsScene 33 = .ok (.iastore, 1) := by decide +kernel
theorem dX12_readsScene_34 : decode cX12_readsScene 34 = .ok (.aload_n 0, 1) := by decide +kernel
theorem dX12_readsScene_35 : decode cX12_readsScene 35 = .ok (.getfield 72, 3) := by decide +kernel
theorem dX12_readsScene_38 : decode cX12_readsScene 38 = .ok (.iload_n 2, 1) := by decide +kernel
theorem dX12_readsScene_39 : decode cX12_readsScene 39 = .ok (.aload_n 0, 1) := by decide +kernel
theorem dX12_readsScene_40 : decode cX12_readsScene 40 = .ok (.getfield 194, 3) := by decide +kernel
theorem dX12_readsScene_43 : decode cX12_readsScene 43 = .ok (.iastore, 1) := by decide +kernel
theorem dX12_readsScene_44 : decode cX12_readsScene 44 = .ok (.aload_n 0, 1) := by decide +kernel
theorem dX12_readsScene_45 : decode cX12_readsScene 45 = .ok (.iload_n 1, 1) := by decide +kernel
theorem dX12_readsScene_46 : decode cX12_readsScene 46 = .ok (.invokevirtual 197, 3) := by decide +kernel
theorem dX12_readsScene_49 : decode cX12_readsScene 49 = .ok (.bipush 45, 2) := by decide +kernel
theorem dX12_readsScene_51 : decode cX12_readsScene 51 = .ok (.if_icmp .ne 39, 3) := by decide +kernel
theorem dX12_readsScene_54 : decode cX12_readsScene 54 = .ok (.aload_n 0, 1) := by decide +kernel
theorem dX12_readsScene_55 : decode cX12_readsScene 55 = .ok (.dup, 1) := by decide +kernel
theorem dX12_readsScene_56 : decode cX12_readsScene 56 = .ok (.getfield 191, 3) := by decide +kernel
theorem dX12_readsScene_59 : decode cX12_readsScene 59 = .ok (.iconst 1, 1) := by decide +kernel
theorem dX12_readsScene_60 : decode cX12_readsScene 60 = .ok (.iadd, 1) := by decide +kernel
theorem dX12_readsScene_61 : decode cX12_readsScene 61 = .ok (.putfield 191, 3) := by decide +kernel
theorem dX12_readsScene_64 : decode cX12_readsScene 64 = .ok (.aload_n 0, 1) := by decide +kernel
theorem dX12_readsScene_65 : decode cX12_readsScene 65 = .ok (.iload_n 1, 1) := by decide +kernel
theorem dX12_readsScene_66 : decode cX12_readsScene 66 = .ok (.aload_n 0, 1) := by decide +kernel
theorem dX12_readsScene_67 : decode cX12_readsScene 67 = .ok (.getfield 69, 3) := by decide +kernel
theorem dX12_readsScene_70 : decode cX12_readsScene 70 = .ok (.iload_n 2, 1) := by decide +kernel
theorem dX12_readsScene_71 : decode cX12_readsScene 71 = .ok (.iaload, 1) := by decide +kernel
theorem dX12_readsScene_72 : decode cX12_readsScene 72 = .ok (.invokevirtual 206, 3) := by decide +kernel
theorem dX12_readsScene_75 : decode cX12_readsScene 75 = .ok (.ifCond .ne 5, 3) := by decide +kernel
theorem dX12_readsScene_78 : decode cX12_readsScene 78 = .ok (.iconst 0, 1) := by decide +kernel
theorem dX12_readsScene_79 : decode cX12_readsScene 79 = .ok (.ireturn, 1) := by decide +kernel
theorem dX12_readsScene_80 : decode cX12_readsScene 80 = .ok (.aload_n 0, 1) := by decide +kernel
theorem dX12_readsScene_81 : decode cX12_readsScene 81 = .ok (.getfield 72, 3) := by decide +kernel
theorem dX12_readsScene_84 : decode cX12_readsScene 84 = .ok (.iload_n 2, 1) := by decide +kernel
theorem dX12_readsScene_85 : decode cX12_readsScene 85 = .ok (.aload_n 0, 1) := by decide +kernel
theorem dX12_readsScene_86 : decode cX12_readsScene 86 = .ok (.getfield 194, 3) := by decide +kernel
theorem dX12_readsScene_89 : decode cX12_readsScene 89 = .ok (.iastore, 1) := by decide +kernel
theorem dX12_readsScene_90 : decode cX12_readsScene 90 = .ok (.aload_n 0, 1) := by decide +kernel
theorem dX12_readsScene_91 : decode cX12_readsScene 91 = .ok (.getfield 75, 3) := by decide +kernel
theorem dX12_readsScene_94 : decode cX12_readsScene 94 = .ok (.iload_n 2, 1) := by decide +kernel
theorem dX12_readsScene_95 : decode cX12_readsScene 95 = .ok (.aload_n 0, 1) := by decide +kernel
theorem dX12_readsScene_96 : decode cX12_readsScene 96 = .ok (.iload_n 1, 1) := by decide +kernel
theorem dX12_readsScene_97 : decode cX12_readsScene 97 = .ok (.invokevirtual 197, 3) := by decide +kernel
theorem dX12_readsScene_100 : decode cX12_readsScene 100 = .ok (.bipush 33, 2) := by decide +kernel
theorem dX12_readsScene_102 : decode cX12_readsScene 102 = .ok (.if_icmp .ne 7, 3) := by decide +kernel
theorem dX12_readsScene_105 : decode cX12_readsScene 105 = .ok (.iconst 1, 1) := by decide +kernel
theorem dX12_readsScene_106 : decode cX12_readsScene 106 = .ok (.goto 4, 3) := by decide +kernel
theorem dX12_readsScene_109 : decode cX12_readsScene 109 = .ok (.iconst 0, 1) := by decide +kernel
theorem dX12_readsScene_110 : decode cX12_readsScene 110 = .ok (.iastore, 1) := by decide +kernel
theorem dX12_readsScene_111 : decode cX12_readsScene 111 = .ok (.aload_n 0, 1) := by decide +kernel
theorem dX12_readsScene_112 : decode cX12_readsScene 112 = .ok (.dup, 1) := by decide +kernel
theorem dX12_readsScene_113 : decode cX12_readsScene 113 = .ok (.getfield 191, 3) := by decide +kernel
theorem dX12_readsScene_116 : decode cX12_readsScene 116 = .ok (.aload_n 0, 1) := by decide +kernel
theorem dX12_readsScene_117 : decode cX12_readsScene 117 = .ok (.getfield 75, 3) := by decide +kernel
theorem dX12_readsScene_120 : decode cX12_readsScene 120 = .ok (.iload_n 2, 1) := by decide +kernel
theorem dX12_readsScene_121 : decode cX12_readsScene 121 = .ok (.iaload, 1) := by decide +kernel
theorem dX12_readsScene_122 : decode cX12_readsScene 122 = .ok (.iadd, 1) := by decide +kernel
theorem dX12_readsScene_123 : decode cX12_readsScene 123 = .ok (.putfield 191, 3) := by decide +kernel
theorem dX12_readsScene_126 : decode cX12_readsScene 126 = .ok (.aload_n 0, 1) := by decide +kernel
theorem dX12_readsScene_127 : decode cX12_readsScene 127 = .ok (.dup, 1) := by decide +kernel
theorem dX12_readsScene_128 : decode cX12_readsScene 128 = .ok (.getfield 200, 3) := by decide +kernel
theorem dX12_readsScene_131 : decode cX12_readsScene 131 = .ok (.iconst 1, 1) := by decide +kernel
theorem dX12_readsScene_132 : decode cX12_readsScene 132 = .ok (.iadd, 1) := by decide +kernel
theorem dX12_readsScene_133 : decode cX12_readsScene 133 = .ok (.putfield 200, 3) := by decide +kernel
theorem dX12_readsScene_136 : decode cX12_readsScene 136 = .ok (.iconst 1, 1) := by decide +kernel
theorem dX12_readsScene_137 : decode cX12_readsScene 137 = .ok (.ireturn, 1) := by decide +kernel
theorem dX12_goesOn_0 : decode cX12_goesOn 0 = .ok (.aload_n 0, 1) := by decide +kernel
theorem dX12_goesOn_1 : decode cX12_goesOn 1 = .ok (.iconst 0, 1) := by decide +kernel
theorem dX12_goesOn_2 : decode cX12_goesOn 2 = .ok (.putfield 191, 3) := by decide +kernel
theorem dX12_goesOn_5 : decode cX12_goesOn 5 = .ok (.aload_n 0, 1) := by decide +kernel
theorem dX12_goesOn_6 : decode cX12_goesOn 6 = .ok (.iconst 0, 1) := by decide +kernel
theorem dX12_goesOn_7 : decode cX12_goesOn 7 = .ok (.putfield 200, 3) := by decide +kernel
theorem dX12_goesOn_10 : decode cX12_goesOn 10 = .ok (.aload_n 0, 1) := by decide +kernel
theorem dX12_goesOn_11 : decode cX12_goesOn 11 = .ok (.iload_n 1, 1) := by decide +kernel
theorem dX12_goesOn_12 : decode cX12_goesOn 12 = .ok (.invokevirtual 197, 3) := by decide +kernel
theorem dX12_goesOn_15 : decode cX12_goesOn 15 = .ok (.bipush 32, 2) := by decide +kernel
theorem dX12_goesOn_17 : decode cX12_goesOn 17 = .ok (.if_icmp .ne 16, 3) := by decide +kernel
theorem dX12_goesOn_20 : decode cX12_goesOn 20 = .ok (.aload_n 0, 1) := by decide +kernel
theorem dX12_goesOn_21 : decode cX12_goesOn 21 = .ok (.dup, 1) := by decide +kernel
theorem dX12_goesOn_22 : decode cX12_goesOn 22 = .ok (.getfield 191, 3) := by decide +kernel
theorem dX12_goesOn_25 : decode cX12_goesOn 25 = .ok (.iconst 1, 1) := by decide +kernel
theorem dX12_goesOn_26 : decode cX12_goesOn 26 = .ok (.iadd, 1) := by decide +kernel
theorem dX12_goesOn_27 : decode cX12_goesOn 27 = .ok (.putfield 191, 3) := by decide +kernel
theorem dX12_goesOn_30 : decode cX12_goesOn 30 = .ok (.goto (-20), 3) := by decide +kernel
theorem dX12_goesOn_33 : decode cX12_goesOn 33 = .ok (.iconst 1, 1) := by decide +kernel
theorem dX12_goesOn_34 : decode cX12_goesOn 34 = .ok (.istore_n 2, 1) := by decide +kernel
theorem dX12_goesOn_35 : decode cX12_goesOn 35 = .ok (.iload_n 2, 1) := by decide +kernel
theorem dX12_goesOn_36 : decode cX12_goesOn 36 = .ok (.ifCond .eq 62, 3) := by decide +kernel
theorem dX12_goesOn_39 : decode cX12_goesOn 39 = .ok (.aload_n 0, 1) := by decide +kernel
theorem dX12_goesOn_40 : decode cX12_goesOn 40 = .ok (.iload_n 1, 1) := by decide +kernel
theorem dX12_goesOn_41 : decode cX12_goesOn 41 = .ok (.invokevirtual 209, 3) := by decide +kernel
theorem dX12_goesOn_44 : decode cX12_goesOn 44 = .ok (.ifCond .ne 8, 3) := by decide +kernel
theorem dX12_goesOn_47 : decode cX12_goesOn 47 = .ok (.aload_n 0, 1) := by decide +kernel
theorem dX12_goesOn_48 : decode cX12_goesOn 48 = .ok (.getfield 191, 3) := by decide +kernel
theorem dX12_goesOn_51 : decode cX12_goesOn 51 = .ok (.ireturn, 1) := by decide +kernel
theorem dX12_goesOn_52 : decode cX12_goesOn 52 = .ok (.aload_n 0, 1) := by decide +kernel
theorem dX12_goesOn_53 : decode cX12_goesOn 53 = .ok (.iload_n 1, 1) := by decide +kernel
theorem dX12_goesOn_54 : decode cX12_goesOn 54 = .ok (.invokevirtual 197, 3) := by decide +kernel
theorem dX12_goesOn_57 : decode cX12_goesOn 57 = .ok (.bipush 47, 2) := by decide +kernel
theorem dX12_goesOn_59 : decode cX12_goesOn 59 = .ok (.if_icmp .ne 16, 3) := by decide +kernel
theorem dX12_goesOn_62 : decode cX12_goesOn 62 = .ok (.aload_n 0, 1) := by decide +kernel
theorem dX12_goesOn_63 : decode cX12_goesOn 63 = .ok (.getfield 200, 3) := by decide +kernel
theorem dX12_goesOn_66 : decode cX12_goesOn 66 = .ok (.bipush 12, 2) := by decide +kernel
theorem dX12_goesOn_68 : decode cX12_goesOn 68 = .ok (.if_icmp .ge 7, 3) := by decide +kernel
theorem dX12_goesOn_71 : decode cX12_goesOn 71 = .ok (.iconst 1, 1) := by decide +kernel
theorem dX12_goesOn_72 : decode cX12_goesOn 72 = .ok (.goto 4, 3) := by decide +kernel
theorem dX12_goesOn_75 : decode cX12_goesOn 75 = .ok (.iconst 0, 1) := by decide +kernel
theorem dX12_goesOn_76 : decode cX12_goesOn 76 = .ok (.istore_n 2, 1) := by decide +kernel
theorem dX12_goesOn_77 : decode cX12_goesOn 77 = .ok (.aload_n 0, 1) := by decide +kernel
theorem dX12_goesOn_78 : decode cX12_goesOn 78 = .ok (.dup, 1) := by decide +kernel
theorem dX12_goesOn_79 : decode cX12_goesOn 79 = .ok (.getfield 191, 3) := by decide +kernel
theorem dX12_goesOn_82 : decode cX12_goesOn 82 = .ok (.iload_n 2, 1) := by decide +kernel
theorem dX12_goesOn_83 : decode cX12_goesOn 83 = .ok (.ifCond .eq 7, 3) := by decide +kernel
theorem dX12_goesOn_86 : decode cX12_goesOn 86 = .ok (.iconst 1, 1) := by decide +kernel
theorem dX12_goesOn_87 : decode cX12_goesOn 87 = .ok (.goto 4, 3) := by decide +kernel
theorem dX12_goesOn_90 : decode cX12_goesOn 90 = .ok (.iconst 0, 1) := by decide +kernel
theorem dX12_goesOn_91 : decode cX12_goesOn 91 = .ok (.iadd, 1) := by decide +kernel
theorem dX12_goesOn_92 : decode cX12_goesOn 92 = .ok (.putfield 191, 3) := by decide +kernel
theorem dX12_goesOn_95 : decode cX12_goesOn 95 = .ok (.goto (-60), 3) := by decide +kernel
theorem dX12_goesOn_98 : decode cX12_goesOn 98 = .ok (.aload_n 0, 1) := by decide +kernel
theorem dX12_goesOn_99 : decode cX12_goesOn 99 = .ok (.iload_n 1, 1) := by decide +kernel
theorem dX12_goesOn_100 : decode cX12_goesOn 100 = .ok (.invokevirtual 197, 3) := by decide +kernel
theorem dX12_goesOn_103 : decode cX12_goesOn 103 = .ok (.bipush 32, 2) := by decide +kernel
theorem dX12_goesOn_105 : decode cX12_goesOn 105 = .ok (.if_icmp .ne 16, 3) := by decide +kernel
theorem dX12_goesOn_108 : decode cX12_goesOn 108 = .ok (.aload_n 0, 1) := by decide +kernel
theorem dX12_goesOn_109 : decode cX12_goesOn 109 = .ok (.dup, 1) := by decide +kernel
theorem dX12_goesOn_110 : decode cX12_goesOn 110 = .ok (.getfield 191, 3) := by decide +kernel
theorem dX12_goesOn_113 : decode cX12_goesOn 113 = .ok (.iconst 1, 1) := by decide +kernel
theorem dX12_goesOn_114 : decode cX12_goesOn 114 = .ok (.iadd, 1) := by decide +kernel
theorem dX12_goesOn_115 : decode cX12_goesOn 115 = .ok (.putfield 191, 3) := by decide +kernel
theorem dX12_goesOn_118 : decode cX12_goesOn 118 = .ok (.goto (-20), 3) := by decide +kernel
theorem dX12_goesOn_121 : decode cX12_goesOn 121 = .ok (.aload_n 0, 1) := by decide +kernel
theorem dX12_goesOn_122 : decode cX12_goesOn 122 = .ok (.getfield 191, 3) := by decide +kernel
theorem dX12_goesOn_125 : decode cX12_goesOn 125 = .ok (.aload_n 0, 1) := by decide +kernel
theorem dX12_goesOn_126 : decode cX12_goesOn 126 = .ok (.getfield 26, 3) := by decide +kernel
theorem dX12_goesOn_129 : decode cX12_goesOn 129 = .ok (.iload_n 1, 1) := by decide +kernel
theorem dX12_goesOn_130 : decode cX12_goesOn 130 = .ok (.iaload, 1) := by decide +kernel
theorem dX12_goesOn_131 : decode cX12_goesOn 131 = .ok (.if_icmp .ne 8, 3) := by decide +kernel
theorem dX12_goesOn_134 : decode cX12_goesOn 134 = .ok (.bipush (-9), 2) := by decide +kernel
theorem dX12_goesOn_136 : decode cX12_goesOn 136 = .ok (.goto 7, 3) := by decide +kernel
theorem dX12_goesOn_139 : decode cX12_goesOn 139 = .ok (.aload_n 0, 1) := by decide +kernel
theorem dX12_goesOn_140 : decode cX12_goesOn 140 = .ok (.getfield 191, 3) := by decide +kernel
theorem dX12_goesOn_143 : decode cX12_goesOn 143 = .ok (.ireturn, 1) := by decide +kernel
theorem dX12_fault_0 : decode cX12_fault 0 = .ok (.aload_n 0, 1) := by decide +kernel
theorem dX12_fault_1 : decode cX12_fault 1 = .ok (.iload_n 1, 1) := by decide +kernel
theorem dX12_fault_2 : decode cX12_fault 2 = .ok (.invokevirtual 158, 3) := by decide +kernel
theorem dX12_fault_5 : decode cX12_fault 5 = .ok (.istore_n 2, 1) := by decide +kernel
theorem dX12_fault_6 : decode cX12_fault 6 = .ok (.iload_n 2, 1) := by decide +kernel
theorem dX12_fault_7 : decode cX12_fault 7 = .ok (.ifCond .ge 7, 3) := by decide +kernel
theorem dX12_fault_10 : decode cX12_fault 10 = .ok (.iload_n 2, 1) := by decide +kernel
theorem dX12_fault_11 : decode cX12_fault 11 = .ok (.goto 8, 3) := by decide +kernel
theorem dX12_fault_14 : decode cX12_fault 14 = .ok (.aload_n 0, 1) := by decide +kernel
theorem dX12_fault_15 : decode cX12_fault 15 = .ok (.iload_n 1, 1) := by decide +kernel
theorem dX12_fault_16 : decode cX12_fault 16 = .ok (.invokevirtual 212, 3) := by decide +kernel
theorem dX12_fault_19 : decode cX12_fault 19 = .ok (.ireturn, 1) := by decide +kernel
theorem dX12_story_0 : decode cX12_story 0 = .ok (.aload_n 0, 1) := by decide +kernel
theorem dX12_story_1 : decode cX12_story 1 = .ok (.iload_n 1, 1) := by decide +kernel
theorem dX12_story_2 : decode cX12_story 2 = .ok (.invokevirtual 158, 3) := by decide +kernel
theorem dX12_story_5 : decode cX12_story 5 = .ok (.istore_n 2, 1) := by decide +kernel
theorem dX12_story_6 : decode cX12_story 6 = .ok (.iload_n 2, 1) := by decide +kernel
theorem dX12_story_7 : decode cX12_story 7 = .ok (.ifCond .ge 5, 3) := by decide +kernel
theorem dX12_story_10 : decode cX12_story 10 = .ok (.iload_n 2, 1) := by decide +kernel
theorem dX12_story_11 : decode cX12_story 11 = .ok (.ireturn, 1) := by decide +kernel
theorem dX12_story_12 : decode cX12_story 12 = .ok (.aload_n 0, 1) := by decide +kernel
theorem dX12_story_13 : decode cX12_story 13 = .ok (.iload_n 1, 1) := by decide +kernel
theorem dX12_story_14 : decode cX12_story 14 = .ok (.invokevirtual 212, 3) := by decide +kernel
theorem dX12_story_17 : decode cX12_story 17 = .ok (.bipush (-9), 2) := by decide +kernel
theorem dX12_story_19 : decode cX12_story 19 = .ok (.if_icmp .eq 6, 3) := by decide +kernel
theorem dX12_story_22 : decode cX12_story 22 = .ok (.bipush (-4), 2) := by decide +kernel
theorem dX12_story_24 : decode cX12_story 24 = .ok (.ireturn, 1) := by decide +kernel
theorem dX12_story_25 : decode cX12_story 25 = .ok (.aload_n 0, 1) := by decide +kernel
theorem dX12_story_26 : decode cX12_story 26 = .ok (.aload_n 0, 1) := by decide +kernel
theorem dX12_story_27 : decode cX12_story 27 = .ok (.getfield 200, 3) := by decide +kernel
theorem dX12_story_30 : decode cX12_story 30 = .ok (.putfield 215, 3) := by decide +kernel
theorem dX12_story_33 : decode cX12_story 33 = .ok (.iconst 0, 1) := by decide +kernel
theorem dX12_story_34 : decode cX12_story 34 = .ok (.istore_n 3, 1) := by decide +kernel
theorem dX12_story_35 : decode cX12_story 35 = .ok (.iload_n 3, 1) := by decide +kernel
theorem dX12_story_36 : decode cX12_story 36 = .ok (.aload_n 0, 1) := by decide +kernel
theorem dX12_story_37 : decode cX12_story 37 = .ok (.getfield 215, 3) := by decide +kernel
theorem dX12_story_40 : decode cX12_story 40 = .ok (.if_icmp .ge 92, 3) := by decide +kernel
theorem dX12_story_43 : decode cX12_story 43 = .ok (.aload_n 0, 1) := by decide +kernel
theorem dX12_story_44 : decode cX12_story 44 = .ok (.getfield 48, 3) := by decide +kernel
theorem dX12_story_47 : decode cX12_story 47 = .ok (.iload_n 3, 1) := by decide +kernel
theorem dX12_story_48 : decode cX12_story 48 = .ok (.aload_n 0, 1) := by decide +kernel
theorem dX12_story_49 : decode cX12_story 49 = .ok (.getfield 63, 3) := by decide +kernel
theorem dX12_story_52 : decode cX12_story 52 = .ok (.iload_n 3, 1) := by decide +kernel
theorem dX12_story_53 : decode cX12_story 53 = .ok (.iaload, 1) := by decide +kernel
theorem dX12_story_54 : decode cX12_story 54 = .ok (.iastore, 1) := by decide +kernel
theorem dX12_story_55 : decode cX12_story 55 = .ok (.aload_n 0, 1) := by decide +kernel
theorem dX12_story_56 : decode cX12_story 56 = .ok (.getfield 51, 3) := by decide +kernel
theorem dX12_story_59 : decode cX12_story 59 = .ok (.iload_n 3, 1) := by decide +kernel
theorem dX12_story_60 : decode cX12_story 60 = .ok (.aload_n 0, 1) := by decide +kernel
theorem dX12_story_61 : decode cX12_story 61 = .ok (.getfield 66, 3) := by decide +kernel
theorem dX12_story_64 : decode cX12_story 64 = .ok (.iload_n 3, 1) := by decide +kernel
theorem dX12_story_65 : decode cX12_story 65 = .ok (.iaload, 1) := by decide +kernel
theorem dX12_story_66 : decode cX12_story 66 = .ok (.iastore, 1) := by decide +kernel
theorem dX12_story_67 : decode cX12_story 67 = .ok (.aload_n 0, 1) := by decide +kernel
theorem dX12_story_68 : decode cX12_story 68 = .ok (.getfield 54, 3) := by decide +kernel
theorem dX12_story_71 : decode cX12_story 71 = .ok (.iload_n 3, 1) := by decide +kernel
theorem dX12_story_72 : decode cX12_story 72 = .ok (.aload_n 0, 1) := by decide +kernel
theorem dX12_story_73 : decode cX12_story 73 = .ok (.getfield 69, 3) := by decide +kernel
theorem dX12_story_76 : decode cX12_story 76 = .ok (.iload_n 3, 1) := by decide +kernel
theorem dX12_story_77 : decode cX12_story 77 = .ok (.iaload, 1) := by decide +kernel
theorem dX12_story_78 : decode cX12_story 78 = .ok (.iastore, 1) := by decide +kernel
theorem dX12_story_79 : decode cX12_story 79 = .ok (.aload_n 0, 1) := by decide +kernel
theorem dX12_story_80 : decode cX12_story 80 = .ok (.getfield 57, 3) := by decide +kernel
theorem dX12_story_83 : decode cX12_story 83 = .ok (.iload_n 3, 1) := by decide +kernel
theorem dX12_story_84 : decode cX12_story 84 = .ok (.aload_n 0, 1) := by decide +kernel
theorem dX12_story_85 : decode cX12_story 85 = .ok (.getfield 72, 3) := by decide +kernel
theorem dX12_story_88 : decode cX12_story 88 = .ok (.iload_n 3, 1) := by decide +kernel
theorem dX12_story_89 : decode cX12_story 89 = .ok (.iaload, 1) := by decide +kernel
theorem dX12_story_90 : decode cX12_story 90 = .ok (.iastore, 1) := by decide +kernel
theorem dX12_story_91 : decode cX12_story 91 = .ok (.aload_n 0, 1) := by decide +kernel
theorem dX12_story_92 : decode cX12_story 92 = .ok (.getfield 60, 3) := by decide +kernel
theorem dX12_story_95 : decode cX12_story 95 = .ok (.iload_n 3, 1) := by decide +kernel
theorem dX12_story_96 : decode cX12_story 96 = .ok (.aload_n 0, 1) := by decide +kernel
theorem dX12_story_97 : decode cX12_story 97 = .ok (.getfield 75, 3) := by decide +kernel
theorem dX12_story_100 : decode cX12_story 100 = .ok (.iload_n 3, 1) := by decide +kernel
theorem dX12_story_101 : decode cX12_story 101 = .ok (.iaload, 1) := by decide +kernel
theorem dX12_story_102 : decode cX12_story 102 = .ok (.iastore, 1) := by decide +kernel
theorem dX12_story_103 : decode cX12_story 103 = .ok (.aload_n 0, 1) := by decide +kernel
theorem dX12_story_104 : decode cX12_story 104 = .ok (.getfield 78, 3) := by decide +kernel
theorem dX12_story_107 : decode cX12_story 107 = .ok (.iload_n 3, 1) := by decide +kernel
theorem dX12_story_108 : decode cX12_story 108 = .ok (.bipush (-9), 2) := by decide +kernel
theorem dX12_story_110 : decode cX12_story 110 = .ok (.iastore, 1) := by decide +kernel
theorem dX12_story_111 : decode cX12_story 111 = .ok (.aload_n 0, 1) := by decide +kernel
theorem dX12_story_112 : decode cX12_story 112 = .ok (.getfield 81, 3) := by decide +kernel
theorem dX12_story_115 : decode cX12_story 115 = .ok (.iload_n 3, 1) := by decide +kernel
theorem dX12_story_116 : decode cX12_story 116 = .ok (.bipush (-9), 2) := by decide +kernel
theorem dX12_story_118 : decode cX12_story 118 = .ok (.iastore, 1) := by decide +kernel
theorem dX12_story_119 : decode cX12_story 119 = .ok (.aload_n 0, 1) := by decide +kernel
theorem dX12_story_120 : decode cX12_story 120 = .ok (.getfield 84, 3) := by decide +kernel
theorem dX12_story_123 : decode cX12_story 123 = .ok (.iload_n 3, 1) := by decide +kernel
theorem dX12_story_124 : decode cX12_story 124 = .ok (.iconst 0, 1) := by decide +kernel
theorem dX12_story_125 : decode cX12_story 125 = .ok (.iastore, 1) := by decide +kernel
theorem dX12_story_126 : decode cX12_story 126 = .ok (.iinc 3 1, 3) := by decide +kernel
theorem dX12_story_129 : decode cX12_story 129 = .ok (.goto (-94), 3) := by decide +kernel
theorem dX12_story_132 : decode cX12_story 132 = .ok (.aload_n 0, 1) := by decide +kernel
theorem dX12_story_133 : decode cX12_story 133 = .ok (.getfield 215, 3) := by decide +kernel
theorem dX12_story_136 : decode cX12_story 136 = .ok (.ireturn, 1) := by decide +kernel
theorem dX12_isScene_0 : decode cX12_isScene 0 = .ok (.iload_n 1, 1) := by decide +kernel
theorem dX12_isScene_1 : decode cX12_isScene 1 = .ok (.iconst 0, 1) := by decide +kernel
theorem dX12_isScene_2 : decode cX12_isScene 2 = .ok (.aload_n 0, 1) := by decide +kernel
theorem dX12_isScene_3 : decode cX12_isScene 3 = .ok (.getfield 215, 3) := by decide +kernel
theorem dX12_isScene_6 : decode cX12_isScene 6 = .ok (.iconst 1, 1) := by decide +kernel
theorem dX12_isScene_7 : decode cX12_isScene 7 = .ok (.isub, 1) := by decide +kernel
theorem dX12_isScene_8 : decode cX12_isScene 8 = .ok (.invokestatic 130, 3) := by decide +kernel
theorem dX12_isScene_11 : decode cX12_isScene 11 = .ok (.ireturn, 1) := by decide +kernel
theorem dX12_sceneTells_0 : decode cX12_sceneTells 0 = .ok (.iload_n 2, 1) := by decide +kernel
theorem dX12_sceneTells_1 : decode cX12_sceneTells 1 = .ok (.ifCond .ne 12, 3) := by decide +kernel
theorem dX12_sceneTells_4 : decode cX12_sceneTells 4 = .ok (.aload_n 0, 1) := by decide +kernel
theorem dX12_sceneTells_5 : decode cX12_sceneTells 5 = .ok (.getfield 48, 3) := by decide +kernel
theorem dX12_sceneTells_8 : decode cX12_sceneTells 8 = .ok (.iload_n 1, 1) := by decide +kernel
theorem dX12_sceneTells_9 : decode cX12_sceneTells 9 = .ok (.iaload, 1) := by decide +kernel
theorem dX12_sceneTells_10 : decode cX12_sceneTells 10 = .ok (.goto 51, 3) := by decide +kernel
theorem dX12_sceneTells_13 : decode cX12_sceneTells 13 = .ok (.iload_n 2, 1) := by decide +kernel
theorem dX12_sceneTells_14 : decode cX12_sceneTells 14 = .ok (.iconst 1, 1) := by decide +kernel
theorem dX12_sceneTells_15 : decode cX12_sceneTells 15 = .ok (.if_icmp .ne 12, 3) := by decide +kernel
theorem dX12_sceneTells_18 : decode cX12_sceneTells 18 = .ok (.aload_n 0, 1) := by decide +kernel
theorem dX12_sceneTells_19 : decode cX12_sceneTells 19 = .ok (.getfield 51, 3) := by decide +kernel
theorem dX12_sceneTells_22 : decode cX12_sceneTells 22 = .ok (.iload_n 1, 1) := by decide +kernel
theorem dX12_sceneTells_23 : decode cX12_sceneTells 23 = .ok (.iaload, 1) := by decide +kernel
theorem dX12_sceneTells_24 : decode cX12_sceneTells 24 = .ok (.goto 37, 3) := by decide +kernel
theorem dX12_sceneTells_27 : decode cX12_sceneTells 27 = .ok (.iload_n 2, 1) := by decide +kernel
theorem dX12_sceneTells_28 : decode cX12_sceneTells 28 = .ok (.iconst 2, 1) := by decide +kernel
theorem dX12_sceneTells_29 : decode cX12_sceneTells 29 = .ok (.if_icmp .ne 12, 3) := by decide +kernel
theorem dX12_sceneTells_32 : decode cX12_sceneTells 32 = .ok (.aload_n 0, 1) := by decide +kernel
theorem dX12_sceneTells_33 : decode cX12_sceneTells 33 = .ok (.getfield 54, 3) := by decide +kernel
theorem dX12_sceneTells_36 : decode cX12_sceneTells 36 = .ok (.iload_n 1, 1) := by decide +kernel
theorem dX12_sceneTells_37 : decode cX12_sceneTells 37 = .ok (.iaload, 1) := by decide +kernel
theorem dX12_sceneTells_38 : decode cX12_sceneTells 38 = .ok (.goto 23, 3) := by decide +kernel
theorem dX12_sceneTells_41 : decode cX12_sceneTells 41 = .ok (.iload_n 2, 1) := by decide +kernel
theorem dX12_sceneTells_42 : decode cX12_sceneTells 42 = .ok (.iconst 3, 1) := by decide +kernel
theorem dX12_sceneTells_43 : decode cX12_sceneTells 43 = .ok (.if_icmp .ne 12, 3) := by decide +kernel
theorem dX12_sceneTells_46 : decode cX12_sceneTells 46 = .ok (.aload_n 0, 1) := by decide +kernel
theorem dX12_sceneTells_47 : decode cX12_sceneTells 47 = .ok (.getfield 57, 3) := by decide +kernel
theorem dX12_sceneTells_50 : decode cX12_sceneTells 50 = .ok (.iload_n 1, 1) := by decide +kernel
theorem dX12_sceneTells_51 : decode cX12_sceneTells 51 = .ok (.iaload, 1) := by decide +kernel
theorem dX12_sceneTells_52 : decode cX12_sceneTells 52 = .ok (.goto 9, 3) := by decide +kernel
theorem dX12_sceneTells_55 : decode cX12_sceneTells 55 = .ok (.aload_n 0, 1) := by decide +kernel
theorem dX12_sceneTells_56 : decode cX12_sceneTells 56 = .ok (.getfield 60, 3) := by decide +kernel
theorem dX12_sceneTells_59 : decode cX12_sceneTells 59 = .ok (.iload_n 1, 1) := by decide +kernel
theorem dX12_sceneTells_60 : decode cX12_sceneTells 60 = .ok (.iaload, 1) := by decide +kernel
theorem dX12_sceneTells_61 : decode cX12_sceneTells 61 = .ok (.ireturn, 1) := by decide +kernel
theorem dX12_scene_0 : decode cX12_scene 0 = .ok (.aload_n 0, 1) := by decide +kernel
theorem dX12_scene_1 : decode cX12_scene 1 = .ok (.iload_n 1, 1) := by decide +kernel
theorem dX12_scene_2 : decode cX12_scene 2 = .ok (.invokevirtual 218, 3) := by decide +kernel
theorem dX12_scene_5 : decode cX12_scene 5 = .ok (.ifCond .eq 26, 3) := by decide +kernel
theorem dX12_scene_8 : decode cX12_scene 8 = .ok (.iload_n 2, 1) := by decide +kernel
theorem dX12_scene_9 : decode cX12_scene 9 = .ok (.iconst 0, 1) := by decide +kernel
theorem dX12_scene_10 : decode cX12_scene 10 = .ok (.iconst 4, 1) := by decide +kernel
theorem dX12_scene_11 : decode cX12_scene 11 = .ok (.invokestatic 130, 3) := by decide +kernel
theorem dX12_scene_14 : decode cX12_scene 14 = .ok (.ifCond .eq 17, 3) := by decide +kernel
theorem dX12_scene_17 : decode cX12_scene 17 = .ok (.aload_n 0, 1) := by decide +kernel
theorem dX12_scene_18 : decode cX12_scene 18 = .ok (.aload_n 0, 1) := by decide +kernel
theorem dX12_scene_19 : decode cX12_scene 19 = .ok (.iload_n 1, 1) := by decide +kernel
theorem dX12_scene_20 : decode cX12_scene 20 = .ok (.iload_n 2, 1) := by decide +kernel
theorem dX12_scene_21 : decode cX12_scene 21 = .ok (.invokevirtual 221, 3) := by decide +kernel
theorem dX12_scene_24 : decode cX12_scene 24 = .ok (.iconst 1, 1) := by decide +kernel
theorem dX12_scene_25 : decode cX12_scene 25 = .ok (.invokevirtual 152, 3) := by decide +kernel
theorem dX12_scene_28 : decode cX12_scene 28 = .ok (.goto 4, 3) := by decide +kernel
theorem dX12_scene_31 : decode cX12_scene 31 = .ok (.iconst (-1), 1) := by decide +kernel
theorem dX12_scene_32 : decode cX12_scene 32 = .ok (.ireturn, 1) := by decide +kernel
theorem dX12_named_0 : decode cX12_named 0 = .ok (.iconst 0, 1) := by decide +kernel
theorem dX12_named_1 : decode cX12_named 1 = .ok (.istore_n 1, 1) := by decide +kernel
theorem dX12_named_2 : decode cX12_named 2 = .ok (.iconst 0, 1) := by decide +kernel
theorem dX12_named_3 : decode cX12_named 3 = .ok (.istore_n 2, 1) := by decide +kernel
theorem dX12_named_4 : decode cX12_named 4 = .ok (.iload_n 2, 1) := by decide +kernel
theorem dX12_named_5 : decode cX12_named 5 = .ok (.aload_n 0, 1) := by decide +kernel
theorem dX12_named_6 : decode cX12_named 6 = .ok (.getfield 215, 3) := by decide +kernel
theorem dX12_named_9 : decode cX12_named 9 = .ok (.if_icmp .ge 18, 3) := by decide +kernel
theorem dX12_named_12 : decode cX12_named 12 = .ok (.iload_n 1, 1) := by decide +kernel
theorem dX12_named_13 : decode cX12_named 13 = .ok (.aload_n 0, 1) := by decide +kernel
theorem dX12_named_14 : decode cX12_named 14 = .ok (.getfield 48, 3) := by decide +kernel
theorem dX12_named_17 : decode cX12_named 17 = .ok (.iload_n 2, 1) := by decide +kernel
theorem dX12_named_18 : decode cX12_named 18 = .ok (.iaload, 1) := by decide +kernel
theorem dX12_named_19 : decode cX12_named 19 = .ok (.ior, 1) := by decide +kernel
theorem dX12_named_20 : decode cX12_named 20 = .ok (.istore_n 1, 1) := by decide +kernel
theorem dX12_named_21 : decode cX12_named 21 = .ok (.iinc 2 1, 3) := by decide +kernel
theorem dX12_named_24 : decode cX12_named 24 = .ok (.goto (-20), 3) := by decide +kernel
theorem dX12_named_27 : decode cX12_named 27 = .ok (.iload_n 1, 1) := by decide +kernel
theorem dX12_named_28 : decode cX12_named 28 = .ok (.ireturn, 1) := by decide +kernel
theorem dX12_change_0 : decode cX12_change 0 = .ok (.iload_n 0, 1) := by decide +kernel
theorem dX12_change_1 : decode cX12_change 1 = .ok (.iload_n 1, 1) := by decide +kernel
theorem dX12_change_2 : decode cX12_change 2 = .ok (.if_icmp .ne 7, 3) := by decide +kernel
theorem dX12_change_5 : decode cX12_change 5 = .ok (.iconst 0, 1) := by decide +kernel
theorem dX12_change_6 : decode cX12_change 6 = .ok (.goto 28, 3) := by decide +kernel
theorem dX12_change_9 : decode cX12_change 9 = .ok (.iload_n 0, 1) := by decide +kernel
theorem dX12_change_10 : decode cX12_change 10 = .ok (.iconst 2, 1) := by decide +kernel
theorem dX12_change_11 : decode cX12_change 11 = .ok (.if_icmp .ge 8, 3) := by decide +kernel
theorem dX12_change_14 : decode cX12_change 14 = .ok (.iload_n 1, 1) := by decide +kernel
theorem dX12_change_15 : decode cX12_change 15 = .ok (.iconst 2, 1) := by decide +kernel
theorem dX12_change_16 : decode cX12_change 16 = .ok (.if_icmp .lt 13, 3) := by decide +kernel
theorem dX12_change_19 : decode cX12_change 19 = .ok (.iload_n 0, 1) := by decide +kernel
theorem dX12_change_20 : decode cX12_change 20 = .ok (.iconst 2, 1) := by decide +kernel
theorem dX12_change_21 : decode cX12_change 21 = .ok (.if_icmp .lt 12, 3) := by decide +kernel
theorem dX12_change_24 : decode cX12_change 24 = .ok (.iload_n 1, 1) := by decide +kernel
theorem dX12_change_25 : decode cX12_change 25 = .ok (.iconst 2, 1) := by decide +kernel
theorem dX12_change_26 : decode cX12_change 26 = .ok (.if_icmp .lt 7, 3) := by decide +kernel
theorem dX12_change_29 : decode cX12_change 29 = .ok (.iconst 2, 1) := by decide +kernel
theorem dX12_change_30 : decode cX12_change 30 = .ok (.goto 4, 3) := by decide +kernel
theorem dX12_change_33 : decode cX12_change 33 = .ok (.iconst 1, 1) := by decide +kernel
theorem dX12_change_34 : decode cX12_change 34 = .ok (.ireturn, 1) := by decide +kernel
theorem dX12_fits_0 : decode cX12_fits 0 = .ok (.iconst 0, 1) := by decide +kernel
theorem dX12_fits_1 : decode cX12_fits 1 = .ok (.istore 4, 2) := by decide +kernel
theorem dX12_fits_3 : decode cX12_fits 3 = .ok (.iconst 0, 1) := by decide +kernel
theorem dX12_fits_4 : decode cX12_fits 4 = .ok (.istore 5, 2) := by decide +kernel
theorem dX12_fits_6 : decode cX12_fits 6 = .ok (.iconst 1, 1) := by decide +kernel
theorem dX12_fits_7 : decode cX12_fits 7 = .ok (.istore 6, 2) := by decide +kernel
theorem dX12_fits_9 : decode cX12_fits 9 = .ok (.iconst 0, 1) := by decide +kernel
theorem dX12_fits_10 : decode cX12_fits 10 = .ok (.istore 7, 2) := by decide +kernel
theorem dX12_fits_12 : decode cX12_fits 12 = .ok (.iload 7, 2) := by decide +kernel
theorem dX12_fits_14 : decode cX12_fits 14 = .ok (.iload_n 2, 1) := by decide +kernel
theorem dX12_fits_15 : decode cX12_fits 15 = .ok (.if_icmp .ge 112, 3) := by decide +kernel
theorem dX12_fits_18 : decode cX12_fits 18 = .ok (.iload_n 1, 1) := by decide +kernel
theorem dX12_fits_19 : decode cX12_fits 19 = .ok (.iconst 2, 1) := by decide +kernel
theorem dX12_fits_20 : decode cX12_fits 20 = .ok (.iload 7, 2) := by decide +kernel
theorem dX12_fits_22 : decode cX12_fits 22 = .ok (.imul, 1) := by decide +kernel
theorem dX12_fits_23 : decode cX12_fits 23 = .ok (.ishr, 1) := by decide +kernel
theorem dX12_fits_24 : decode cX12_fits 24 = .ok (.iconst 3, 1) := by decide +kernel
theorem dX12_fits_25 : decode cX12_fits 25 = .ok (.iand, 1) := by decide +kernel
theorem dX12_fits_26 : decode cX12_fits 26 = .ok (.istore 8, 2) := by decide +kernel
theorem dX12_fits_28 : decode cX12_fits 28 = .ok (.iload 4, 2) := by decide +kernel
theorem dX12_fits_30 : decode cX12_fits 30 = .ok (.iload 8, 2) := by decide +kernel
theorem dX12_fits_32 : decode cX12_fits 32 = .ok (.iconst 2, 1) := by decide +kernel
theorem dX12_fits_33 : decode cX12_fits 33 = .ok (.if_icmp .ne 7, 3) := by decide +kernel
theorem dX12_fits_36 : decode cX12_fits 36 = .ok (.iconst 1, 1) := by decide +kernel
theorem dX12_fits_37 : decode cX12_fits 37 = .ok (.goto 4, 3) := by decide +kernel
theorem dX12_fits_40 : decode cX12_fits 40 = .ok (.iconst 0, 1) := by decide +kernel
theorem dX12_fits_41 : decode cX12_fits 41 = .ok (.iadd, 1) := by decide +kernel
theorem dX12_fits_42 : decode cX12_fits 42 = .ok (.istore 4, 2) := by decide +kernel
theorem dX12_fits_44 : decode cX12_fits 44 = .ok (.iload 5, 2) := by decide +kernel
theorem dX12_fits_46 : decode cX12_fits 46 = .ok (.iload 8, 2) := by decide +kernel
theorem dX12_fits_48 : decode cX12_fits 48 = .ok (.iconst 3, 1) := by decide +kernel
theorem dX12_fits_49 : decode cX12_fits 49 = .ok (.if_icmp .ne 7, 3) := by decide +kernel
theorem dX12_fits_52 : decode cX12_fits 52 = .ok (.iconst 1, 1) := by decide +kernel
theorem dX12_fits_53 : decode cX12_fits 53 = .ok (.goto 4, 3) := by decide +kernel
theorem dX12_fits_56 : decode cX12_fits 56 = .ok (.iconst 0, 1) := by decide +kernel
theorem dX12_fits_57 : decode cX12_fits 57 = .ok (.iadd, 1) := by decide +kernel
theorem dX12_fits_58 : decode cX12_fits 58 = .ok (.istore 5, 2) := by decide +kernel
theorem dX12_fits_60 : decode cX12_fits 60 = .ok (.iload 6, 2) := by decide +kernel
theorem dX12_fits_62 : decode cX12_fits 62 = .ok (.ifCond .eq 56, 3) := by decide +kernel
theorem dX12_fits_65 : decode cX12_fits 65 = .ok (.aload_n 0, 1) := by decide +kernel
theorem dX12_fits_66 : decode cX12_fits 66 = .ok (.getfield 48, 3) := by decide +kernel
theorem dX12_fits_69 : decode cX12_fits 69 = .ok (.iload_n 3, 1) := by decide +kernel
theorem dX12_fits_70 : decode cX12_fits 70 = .ok (.iaload, 1) := by decide +kernel
theorem dX12_fits_71 : decode cX12_fits 71 = .ok (.aload_n 0, 1) := by decide +kernel
theorem dX12_fits_72 : decode cX12_fits 72 = .ok (.getfield 93, 3) := by decide +kernel
theorem dX12_fits_75 : decode cX12_fits 75 = .ok (.iload 7, 2) := by decide +kernel
theorem dX12_fits_77 : decode cX12_fits 77 = .ok (.iaload, 1) := by decide +kernel
theorem dX12_fits_78 : decode cX12_fits 78 = .ok (.invokestatic 174, 3) := by decide +kernel
theorem dX12_fits_81 : decode cX12_fits 81 = .ok (.ifCond .eq 8, 3) := by decide +kernel
theorem dX12_fits_84 : decode cX12_fits 84 = .ok (.iload 8, 2) := by decide +kernel
theorem dX12_fits_86 : decode cX12_fits 86 = .ok (.ifCond .le 32, 3) := by decide +kernel
theorem dX12_fits_89 : decode cX12_fits 89 = .ok (.aload_n 0, 1) := by decide +kernel
theorem dX12_fits_90 : decode cX12_fits 90 = .ok (.getfield 51, 3) := by decide +kernel
theorem dX12_fits_93 : decode cX12_fits 93 = .ok (.iload_n 3, 1) := by decide +kernel
theorem dX12_fits_94 : decode cX12_fits 94 = .ok (.iaload, 1) := by decide +kernel
theorem dX12_fits_95 : decode cX12_fits 95 = .ok (.aload_n 0, 1) := by decide +kernel
theorem dX12_fits_96 : decode cX12_fits 96 = .ok (.getfield 93, 3) := by decide +kernel
theorem dX12_fits_99 : decode cX12_fits 99 = .ok (.iload 7, 2) := by decide +kernel
theorem dX12_fits_101 : decode cX12_fits 101 = .ok (.iaload, 1) := by decide +kernel
theorem dX12_fits_102 : decode cX12_fits 102 = .ok (.invokestatic 174, 3) := by decide +kernel
theorem dX12_fits_105 : decode cX12_fits 105 = .ok (.ifCond .eq 9, 3) := by decide +kernel
theorem dX12_fits_108 : decode cX12_fits 108 = .ok (.iload 8, 2) := by decide +kernel
theorem dX12_fits_110 : decode cX12_fits 110 = .ok (.iconst 1, 1) := by decide +kernel
theorem dX12_fits_111 : decode cX12_fits 111 = .ok (.if_icmp .le 7, 3) := by decide +kernel
theorem dX12_fits_114 : decode cX12_fits 114 = .ok (.iconst 1, 1) := by decide +kernel
theorem dX12_fits_115 : decode cX12_fits 115 = .ok (.goto 4, 3) := by decide +kernel
theorem dX12_fits_118 : decode cX12_fits 118 = .ok (.iconst 0, 1) := by decide +kernel
theorem dX12_fits_119 : decode cX12_fits 119 = .ok (.istore 6, 2) := by decide +kernel
theorem dX12_fits_121 : decode cX12_fits 121 = .ok (.iinc 7 1, 3) := by decide +kernel
theorem dX12_fits_124 : decode cX12_fits 124 = .ok (.goto (-112), 3) := by decide +kernel
theorem dX12_fits_127 : decode cX12_fits 127 = .ok (.iload 6, 2) := by decide +kernel
theorem dX12_fits_129 : decode cX12_fits 129 = .ok (.ifCond .eq 19, 3) := by decide +kernel
theorem dX12_fits_132 : decode cX12_fits 132 = .ok (.iload 4, 2) := by decide +kernel
theorem dX12_fits_134 : decode cX12_fits 134 = .ok (.iconst 2, 1) := by decide +kernel
theorem dX12_fits_135 : decode cX12_fits 135 = .ok (.if_icmp .ge 13, 3) := by decide +kernel
theorem dX12_fits_138 : decode cX12_fits 138 = .ok (.iload 5, 2) := by decide +kernel
theorem dX12_fits_140 : decode cX12_fits 140 = .ok (.iconst 2, 1) := by decide +kernel
theorem dX12_fits_141 : decode cX12_fits 141 = .ok (.if_icmp .ge 7, 3) := by decide +kernel
theorem dX12_fits_144 : decode cX12_fits 144 = .ok (.iconst 1, 1) := by decide +kernel
theorem dX12_fits_145 : decode cX12_fits 145 = .ok (.goto 4, 3) := by decide +kernel
theorem dX12_fits_148 : decode cX12_fits 148 = .ok (.iconst 0, 1) := by decide +kernel
theorem dX12_fits_149 : decode cX12_fits 149 = .ok (.ireturn, 1) := by decide +kernel
theorem dX12_changes_0 : decode cX12_changes 0 = .ok (.iconst 0, 1) := by decide +kernel
theorem dX12_changes_1 : decode cX12_changes 1 = .ok (.istore_n 2, 1) := by decide +kernel
theorem dX12_changes_2 : decode cX12_changes 2 = .ok (.iload_n 2, 1) := by decide +kernel
theorem dX12_changes_3 : decode cX12_changes 3 = .ok (.iload_n 1, 1) := by decide +kernel
theorem dX12_changes_4 : decode cX12_changes 4 = .ok (.if_icmp .ge 134, 3) := by decide +kernel
theorem dX12_changes_7 : decode cX12_changes 7 = .ok (.iconst 0, 1) := by decide +kernel
theorem dX12_changes_8 : decode cX12_changes 8 = .ok (.istore_n 3, 1) := by decide +kernel
theorem dX12_changes_9 : decode cX12_changes 9 = .ok (.iload_n 3, 1) := by decide +kernel
theorem dX12_changes_10 : decode cX12_changes 10 = .ok (.iconst 1, 1) := by decide +kernel
theorem dX12_changes_11 : decode cX12_changes 11 = .ok (.iconst 2, 1) := by decide +kernel
theorem dX12_changes_12 : decode cX12_changes 12 = .ok (.iload_n 1, 1) := by decide +kernel
theorem dX12_changes_13 : decode cX12_changes 13 = .ok (.imul, 1) := by decide +kernel
theorem dX12_changes_14 : decode cX12_changes 14 = .ok (.ishl, 1) := by decide +kernel
theorem dX12_changes_15 : decode cX12_changes 15 = .ok (.if_icmp .ge 88, 3) := by decide +kernel
theorem dX12_changes_18 : decode cX12_changes 18 = .ok (.ldc 224, 2) := by decide +kernel
theorem dX12_changes_20 : decode cX12_changes 20 = .ok (.istore 4, 2) := by decide +kernel
theorem dX12_changes_22 : decode cX12_changes 22 = .ok (.iconst 0, 1) := by decide +kernel
theorem dX12_changes_23 : decode cX12_changes 23 = .ok (.istore 5, 2) := by decide +kernel
theorem dX12_changes_25 : decode cX12_changes 25 = .ok (.iload 5, 2) := by decide +kernel
theorem dX12_changes_27 : decode cX12_changes 27 = .ok (.iconst 4, 1) := by decide +kernel
theorem dX12_changes_28 : decode cX12_changes 28 = .ok (.if_icmp .ge 61, 3) := by decide +kernel
theorem dX12_changes_31 : decode cX12_changes 31 = .ok (.aload_n 0, 1) := by decide +kernel
theorem dX12_changes_32 : decode cX12_changes 32 = .ok (.getfield 87, 3) := by decide +kernel
theorem dX12_changes_35 : decode cX12_changes 35 = .ok (.iload_n 3, 1) := by decide +kernel
theorem dX12_changes_36 : decode cX12_changes 36 = .ok (.iconst 3, 1) := by decide +kernel
theorem dX12_changes_37 : decode cX12_changes 37 = .ok (.iconst 2, 1) := by decide +kernel
theorem dX12_changes_38 : decode cX12_changes 38 = .ok (.iload_n 2, 1) := by decide +kernel
theorem dX12_changes_39 : decode cX12_changes 39 = .ok (.imul, 1) := by decide +kernel
theorem dX12_changes_40 : decode cX12_changes 40 = .ok (.ishl, 1) := by decide +kernel
theorem dX12_changes_41 : decode cX12_changes 41 = .ok (.iconst (-1), 1) := by decide +kernel
theorem dX12_changes_42 : decode cX12_changes 42 = .ok (.ixor, 1) := by decide +kernel
theorem dX12_changes_43 : decode cX12_changes 43 = .ok (.iand, 1) := by decide +kernel
theorem dX12_changes_44 : decode cX12_changes 44 = .ok (.iload 5, 2) := by decide +kernel
theorem dX12_changes_46 : decode cX12_changes 46 = .ok (.iconst 2, 1) := by decide +kernel
theorem dX12_changes_47 : decode cX12_changes 47 = .ok (.iload_n 2, 1) := by decide +kernel
theorem dX12_changes_48 : decode cX12_changes 48 = .ok (.imul, 1) := by decide +kernel
theorem dX12_changes_49 : decode cX12_changes 49 = .ok (.ishl, 1) := by decide +kernel
theorem dX12_changes_50 : decode cX12_changes 50 = .ok (.ior, 1) := by decide +kernel
theorem dX12_changes_51 : decode cX12_changes 51 = .ok (.iaload, 1) := by decide +kernel
theorem dX12_changes_52 : decode cX12_changes 52 = .ok (.iload 5, 2) := by decide +kernel
theorem dX12_changes_54 : decode cX12_changes 54 = .ok (.iload_n 3, 1) := by decide +kernel
theorem dX12_changes_55 : decode cX12_changes 55 = .ok (.iconst 2, 1) := by decide +kernel
theorem dX12_changes_56 : decode cX12_changes 56 = .ok (.iload_n 2, 1) := by decide +kernel
theorem dX12_changes_57 : decode cX12_changes 57 = .ok (.imul, 1) := by decide +kernel
theorem dX12_changes_58 : decode cX12_changes 58 = .ok (.ishr, 1) := by decide +kernel
theorem dX12_changes_59 : decode cX12_changes 59 = .ok (.iconst 3, 1) := by decide +kernel
theorem dX12_changes_60 : decode cX12_changes 60 = .ok (.iand, 1) := by decide +kernel
theorem dX12_changes_61 : decode cX12_changes 61 = .ok (.invokestatic 225, 3) := by decide +kernel
theorem dX12_changes_64 : decode cX12_changes 64 = .ok (.iadd, 1) := by decide +kernel
theorem dX12_changes_65 : decode cX12_changes 65 = .ok (.istore 6, 2) := by decide +kernel
theorem dX12_changes_67 : decode cX12_changes 67 = .ok (.iload 6, 2) := by decide +kernel
theorem dX12_changes_69 : decode cX12_changes 69 = .ok (.iload 4, 2) := by decide +kernel
theorem dX12_changes_71 : decode cX12_changes 71 = .ok (.if_icmp .ge 8, 3) := by decide +kernel
theorem dX12_changes_74 : decode cX12_changes 74 = .ok (.iload 6, 2) := by decide +kernel
theorem dX12_changes_76 : decode cX12_changes 76 = .ok (.goto 5, 3) := by decide +kernel
theorem dX12_changes_79 : decode cX12_changes 79 = .ok (.iload 4, 2) := by decide +kernel
theorem dX12_changes_81 : decode cX12_changes 81 = .ok (.istore 4, 2) := by decide +kernel
theorem dX12_changes_83 : decode cX12_changes 83 = .ok (.iinc 5 1, 3) := by decide +kernel
theorem dX12_changes_86 : decode cX12_changes 86 = .ok (.goto (-61), 3) := by decide +kernel
theorem dX12_changes_89 : decode cX12_changes 89 = .ok (.aload_n 0, 1) := by decide +kernel
theorem dX12_changes_90 : decode cX12_changes 90 = .ok (.getfield 90, 3) := by decide +kernel
theorem dX12_changes_93 : decode cX12_changes 93 = .ok (.iload_n 3, 1) := by decide +kernel
theorem dX12_changes_94 : decode cX12_changes 94 = .ok (.iload 4, 2) := by decide +kernel
theorem dX12_changes_96 : decode cX12_changes 96 = .ok (.iastore, 1) := by decide +kernel
theorem dX12_changes_97 : decode cX12_changes 97 = .ok (.iinc 3 1, 3) := by decide +kernel
theorem dX12_changes_100 : decode cX12_changes 100 = .ok (.goto (-91), 3) := by decide +kernel
theorem dX12_changes_103 : decode cX12_changes 103 = .ok (.iconst 0, 1) := by decide +kernel
theorem dX12_changes_104 : decode cX12_changes 104 = .ok (.istore_n 3, 1) := by decide +kernel
theorem dX12_changes_105 : decode cX12_changes 105 = .ok (.iload_n 3, 1) := by decide +kernel
theorem dX12_changes_106 : decode cX12_changes 106 = .ok (.iconst 1, 1) := by decide +kernel
theorem dX12_changes_107 : decode cX12_changes 107 = .ok (.iconst 2, 1) := by decide +kernel
theorem dX12_changes_108 : decode cX12_changes 108 = .ok (.iload_n 1, 1) := by decide +kernel
theorem dX12_changes_109 : decode cX12_changes 109 = .ok (.imul, 1) := by decide +kernel
theorem dX12_changes_110 : decode cX12_changes 110 = .ok (.ishl, 1) := by decide +kernel
theorem dX12_changes_111 : decode cX12_changes 111 = .ok (.if_icmp .ge 21, 3) := by decide +kernel
theorem dX12_changes_114 : decode cX12_changes 114 = .ok (.aload_n 0, 1) := by decide +kernel
theorem dX12_changes_115 : decode cX12_changes 115 = .ok (.getfield 87, 3) := by decide +kernel
theorem dX12_changes_118 : decode cX12_changes 118 = .ok (.iload_n 3, 1) := by decide +kernel
theorem dX12_changes_119 : decode cX12_changes 119 = .ok (.aload_n 0, 1) := by decide +kernel
theorem dX12_changes_120 : decode cX12_changes 120 = .ok (.getfield 90, 3) := by decide +kernel
theorem dX12_changes_123 : decode cX12_changes 123 = .ok (.iload_n 3, 1) := by decide +kernel
theorem dX12_changes_124 : decode cX12_changes 124 = .ok (.iaload, 1) := by decide +kernel
theorem dX12_changes_125 : decode cX12_changes 125 = .ok (.iastore, 1) := by decide +kernel
theorem dX12_changes_126 : decode cX12_changes 126 = .ok (.iinc 3 1, 3) := by decide +kernel
theorem dX12_changes_129 : decode cX12_changes 129 = .ok (.goto (-24), 3) := by decide +kernel
theorem dX12_changes_132 : decode cX12_changes 132 = .ok (.iinc 2 1, 3) := by decide +kernel
theorem dX12_changes_135 : decode cX12_changes 135 = .ok (.goto (-133), 3) := by decide +kernel
theorem dX12_changes_138 : decode cX12_changes 138 = .ok (.return_, 1) := by decide +kernel
theorem dX12_hands_0 : decode cX12_hands 0 = .ok (.aload_n 0, 1) := by decide +kernel
theorem dX12_hands_1 : decode cX12_hands 1 = .ok (.invokevirtual 228, 3) := by decide +kernel
theorem dX12_hands_4 : decode cX12_hands 4 = .ok (.istore_n 1, 1) := by decide +kernel
theorem dX12_hands_5 : decode cX12_hands 5 = .ok (.iload_n 1, 1) := by decide +kernel
theorem dX12_hands_6 : decode cX12_hands 6 = .ok (.invokestatic 168, 3) := by decide +kernel
theorem dX12_hands_9 : decode cX12_hands 9 = .ok (.bipush 6, 2) := by decide +kernel
theorem dX12_hands_11 : decode cX12_hands 11 = .ok (.if_icmp .le 6, 3) := by decide +kernel
theorem dX12_hands_14 : decode cX12_hands 14 = .ok (.bipush (-6), 2) := by decide +kernel
theorem dX12_hands_16 : decode cX12_hands 16 = .ok (.ireturn, 1) := by decide +kernel
theorem dX12_hands_17 : decode cX12_hands 17 = .ok (.iconst 0, 1) := by decide +kernel
theorem dX12_hands_18 : decode cX12_hands 18 = .ok (.istore_n 2, 1) := by decide +kernel
theorem dX12_hands_19 : decode cX12_hands 19 = .ok (.iconst 0, 1) := by decide +kernel
theorem dX12_hands_20 : decode cX12_hands 20 = .ok (.istore_n 3, 1) := by decide +kernel
theorem dX12_hands_21 : decode cX12_hands 21 = .ok (.iload_n 3, 1) := by decide +kernel
theorem dX12_hands_22 : decode cX12_hands 22 = .ok (.bipush 8, 2) := by decide +kernel
theorem dX12_hands_24 : decode cX12_hands 24 = .ok (.if_icmp .ge 27, 3) := by decide +kernel
theorem dX12_hands_27 : decode cX12_hands 27 = .ok (.iload_n 1, 1) := by decide +kernel
theorem dX12_hands_28 : decode cX12_hands 28 = .ok (.iload_n 3, 1) := by decide +kernel
theorem dX12_hands_29 : decode cX12_hands 29 = .ok (.invokestatic 174, 3) := by decide +kernel
theorem dX12_hands_32 : decode cX12_hands 32 = .ok (.ifCond .eq 13, 3) := by decide +kernel
theorem dX12_hands_35 : decode cX12_hands 35 = .ok (.aload_n 0, 1) := by decide +kernel
theorem dX12_hands_36 : decode cX12_hands 36 = .ok (.getfield 93, 3) := by decide +kernel
theorem dX12_hands_39 : decode cX12_hands 39 = .ok (.iload_n 2, 1) := by decide +kernel
theorem dX12_hands_40 : decode cX12_hands 40 = .ok (.iload_n 3, 1) := by decide +kernel
theorem dX12_hands_41 : decode cX12_hands 41 = .ok (.iastore, 1) := by decide +kernel
theorem dX12_hands_42 : decode cX12_hands 42 = .ok (.iinc 2 1, 3) := by decide +kernel
theorem dX12_hands_45 : decode cX12_hands 45 = .ok (.iinc 3 1, 3) := by decide +kernel
theorem dX12_hands_48 : decode cX12_hands 48 = .ok (.goto (-27), 3) := by decide +kernel
theorem dX12_hands_51 : decode cX12_hands 51 = .ok (.iconst 0, 1) := by decide +kernel
theorem dX12_hands_52 : decode cX12_hands 52 = .ok (.istore_n 3, 1) := by decide +kernel
theorem dX12_hands_53 : decode cX12_hands 53 = .ok (.iload_n 3, 1) := by decide +kernel
theorem dX12_hands_54 : decode cX12_hands 54 = .ok (.iconst 1, 1) := by decide +kernel
theorem dX12_hands_55 : decode cX12_hands 55 = .ok (.iconst 2, 1) := by decide +kernel
theorem dX12_hands_56 : decode cX12_hands 56 = .ok (.iload_n 2, 1) := by decide +kernel
theorem dX12_hands_57 : decode cX12_hands 57 = .ok (.imul, 1) := by decide +kernel
theorem dX12_hands_58 : decode cX12_hands 58 = .ok (.ishl, 1) := by decide +kernel
theorem dX12_hands_59 : decode cX12_hands 59 = .ok (.if_icmp .ge 25, 3) := by decide +kernel
theorem dX12_hands_62 : decode cX12_hands 62 = .ok (.aload_n 0, 1) := by decide +kernel
theorem dX12_hands_63 : decode cX12_hands 63 = .ok (.getfield 87, 3) := by decide +kernel
theorem dX12_hands_66 : decode cX12_hands 66 = .ok (.iload_n 3, 1) := by decide +kernel
theorem dX12_hands_67 : decode cX12_hands 67 = .ok (.iload_n 3, 1) := by decide +kernel
theorem dX12_hands_68 : decode cX12_hands 68 = .ok (.ifCond .ne 7, 3) := by decide +kernel
theorem dX12_hands_71 : decode cX12_hands 71 = .ok (.iconst 0, 1) := by decide +kernel
theorem dX12_hands_72 : decode cX12_hands 72 = .ok (.goto 5, 3) := by decide +kernel
theorem dX12_hands_75 : decode cX12_hands 75 = .ok (.ldc 224, 2) := by decide +kernel
theorem dX12_hands_77 : decode cX12_hands 77 = .ok (.iastore, 1) := by decide +kernel
theorem dX12_hands_78 : decode cX12_hands 78 = .ok (.iinc 3 1, 3) := by decide +kernel
theorem dX12_hands_81 : decode cX12_hands 81 = .ok (.goto (-28), 3) := by decide +kernel
theorem dX12_hands_84 : decode cX12_hands 84 = .ok (.iconst 0, 1) := by decide +kernel
theorem dX12_hands_85 : decode cX12_hands 85 = .ok (.istore_n 3, 1) := by decide +kernel
theorem dX12_hands_86 : decode cX12_hands 86 = .ok (.iload_n 3, 1) := by decide +kernel
theorem dX12_hands_87 : decode cX12_hands 87 = .ok (.aload_n 0, 1) := by decide +kernel
theorem dX12_hands_88 : decode cX12_hands 88 = .ok (.getfield 215, 3) := by decide +kernel
theorem dX12_hands_91 : decode cX12_hands 91 = .ok (.if_icmp .ge 63, 3) := by decide +kernel
theorem dX12_hands_94 : decode cX12_hands 94 = .ok (.aload_n 0, 1) := by decide +kernel
theorem dX12_hands_95 : decode cX12_hands 95 = .ok (.iload_n 2, 1) := by decide +kernel
theorem dX12_hands_96 : decode cX12_hands 96 = .ok (.invokevirtual 232, 3) := by decide +kernel
theorem dX12_hands_99 : decode cX12_hands 99 = .ok (.iconst 0, 1) := by decide +kernel
theorem dX12_hands_100 : decode cX12_hands 100 = .ok (.istore 4, 2) := by decide +kernel
theorem dX12_hands_102 : decode cX12_hands 102 = .ok (.iload 4, 2) := by decide +kernel
theorem dX12_hands_104 : decode cX12_hands 104 = .ok (.iconst 1, 1) := by decide +kernel
theorem dX12_hands_105 : decode cX12_hands 105 = .ok (.iconst 2, 1) := by decide +kernel
theorem dX12_hands_106 : decode cX12_hands 106 = .ok (.iload_n 2, 1) := by decide +kernel
theorem dX12_hands_107 : decode cX12_hands 107 = .ok (.imul, 1) := by decide +kernel
theorem dX12_hands_108 : decode cX12_hands 108 = .ok (.ishl, 1) := by decide +kernel
theorem dX12_hands_109 : decode cX12_hands 109 = .ok (.if_icmp .ge 39, 3) := by decide +kernel
theorem dX12_hands_112 : decode cX12_hands 112 = .ok (.aload_n 0, 1) := by decide +kernel
theorem dX12_hands_113 : decode cX12_hands 113 = .ok (.getfield 87, 3) := by decide +kernel
theorem dX12_hands_116 : decode cX12_hands 116 = .ok (.iload 4, 2) := by decide +kernel
theorem dX12_hands_118 : decode cX12_hands 118 = .ok (.aload_n 0, 1) := by decide +kernel
theorem dX12_hands_119 : decode cX12_hands 119 = .ok (.iload 4, 2) := by decide +kernel
theorem dX12_hands_121 : decode cX12_hands 121 = .ok (.iload_n 2, 1) := by decide +kernel
theorem dX12_hands_122 : decode cX12_hands 122 = .ok (.iload_n 3, 1) := by decide +kernel
theorem dX12_hands_123 : decode cX12_hands 123 = .ok (.invokevirtual 236, 3) := by decide +kernel
theorem dX12_hands_126 : decode cX12_hands 126 = .ok (.ifCond .eq 13, 3) := by decide +kernel
theorem dX12_hands_129 : decode cX12_hands 129 = .ok (.aload_n 0, 1) := by decide +kernel
theorem dX12_hands_130 : decode cX12_hands 130 = .ok (.getfield 87, 3) := by decide +kernel
theorem dX12_hands_133 : decode cX12_hands 133 = .ok (.iload 4, 2) := by decide +kernel
theorem dX12_hands_135 : decode cX12_hands 135 = .ok (.iaload, 1) := by decide +kernel
theorem dX12_hands_136 : decode cX12_hands 136 = .ok (.goto 5, 3) := by decide +kernel
theorem dX12_hands_139 : decode cX12_hands 139 = .ok (.ldc 224, 2) := by decide +kernel
theorem dX12_hands_141 : decode cX12_hands 141 = .ok (.iastore, 1) := by decide +kernel
theorem dX12_hands_142 : decode cX12_hands 142 = .ok (.iinc 4 1, 3) := by decide +kernel
theorem dX12_hands_145 : decode cX12_hands 145 = .ok (.goto (-43), 3) := by decide +kernel
theorem dX12_hands_148 : decode cX12_hands 148 = .ok (.iinc 3 1, 3) := by decide +kernel
theorem dX12_hands_151 : decode cX12_hands 151 = .ok (.goto (-65), 3) := by decide +kernel
theorem dX12_hands_154 : decode cX12_hands 154 = .ok (.aload_n 0, 1) := by decide +kernel
theorem dX12_hands_155 : decode cX12_hands 155 = .ok (.iload_n 2, 1) := by decide +kernel
theorem dX12_hands_156 : decode cX12_hands 156 = .ok (.invokevirtual 232, 3) := by decide +kernel
theorem dX12_hands_159 : decode cX12_hands 159 = .ok (.aload_n 0, 1) := by decide +kernel
theorem dX12_hands_160 : decode cX12_hands 160 = .ok (.getfield 87, 3) := by decide +kernel
theorem dX12_hands_163 : decode cX12_hands 163 = .ok (.iconst 0, 1) := by decide +kernel
theorem dX12_hands_164 : decode cX12_hands 164 = .ok (.iaload, 1) := by decide +kernel
theorem dX12_hands_165 : decode cX12_hands 165 = .ok (.ireturn, 1) := by decide +kernel
theorem dX12_third_0 : decode cX12_third 0 = .ok (.iconst 0, 1) := by decide +kernel
theorem dX12_third_1 : decode cX12_third 1 = .ok (.istore_n 1, 1) := by decide +kernel
theorem dX12_third_2 : decode cX12_third 2 = .ok (.iload_n 1, 1) := by decide +kernel
theorem dX12_third_3 : decode cX12_third 3 = .ok (.aload_n 0, 1) := by decide +kernel
theorem dX12_third_4 : decode cX12_third 4 = .ok (.getfield 215, 3) := by decide +kernel
theorem dX12_third_7 : decode cX12_third 7 = .ok (.if_icmp .ge 24, 3) := by decide +kernel
theorem dX12_third_10 : decode cX12_third 10 = .ok (.aload_n 0, 1) := by decide +kernel
theorem dX12_third_11 : decode cX12_third 11 = .ok (.getfield 48, 3) := by decide +kernel
theorem dX12_third_14 : decode cX12_third 14 = .ok (.iload_n 1, 1) := by decide +kernel
theorem dX12_third_15 : decode cX12_third 15 = .ok (.iaload, 1) := by decide +kernel
theorem dX12_third_16 : decode cX12_third 16 = .ok (.invokestatic 168, 3) := by decide +kernel
theorem dX12_third_19 : decode cX12_third 19 = .ok (.iconst 2, 1) := by decide +kernel
theorem dX12_third_20 : decode cX12_third 20 = .ok (.if_icmp .le 5, 3) := by decide +kernel
theorem dX12_third_23 : decode cX12_third 23 = .ok (.iload_n 1, 1) := by decide +kernel
theorem dX12_third_24 : decode cX12_third 24 = .ok (.ireturn, 1) := by decide +kernel
theorem dX12_third_25 : decode cX12_third 25 = .ok (.iinc 1 1, 3) := by decide +kernel
theorem dX12_third_28 : decode cX12_third 28 = .ok (.goto (-26), 3) := by decide +kernel
theorem dX12_third_31 : decode cX12_third 31 = .ok (.bipush (-9), 2) := by decide +kernel
theorem dX12_third_33 : decode cX12_third 33 = .ok (.ireturn, 1) := by decide +kernel
theorem dX12_setTakes_0 : decode cX12_setTakes 0 = .ok (.aload_n 0, 1) := by decide +kernel
theorem dX12_setTakes_1 : decode cX12_setTakes 1 = .ok (.iconst 0, 1) := by decide +kernel
theorem dX12_setTakes_2 : decode cX12_setTakes 2 = .ok (.putfield 239, 3) := by decide +kernel
theorem dX12_setTakes_5 : decode cX12_setTakes 5 = .ok (.iconst 0, 1) := by decide +kernel
theorem dX12_setTakes_6 : decode cX12_setTakes 6 = .ok (.istore_n 1, 1) := by decide +kernel
theorem dX12_setTakes_7 : decode cX12_setTakes 7 = .ok (.iload_n 1, 1) := by decide +kernel
theorem dX12_setTakes_8 : decode cX12_setTakes 8 = .ok (.aload_n 0, 1) := by decide +kernel
theorem dX12_setTakes_9 : decode cX12_setTakes 9 = .ok (.getfield 215, 3) := by decide +kernel
theorem dX12_setTakes_12 : decode cX12_setTakes 12 = .ok (.if_icmp .ge 82, 3) := by decide +kernel
theorem dX12_setTakes_15 : decode cX12_setTakes 15 = .ok (.iload_n 1, 1) := by decide +kernel
theorem dX12_setTakes_16 : decode cX12_setTakes 16 = .ok (.ifCond .ne 12, 3) := by decide +kernel
theorem dX12_setTakes_19 : decode cX12_setTakes 19 = .ok (.aload_n 0, 1) := by decide +kernel
theorem dX12_setTakes_20 : decode cX12_setTakes 20 = .ok (.getfield 48, 3) := by decide +kernel
theorem dX12_setTakes_23 : decode cX12_setTakes 23 = .ok (.iconst 0, 1) := by decide +kernel
theorem dX12_setTakes_24 : decode cX12_setTakes 24 = .ok (.iaload, 1) := by decide +kernel
theorem dX12_setTakes_25 : decode cX12_setTakes 25 = .ok (.goto 20, 3) := by decide +kernel
theorem dX12_setTakes_28 : decode cX12_setTakes 28 = .ok (.aload_n 0, 1) := by decide +kernel
theorem dX12_setTakes_29 : decode cX12_setTakes 29 = .ok (.getfield 48, 3) := by decide +kernel
theorem dX12_setTakes_32 : decode cX12_setTakes 32 = .ok (.iload_n 1, 1) := by decide +kernel
theorem dX12_setTakes_33 : decode cX12_setTakes 33 = .ok (.iaload, 1) := by decide +kernel
theorem dX12_setTakes_34 : decode cX12_setTakes 34 = .ok (.aload_n 0, 1) := by decide +kernel
theorem dX12_setTakes_35 : decode cX12_setTakes 35 = .ok (.getfield 48, 3) := by decide +kernel
theorem dX12_setTakes_38 : decode cX12_setTakes 38 = .ok (.iload_n 1, 1) := by decide +kernel
theorem dX12_setTakes_39 : decode cX12_setTakes 39 = .ok (.iconst 1, 1) := by decide +kernel
theorem dX12_setTakes_40 : decode cX12_setTakes 40 = .ok (.isub, 1) := by decide +kernel
theorem dX12_setTakes_41 : decode cX12_setTakes 41 = .ok (.iaload, 1) := by decide +kernel
theorem dX12_setTakes_42 : decode cX12_setTakes 42 = .ok (.iconst (-1), 1) := by decide +kernel
theorem dX12_setTakes_43 : decode cX12_setTakes 43 = .ok (.ixor, 1) := by decide +kernel
theorem dX12_setTakes_44 : decode cX12_setTakes 44 = .ok (.iand, 1) := by decide +kernel
theorem dX12_setTakes_45 : decode cX12_setTakes 45 = .ok (.istore_n 2, 1) := by decide +kernel
theorem dX12_setTakes_46 : decode cX12_setTakes 46 = .ok (.iconst 0, 1) := by decide +kernel
theorem dX12_setTakes_47 : decode cX12_setTakes 47 = .ok (.istore_n 3, 1) := by decide +kernel
theorem dX12_setTakes_48 : decode cX12_setTakes 48 = .ok (.iload_n 3, 1) := by decide +kernel
theorem dX12_setTakes_49 : decode cX12_setTakes 49 = .ok (.bipush 8, 2) := by decide +kernel
theorem dX12_setTakes_51 : decode cX12_setTakes 51 = .ok (.if_icmp .ge 37, 3) := by decide +kernel
theorem dX12_setTakes_54 : decode cX12_setTakes 54 = .ok (.iload_n 2, 1) := by decide +kernel
theorem dX12_setTakes_55 : decode cX12_setTakes 55 = .ok (.iload_n 3, 1) := by decide +kernel
theorem dX12_setTakes_56 : decode cX12_setTakes 56 = .ok (.invokestatic 174, 3) := by decide +kernel
theorem dX12_setTakes_59 : decode cX12_setTakes 59 = .ok (.ifCond .eq 23, 3) := by decide +kernel
theorem dX12_setTakes_62 : decode cX12_setTakes 62 = .ok (.aload_n 0, 1) := by decide +kernel
theorem dX12_setTakes_63 : decode cX12_setTakes 63 = .ok (.getfield 96, 3) := by decide +kernel
theorem dX12_setTakes_66 : decode cX12_setTakes 66 = .ok (.aload_n 0, 1) := by decide +kernel
theorem dX12_setTakes_67 : decode cX12_setTakes 67 = .ok (.getfield 239, 3) := by decide +kernel
theorem dX12_setTakes_70 : decode cX12_setTakes 70 = .ok (.iload_n 3, 1) := by decide +kernel
theorem dX12_setTakes_71 : decode cX12_setTakes 71 = .ok (.iastore, 1) := by decide +kernel
theorem dX12_setTakes_72 : decode cX12_setTakes 72 = .ok (.aload_n 0, 1) := by decide +kernel
theorem dX12_setTakes_73 : decode cX12_setTakes 73 = .ok (.dup, 1) := by decide +kernel
theorem dX12_setTakes_74 : decode cX12_setTakes 74 = .ok (.getfield 239, 3) := by decide +kernel
theorem dX12_setTakes_77 : decode cX12_setTakes 77 = .ok (.iconst 1, 1) := by decide +kernel
theorem dX12_setTakes_78 : decode cX12_setTakes 78 = .ok (.iadd, 1) := by decide +kernel
theorem dX12_setTakes_79 : decode cX12_setTakes 79 = .ok (.putfield 239, 3) := by decide +kernel
theorem dX12_setTakes_82 : decode cX12_setTakes 82 = .ok (.iinc 3 1, 3) := by decide +kernel
theorem dX12_setTakes_85 : decode cX12_setTakes 85 = .ok (.goto (-37), 3) := by decide +kernel
theorem dX12_setTakes_88 : decode cX12_setTakes 88 = .ok (.iinc 1 1, 3) := by decide +kernel
theorem dX12_setTakes_91 : decode cX12_setTakes 91 = .ok (.goto (-84), 3) := by decide +kernel
theorem dX12_setTakes_94 : decode cX12_setTakes 94 = .ok (.return_, 1) := by decide +kernel
theorem dX12_takings_0 : decode cX12_takings 0 = .ok (.aload_n 0, 1) := by decide +kernel
theorem dX12_takings_1 : decode cX12_takings 1 = .ok (.invokevirtual 242, 3) := by decide +kernel
theorem dX12_takings_4 : decode cX12_takings 4 = .ok (.aload_n 0, 1) := by decide +kernel
theorem dX12_takings_5 : decode cX12_takings 5 = .ok (.aload_n 0, 1) := by decide +kernel
theorem dX12_takings_6 : decode cX12_takings 6 = .ok (.getfield 239, 3) := by decide +kernel
theorem dX12_takings_9 : decode cX12_takings 9 = .ok (.ifCond .ne 8, 3) := by decide +kernel
theorem dX12_takings_12 : decode cX12_takings 12 = .ok (.bipush (-9), 2) := by decide +kernel
theorem dX12_takings_14 : decode cX12_takings 14 = .ok (.goto 14, 3) := by decide +kernel
theorem dX12_takings_17 : decode cX12_takings 17 = .ok (.aload_n 0, 1) := by decide +kernel
theorem dX12_takings_18 : decode cX12_takings 18 = .ok (.getfield 96, 3) := by decide +kernel
theorem dX12_takings_21 : decode cX12_takings 21 = .ok (.aload_n 0, 1) := by decide +kernel
theorem dX12_takings_22 : decode cX12_takings 22 = .ok (.getfield 239, 3) := by decide +kernel
theorem dX12_takings_25 : decode cX12_takings 25 = .ok (.iconst 1, 1) := by decide +kernel
theorem dX12_takings_26 : decode cX12_takings 26 = .ok (.isub, 1) := by decide +kernel
theorem dX12_takings_27 : decode cX12_takings 27 = .ok (.iaload, 1) := by decide +kernel
theorem dX12_takings_28 : decode cX12_takings 28 = .ok (.aload_n 0, 1) := by decide +kernel
theorem dX12_takings_29 : decode cX12_takings 29 = .ok (.getfield 239, 3) := by decide +kernel
theorem dX12_takings_32 : decode cX12_takings 32 = .ok (.invokevirtual 152, 3) := by decide +kernel
theorem dX12_takings_35 : decode cX12_takings 35 = .ok (.ireturn, 1) := by decide +kernel
theorem dX12_reaches_0 : decode cX12_reaches 0 = .ok (.iconst 0, 1) := by decide +kernel
theorem dX12_reaches_1 : decode cX12_reaches 1 = .ok (.istore_n 2, 1) := by decide +kernel
theorem dX12_reaches_2 : decode cX12_reaches 2 = .ok (.iload_n 2, 1) := by decide +kernel
theorem dX12_reaches_3 : decode cX12_reaches 3 = .ok (.iload_n 1, 1) := by decide +kernel
theorem dX12_reaches_4 : decode cX12_reaches 4 = .ok (.if_icmp .ge 21, 3) := by decide +kernel
theorem dX12_reaches_7 : decode cX12_reaches 7 = .ok (.aload_n 0, 1) := by decide +kernel
theorem dX12_reaches_8 : decode cX12_reaches 8 = .ok (.getfield 102, 3) := by decide +kernel
theorem dX12_reaches_11 : decode cX12_reaches 11 = .ok (.aload_n 0, 1) := by decide +kernel
theorem dX12_reaches_12 : decode cX12_reaches 12 = .ok (.getfield 99, 3) := by decide +kernel
theorem dX12_reaches_15 : decode cX12_reaches 15 = .ok (.iload_n 2, 1) := by decide +kernel
theorem dX12_reaches_16 : decode cX12_reaches 16 = .ok (.iaload, 1) := by decide +kernel
theorem dX12_reaches_17 : decode cX12_reaches 17 = .ok (.iload_n 2, 1) := by decide +kernel
theorem dX12_reaches_18 : decode cX12_reaches 18 = .ok (.iastore, 1) := by decide +kernel
theorem dX12_reaches_19 : decode cX12_reaches 19 = .ok (.iinc 2 1, 3) := by decide +kernel
theorem dX12_reaches_22 : decode cX12_reaches 22 = .ok (.goto (-20), 3) := by decide +kernel
theorem dX12_reaches_25 : decode cX12_reaches 25 = .ok (.iconst 0, 1) := by decide +kernel
theorem dX12_reaches_26 : decode cX12_reaches 26 = .ok (.istore_n 2, 1) := by decide +kernel
theorem dX12_reaches_27 : decode cX12_reaches 27 = .ok (.iconst 0, 1) := by decide +kernel
theorem dX12_reaches_28 : decode cX12_reaches 28 = .ok (.istore_n 3, 1) := by decide +kernel
theorem dX12_reaches_29 : decode cX12_reaches 29 = .ok (.iconst 0, 1) := by decide +kernel
theorem dX12_reaches_30 : decode cX12_reaches 30 = .ok (.istore 4, 2) := by decide +kernel
theorem dX12_reaches_32 : decode cX12_reaches 32 = .ok (.iload 4, 2) := by decide +kernel
theorem dX12_reaches_34 : decode cX12_reaches 34 = .ok (.aload_n 0, 1) := by decide +kernel
theorem dX12_reaches_35 : decode cX12_reaches 35 = .ok (.getfield 239, 3) := by decide +kernel
theorem dX12_reaches_38 : decode cX12_reaches 38 = .ok (.if_icmp .ge 42, 3) := by decide +kernel
theorem dX12_reaches_41 : decode cX12_reaches 41 = .ok (.iload_n 2, 1) := by decide +kernel
theorem dX12_reaches_42 : decode cX12_reaches 42 = .ok (.aload_n 0, 1) := by decide +kernel
theorem dX12_reaches_43 : decode cX12_reaches 43 = .ok (.getfield 102, 3) := by decide +kernel
theorem dX12_reaches_46 : decode cX12_reaches 46 = .ok (.aload_n 0, 1) := by decide +kernel
theorem dX12_reaches_47 : decode cX12_reaches 47 = .ok (.getfield 96, 3) := by decide +kernel
theorem dX12_reaches_50 : decode cX12_reaches 50 = .ok (.iload 4, 2) := by decide +kernel
theorem dX12_reaches_52 : decode cX12_reaches 52 = .ok (.iaload, 1) := by decide +kernel
theorem dX12_reaches_53 : decode cX12_reaches 53 = .ok (.iaload, 1) := by decide +kernel
theorem dX12_reaches_54 : decode cX12_reaches 54 = .ok (.iload_n 3, 1) := by decide +kernel
theorem dX12_reaches_55 : decode cX12_reaches 55 = .ok (.isub, 1) := by decide +kernel
theorem dX12_reaches_56 : decode cX12_reaches 56 = .ok (.invokestatic 245, 3) := by decide +kernel
theorem dX12_reaches_59 : decode cX12_reaches 59 = .ok (.iadd, 1) := by decide +kernel
theorem dX12_reaches_60 : decode cX12_reaches 60 = .ok (.istore_n 2, 1) := by decide +kernel
theorem dX12_reaches_61 : decode cX12_reaches 61 = .ok (.aload_n 0, 1) := by decide +kernel
theorem dX12_reaches_62 : decode cX12_reaches 62 = .ok (.getfield 102, 3) := by decide +kernel
theorem dX12_reaches_65 : decode cX12_reaches 65 = .ok (.aload_n 0, 1) := by decide +kernel
theorem dX12_reaches_66 : decode cX12_reaches 66 = .ok (.getfield 96, 3) := by decide +kernel
theorem dX12_reaches_69 : decode cX12_reaches 69 = .ok (.iload 4, 2) := by decide +kernel
theorem dX12_reaches_71 : decode cX12_reaches 71 = .ok (.iaload, 1) := by decide +kernel
theorem dX12_reaches_72 : decode cX12_reaches 72 = .ok (.iaload, 1) := by decide +kernel
theorem dX12_reaches_73 : decode cX12_reaches 73 = .ok (.istore_n 3, 1) := by decide +kernel
theorem dX12_reaches_74 : decode cX12_reaches 74 = .ok (.iinc 4 1, 3) := by decide +kernel
theorem dX12_reaches_77 : decode cX12_reaches 77 = .ok (.goto (-45), 3) := by decide +kernel
theorem dX12_reaches_80 : decode cX12_reaches 80 = .ok (.iload_n 2, 1) := by decide +kernel
theorem dX12_reaches_81 : decode cX12_reaches 81 = .ok (.ireturn, 1) := by decide +kernel
theorem dX12_reaching_0 : decode cX12_reaching 0 = .ok (.aload_n 0, 1) := by decide +kernel
theorem dX12_reaching_1 : decode cX12_reaching 1 = .ok (.iload_n 1, 1) := by decide +kernel
theorem dX12_reaching_2 : decode cX12_reaching 2 = .ok (.invokevirtual 145, 3) := by decide +kernel
theorem dX12_reaching_5 : decode cX12_reaching 5 = .ok (.istore_n 2, 1) := by decide +kernel
theorem dX12_reaching_6 : decode cX12_reaching 6 = .ok (.iload_n 2, 1) := by decide +kernel
theorem dX12_reaching_7 : decode cX12_reaching 7 = .ok (.ifCond .ge 5, 3) := by decide +kernel
theorem dX12_reaching_10 : decode cX12_reaching 10 = .ok (.iload_n 2, 1) := by decide +kernel
theorem dX12_reaching_11 : decode cX12_reaching 11 = .ok (.ireturn, 1) := by decide +kernel
theorem dX12_reaching_12 : decode cX12_reaching 12 = .ok (.aload_n 0, 1) := by decide +kernel
theorem dX12_reaching_13 : decode cX12_reaching 13 = .ok (.invokevirtual 228, 3) := by decide +kernel
theorem dX12_reaching_16 : decode cX12_reaching 16 = .ok (.istore_n 3, 1) := by decide +kernel
theorem dX12_reaching_17 : decode cX12_reaching 17 = .ok (.iload_n 3, 1) := by decide +kernel
theorem dX12_reaching_18 : decode cX12_reaching 18 = .ok (.invokestatic 168, 3) := by decide +kernel
theorem dX12_reaching_21 : decode cX12_reaching 21 = .ok (.istore 4, 2) := by decide +kernel
theorem dX12_reaching_23 : decode cX12_reaching 23 = .ok (.aload_n 0, 1) := by decide +kernel
theorem dX12_reaching_24 : decode cX12_reaching 24 = .ok (.getfield 17, 3) := by decide +kernel
theorem dX12_reaching_27 : decode cX12_reaching 27 = .ok (.iload_n 1, 1) := by decide +kernel
theorem dX12_reaching_28 : decode cX12_reaching 28 = .ok (.iaload, 1) := by decide +kernel
theorem dX12_reaching_29 : decode cX12_reaching 29 = .ok (.iload 4, 2) := by decide +kernel
theorem dX12_reaching_31 : decode cX12_reaching 31 = .ok (.if_icmp .eq 9, 3) := by decide +kernel
theorem dX12_reaching_34 : decode cX12_reaching 34 = .ok (.aload_n 0, 1) := by decide +kernel
theorem dX12_reaching_35 : decode cX12_reaching 35 = .ok (.iconst 5, 1) := by decide +kernel
theorem dX12_reaching_36 : decode cX12_reaching 36 = .ok (.invokevirtual 138, 3) := by decide +kernel
theorem dX12_reaching_39 : decode cX12_reaching 39 = .ok (.ireturn, 1) := by decide +kernel
theorem dX12_reaching_40 : decode cX12_reaching 40 = .ok (.iconst 0, 1) := by decide +kernel
theorem dX12_reaching_41 : decode cX12_reaching 41 = .ok (.istore 5, 2) := by decide +kernel
theorem dX12_reaching_43 : decode cX12_reaching 43 = .ok (.iconst 0, 1) := by decide +kernel
theorem dX12_reaching_44 : decode cX12_reaching 44 = .ok (.istore 6, 2) := by decide +kernel
theorem dX12_reaching_46 : decode cX12_reaching 46 = .ok (.iload 6, 2) := by decide +kernel
theorem dX12_reaching_48 : decode cX12_reaching 48 = .ok (.iload 4, 2) := by decide +kernel
theorem dX12_reaching_50 : decode cX12_reaching 50 = .ok (.if_icmp .ge 54, 3) := by decide +kernel
theorem dX12_reaching_53 : decode cX12_reaching 53 = .ok (.iload 5, 2) := by decide +kernel
theorem dX12_reaching_55 : decode cX12_reaching 55 = .ok (.aload_n 0, 1) := by decide +kernel
theorem dX12_reaching_56 : decode cX12_reaching 56 = .ok (.iload_n 1, 1) := by decide +kernel
theorem dX12_reaching_57 : decode cX12_reaching 57 = .ok (.iload 6, 2) := by decide +kernel
theorem dX12_reaching_59 : decode cX12_reaching 59 = .ok (.invokevirtual 148, 3) := by decide +kernel
theorem dX12_reaching_62 : decode cX12_reaching 62 = .ok (.invokestatic 161, 3) := by decide +kernel
theorem dX12_reaching_65 : decode cX12_reaching 65 = .ok (.ifCond .eq 15, 3) := by decide +kernel
theorem dX12_reaching_68 : decode cX12_reaching 68 = .ok (.iconst 1, 1) := by decide +kernel
theorem dX12_reaching_69 : decode cX12_reaching 69 = .ok (.aload_n 0, 1) := by decide +kernel
theorem dX12_reaching_70 : decode cX12_reaching 70 = .ok (.iload_n 1, 1) := by decide +kernel
theorem dX12_reaching_71 : decode cX12_reaching 71 = .ok (.iload 6, 2) := by decide +kernel
theorem dX12_reaching_73 : decode cX12_reaching 73 = .ok (.invokevirtual 148, 3) := by decide +kernel
theorem dX12_reaching_76 : decode cX12_reaching 76 = .ok (.ishl, 1) := by decide +kernel
theorem dX12_reaching_77 : decode cX12_reaching 77 = .ok (.goto 4, 3) := by decide +kernel
theorem dX12_reaching_80 : decode cX12_reaching 80 = .ok (.iconst 0, 1) := by decide +kernel
theorem dX12_reaching_81 : decode cX12_reaching 81 = .ok (.ior, 1) := by decide +kernel
theorem dX12_reaching_82 : decode cX12_reaching 82 = .ok (.istore 5, 2) := by decide +kernel
theorem dX12_reaching_84 : decode cX12_reaching 84 = .ok (.aload_n 0, 1) := by decide +kernel
theorem dX12_reaching_85 : decode cX12_reaching 85 = .ok (.getfield 99, 3) := by decide +kernel
theorem dX12_reaching_88 : decode cX12_reaching 88 = .ok (.iload 6, 2) := by decide +kernel
theorem dX12_reaching_90 : decode cX12_reaching 90 = .ok (.aload_n 0, 1) := by decide +kernel
theorem dX12_reaching_91 : decode cX12_reaching 91 = .ok (.iload_n 1, 1) := by decide +kernel
theorem dX12_reaching_92 : decode cX12_reaching 92 = .ok (.iload 6, 2) := by decide +kernel
theorem dX12_reaching_94 : decode cX12_reaching 94 = .ok (.invokevirtual 148, 3) := by decide +kernel
theorem dX12_reaching_97 : decode cX12_reaching 97 = .ok (.iastore, 1) := by decide +kernel
theorem dX12_reaching_98 : decode cX12_reaching 98 = .ok (.iinc 6 1, 3) := by decide +kernel
theorem dX12_reaching_101 : decode cX12_reaching 101 = .ok (.goto (-55), 3) := by decide +kernel
theorem dX12_reaching_104 : decode cX12_reaching 104 = .ok (.iload 5, 2) := by decide +kernel
theorem dX12_reaching_106 : decode cX12_reaching 106 = .ok (.iload_n 3, 1) := by decide +kernel
theorem dX12_reaching_107 : decode cX12_reaching 107 = .ok (.if_icmp .eq 9, 3) := by decide +kernel
theorem dX12_reaching_110 : decode cX12_reaching 110 = .ok (.aload_n 0, 1) := by decide +kernel
theorem dX12_reaching_111 : decode cX12_reaching 111 = .ok (.iconst 3, 1) := by decide +kernel
theorem dX12_reaching_112 : decode cX12_reaching 112 = .ok (.invokevirtual 138, 3) := by decide +kernel
theorem dX12_reaching_115 : decode cX12_reaching 115 = .ok (.ireturn, 1) := by decide +kernel
theorem dX12_reaching_116 : decode cX12_reaching 116 = .ok (.aload_n 0, 1) := by decide +kernel
theorem dX12_reaching_117 : decode cX12_reaching 117 = .ok (.invokevirtual 242, 3) := by decide +kernel
theorem dX12_reaching_120 : decode cX12_reaching 120 = .ok (.aload_n 0, 1) := by decide +kernel
theorem dX12_reaching_121 : decode cX12_reaching 121 = .ok (.iload 4, 2) := by decide +kernel
theorem dX12_reaching_123 : decode cX12_reaching 123 = .ok (.invokevirtual 248, 3) := by decide +kernel
theorem dX12_reaching_126 : decode cX12_reaching 126 = .ok (.ireturn, 1) := by decide +kernel
theorem dX12_nextOrder_0 : decode cX12_nextOrder 0 = .ok (.iload_n 1, 1) := by decide +kernel
theorem dX12_nextOrder_1 : decode cX12_nextOrder 1 = .ok (.iconst 2, 1) := by decide +kernel
theorem dX12_nextOrder_2 : decode cX12_nextOrder 2 = .ok (.isub, 1) := by decide +kernel
theorem dX12_nextOrder_3 : decode cX12_nextOrder 3 = .ok (.istore_n 2, 1) := by decide +kernel
theorem dX12_nextOrder_4 : decode cX12_nextOrder 4 = .ok (.iload_n 2, 1) := by decide +kernel
theorem dX12_nextOrder_5 : decode cX12_nextOrder 5 = .ok (.ifCond .lt 26, 3) := by decide +kernel
theorem dX12_nextOrder_8 : decode cX12_nextOrder 8 = .ok (.aload_n 0, 1) := by decide +kernel
theorem dX12_nextOrder_9 : decode cX12_nextOrder 9 = .ok (.getfield 99, 3) := by decide +kernel
theorem dX12_nextOrder_12 : decode cX12_nextOrder 12 = .ok (.iload_n 2, 1) := by decide +kernel
theorem dX12_nextOrder_13 : decode cX12_nextOrder 13 = .ok (.iaload, 1) := by decide +kernel
theorem dX12_nextOrder_14 : decode cX12_nextOrder 14 = .ok (.aload_n 0, 1) := by decide +kernel
theorem dX12_nextOrder_15 : decode cX12_nextOrder 15 = .ok (.getfield 99, 3) := by decide +kernel
theorem dX12_nextOrder_18 : decode cX12_nextOrder 18 = .ok (.iload_n 2, 1) := by decide +kernel
theorem dX12_nextOrder_19 : decode cX12_nextOrder 19 = .ok (.iconst 1, 1) := by decide +kernel
theorem dX12_nextOrder_20 : decode cX12_nextOrder 20 = .ok (.iadd, 1) := by decide +kernel
theorem dX12_nextOrder_21 : decode cX12_nextOrder 21 = .ok (.iaload, 1) := by decide +kernel
theorem dX12_nextOrder_22 : decode cX12_nextOrder 22 = .ok (.if_icmp .le 9, 3) := by decide +kernel
theorem dX12_nextOrder_25 : decode cX12_nextOrder 25 = .ok (.iinc 2 (-1), 3) := by decide +kernel
theorem dX12_nextOrder_28 : decode cX12_nextOrder 28 = .ok (.goto (-24), 3) := by decide +kernel
theorem dX12_nextOrder_31 : decode cX12_nextOrder 31 = .ok (.iload_n 2, 1) := by decide +kernel
theorem dX12_nextOrder_32 : decode cX12_nextOrder 32 = .ok (.ifCond .ge 5, 3) := by decide +kernel
theorem dX12_nextOrder_35 : decode cX12_nextOrder 35 = .ok (.iconst 0, 1) := by decide +kernel
theorem dX12_nextOrder_36 : decode cX12_nextOrder 36 = .ok (.ireturn, 1) := by decide +kernel
theorem dX12_nextOrder_37 : decode cX12_nextOrder 37 = .ok (.iload_n 1, 1) := by decide +kernel
theorem dX12_nextOrder_38 : decode cX12_nextOrder 38 = .ok (.iconst 1, 1) := by decide +kernel
theorem dX12_nextOrder_39 : decode cX12_nextOrder 39 = .ok (.isub, 1) := by decide +kernel
theorem dX12_nextOrder_40 : decode cX12_nextOrder 40 = .ok (.istore_n 3, 1) := by decide +kernel
theorem dX12_nextOrder_41 : decode cX12_nextOrder 41 = .ok (.aload_n 0, 1) := by decide +kernel
theorem dX12_nextOrder_42 : decode cX12_nextOrder 42 = .ok (.getfield 99, 3) := by decide +kernel
theorem dX12_nextOrder_45 : decode cX12_nextOrder 45 = .ok (.iload_n 3, 1) := by decide +kernel
theorem dX12_nextOrder_46 : decode cX12_nextOrder 46 = .ok (.iaload, 1) := by decide +kernel
theorem dX12_nextOrder_47 : decode cX12_nextOrder 47 = .ok (.aload_n 0, 1) := by decide +kernel
theorem dX12_nextOrder_48 : decode cX12_nextOrder 48 = .ok (.getfield 99, 3) := by decide +kernel
theorem dX12_nextOrder_51 : decode cX12_nextOrder 51 = .ok (.iload_n 2, 1) := by decide +kernel
theorem dX12_nextOrder_52 : decode cX12_nextOrder 52 = .ok (.iaload, 1) := by decide +kernel
theorem dX12_nextOrder_53 : decode cX12_nextOrder 53 = .ok (.if_icmp .ge 9, 3) := by decide +kernel
theorem dX12_nextOrder_56 : decode cX12_nextOrder 56 = .ok (.iinc 3 (-1), 3) := by decide +kernel
theorem dX12_nextOrder_59 : decode cX12_nextOrder 59 = .ok (.goto (-18), 3) := by decide +kernel
theorem dX12_nextOrder_62 : decode cX12_nextOrder 62 = .ok (.aload_n 0, 1) := by decide +kernel
theorem dX12_nextOrder_63 : decode cX12_nextOrder 63 = .ok (.iload_n 2, 1) := by decide +kernel
theorem dX12_nextOrder_64 : decode cX12_nextOrder 64 = .ok (.iload_n 3, 1) := by decide +kernel
theorem dX12_nextOrder_65 : decode cX12_nextOrder 65 = .ok (.invokevirtual 251, 3) := by decide +kernel
theorem dX12_nextOrder_68 : decode cX12_nextOrder 68 = .ok (.iload_n 2, 1) := by decide +kernel
theorem dX12_nextOrder_69 : decode cX12_nextOrder 69 = .ok (.iconst 1, 1) := by decide +kernel
theorem dX12_nextOrder_70 : decode cX12_nextOrder 70 = .ok (.iadd, 1) := by decide +kernel
theorem dX12_nextOrder_71 : decode cX12_nextOrder 71 = .ok (.istore 4, 2) := by decide +kernel
theorem dX12_nextOrder_73 : decode cX12_nextOrder 73 = .ok (.iload_n 1, 1) := by decide +kernel
theorem dX12_nextOrder_74 : decode cX12_nextOrder 74 = .ok (.iconst 1, 1) := by decide +kernel
theorem dX12_nextOrder_75 : decode cX12_nextOrder 75 = .ok (.isub, 1) := by decide +kernel
theorem dX12_nextOrder_76 : decode cX12_nextOrder 76 = .ok (.istore 5, 2) := by decide +kernel
theorem dX12_nextOrder_78 : decode cX12_nextOrder 78 = .ok (.iload 4, 2) := by decide +kernel
theorem dX12_nextOrder_80 : decode cX12_nextOrder 80 = .ok (.iload 5, 2) := by decide +kernel
theorem dX12_nextOrder_82 : decode cX12_nextOrder 82 = .ok (.if_icmp .ge 20, 3) := by decide +kernel
theorem dX12_nextOrder_85 : decode cX12_nextOrder 85 = .ok (.aload_n 0, 1) := by decide +kernel
theorem dX12_nextOrder_86 : decode cX12_nextOrder 86 = .ok (.iload 4, 2) := by decide +kernel
theorem dX12_nextOrder_88 : decode cX12_nextOrder 88 = .ok (.iload 5, 2) := by decide +kernel
theorem dX12_nextOrder_90 : decode cX12_nextOrder 90 = .ok (.invokevirtual 251, 3) := by decide +kernel
theorem dX12_nextOrder_93 : decode cX12_nextOrder 93 = .ok (.iinc 4 1, 3) := by decide +kernel
theorem dX12_nextOrder_96 : decode cX12_nextOrder 96 = .ok (.iinc 5 (-1), 3) := by decide +kernel
theorem dX12_nextOrder_99 : decode cX12_nextOrder 99 = .ok (.goto (-21), 3) := by decide +kernel
theorem dX12_nextOrder_102 : decode cX12_nextOrder 102 = .ok (.iconst 1, 1) := by decide +kernel
theorem dX12_nextOrder_103 : decode cX12_nextOrder 103 = .ok (.ireturn, 1) := by decide +kernel
theorem dX12_exchange_0 : decode cX12_exchange 0 = .ok (.aload_n 0, 1) := by decide +kernel
theorem dX12_exchange_1 : decode cX12_exchange 1 = .ok (.getfield 99, 3) := by decide +kernel
theorem dX12_exchange_4 : decode cX12_exchange 4 = .ok (.iload_n 1, 1) := by decide +kernel
theorem dX12_exchange_5 : decode cX12_exchange 5 = .ok (.iaload, 1) := by decide +kernel
theorem dX12_exchange_6 : decode cX12_exchange 6 = .ok (.istore_n 3, 1) := by decide +kernel
theorem dX12_exchange_7 : decode cX12_exchange 7 = .ok (.aload_n 0, 1) := by decide +kernel
theorem dX12_exchange_8 : decode cX12_exchange 8 = .ok (.getfield 99, 3) := by decide +kernel
theorem dX12_exchange_11 : decode cX12_exchange 11 = .ok (.iload_n 1, 1) := by decide +kernel
theorem dX12_exchange_12 : decode cX12_exchange 12 = .ok (.aload_n 0, 1) := by decide +kernel
theorem dX12_exchange_13 : decode cX12_exchange 13 = .ok (.getfield 99, 3) := by decide +kernel
theorem dX12_exchange_16 : decode cX12_exchange 16 = .ok (.iload_n 2, 1) := by decide +kernel
theorem dX12_exchange_17 : decode cX12_exchange 17 = .ok (.iaload, 1) := by decide +kernel
theorem dX12_exchange_18 : decode cX12_exchange 18 = .ok (.iastore, 1) := by decide +kernel
theorem dX12_exchange_19 : decode cX12_exchange 19 = .ok (.aload_n 0, 1) := by decide +kernel
theorem dX12_exchange_20 : decode cX12_exchange 20 = .ok (.getfield 99, 3) := by decide +kernel
theorem dX12_exchange_23 : decode cX12_exchange 23 = .ok (.iload_n 2, 1) := by decide +kernel
theorem dX12_exchange_24 : decode cX12_exchange 24 = .ok (.iload_n 3, 1) := by decide +kernel
theorem dX12_exchange_25 : decode cX12_exchange 25 = .ok (.iastore, 1) := by decide +kernel
theorem dX12_exchange_26 : decode cX12_exchange 26 = .ok (.return_, 1) := by decide +kernel
theorem dX12_trunk_0 : decode cX12_trunk 0 = .ok (.iload_n 1, 1) := by decide +kernel
theorem dX12_trunk_1 : decode cX12_trunk 1 = .ok (.invokestatic 134, 3) := by decide +kernel
theorem dX12_trunk_4 : decode cX12_trunk 4 = .ok (.ifCond .ne 5, 3) := by decide +kernel
theorem dX12_trunk_7 : decode cX12_trunk 7 = .ok (.iconst (-1), 1) := by decide +kernel
theorem dX12_trunk_8 : decode cX12_trunk 8 = .ok (.ireturn, 1) := by decide +kernel
theorem dX12_trunk_9 : decode cX12_trunk 9 = .ok (.aload_n 0, 1) := by decide +kernel
theorem dX12_trunk_10 : decode cX12_trunk 10 = .ok (.invokevirtual 242, 3) := by decide +kernel
theorem dX12_trunk_13 : decode cX12_trunk 13 = .ok (.iconst 0, 1) := by decide +kernel
theorem dX12_trunk_14 : decode cX12_trunk 14 = .ok (.istore_n 2, 1) := by decide +kernel
theorem dX12_trunk_15 : decode cX12_trunk 15 = .ok (.iconst 0, 1) := by decide +kernel
theorem dX12_trunk_16 : decode cX12_trunk 16 = .ok (.istore_n 3, 1) := by decide +kernel
theorem dX12_trunk_17 : decode cX12_trunk 17 = .ok (.iload_n 3, 1) := by decide +kernel
theorem dX12_trunk_18 : decode cX12_trunk 18 = .ok (.bipush 8, 2) := by decide +kernel
theorem dX12_trunk_20 : decode cX12_trunk 20 = .ok (.if_icmp .ge 30, 3) := by decide +kernel
theorem dX12_trunk_23 : decode cX12_trunk 23 = .ok (.aload_n 0, 1) := by decide +kernel
theorem dX12_trunk_24 : decode cX12_trunk 24 = .ok (.invokevirtual 228, 3) := by decide +kernel
theorem dX12_trunk_27 : decode cX12_trunk 27 = .ok (.iload_n 3, 1) := by decide +kernel
theorem dX12_trunk_28 : decode cX12_trunk 28 = .ok (.invokestatic 174, 3) := by decide +kernel
theorem dX12_trunk_31 : decode cX12_trunk 31 = .ok (.ifCond .eq 13, 3) := by decide +kernel
theorem dX12_trunk_34 : decode cX12_trunk 34 = .ok (.aload_n 0, 1) := by decide +kernel
theorem dX12_trunk_35 : decode cX12_trunk 35 = .ok (.getfield 99, 3) := by decide +kernel
theorem dX12_trunk_38 : decode cX12_trunk 38 = .ok (.iload_n 2, 1) := by decide +kernel
theorem dX12_trunk_39 : decode cX12_trunk 39 = .ok (.iload_n 3, 1) := by decide +kernel
theorem dX12_trunk_40 : decode cX12_trunk 40 = .ok (.iastore, 1) := by decide +kernel
theorem dX12_trunk_41 : decode cX12_trunk 41 = .ok (.iinc 2 1, 3) := by decide +kernel
theorem dX12_trunk_44 : decode cX12_trunk 44 = .ok (.iinc 3 1, 3) := by decide +kernel
theorem dX12_trunk_47 : decode cX12_trunk 47 = .ok (.goto (-30), 3) := by decide +kernel
theorem dX12_trunk_50 : decode cX12_trunk 50 = .ok (.ldc 224, 2) := by decide +kernel
theorem dX12_trunk_52 : decode cX12_trunk 52 = .ok (.istore_n 3, 1) := by decide +kernel
theorem dX12_trunk_53 : decode cX12_trunk 53 = .ok (.iconst 1, 1) := by decide +kernel
theorem dX12_trunk_54 : decode cX12_trunk 54 = .ok (.istore 4, 2) := by decide +kernel
theorem dX12_trunk_56 : decode cX12_trunk 56 = .ok (.iload 4, 2) := by decide +kernel
theorem dX12_trunk_58 : decode cX12_trunk 58 = .ok (.ifCond .eq 58, 3) := by decide +kernel
theorem dX12_trunk_61 : decode cX12_trunk 61 = .ok (.aload_n 0, 1) := by decide +kernel
theorem dX12_trunk_62 : decode cX12_trunk 62 = .ok (.iload_n 2, 1) := by decide +kernel
theorem dX12_trunk_63 : decode cX12_trunk 63 = .ok (.invokevirtual 248, 3) := by decide +kernel
theorem dX12_trunk_66 : decode cX12_trunk 66 = .ok (.istore 5, 2) := by decide +kernel
theorem dX12_trunk_68 : decode cX12_trunk 68 = .ok (.iload 5, 2) := by decide +kernel
theorem dX12_trunk_70 : decode cX12_trunk 70 = .ok (.iload_n 3, 1) := by decide +kernel
theorem dX12_trunk_71 : decode cX12_trunk 71 = .ok (.if_icmp .ge 35, 3) := by decide +kernel
theorem dX12_trunk_74 : decode cX12_trunk 74 = .ok (.iload 5, 2) := by decide +kernel
theorem dX12_trunk_76 : decode cX12_trunk 76 = .ok (.istore_n 3, 1) := by decide +kernel
theorem dX12_trunk_77 : decode cX12_trunk 77 = .ok (.iconst 0, 1) := by decide +kernel
theorem dX12_trunk_78 : decode cX12_trunk 78 = .ok (.istore 6, 2) := by decide +kernel
theorem dX12_trunk_80 : decode cX12_trunk 80 = .ok (.iload 6, 2) := by decide +kernel
theorem dX12_trunk_82 : decode cX12_trunk 82 = .ok (.iload_n 2, 1) := by decide +kernel
theorem dX12_trunk_83 : decode cX12_trunk 83 = .ok (.if_icmp .ge 23, 3) := by decide +kernel
theorem dX12_trunk_86 : decode cX12_trunk 86 = .ok (.aload_n 0, 1) := by decide +kernel
theorem dX12_trunk_87 : decode cX12_trunk 87 = .ok (.getfield 23, 3) := by decide +kernel
theorem dX12_trunk_90 : decode cX12_trunk 90 = .ok (.iload 6, 2) := by decide +kernel
theorem dX12_trunk_92 : decode cX12_trunk 92 = .ok (.aload_n 0, 1) := by decide +kernel
theorem dX12_trunk_93 : decode cX12_trunk 93 = .ok (.getfield 99, 3) := by decide +kernel
theorem dX12_trunk_96 : decode cX12_trunk 96 = .ok (.iload 6, 2) := by decide +kernel
theorem dX12_trunk_98 : decode cX12_trunk 98 = .ok (.iaload, 1) := by decide +kernel
theorem dX12_trunk_99 : decode cX12_trunk 99 = .ok (.iastore, 1) := by decide +kernel
theorem dX12_trunk_100 : decode cX12_trunk 100 = .ok (.iinc 6 1, 3) := by decide +kernel
theorem dX12_trunk_103 : decode cX12_trunk 103 = .ok (.goto (-23), 3) := by decide +kernel
theorem dX12_trunk_106 : decode cX12_trunk 106 = .ok (.aload_n 0, 1) := by decide +kernel
theorem dX12_trunk_107 : decode cX12_trunk 107 = .ok (.iload_n 2, 1) := by decide +kernel
theorem dX12_trunk_108 : decode cX12_trunk 108 = .ok (.invokevirtual 255, 3) := by decide +kernel
theorem dX12_trunk_111 : decode cX12_trunk 111 = .ok (.istore 4, 2) := by decide +kernel
theorem dX12_trunk_113 : decode cX12_trunk 113 = .ok (.goto (-57), 3) := by decide +kernel
theorem dX12_trunk_116 : decode cX12_trunk 116 = .ok (.aload_n 0, 1) := by decide +kernel
theorem dX12_trunk_117 : decode cX12_trunk 117 = .ok (.iload_n 1, 1) := by decide +kernel
theorem dX12_trunk_118 : decode cX12_trunk 118 = .ok (.iload_n 2, 1) := by decide +kernel
theorem dX12_trunk_119 : decode cX12_trunk 119 = .ok (.invokevirtual 258, 3) := by decide +kernel
theorem dX12_trunk_122 : decode cX12_trunk 122 = .ok (.pop, 1) := by decide +kernel
theorem dX12_trunk_123 : decode cX12_trunk 123 = .ok (.iconst 0, 1) := by decide +kernel
theorem dX12_trunk_124 : decode cX12_trunk 124 = .ok (.istore 5, 2) := by decide +kernel
theorem dX12_trunk_126 : decode cX12_trunk 126 = .ok (.iload 5, 2) := by decide +kernel
theorem dX12_trunk_128 : decode cX12_trunk 128 = .ok (.iload_n 2, 1) := by decide +kernel
theorem dX12_trunk_129 : decode cX12_trunk 129 = .ok (.if_icmp .ge 28, 3) := by decide +kernel
theorem dX12_trunk_132 : decode cX12_trunk 132 = .ok (.aload_n 0, 1) := by decide +kernel
theorem dX12_trunk_133 : decode cX12_trunk 133 = .ok (.getfield 20, 3) := by decide +kernel
theorem dX12_trunk_136 : decode cX12_trunk 136 = .ok (.bipush 40, 2) := by decide +kernel
theorem dX12_trunk_138 : decode cX12_trunk 138 = .ok (.iload_n 1, 1) := by decide +kernel
theorem dX12_trunk_139 : decode cX12_trunk 139 = .ok (.imul, 1) := by decide +kernel
theorem dX12_trunk_140 : decode cX12_trunk 140 = .ok (.iload 5, 2) := by decide +kernel
theorem dX12_trunk_142 : decode cX12_trunk 142 = .ok (.iadd, 1) := by decide +kernel
theorem dX12_trunk_143 : decode cX12_trunk 143 = .ok (.aload_n 0, 1) := by decide +kernel
theorem dX12_trunk_144 : decode cX12_trunk 144 = .ok (.getfield 23, 3) := by decide +kernel
theorem dX12_trunk_147 : decode cX12_trunk 147 = .ok (.iload 5, 2) := by decide +kernel
theorem dX12_trunk_149 : decode cX12_trunk 149 = .ok (.iaload, 1) := by decide +kernel
theorem dX12_trunk_150 : decode cX12_trunk 150 = .ok (.iastore, 1) := by decide +kernel
theorem dX12_trunk_151 : decode cX12_trunk 151 = .ok (.iinc 5 1, 3) := by decide +kernel
theorem dX12_trunk_154 : decode cX12_trunk 154 = .ok (.goto (-28), 3) := by decide +kernel
theorem dX12_trunk_157 : decode cX12_trunk 157 = .ok (.iload_n 3, 1) := by decide +kernel
theorem dX12_trunk_158 : decode cX12_trunk 158 = .ok (.ireturn, 1) := by decide +kernel
theorem dX12_marksTold_0 : decode cX12_marksTold 0 = .ok (.iconst 0, 1) := by decide +kernel
theorem dX12_marksTold_1 : decode cX12_marksTold 1 = .ok (.istore_n 1, 1) := by decide +kernel
theorem dX12_marksTold_2 : decode cX12_marksTold 2 = .ok (.iconst 0, 1) := by decide +kernel
theorem dX12_marksTold_3 : decode cX12_marksTold 3 = .ok (.istore_n 2, 1) := by decide +kernel
theorem dX12_marksTold_4 : decode cX12_marksTold 4 = .ok (.iload_n 2, 1) := by decide +kernel
theorem dX12_marksTold_5 : decode cX12_marksTold 5 = .ok (.aload_n 0, 1) := by decide +kernel
theorem dX12_marksTold_6 : decode cX12_marksTold 6 = .ok (.getfield 215, 3) := by decide +kernel
theorem dX12_marksTold_9 : decode cX12_marksTold 9 = .ok (.if_icmp .ge 26, 3) := by decide +kernel
theorem dX12_marksTold_12 : decode cX12_marksTold 12 = .ok (.iload_n 1, 1) := by decide +kernel
theorem dX12_marksTold_13 : decode cX12_marksTold 13 = .ok (.aload_n 0, 1) := by decide +kernel
theorem dX12_marksTold_14 : decode cX12_marksTold 14 = .ok (.getfield 78, 3) := by decide +kernel
theorem dX12_marksTold_17 : decode cX12_marksTold 17 = .ok (.iload_n 2, 1) := by decide +kernel
theorem dX12_marksTold_18 : decode cX12_marksTold 18 = .ok (.iaload, 1) := by decide +kernel
theorem dX12_marksTold_19 : decode cX12_marksTold 19 = .ok (.ifCond .lt 7, 3) := by decide +kernel
theorem dX12_marksTold_22 : decode cX12_marksTold 22 = .ok (.iconst 1, 1) := by decide +kernel
theorem dX12_marksTold_23 : decode cX12_marksTold 23 = .ok (.goto 4, 3) := by decide +kernel
theorem dX12_marksTold_26 : decode cX12_marksTold 26 = .ok (.iconst 0, 1) := by decide +kernel
theorem dX12_marksTold_27 : decode cX12_marksTold 27 = .ok (.iadd, 1) := by decide +kernel
theorem dX12_marksTold_28 : decode cX12_marksTold 28 = .ok (.istore_n 1, 1) := by decide +kernel
theorem dX12_marksTold_29 : decode cX12_marksTold 29 = .ok (.iinc 2 1, 3) := by decide +kernel
theorem dX12_marksTold_32 : decode cX12_marksTold 32 = .ok (.goto (-28), 3) := by decide +kernel
theorem dX12_marksTold_35 : decode cX12_marksTold 35 = .ok (.iload_n 1, 1) := by decide +kernel
theorem dX12_marksTold_36 : decode cX12_marksTold 36 = .ok (.ireturn, 1) := by decide +kernel
theorem dX12_markScene_0 : decode cX12_markScene 0 = .ok (.aload_n 0, 1) := by decide +kernel
theorem dX12_markScene_1 : decode cX12_markScene 1 = .ok (.iload_n 1, 1) := by decide +kernel
theorem dX12_markScene_2 : decode cX12_markScene 2 = .ok (.invokevirtual 218, 3) := by decide +kernel
theorem dX12_markScene_5 : decode cX12_markScene 5 = .ok (.ifCond .eq 25, 3) := by decide +kernel
theorem dX12_markScene_8 : decode cX12_markScene 8 = .ok (.iload_n 2, 1) := by decide +kernel
theorem dX12_markScene_9 : decode cX12_markScene 9 = .ok (.iconst 0, 1) := by decide +kernel
theorem dX12_markScene_10 : decode cX12_markScene 10 = .ok (.sipush 999, 3) := by decide +kernel
theorem dX12_markScene_13 : decode cX12_markScene 13 = .ok (.invokestatic 130, 3) := by decide +kernel
theorem dX12_markScene_16 : decode cX12_markScene 16 = .ok (.ifCond .eq 14, 3) := by decide +kernel
theorem dX12_markScene_19 : decode cX12_markScene 19 = .ok (.iload_n 3, 1) := by decide +kernel
theorem dX12_markScene_20 : decode cX12_markScene 20 = .ok (.iload_n 2, 1) := by decide +kernel
theorem dX12_markScene_21 : decode cX12_markScene 21 = .ok (.sipush 999, 3) := by decide +kernel
theorem dX12_markScene_24 : decode cX12_markScene 24 = .ok (.invokestatic 130, 3) := by decide +kernel
theorem dX12_markScene_27 : decode cX12_markScene 27 = .ok (.ifCond .ne 5, 3) := by decide +kernel
theorem dX12_markScene_30 : decode cX12_markScene 30 = .ok (.iconst (-1), 1) := by decide +kernel
theorem dX12_markScene_31 : decode cX12_markScene 31 = .ok (.ireturn, 1) := by decide +kernel
theorem dX12_markScene_32 : decode cX12_markScene 32 = .ok (.aload_n 0, 1) := by decide +kernel
theorem dX12_markScene_33 : decode cX12_markScene 33 = .ok (.getfield 78, 3) := by decide +kernel
theorem dX12_markScene_36 : decode cX12_markScene 36 = .ok (.iload_n 1, 1) := by decide +kernel
theorem dX12_markScene_37 : decode cX12_markScene 37 = .ok (.iaload, 1) := by decide +kernel
theorem dX12_markScene_38 : decode cX12_markScene 38 = .ok (.ifCond .ge 14, 3) := by decide +kernel
theorem dX12_markScene_41 : decode cX12_markScene 41 = .ok (.aload_n 0, 1) := by decide +kernel
theorem dX12_markScene_42 : decode cX12_markScene 42 = .ok (.invokevirtual 261, 3) := by decide +kernel
theorem dX12_markScene_45 : decode cX12_markScene 45 = .ok (.iconst 4, 1) := by decide +kernel
theorem dX12_markScene_46 : decode cX12_markScene 46 = .ok (.if_icmp .ne 6, 3) := by decide +kernel
theorem dX12_markScene_49 : decode cX12_markScene 49 = .ok (.bipush (-2), 2) := by decide +kernel
theorem dX12_markScene_51 : decode cX12_markScene 51 = .ok (.ireturn, 1) := by decide +kernel
theorem dX12_markScene_52 : decode cX12_markScene 52 = .ok (.aload_n 0, 1) := by decide +kernel
theorem dX12_markScene_53 : decode cX12_markScene 53 = .ok (.getfield 78, 3) := by decide +kernel
theorem dX12_markScene_56 : decode cX12_markScene 56 = .ok (.iload_n 1, 1) := by decide +kernel
theorem dX12_markScene_57 : decode cX12_markScene 57 = .ok (.iload_n 2, 1) := by decide +kernel
theorem dX12_markScene_58 : decode cX12_markScene 58 = .ok (.iastore, 1) := by decide +kernel
theorem dX12_markScene_59 : decode cX12_markScene 59 = .ok (.aload_n 0, 1) := by decide +kernel
theorem dX12_markScene_60 : decode cX12_markScene 60 = .ok (.getfield 81, 3) := by decide +kernel
theorem dX12_markScene_63 : decode cX12_markScene 63 = .ok (.iload_n 1, 1) := by decide +kernel
theorem dX12_markScene_64 : decode cX12_markScene 64 = .ok (.iload_n 3, 1) := by decide +kernel
theorem dX12_markScene_65 : decode cX12_markScene 65 = .ok (.iastore, 1) := by decide +kernel
theorem dX12_markScene_66 : decode cX12_markScene 66 = .ok (.aload_n 0, 1) := by decide +kernel
theorem dX12_markScene_67 : decode cX12_markScene 67 = .ok (.invokevirtual 261, 3) := by decide +kernel
theorem dX12_markScene_70 : decode cX12_markScene 70 = .ok (.ireturn, 1) := by decide +kernel
theorem dX12_need_0 : decode cX12_need 0 = .ok (.aload_n 0, 1) := by decide +kernel
theorem dX12_need_1 : decode cX12_need 1 = .ok (.iload_n 1, 1) := by decide +kernel
theorem dX12_need_2 : decode cX12_need 2 = .ok (.invokevirtual 218, 3) := by decide +kernel
theorem dX12_need_5 : decode cX12_need 5 = .ok (.ifCond .eq 23, 3) := by decide +kernel
theorem dX12_need_8 : decode cX12_need 8 = .ok (.iload_n 2, 1) := by decide +kernel
theorem dX12_need_9 : decode cX12_need 9 = .ok (.invokestatic 161, 3) := by decide +kernel
theorem dX12_need_12 : decode cX12_need 12 = .ok (.ifCond .eq 16, 3) := by decide +kernel
theorem dX12_need_15 : decode cX12_need 15 = .ok (.aload_n 0, 1) := by decide +kernel
theorem dX12_need_16 : decode cX12_need 16 = .ok (.getfield 48, 3) := by decide +kernel
theorem dX12_need_19 : decode cX12_need 19 = .ok (.iload_n 1, 1) := by decide +kernel
theorem dX12_need_20 : decode cX12_need 20 = .ok (.iaload, 1) := by decide +kernel
theorem dX12_need_21 : decode cX12_need 21 = .ok (.iload_n 2, 1) := by decide +kernel
theorem dX12_need_22 : decode cX12_need 22 = .ok (.invokestatic 174, 3) := by decide +kernel
theorem dX12_need_25 : decode cX12_need 25 = .ok (.ifCond .ne 5, 3) := by decide +kernel
theorem dX12_need_28 : decode cX12_need 28 = .ok (.iconst (-1), 1) := by decide +kernel
theorem dX12_need_29 : decode cX12_need 29 = .ok (.ireturn, 1) := by decide +kernel
theorem dX12_need_30 : decode cX12_need 30 = .ok (.aload_n 0, 1) := by decide +kernel
theorem dX12_need_31 : decode cX12_need 31 = .ok (.getfield 84, 3) := by decide +kernel
theorem dX12_need_34 : decode cX12_need 34 = .ok (.iload_n 1, 1) := by decide +kernel
theorem dX12_need_35 : decode cX12_need 35 = .ok (.dup2, 1) := by decide +kernel
theorem dX12_need_36 : decode cX12_need 36 = .ok (.iaload, 1) := by decide +kernel
theorem dX12_need_37 : decode cX12_need 37 = .ok (.iconst 1, 1) := by decide +kernel
theorem dX12_need_38 : decode cX12_need 38 = .ok (.iload_n 2, 1) := by decide +kernel
theorem dX12_need_39 : decode cX12_need 39 = .ok (.ishl, 1) := by decide +kernel
theorem dX12_need_40 : decode cX12_need 40 = .ok (.ior, 1) := by decide +kernel
theorem dX12_need_41 : decode cX12_need 41 = .ok (.iastore, 1) := by decide +kernel
theorem dX12_need_42 : decode cX12_need 42 = .ok (.iconst 1, 1) := by decide +kernel
theorem dX12_need_43 : decode cX12_need 43 = .ok (.ireturn, 1) := by decide +kernel
theorem dX12_isCut_0 : decode cX12_isCut 0 = .ok (.iload_n 1, 1) := by decide +kernel
theorem dX12_isCut_1 : decode cX12_isCut 1 = .ok (.iconst 0, 1) := by decide +kernel
theorem dX12_isCut_2 : decode cX12_isCut 2 = .ok (.iconst 1, 1) := by decide +kernel
theorem dX12_isCut_3 : decode cX12_isCut 3 = .ok (.aload_n 0, 1) := by decide +kernel
theorem dX12_isCut_4 : decode cX12_isCut 4 = .ok (.getfield 215, 3) := by decide +kernel
theorem dX12_isCut_7 : decode cX12_isCut 7 = .ok (.ishl, 1) := by decide +kernel
theorem dX12_isCut_8 : decode cX12_isCut 8 = .ok (.iconst 1, 1) := by decide +kernel
theorem dX12_isCut_9 : decode cX12_isCut 9 = .ok (.isub, 1) := by decide +kernel
theorem dX12_isCut_10 : decode cX12_isCut 10 = .ok (.invokestatic 130, 3) := by decide +kernel
theorem dX12_isCut_13 : decode cX12_isCut 13 = .ok (.ireturn, 1) := by decide +kernel
theorem dX12_goes_0 : decode cX12_goes 0 = .ok (.aload_n 0, 1) := by decide +kernel
theorem dX12_goes_1 : decode cX12_goes 1 = .ok (.iconst 0, 1) := by decide +kernel
theorem dX12_goes_2 : decode cX12_goes 2 = .ok (.putfield 264, 3) := by decide +kernel
theorem dX12_goes_5 : decode cX12_goes 5 = .ok (.aload_n 0, 1) := by decide +kernel
theorem dX12_goes_6 : decode cX12_goes 6 = .ok (.iconst 0, 1) := by decide +kernel
theorem dX12_goes_7 : decode cX12_goes 7 = .ok (.putfield 267, 3) := by decide +kernel
theorem dX12_goes_10 : decode cX12_goes 10 = .ok (.iconst 0, 1) := by decide +kernel
theorem dX12_goes_11 : decode cX12_goes 11 = .ok (.istore 5, 2) := by decide +kernel
theorem dX12_goes_13 : decode cX12_goes 13 = .ok (.iload 5, 2) := by decide +kernel
theorem dX12_goes_15 : decode cX12_goes 15 = .ok (.iload_n 2, 1) := by decide +kernel
theorem dX12_goes_16 : decode cX12_goes 16 = .ok (.if_icmp .gt 187, 3) := by decide +kernel
theorem dX12_goes_19 : decode cX12_goes 19 = .ok (.iload 5, 2) := by decide +kernel
theorem dX12_goes_21 : decode cX12_goes 21 = .ok (.aload_n 0, 1) := by decide +kernel
theorem dX12_goes_22 : decode cX12_goes 22 = .ok (.getfield 215, 3) := by decide +kernel
theorem dX12_goes_25 : decode cX12_goes 25 = .ok (.if_icmp .ge 178, 3) := by decide +kernel
theorem dX12_goes_28 : decode cX12_goes 28 = .ok (.iload_n 1, 1) := by decide +kernel
theorem dX12_goes_29 : decode cX12_goes 29 = .ok (.iload 5, 2) := by decide +kernel
theorem dX12_goes_31 : decode cX12_goes 31 = .ok (.invokestatic 174, 3) := by decide +kernel
theorem dX12_goes_34 : decode cX12_goes 34 = .ok (.ifCond .eq 6, 3) := by decide +kernel
theorem dX12_goes_37 : decode cX12_goes 37 = .ok (.goto 160, 3) := by decide +kernel
theorem dX12_goes_40 : decode cX12_goes 40 = .ok (.aload_n 0, 1) := by decide +kernel
theorem dX12_goes_41 : decode cX12_goes 41 = .ok (.getfield 78, 3) := by decide +kernel
theorem dX12_goes_44 : decode cX12_goes 44 = .ok (.iload 5, 2) := by decide +kernel
theorem dX12_goes_46 : decode cX12_goes 46 = .ok (.iaload, 1) := by decide +kernel
theorem dX12_goes_47 : decode cX12_goes 47 = .ok (.ifCond .lt 67, 3) := by decide +kernel
theorem dX12_goes_50 : decode cX12_goes 50 = .ok (.aload_n 0, 1) := by decide +kernel
theorem dX12_goes_51 : decode cX12_goes 51 = .ok (.aload_n 0, 1) := by decide +kernel
theorem dX12_goes_52 : decode cX12_goes 52 = .ok (.getfield 78, 3) := by decide +kernel
theorem dX12_goes_55 : decode cX12_goes 55 = .ok (.iload 5, 2) := by decide +kernel
theorem dX12_goes_57 : decode cX12_goes 57 = .ok (.iaload, 1) := by decide +kernel
theorem dX12_goes_58 : decode cX12_goes 58 = .ok (.aload_n 0, 1) := by decide +kernel
theorem dX12_goes_59 : decode cX12_goes 59 = .ok (.getfield 264, 3) := by decide +kernel
theorem dX12_goes_62 : decode cX12_goes 62 = .ok (.if_icmp .le 13, 3) := by decide +kernel
theorem dX12_goes_65 : decode cX12_goes 65 = .ok (.aload_n 0, 1) := by decide +kernel
theorem dX12_goes_66 : decode cX12_goes 66 = .ok (.getfield 78, 3) := by decide +kernel
theorem dX12_goes_69 : decode cX12_goes 69 = .ok (.iload 5, 2) := by decide +kernel
theorem dX12_goes_71 : decode cX12_goes 71 = .ok (.iaload, 1) := by decide +kernel
theorem dX12_goes_72 : decode cX12_goes 72 = .ok (.goto 7, 3) := by decide +kernel
theorem dX12_goes_75 : decode cX12_goes 75 = .ok (.aload_n 0, 1) := by decide +kernel
theorem dX12_goes_76 : decode cX12_goes 76 = .ok (.getfield 264, 3) := by decide +kernel
theorem dX12_goes_79 : decode cX12_goes 79 = .ok (.putfield 264, 3) := by decide +kernel
theorem dX12_goes_82 : decode cX12_goes 82 = .ok (.aload_n 0, 1) := by decide +kernel
theorem dX12_goes_83 : decode cX12_goes 83 = .ok (.aload_n 0, 1) := by decide +kernel
theorem dX12_goes_84 : decode cX12_goes 84 = .ok (.getfield 81, 3) := by decide +kernel
theorem dX12_goes_87 : decode cX12_goes 87 = .ok (.iload 5, 2) := by decide +kernel
theorem dX12_goes_89 : decode cX12_goes 89 = .ok (.iaload, 1) := by decide +kernel
theorem dX12_goes_90 : decode cX12_goes 90 = .ok (.aload_n 0, 1) := by decide +kernel
theorem dX12_goes_91 : decode cX12_goes 91 = .ok (.getfield 267, 3) := by decide +kernel
theorem dX12_goes_94 : decode cX12_goes 94 = .ok (.if_icmp .ge 13, 3) := by decide +kernel
theorem dX12_goes_97 : decode cX12_goes 97 = .ok (.aload_n 0, 1) := by decide +kernel
theorem dX12_goes_98 : decode cX12_goes 98 = .ok (.getfield 81, 3) := by decide +kernel
theorem dX12_goes_101 : decode cX12_goes 101 = .ok (.iload 5, 2) := by decide +kernel
theorem dX12_goes_103 : decode cX12_goes 103 = .ok (.iaload, 1) := by decide +kernel
theorem dX12_goes_104 : decode cX12_goes 104 = .ok (.goto 7, 3) := by decide +kernel
theorem dX12_goes_107 : decode cX12_goes 107 = .ok (.aload_n 0, 1) := by decide +kernel
theorem dX12_goes_108 : decode cX12_goes 108 = .ok (.getfield 267, 3) := by decide +kernel
theorem dX12_goes_111 : decode cX12_goes 111 = .ok (.putfield 267, 3) := by decide +kernel
theorem dX12_goes_114 : decode cX12_goes 114 = .ok (.aload_n 0, 1) := by decide +kernel
theorem dX12_goes_115 : decode cX12_goes 115 = .ok (.getfield 264, 3) := by decide +kernel
theorem dX12_goes_118 : decode cX12_goes 118 = .ok (.aload_n 0, 1) := by decide +kernel
theorem dX12_goes_119 : decode cX12_goes 119 = .ok (.getfield 267, 3) := by decide +kernel
theorem dX12_goes_122 : decode cX12_goes 122 = .ok (.if_icmp .le 5, 3) := by decide +kernel
theorem dX12_goes_125 : decode cX12_goes 125 = .ok (.iconst 0, 1) := by decide +kernel
theorem dX12_goes_126 : decode cX12_goes 126 = .ok (.ireturn, 1) := by decide +kernel
theorem dX12_goes_127 : decode cX12_goes 127 = .ok (.iload 5, 2) := by decide +kernel
theorem dX12_goes_129 : decode cX12_goes 129 = .ok (.iload_n 2, 1) := by decide +kernel
theorem dX12_goes_130 : decode cX12_goes 130 = .ok (.if_icmp .ge 67, 3) := by decide +kernel
theorem dX12_goes_133 : decode cX12_goes 133 = .ok (.aload_n 0, 1) := by decide +kernel
theorem dX12_goes_134 : decode cX12_goes 134 = .ok (.dup, 1) := by decide +kernel
theorem dX12_goes_135 : decode cX12_goes 135 = .ok (.getfield 264, 3) := by decide +kernel
theorem dX12_goes_138 : decode cX12_goes 138 = .ok (.aload_n 0, 1) := by decide +kernel
theorem dX12_goes_139 : decode cX12_goes 139 = .ok (.getfield 54, 3) := by decide +kernel
theorem dX12_goes_142 : decode cX12_goes 142 = .ok (.iload 5, 2) := by decide +kernel
theorem dX12_goes_144 : decode cX12_goes 144 = .ok (.iaload, 1) := by decide +kernel
theorem dX12_goes_145 : decode cX12_goes 145 = .ok (.iload 5, 2) := by decide +kernel
theorem dX12_goes_147 : decode cX12_goes 147 = .ok (.iload_n 3, 1) := by decide +kernel
theorem dX12_goes_148 : decode cX12_goes 148 = .ok (.if_icmp .ne 8, 3) := by decide +kernel
theorem dX12_goes_151 : decode cX12_goes 151 = .ok (.iload 4, 2) := by decide +kernel
theorem dX12_goes_153 : decode cX12_goes 153 = .ok (.goto 4, 3) := by decide +kernel
theorem dX12_goes_156 : decode cX12_goes 156 = .ok (.iconst 0, 1) := by decide +kernel
theorem dX12_goes_157 : decode cX12_goes 157 = .ok (.iadd, 1) := by decide +kernel
theorem dX12_goes_158 : decode cX12_goes 158 = .ok (.iadd, 1) := by decide +kernel
theorem dX12_goes_159 : decode cX12_goes 159 = .ok (.putfield 264, 3) := by decide +kernel
theorem dX12_goes_162 : decode cX12_goes 162 = .ok (.aload_n 0, 1) := by decide +kernel
theorem dX12_goes_163 : decode cX12_goes 163 = .ok (.dup, 1) := by decide +kernel
theorem dX12_goes_164 : decode cX12_goes 164 = .ok (.getfield 267, 3) := by decide +kernel
theorem dX12_goes_167 : decode cX12_goes 167 = .ok (.iload 5, 2) := by decide +kernel
theorem dX12_goes_169 : decode cX12_goes 169 = .ok (.iload_n 3, 1) := by decide +kernel
theorem dX12_goes_170 : decode cX12_goes 170 = .ok (.if_icmp .ne 16, 3) := by decide +kernel
theorem dX12_goes_173 : decode cX12_goes 173 = .ok (.aload_n 0, 1) := by decide +kernel
theorem dX12_goes_174 : decode cX12_goes 174 = .ok (.getfield 54, 3) := by decide +kernel
theorem dX12_goes_177 : decode cX12_goes 177 = .ok (.iload 5, 2) := by decide +kernel
theorem dX12_goes_179 : decode cX12_goes 179 = .ok (.iaload, 1) := by decide +kernel
theorem dX12_goes_180 : decode cX12_goes 180 = .ok (.iload 4, 2) := by decide +kernel
theorem dX12_goes_182 : decode cX12_goes 182 = .ok (.iadd, 1) := by decide +kernel
theorem dX12_goes_183 : decode cX12_goes 183 = .ok (.goto 10, 3) := by decide +kernel
theorem dX12_goes_186 : decode cX12_goes 186 = .ok (.aload_n 0, 1) := by decide +kernel
theorem dX12_goes_187 : decode cX12_goes 187 = .ok (.getfield 57, 3) := by decide +kernel
theorem dX12_goes_190 : decode cX12_goes 190 = .ok (.iload 5, 2) := by decide +kernel
theorem dX12_goes_192 : decode cX12_goes 192 = .ok (.iaload, 1) := by decide +kernel
theorem dX12_goes_193 : decode cX12_goes 193 = .ok (.iadd, 1) := by decide +kernel
theorem dX12_goes_194 : decode cX12_goes 194 = .ok (.putfield 267, 3) := by decide +kernel
theorem dX12_goes_197 : decode cX12_goes 197 = .ok (.iinc 5 1, 3) := by decide +kernel
theorem dX12_goes_200 : decode cX12_goes 200 = .ok (.goto (-187), 3) := by decide +kernel
theorem dX12_goes_203 : decode cX12_goes 203 = .ok (.iconst 1, 1) := by decide +kernel
theorem dX12_goes_204 : decode cX12_goes 204 = .ok (.ireturn, 1) := by decide +kernel
theorem dX12_mayCut_0 : decode cX12_mayCut 0 = .ok (.iconst 0, 1) := by decide +kernel
theorem dX12_mayCut_1 : decode cX12_mayCut 1 = .ok (.istore_n 2, 1) := by decide +kernel
theorem dX12_mayCut_2 : decode cX12_mayCut 2 = .ok (.iconst 1, 1) := by decide +kernel
theorem dX12_mayCut_3 : decode cX12_mayCut 3 = .ok (.istore_n 3, 1) := by decide +kernel
theorem dX12_mayCut_4 : decode cX12_mayCut 4 = .ok (.iconst 0, 1) := by decide +kernel
theorem dX12_mayCut_5 : decode cX12_mayCut 5 = .ok (.istore 4, 2) := by decide +kernel
theorem dX12_mayCut_7 : decode cX12_mayCut 7 = .ok (.iload 4, 2) := by decide +kernel
theorem dX12_mayCut_9 : decode cX12_mayCut 9 = .ok (.aload_n 0, 1) := by decide +kernel
theorem dX12_mayCut_10 : decode cX12_mayCut 10 = .ok (.getfield 215, 3) := by decide +kernel
theorem dX12_mayCut_13 : decode cX12_mayCut 13 = .ok (.if_icmp .ge 85, 3) := by decide +kernel
theorem dX12_mayCut_16 : decode cX12_mayCut 16 = .ok (.iload_n 1, 1) := by decide +kernel
theorem dX12_mayCut_17 : decode cX12_mayCut 17 = .ok (.iload 4, 2) := by decide +kernel
theorem dX12_mayCut_19 : decode cX12_mayCut 19 = .ok (.invokestatic 174, 3) := by decide +kernel
theorem dX12_mayCut_22 : decode cX12_mayCut 22 = .ok (.ifCond .eq 36, 3) := by decide +kernel
theorem dX12_mayCut_25 : decode cX12_mayCut 25 = .ok (.iload_n 3, 1) := by decide +kernel
theorem dX12_mayCut_26 : decode cX12_mayCut 26 = .ok (.ifCond .eq 27, 3) := by decide +kernel
theorem dX12_mayCut_29 : decode cX12_mayCut 29 = .ok (.aload_n 0, 1) := by decide +kernel
theorem dX12_mayCut_30 : decode cX12_mayCut 30 = .ok (.getfield 60, 3) := by decide +kernel
theorem dX12_mayCut_33 : decode cX12_mayCut 33 = .ok (.iload 4, 2) := by decide +kernel
theorem dX12_mayCut_35 : decode cX12_mayCut 35 = .ok (.iaload, 1) := by decide +kernel
theorem dX12_mayCut_36 : decode cX12_mayCut 36 = .ok (.ifCond .ne 17, 3) := by decide +kernel
theorem dX12_mayCut_39 : decode cX12_mayCut 39 = .ok (.aload_n 0, 1) := by decide +kernel
theorem dX12_mayCut_40 : decode cX12_mayCut 40 = .ok (.getfield 78, 3) := by decide +kernel
theorem dX12_mayCut_43 : decode cX12_mayCut 43 = .ok (.iload 4, 2) := by decide +kernel
theorem dX12_mayCut_45 : decode cX12_mayCut 45 = .ok (.iaload, 1) := by decide +kernel
theorem dX12_mayCut_46 : decode cX12_mayCut 46 = .ok (.ifCond .ge 7, 3) := by decide +kernel
theorem dX12_mayCut_49 : decode cX12_mayCut 49 = .ok (.iconst 1, 1) := by decide +kernel
theorem dX12_mayCut_50 : decode cX12_mayCut 50 = .ok (.goto 4, 3) := by decide +kernel
theorem dX12_mayCut_53 : decode cX12_mayCut 53 = .ok (.iconst 0, 1) := by decide +kernel
theorem dX12_mayCut_54 : decode cX12_mayCut 54 = .ok (.istore_n 3, 1) := by decide +kernel
theorem dX12_mayCut_55 : decode cX12_mayCut 55 = .ok (.goto 37, 3) := by decide +kernel
theorem dX12_mayCut_58 : decode cX12_mayCut 58 = .ok (.iload_n 3, 1) := by decide +kernel
theorem dX12_mayCut_59 : decode cX12_mayCut 59 = .ok (.ifCond .eq 21, 3) := by decide +kernel
theorem dX12_mayCut_62 : decode cX12_mayCut 62 = .ok (.aload_n 0, 1) := by decide +kernel
theorem dX12_mayCut_63 : decode cX12_mayCut 63 = .ok (.getfield 84, 3) := by decide +kernel
theorem dX12_mayCut_66 : decode cX12_mayCut 66 = .ok (.iload 4, 2) := by decide +kernel
theorem dX12_mayCut_68 : decode cX12_mayCut 68 = .ok (.iaload, 1) := by decide +kernel
theorem dX12_mayCut_69 : decode cX12_mayCut 69 = .ok (.iload_n 2, 1) := by decide +kernel
theorem dX12_mayCut_70 : decode cX12_mayCut 70 = .ok (.iconst (-1), 1) := by decide +kernel
theorem dX12_mayCut_71 : decode cX12_mayCut 71 = .ok (.ixor, 1) := by decide +kernel
theorem dX12_mayCut_72 : decode cX12_mayCut 72 = .ok (.iand, 1) := by decide +kernel
theorem dX12_mayCut_73 : decode cX12_mayCut 73 = .ok (.ifCond .ne 7, 3) := by decide +kernel
theorem dX12_mayCut_76 : decode cX12_mayCut 76 = .ok (.iconst 1, 1) := by decide +kernel
theorem dX12_mayCut_77 : decode cX12_mayCut 77 = .ok (.goto 4, 3) := by decide +kernel
theorem dX12_mayCut_80 : decode cX12_mayCut 80 = .ok (.iconst 0, 1) := by decide +kernel
theorem dX12_mayCut_81 : decode cX12_mayCut 81 = .ok (.istore_n 3, 1) := by decide +kernel
theorem dX12_mayCut_82 : decode cX12_mayCut 82 = .ok (.iload_n 2, 1) := by decide +kernel
theorem dX12_mayCut_83 : decode cX12_mayCut 83 = .ok (.aload_n 0, 1) := by decide +kernel
theorem dX12_mayCut_84 : decode cX12_mayCut 84 = .ok (.getfield 48, 3) := by decide +kernel
theorem dX12_mayCut_87 : decode cX12_mayCut 87 = .ok (.iload 4, 2) := by decide +kernel
theorem dX12_mayCut_89 : decode cX12_mayCut 89 = .ok (.iaload, 1) := by decide +kernel
theorem dX12_mayCut_90 : decode cX12_mayCut 90 = .ok (.ior, 1) := by decide +kernel
theorem dX12_mayCut_91 : decode cX12_mayCut 91 = .ok (.istore_n 2, 1) := by decide +kernel
theorem dX12_mayCut_92 : decode cX12_mayCut 92 = .ok (.iinc 4 1, 3) := by decide +kernel
theorem dX12_mayCut_95 : decode cX12_mayCut 95 = .ok (.goto (-88), 3) := by decide +kernel
theorem dX12_mayCut_98 : decode cX12_mayCut 98 = .ok (.iload_n 3, 1) := by decide +kernel
theorem dX12_mayCut_99 : decode cX12_mayCut 99 = .ok (.ireturn, 1) := by decide +kernel
theorem dX12_good_0 : decode cX12_good 0 = .ok (.aload_n 0, 1) := by decide +kernel
theorem dX12_good_1 : decode cX12_good 1 = .ok (.iload_n 1, 1) := by decide +kernel
theorem dX12_good_2 : decode cX12_good 2 = .ok (.invokevirtual 270, 3) := by decide +kernel
theorem dX12_good_5 : decode cX12_good 5 = .ok (.ifCond .ne 7, 3) := by decide +kernel
theorem dX12_good_8 : decode cX12_good 8 = .ok (.iconst (-1), 1) := by decide +kernel
theorem dX12_good_9 : decode cX12_good 9 = .ok (.goto 31, 3) := by decide +kernel
theorem dX12_good_12 : decode cX12_good 12 = .ok (.aload_n 0, 1) := by decide +kernel
theorem dX12_good_13 : decode cX12_good 13 = .ok (.iload_n 1, 1) := by decide +kernel
theorem dX12_good_14 : decode cX12_good 14 = .ok (.invokevirtual 273, 3) := by decide +kernel
theorem dX12_good_17 : decode cX12_good 17 = .ok (.ifCond .eq 22, 3) := by decide +kernel
theorem dX12_good_20 : decode cX12_good 20 = .ok (.aload_n 0, 1) := by decide +kernel
theorem dX12_good_21 : decode cX12_good 21 = .ok (.iload_n 1, 1) := by decide +kernel
theorem dX12_good_22 : decode cX12_good 22 = .ok (.aload_n 0, 1) := by decide +kernel
theorem dX12_good_23 : decode cX12_good 23 = .ok (.getfield 215, 3) := by decide +kernel
theorem dX12_good_26 : decode cX12_good 26 = .ok (.bipush (-9), 2) := by decide +kernel
theorem dX12_good_28 : decode cX12_good 28 = .ok (.iconst 0, 1) := by decide +kernel
theorem dX12_good_29 : decode cX12_good 29 = .ok (.invokevirtual 276, 3) := by decide +kernel
theorem dX12_good_32 : decode cX12_good 32 = .ok (.ifCond .eq 7, 3) := by decide +kernel
theorem dX12_good_35 : decode cX12_good 35 = .ok (.iconst 1, 1) := by decide +kernel
theorem dX12_good_36 : decode cX12_good 36 = .ok (.goto 4, 3) := by decide +kernel
theorem dX12_good_39 : decode cX12_good 39 = .ok (.iconst 0, 1) := by decide +kernel
theorem dX12_good_40 : decode cX12_good 40 = .ok (.ireturn, 1) := by decide +kernel
theorem dX12_lengthOf_0 : decode cX12_lengthOf 0 = .ok (.iconst 0, 1) := by decide +kernel
theorem dX12_lengthOf_1 : decode cX12_lengthOf 1 = .ok (.istore_n 2, 1) := by decide +kernel
theorem dX12_lengthOf_2 : decode cX12_lengthOf 2 = .ok (.iconst 0, 1) := by decide +kernel
theorem dX12_lengthOf_3 : decode cX12_lengthOf 3 = .ok (.istore_n 3, 1) := by decide +kernel
theorem dX12_lengthOf_4 : decode cX12_lengthOf 4 = .ok (.iload_n 3, 1) := by decide +kernel
theorem dX12_lengthOf_5 : decode cX12_lengthOf 5 = .ok (.aload_n 0, 1) := by decide +kernel
theorem dX12_lengthOf_6 : decode cX12_lengthOf 6 = .ok (.getfield 215, 3) := by decide +kernel
theorem dX12_lengthOf_9 : decode cX12_lengthOf 9 = .ok (.if_icmp .ge 30, 3) := by decide +kernel
theorem dX12_lengthOf_12 : decode cX12_lengthOf 12 = .ok (.iload_n 2, 1) := by decide +kernel
theorem dX12_lengthOf_13 : decode cX12_lengthOf 13 = .ok (.iload_n 1, 1) := by decide +kernel
theorem dX12_lengthOf_14 : decode cX12_lengthOf 14 = .ok (.iload_n 3, 1) := by decide +kernel
theorem dX12_lengthOf_15 : decode cX12_lengthOf 15 = .ok (.invokestatic 174, 3) := by decide +kernel
theorem dX12_lengthOf_18 : decode cX12_lengthOf 18 = .ok (.ifCond .eq 12, 3) := by decide +kernel
theorem dX12_lengthOf_21 : decode cX12_lengthOf 21 = .ok (.aload_n 0, 1) := by decide +kernel
theorem dX12_lengthOf_22 : decode cX12_lengthOf 22 = .ok (.getfield 54, 3) := by decide +kernel
theorem dX12_lengthOf_25 : decode cX12_lengthOf 25 = .ok (.iload_n 3, 1) := by decide +kernel
theorem dX12_lengthOf_26 : decode cX12_lengthOf 26 = .ok (.iaload, 1) := by decide +kernel
theorem dX12_lengthOf_27 : decode cX12_lengthOf 27 = .ok (.goto 4, 3) := by decide +kernel
theorem dX12_lengthOf_30 : decode cX12_lengthOf 30 = .ok (.iconst 0, 1) := by decide +kernel
theorem dX12_lengthOf_31 : decode cX12_lengthOf 31 = .ok (.iadd, 1) := by decide +kernel
theorem dX12_lengthOf_32 : decode cX12_lengthOf 32 = .ok (.istore_n 2, 1) := by decide +kernel
theorem dX12_lengthOf_33 : decode cX12_lengthOf 33 = .ok (.iinc 3 1, 3) := by decide +kernel
theorem dX12_lengthOf_36 : decode cX12_lengthOf 36 = .ok (.goto (-32), 3) := by decide +kernel
theorem dX12_lengthOf_39 : decode cX12_lengthOf 39 = .ok (.iload_n 2, 1) := by decide +kernel
theorem dX12_lengthOf_40 : decode cX12_lengthOf 40 = .ok (.ireturn, 1) := by decide +kernel
theorem dX12_best_0 : decode cX12_best 0 = .ok (.bipush (-9), 2) := by decide +kernel
theorem dX12_best_2 : decode cX12_best 2 = .ok (.istore_n 1, 1) := by decide +kernel
theorem dX12_best_3 : decode cX12_best 3 = .ok (.iconst 0, 1) := by decide +kernel
theorem dX12_best_4 : decode cX12_best 4 = .ok (.istore_n 2, 1) := by decide +kernel
theorem dX12_best_5 : decode cX12_best 5 = .ok (.iconst 0, 1) := by decide +kernel
theorem dX12_best_6 : decode cX12_best 6 = .ok (.istore_n 3, 1) := by decide +kernel
theorem dX12_best_7 : decode cX12_best 7 = .ok (.iload_n 3, 1) := by decide +kernel
theorem dX12_best_8 : decode cX12_best 8 = .ok (.iconst 1, 1) := by decide +kernel
theorem dX12_best_9 : decode cX12_best 9 = .ok (.aload_n 0, 1) := by decide +kernel
theorem dX12_best_10 : decode cX12_best 10 = .ok (.getfield 215, 3) := by decide +kernel
theorem dX12_best_13 : decode cX12_best 13 = .ok (.ishl, 1) := by decide +kernel
theorem dX12_best_14 : decode cX12_best 14 = .ok (.if_icmp .ge 53, 3) := by decide +kernel
theorem dX12_best_17 : decode cX12_best 17 = .ok (.aload_n 0, 1) := by decide +kernel
theorem dX12_best_18 : decode cX12_best 18 = .ok (.iload_n 3, 1) := by decide +kernel
theorem dX12_best_19 : decode cX12_best 19 = .ok (.invokevirtual 273, 3) := by decide +kernel
theorem dX12_best_22 : decode cX12_best 22 = .ok (.ifCond .eq 39, 3) := by decide +kernel
theorem dX12_best_25 : decode cX12_best 25 = .ok (.aload_n 0, 1) := by decide +kernel
theorem dX12_best_26 : decode cX12_best 26 = .ok (.iload_n 3, 1) := by decide +kernel
theorem dX12_best_27 : decode cX12_best 27 = .ok (.aload_n 0, 1) := by decide +kernel
theorem dX12_best_28 : decode cX12_best 28 = .ok (.getfield 215, 3) := by decide +kernel
theorem dX12_best_31 : decode cX12_best 31 = .ok (.bipush (-9), 2) := by decide +kernel
theorem dX12_best_33 : decode cX12_best 33 = .ok (.iconst 0, 1) := by decide +kernel
theorem dX12_best_34 : decode cX12_best 34 = .ok (.invokevirtual 276, 3) := by decide +kernel
theorem dX12_best_37 : decode cX12_best 37 = .ok (.ifCond .eq 24, 3) := by decide +kernel
theorem dX12_best_40 : decode cX12_best 40 = .ok (.iload_n 1, 1) := by decide +kernel
theorem dX12_best_41 : decode cX12_best 41 = .ok (.ifCond .lt 12, 3) := by decide +kernel
theorem dX12_best_44 : decode cX12_best 44 = .ok (.aload_n 0, 1) := by decide +kernel
theorem dX12_best_45 : decode cX12_best 45 = .ok (.iload_n 3, 1) := by decide +kernel
theorem dX12_best_46 : decode cX12_best 46 = .ok (.invokevirtual 280, 3) := by decide +kernel
theorem dX12_best_49 : decode cX12_best 49 = .ok (.iload_n 2, 1) := by decide +kernel
theorem dX12_best_50 : decode cX12_best 50 = .ok (.if_icmp .ge 11, 3) := by decide +kernel
theorem dX12_best_53 : decode cX12_best 53 = .ok (.iload_n 3, 1) := by decide +kernel
theorem dX12_best_54 : decode cX12_best 54 = .ok (.istore_n 1, 1) := by decide +kernel
theorem dX12_best_55 : decode cX12_best 55 = .ok (.aload_n 0, 1) := by decide +kernel
theorem dX12_best_56 : decode cX12_best 56 = .ok (.iload_n 3, 1) := by decide +kernel
theorem dX12_best_57 : decode cX12_best 57 = .ok (.invokevirtual 280, 3) := by decide +kernel
theorem dX12_best_60 : decode cX12_best 60 = .ok (.istore_n 2, 1) := by decide +kernel
theorem dX12_best_61 : decode cX12_best 61 = .ok (.iinc 3 1, 3) := by decide +kernel
theorem dX12_best_64 : decode cX12_best 64 = .ok (.goto (-57), 3) := by decide +kernel
theorem dX12_best_67 : decode cX12_best 67 = .ok (.iload_n 1, 1) := by decide +kernel
theorem dX12_best_68 : decode cX12_best 68 = .ok (.ifCond .ge 8, 3) := by decide +kernel
theorem dX12_best_71 : decode cX12_best 71 = .ok (.bipush (-9), 2) := by decide +kernel
theorem dX12_best_73 : decode cX12_best 73 = .ok (.goto 9, 3) := by decide +kernel
theorem dX12_best_76 : decode cX12_best 76 = .ok (.aload_n 0, 1) := by decide +kernel
theorem dX12_best_77 : decode cX12_best 77 = .ok (.iload_n 2, 1) := by decide +kernel
theorem dX12_best_78 : decode cX12_best 78 = .ok (.iload_n 1, 1) := by decide +kernel
theorem dX12_best_79 : decode cX12_best 79 = .ok (.invokevirtual 152, 3) := by decide +kernel
theorem dX12_best_82 : decode cX12_best 82 = .ok (.ireturn, 1) := by decide +kernel
theorem dX12_begins_0 : decode cX12_begins 0 = .ok (.aload_n 0, 1) := by decide +kernel
theorem dX12_begins_1 : decode cX12_begins 1 = .ok (.iload_n 1, 1) := by decide +kernel
theorem dX12_begins_2 : decode cX12_begins 2 = .ok (.invokevirtual 270, 3) := by decide +kernel
theorem dX12_begins_5 : decode cX12_begins 5 = .ok (.ifCond .eq 11, 3) := by decide +kernel
theorem dX12_begins_8 : decode cX12_begins 8 = .ok (.aload_n 0, 1) := by decide +kernel
theorem dX12_begins_9 : decode cX12_begins 9 = .ok (.iload_n 2, 1) := by decide +kernel
theorem dX12_begins_10 : decode cX12_begins 10 = .ok (.invokevirtual 218, 3) := by decide +kernel
theorem dX12_begins_13 : decode cX12_begins 13 = .ok (.ifCond .ne 5, 3) := by decide +kernel
theorem dX12_begins_16 : decode cX12_begins 16 = .ok (.iconst (-1), 1) := by decide +kernel
theorem dX12_begins_17 : decode cX12_begins 17 = .ok (.ireturn, 1) := by decide +kernel
theorem dX12_begins_18 : decode cX12_begins 18 = .ok (.iload_n 1, 1) := by decide +kernel
theorem dX12_begins_19 : decode cX12_begins 19 = .ok (.iload_n 2, 1) := by decide +kernel
theorem dX12_begins_20 : decode cX12_begins 20 = .ok (.invokestatic 174, 3) := by decide +kernel
theorem dX12_begins_23 : decode cX12_begins 23 = .ok (.ifCond .ne 15, 3) := by decide +kernel
theorem dX12_begins_26 : decode cX12_begins 26 = .ok (.aload_n 0, 1) := by decide +kernel
theorem dX12_begins_27 : decode cX12_begins 27 = .ok (.iload_n 1, 1) := by decide +kernel
theorem dX12_begins_28 : decode cX12_begins 28 = .ok (.iload_n 2, 1) := by decide +kernel
theorem dX12_begins_29 : decode cX12_begins 29 = .ok (.bipush (-9), 2) := by decide +kernel
theorem dX12_begins_31 : decode cX12_begins 31 = .ok (.iconst 0, 1) := by decide +kernel
theorem dX12_begins_32 : decode cX12_begins 32 = .ok (.invokevirtual 276, 3) := by decide +kernel
theorem dX12_begins_35 : decode cX12_begins 35 = .ok (.ifCond .ne 8, 3) := by decide +kernel
theorem dX12_begins_38 : decode cX12_begins 38 = .ok (.bipush (-9), 2) := by decide +kernel
theorem dX12_begins_40 : decode cX12_begins 40 = .ok (.goto 15, 3) := by decide +kernel
theorem dX12_begins_43 : decode cX12_begins 43 = .ok (.aload_n 0, 1) := by decide +kernel
theorem dX12_begins_44 : decode cX12_begins 44 = .ok (.aload_n 0, 1) := by decide +kernel
theorem dX12_begins_45 : decode cX12_begins 45 = .ok (.getfield 267, 3) := by decide +kernel
theorem dX12_begins_48 : decode cX12_begins 48 = .ok (.aload_n 0, 1) := by decide +kernel
theorem dX12_begins_49 : decode cX12_begins 49 = .ok (.getfield 264, 3) := by decide +kernel
theorem dX12_begins_52 : decode cX12_begins 52 = .ok (.invokevirtual 152, 3) := by decide +kernel
theorem dX12_begins_55 : decode cX12_begins 55 = .ok (.ireturn, 1) := by decide +kernel
theorem dX12_laughter_0 : decode cX12_laughter 0 = .ok (.aload_n 0, 1) := by decide +kernel
theorem dX12_laughter_1 : decode cX12_laughter 1 = .ok (.iload_n 1, 1) := by decide +kernel
theorem dX12_laughter_2 : decode cX12_laughter 2 = .ok (.invokevirtual 270, 3) := by decide +kernel
theorem dX12_laughter_5 : decode cX12_laughter 5 = .ok (.ifCond .eq 19, 3) := by decide +kernel
theorem dX12_laughter_8 : decode cX12_laughter 8 = .ok (.aload_n 0, 1) := by decide +kernel
theorem dX12_laughter_9 : decode cX12_laughter 9 = .ok (.iload_n 2, 1) := by decide +kernel
theorem dX12_laughter_10 : decode cX12_laughter 10 = .ok (.invokevirtual 218, 3) := by decide +kernel
theorem dX12_laughter_13 : decode cX12_laughter 13 = .ok (.ifCond .eq 11, 3) := by decide +kernel
theorem dX12_laughter_16 : decode cX12_laughter 16 = .ok (.iload_n 1, 1) := by decide +kernel
theorem dX12_laughter_17 : decode cX12_laughter 17 = .ok (.iload_n 2, 1) := by decide +kernel
theorem dX12_laughter_18 : decode cX12_laughter 18 = .ok (.invokestatic 174, 3) := by decide +kernel
theorem dX12_laughter_21 : decode cX12_laughter 21 = .ok (.ifCond .eq 5, 3) := by decide +kernel
theorem dX12_laughter_24 : decode cX12_laughter 24 = .ok (.iconst (-1), 1) := by decide +kernel
theorem dX12_laughter_25 : decode cX12_laughter 25 = .ok (.ireturn, 1) := by decide +kernel
theorem dX12_laughter_26 : decode cX12_laughter 26 = .ok (.aload_n 0, 1) := by decide +kernel
theorem dX12_laughter_27 : decode cX12_laughter 27 = .ok (.iload_n 1, 1) := by decide +kernel
theorem dX12_laughter_28 : decode cX12_laughter 28 = .ok (.invokevirtual 273, 3) := by decide +kernel
theorem dX12_laughter_31 : decode cX12_laughter 31 = .ok (.ifCond .ne 6, 3) := by decide +kernel
theorem dX12_laughter_34 : decode cX12_laughter 34 = .ok (.bipush (-9), 2) := by decide +kernel
theorem dX12_laughter_36 : decode cX12_laughter 36 = .ok (.ireturn, 1) := by decide +kernel
theorem dX12_laughter_37 : decode cX12_laughter 37 = .ok (.bipush 99, 2) := by decide +kernel
theorem dX12_laughter_39 : decode cX12_laughter 39 = .ok (.istore_n 3, 1) := by decide +kernel
theorem dX12_laughter_40 : decode cX12_laughter 40 = .ok (.iload_n 3, 1) := by decide +kernel
theorem dX12_laughter_41 : decode cX12_laughter 41 = .ok (.ifCond .lt 23, 3) := by decide +kernel
theorem dX12_laughter_44 : decode cX12_laughter 44 = .ok (.aload_n 0, 1) := by decide +kernel
theorem dX12_laughter_45 : decode cX12_laughter 45 = .ok (.iload_n 1, 1) := by decide +kernel
theorem dX12_laughter_46 : decode cX12_laughter 46 = .ok (.aload_n 0, 1) := by decide +kernel
theorem dX12_laughter_47 : decode cX12_laughter 47 = .ok (.getfield 215, 3) := by decide +kernel
theorem dX12_laughter_50 : decode cX12_laughter 50 = .ok (.iload_n 2, 1) := by decide +kernel
theorem dX12_laughter_51 : decode cX12_laughter 51 = .ok (.iload_n 3, 1) := by decide +kernel
theorem dX12_laughter_52 : decode cX12_laughter 52 = .ok (.invokevirtual 276, 3) := by decide +kernel
theorem dX12_laughter_55 : decode cX12_laughter 55 = .ok (.ifCond .ne 9, 3) := by decide +kernel
theorem dX12_laughter_58 : decode cX12_laughter 58 = .ok (.iinc 3 (-1), 3) := by decide +kernel
theorem dX12_laughter_61 : decode cX12_laughter 61 = .ok (.goto (-21), 3) := by decide +kernel
theorem dX12_laughter_64 : decode cX12_laughter 64 = .ok (.iload_n 3, 1) := by decide +kernel
theorem dX12_laughter_65 : decode cX12_laughter 65 = .ok (.ifCond .ge 8, 3) := by decide +kernel
theorem dX12_laughter_68 : decode cX12_laughter 68 = .ok (.bipush (-9), 2) := by decide +kernel
theorem dX12_laughter_70 : decode cX12_laughter 70 = .ok (.goto 4, 3) := by decide +kernel
theorem dX12_laughter_73 : decode cX12_laughter 73 = .ok (.iload_n 3, 1) := by decide +kernel
theorem dX12_laughter_74 : decode cX12_laughter 74 = .ok (.ireturn, 1) := by decide +kernel
theorem dX12_tale_0 : decode cX12_tale 0 = .ok (.iload_n 1, 1) := by decide +kernel
theorem dX12_tale_1 : decode cX12_tale 1 = .ok (.iconst 0, 1) := by decide +kernel
theorem dX12_tale_2 : decode cX12_tale 2 = .ok (.sipush 255, 3) := by decide +kernel
theorem dX12_tale_5 : decode cX12_tale 5 = .ok (.invokestatic 130, 3) := by decide +kernel
theorem dX12_tale_8 : decode cX12_tale 8 = .ok (.ifCond .ne 5, 3) := by decide +kernel
theorem dX12_tale_11 : decode cX12_tale 11 = .ok (.iconst (-1), 1) := by decide +kernel
theorem dX12_tale_12 : decode cX12_tale 12 = .ok (.ireturn, 1) := by decide +kernel
theorem dX12_tale_13 : decode cX12_tale 13 = .ok (.bipush (-9), 2) := by decide +kernel
theorem dX12_tale_15 : decode cX12_tale 15 = .ok (.istore_n 2, 1) := by decide +kernel
theorem dX12_tale_16 : decode cX12_tale 16 = .ok (.iconst 0, 1) := by decide +kernel
theorem dX12_tale_17 : decode cX12_tale 17 = .ok (.istore_n 3, 1) := by decide +kernel
theorem dX12_tale_18 : decode cX12_tale 18 = .ok (.iconst 0, 1) := by decide +kernel
theorem dX12_tale_19 : decode cX12_tale 19 = .ok (.istore 4, 2) := by decide +kernel
theorem dX12_tale_21 : decode cX12_tale 21 = .ok (.iload 4, 2) := by decide +kernel
theorem dX12_tale_23 : decode cX12_tale 23 = .ok (.iconst 1, 1) := by decide +kernel
theorem dX12_tale_24 : decode cX12_tale 24 = .ok (.aload_n 0, 1) := by decide +kernel
theorem dX12_tale_25 : decode cX12_tale 25 = .ok (.getfield 215, 3) := by decide +kernel
theorem dX12_tale_28 : decode cX12_tale 28 = .ok (.ishl, 1) := by decide +kernel
theorem dX12_tale_29 : decode cX12_tale 29 = .ok (.if_icmp .ge 99, 3) := by decide +kernel
theorem dX12_tale_32 : decode cX12_tale 32 = .ok (.iconst 0, 1) := by decide +kernel
theorem dX12_tale_33 : decode cX12_tale 33 = .ok (.istore 5, 2) := by decide +kernel
theorem dX12_tale_35 : decode cX12_tale 35 = .ok (.iconst 0, 1) := by decide +kernel
theorem dX12_tale_36 : decode cX12_tale 36 = .ok (.istore 6, 2) := by decide +kernel
theorem dX12_tale_38 : decode cX12_tale 38 = .ok (.iload 6, 2) := by decide +kernel
theorem dX12_tale_40 : decode cX12_tale 40 = .ok (.aload_n 0, 1) := by decide +kernel
theorem dX12_tale_41 : decode cX12_tale 41 = .ok (.getfield 215, 3) := by decide +kernel
theorem dX12_tale_44 : decode cX12_tale 44 = .ok (.if_icmp .ge 35, 3) := by decide +kernel
theorem dX12_tale_47 : decode cX12_tale 47 = .ok (.iload 5, 2) := by decide +kernel
theorem dX12_tale_49 : decode cX12_tale 49 = .ok (.iload 4, 2) := by decide +kernel
theorem dX12_tale_51 : decode cX12_tale 51 = .ok (.iload 6, 2) := by decide +kernel
theorem dX12_tale_53 : decode cX12_tale 53 = .ok (.invokestatic 174, 3) := by decide +kernel
theorem dX12_tale_56 : decode cX12_tale 56 = .ok (.ifCond .eq 13, 3) := by decide +kernel
theorem dX12_tale_59 : decode cX12_tale 59 = .ok (.aload_n 0, 1) := by decide +kernel
theorem dX12_tale_60 : decode cX12_tale 60 = .ok (.getfield 48, 3) := by decide +kernel
theorem dX12_tale_63 : decode cX12_tale 63 = .ok (.iload 6, 2) := by decide +kernel
theorem dX12_tale_65 : decode cX12_tale 65 = .ok (.iaload, 1) := by decide +kernel
theorem dX12_tale_66 : decode cX12_tale 66 = .ok (.goto 4, 3) := by decide +kernel
theorem dX12_tale_69 : decode cX12_tale 69 = .ok (.iconst 0, 1) := by decide +kernel
theorem dX12_tale_70 : decode cX12_tale 70 = .ok (.ior, 1) := by decide +kernel
theorem dX12_tale_71 : decode cX12_tale 71 = .ok (.istore 5, 2) := by decide +kernel
theorem dX12_tale_73 : decode cX12_tale 73 = .ok (.iinc 6 1, 3) := by decide +kernel
theorem dX12_tale_76 : decode cX12_tale 76 = .ok (.goto (-38), 3) := by decide +kernel
theorem dX12_tale_79 : decode cX12_tale 79 = .ok (.sipush 10000, 3) := by decide +kernel
theorem dX12_tale_82 : decode cX12_tale 82 = .ok (.iload 4, 2) := by decide +kernel
theorem dX12_tale_84 : decode cX12_tale 84 = .ok (.invokestatic 168, 3) := by decide +kernel
theorem dX12_tale_87 : decode cX12_tale 87 = .ok (.imul, 1) := by decide +kernel
theorem dX12_tale_88 : decode cX12_tale 88 = .ok (.aload_n 0, 1) := by decide +kernel
theorem dX12_tale_89 : decode cX12_tale 89 = .ok (.iload 4, 2) := by decide +kernel
theorem dX12_tale_91 : decode cX12_tale 91 = .ok (.invokevirtual 280, 3) := by decide +kernel
theorem dX12_tale_94 : decode cX12_tale 94 = .ok (.iadd, 1) := by decide +kernel
theorem dX12_tale_95 : decode cX12_tale 95 = .ok (.istore 6, 2) := by decide +kernel
theorem dX12_tale_97 : decode cX12_tale 97 = .ok (.iload_n 1, 1) := by decide +kernel
theorem dX12_tale_98 : decode cX12_tale 98 = .ok (.iload 5, 2) := by decide +kernel
theorem dX12_tale_100 : decode cX12_tale 100 = .ok (.iconst (-1), 1) := by decide +kernel
theorem dX12_tale_101 : decode cX12_tale 101 = .ok (.ixor, 1) := by decide +kernel
theorem dX12_tale_102 : decode cX12_tale 102 = .ok (.iand, 1) := by decide +kernel
theorem dX12_tale_103 : decode cX12_tale 103 = .ok (.ifCond .ne 19, 3) := by decide +kernel
theorem dX12_tale_106 : decode cX12_tale 106 = .ok (.iload_n 2, 1) := by decide +kernel
theorem dX12_tale_107 : decode cX12_tale 107 = .ok (.ifCond .lt 9, 3) := by decide +kernel
theorem dX12_tale_110 : decode cX12_tale 110 = .ok (.iload 6, 2) := by decide +kernel
theorem dX12_tale_112 : decode cX12_tale 112 = .ok (.iload_n 3, 1) := by decide +kernel
theorem dX12_tale_113 : decode cX12_tale 113 = .ok (.if_icmp .ge 9, 3) := by decide +kernel
theorem dX12_tale_116 : decode cX12_tale 116 = .ok (.iload 4, 2) := by decide +kernel
theorem dX12_tale_118 : decode cX12_tale 118 = .ok (.istore_n 2, 1) := by decide +kernel
theorem dX12_tale_119 : decode cX12_tale 119 = .ok (.iload 6, 2) := by decide +kernel
theorem dX12_tale_121 : decode cX12_tale 121 = .ok (.istore_n 3, 1) := by decide +kernel
theorem dX12_tale_122 : decode cX12_tale 122 = .ok (.iinc 4 1, 3) := by decide +kernel
theorem dX12_tale_125 : decode cX12_tale 125 = .ok (.goto (-104), 3) := by decide +kernel
theorem dX12_tale_128 : decode cX12_tale 128 = .ok (.iload_n 2, 1) := by decide +kernel
theorem dX12_tale_129 : decode cX12_tale 129 = .ok (.ifCond .ge 8, 3) := by decide +kernel
theorem dX12_tale_132 : decode cX12_tale 132 = .ok (.bipush (-9), 2) := by decide +kernel
theorem dX12_tale_134 : decode cX12_tale 134 = .ok (.goto 13, 3) := by decide +kernel
theorem dX12_tale_137 : decode cX12_tale 137 = .ok (.aload_n 0, 1) := by decide +kernel
theorem dX12_tale_138 : decode cX12_tale 138 = .ok (.iload_n 3, 1) := by decide +kernel
theorem dX12_tale_139 : decode cX12_tale 139 = .ok (.sipush 10000, 3) := by decide +kernel
theorem dX12_tale_142 : decode cX12_tale 142 = .ok (.irem, 1) := by decide +kernel
theorem dX12_tale_143 : decode cX12_tale 143 = .ok (.iload_n 2, 1) := by decide +kernel
theorem dX12_tale_144 : decode cX12_tale 144 = .ok (.invokevirtual 152, 3) := by decide +kernel
theorem dX12_tale_147 : decode cX12_tale 147 = .ok (.ireturn, 1) := by decide +kernel
theorem dX12_knock_0 : decode cX12_knock 0 = .ok (.iload_n 1, 1) := by decide +kernel
theorem dX12_knock_1 : decode cX12_knock 1 = .ok (.iconst 0, 1) := by decide +kernel
theorem dX12_knock_2 : decode cX12_knock 2 = .ok (.bipush 7, 2) := by decide +kernel
theorem dX12_knock_4 : decode cX12_knock 4 = .ok (.invokestatic 130, 3) := by decide +kernel
theorem dX12_knock_7 : decode cX12_knock 7 = .ok (.ifCond .eq 16, 3) := by decide +kernel
theorem dX12_knock_10 : decode cX12_knock 10 = .ok (.iload_n 2, 1) := by decide +kernel
theorem dX12_knock_11 : decode cX12_knock 11 = .ok (.bipush (-9), 2) := by decide +kernel
theorem dX12_knock_13 : decode cX12_knock 13 = .ok (.if_icmp .eq 12, 3) := by decide +kernel
theorem dX12_knock_16 : decode cX12_knock 16 = .ok (.iload_n 2, 1) := by decide +kernel
theorem dX12_knock_17 : decode cX12_knock 17 = .ok (.invokestatic 134, 3) := by decide +kernel
theorem dX12_knock_20 : decode cX12_knock 20 = .ok (.ifCond .ne 5, 3) := by decide +kernel
theorem dX12_knock_23 : decode cX12_knock 23 = .ok (.iconst (-1), 1) := by decide +kernel
theorem dX12_knock_24 : decode cX12_knock 24 = .ok (.ireturn, 1) := by decide +kernel
theorem dX12_knock_25 : decode cX12_knock 25 = .ok (.iload_n 2, 1) := by decide +kernel
theorem dX12_knock_26 : decode cX12_knock 26 = .ok (.bipush (-9), 2) := by decide +kernel
theorem dX12_knock_28 : decode cX12_knock 28 = .ok (.if_icmp .ne 12, 3) := by decide +kernel
theorem dX12_knock_31 : decode cX12_knock 31 = .ok (.aload_n 0, 1) := by decide +kernel
theorem dX12_knock_32 : decode cX12_knock 32 = .ok (.getfield 105, 3) := by decide +kernel
theorem dX12_knock_35 : decode cX12_knock 35 = .ok (.iload_n 1, 1) := by decide +kernel
theorem dX12_knock_36 : decode cX12_knock 36 = .ok (.iconst 0, 1) := by decide +kernel
theorem dX12_knock_37 : decode cX12_knock 37 = .ok (.iastore, 1) := by decide +kernel
theorem dX12_knock_38 : decode cX12_knock 38 = .ok (.iconst 0, 1) := by decide +kernel
theorem dX12_knock_39 : decode cX12_knock 39 = .ok (.ireturn, 1) := by decide +kernel
theorem dX12_knock_40 : decode cX12_knock 40 = .ok (.aload_n 0, 1) := by decide +kernel
theorem dX12_knock_41 : decode cX12_knock 41 = .ok (.getfield 17, 3) := by decide +kernel
theorem dX12_knock_44 : decode cX12_knock 44 = .ok (.iload_n 2, 1) := by decide +kernel
theorem dX12_knock_45 : decode cX12_knock 45 = .ok (.iaload, 1) := by decide +kernel
theorem dX12_knock_46 : decode cX12_knock 46 = .ok (.ifCond .ge 9, 3) := by decide +kernel
theorem dX12_knock_49 : decode cX12_knock 49 = .ok (.aload_n 0, 1) := by decide +kernel
theorem dX12_knock_50 : decode cX12_knock 50 = .ok (.iconst 1, 1) := by decide +kernel
theorem dX12_knock_51 : decode cX12_knock 51 = .ok (.invokevirtual 138, 3) := by decide +kernel
theorem dX12_knock_54 : decode cX12_knock 54 = .ok (.ireturn, 1) := by decide +kernel
theorem dX12_knock_55 : decode cX12_knock 55 = .ok (.aload_n 0, 1) := by decide +kernel
theorem dX12_knock_56 : decode cX12_knock 56 = .ok (.getfield 17, 3) := by decide +kernel
theorem dX12_knock_59 : decode cX12_knock 59 = .ok (.iload_n 2, 1) := by decide +kernel
theorem dX12_knock_60 : decode cX12_knock 60 = .ok (.iaload, 1) := by decide +kernel
theorem dX12_knock_61 : decode cX12_knock 61 = .ok (.iconst 1, 1) := by decide +kernel
theorem dX12_knock_62 : decode cX12_knock 62 = .ok (.bipush 8, 2) := by decide +kernel
theorem dX12_knock_64 : decode cX12_knock 64 = .ok (.invokestatic 130, 3) := by decide +kernel
theorem dX12_knock_67 : decode cX12_knock 67 = .ok (.ifCond .ne 9, 3) := by decide +kernel
theorem dX12_knock_70 : decode cX12_knock 70 = .ok (.aload_n 0, 1) := by decide +kernel
theorem dX12_knock_71 : decode cX12_knock 71 = .ok (.iconst 5, 1) := by decide +kernel
theorem dX12_knock_72 : decode cX12_knock 72 = .ok (.invokevirtual 138, 3) := by decide +kernel
theorem dX12_knock_75 : decode cX12_knock 75 = .ok (.ireturn, 1) := by decide +kernel
theorem dX12_knock_76 : decode cX12_knock 76 = .ok (.iconst 0, 1) := by decide +kernel
theorem dX12_knock_77 : decode cX12_knock 77 = .ok (.istore_n 3, 1) := by decide +kernel
theorem dX12_knock_78 : decode cX12_knock 78 = .ok (.iconst 1, 1) := by decide +kernel
theorem dX12_knock_79 : decode cX12_knock 79 = .ok (.istore 4, 2) := by decide +kernel
theorem dX12_knock_81 : decode cX12_knock 81 = .ok (.iconst 0, 1) := by decide +kernel
theorem dX12_knock_82 : decode cX12_knock 82 = .ok (.istore 5, 2) := by decide +kernel
theorem dX12_knock_84 : decode cX12_knock 84 = .ok (.iload 5, 2) := by decide +kernel
theorem dX12_knock_86 : decode cX12_knock 86 = .ok (.aload_n 0, 1) := by decide +kernel
theorem dX12_knock_87 : decode cX12_knock 87 = .ok (.getfield 17, 3) := by decide +kernel
theorem dX12_knock_90 : decode cX12_knock 90 = .ok (.iload_n 2, 1) := by decide +kernel
theorem dX12_knock_91 : decode cX12_knock 91 = .ok (.iaload, 1) := by decide +kernel
theorem dX12_knock_92 : decode cX12_knock 92 = .ok (.if_icmp .ge 51, 3) := by decide +kernel
theorem dX12_knock_95 : decode cX12_knock 95 = .ok (.iload 4, 2) := by decide +kernel
theorem dX12_knock_97 : decode cX12_knock 97 = .ok (.ifCond .eq 22, 3) := by decide +kernel
theorem dX12_knock_100 : decode cX12_knock 100 = .ok (.aload_n 0, 1) := by decide +kernel
theorem dX12_knock_101 : decode cX12_knock 101 = .ok (.iload_n 2, 1) := by decide +kernel
theorem dX12_knock_102 : decode cX12_knock 102 = .ok (.iload 5, 2) := by decide +kernel
theorem dX12_knock_104 : decode cX12_knock 104 = .ok (.invokevirtual 148, 3) := by decide +kernel
theorem dX12_knock_107 : decode cX12_knock 107 = .ok (.iconst 0, 1) := by decide +kernel
theorem dX12_knock_108 : decode cX12_knock 108 = .ok (.iconst 1, 1) := by decide +kernel
theorem dX12_knock_109 : decode cX12_knock 109 = .ok (.invokestatic 130, 3) := by decide +kernel
theorem dX12_knock_112 : decode cX12_knock 112 = .ok (.ifCond .eq 7, 3) := by decide +kernel
theorem dX12_knock_115 : decode cX12_knock 115 = .ok (.iconst 1, 1) := by decide +kernel
theorem dX12_knock_116 : decode cX12_knock 116 = .ok (.goto 4, 3) := by decide +kernel
theorem dX12_knock_119 : decode cX12_knock 119 = .ok (.iconst 0, 1) := by decide +kernel
theorem dX12_knock_120 : decode cX12_knock 120 = .ok (.istore 4, 2) := by decide +kernel
theorem dX12_knock_122 : decode cX12_knock 122 = .ok (.iload_n 3, 1) := by decide +kernel
theorem dX12_knock_123 : decode cX12_knock 123 = .ok (.aload_n 0, 1) := by decide +kernel
theorem dX12_knock_124 : decode cX12_knock 124 = .ok (.iload_n 2, 1) := by decide +kernel
theorem dX12_knock_125 : decode cX12_knock 125 = .ok (.iload 5, 2) := by decide +kernel
theorem dX12_knock_127 : decode cX12_knock 127 = .ok (.invokevirtual 148, 3) := by decide +kernel
theorem dX12_knock_130 : decode cX12_knock 130 = .ok (.iconst 1, 1) := by decide +kernel
theorem dX12_knock_131 : decode cX12_knock 131 = .ok (.iand, 1) := by decide +kernel
theorem dX12_knock_132 : decode cX12_knock 132 = .ok (.iload 5, 2) := by decide +kernel
theorem dX12_knock_134 : decode cX12_knock 134 = .ok (.ishl, 1) := by decide +kernel
theorem dX12_knock_135 : decode cX12_knock 135 = .ok (.ior, 1) := by decide +kernel
theorem dX12_knock_136 : decode cX12_knock 136 = .ok (.istore_n 3, 1) := by decide +kernel
theorem dX12_knock_137 : decode cX12_knock 137 = .ok (.iinc 5 1, 3) := by decide +kernel
theorem dX12_knock_140 : decode cX12_knock 140 = .ok (.goto (-56), 3) := by decide +kernel
theorem dX12_knock_143 : decode cX12_knock 143 = .ok (.iload 4, 2) := by decide +kernel
theorem dX12_knock_145 : decode cX12_knock 145 = .ok (.ifCond .ne 9, 3) := by decide +kernel
theorem dX12_knock_148 : decode cX12_knock 148 = .ok (.aload_n 0, 1) := by decide +kernel
theorem dX12_knock_149 : decode cX12_knock 149 = .ok (.iconst 3, 1) := by decide +kernel
theorem dX12_knock_150 : decode cX12_knock 150 = .ok (.invokevirtual 138, 3) := by decide +kernel
theorem dX12_knock_153 : decode cX12_knock 153 = .ok (.ireturn, 1) := by decide +kernel
theorem dX12_knock_154 : decode cX12_knock 154 = .ok (.aload_n 0, 1) := by decide +kernel
theorem dX12_knock_155 : decode cX12_knock 155 = .ok (.getfield 105, 3) := by decide +kernel
theorem dX12_knock_158 : decode cX12_knock 158 = .ok (.iload_n 1, 1) := by decide +kernel
theorem dX12_knock_159 : decode cX12_knock 159 = .ok (.aload_n 0, 1) := by decide +kernel
theorem dX12_knock_160 : decode cX12_knock 160 = .ok (.getfield 17, 3) := by decide +kernel
theorem dX12_knock_163 : decode cX12_knock 163 = .ok (.iload_n 2, 1) := by decide +kernel
theorem dX12_knock_164 : decode cX12_knock 164 = .ok (.iaload, 1) := by decide +kernel
theorem dX12_knock_165 : decode cX12_knock 165 = .ok (.iastore, 1) := by decide +kernel
theorem dX12_knock_166 : decode cX12_knock 166 = .ok (.aload_n 0, 1) := by decide +kernel
theorem dX12_knock_167 : decode cX12_knock 167 = .ok (.getfield 108, 3) := by decide +kernel
theorem dX12_knock_170 : decode cX12_knock 170 = .ok (.iload_n 1, 1) := by decide +kernel
theorem dX12_knock_171 : decode cX12_knock 171 = .ok (.iload_n 3, 1) := by decide +kernel
theorem dX12_knock_172 : decode cX12_knock 172 = .ok (.iastore, 1) := by decide +kernel
theorem dX12_knock_173 : decode cX12_knock 173 = .ok (.aload_n 0, 1) := by decide +kernel
theorem dX12_knock_174 : decode cX12_knock 174 = .ok (.getfield 17, 3) := by decide +kernel
theorem dX12_knock_177 : decode cX12_knock 177 = .ok (.iload_n 2, 1) := by decide +kernel
theorem dX12_knock_178 : decode cX12_knock 178 = .ok (.iaload, 1) := by decide +kernel
theorem dX12_knock_179 : decode cX12_knock 179 = .ok (.ireturn, 1) := by decide +kernel
theorem dX12_isBeginning_0 : decode cX12_isBeginning 0 = .ok (.iload_n 0, 1) := by decide +kernel
theorem dX12_isBeginning_1 : decode cX12_isBeginning 1 = .ok (.iload_n 2, 1) := by decide +kernel
theorem dX12_isBeginning_2 : decode cX12_isBeginning 2 = .ok (.if_icmp .gt 18, 3) := by decide +kernel
theorem dX12_isBeginning_5 : decode cX12_isBeginning 5 = .ok (.iload_n 3, 1) := by decide +kernel
theorem dX12_isBeginning_6 : decode cX12_isBeginning 6 = .ok (.iconst 1, 1) := by decide +kernel
theorem dX12_isBeginning_7 : decode cX12_isBeginning 7 = .ok (.iload_n 0, 1) := by decide +kernel
theorem dX12_isBeginning_8 : decode cX12_isBeginning 8 = .ok (.ishl, 1) := by decide +kernel
theorem dX12_isBeginning_9 : decode cX12_isBeginning 9 = .ok (.iconst 1, 1) := by decide +kernel
theorem dX12_isBeginning_10 : decode cX12_isBeginning 10 = .ok (.isub, 1) := by decide +kernel
theorem dX12_isBeginning_11 : decode cX12_isBeginning 11 = .ok (.iand, 1) := by decide +kernel
theorem dX12_isBeginning_12 : decode cX12_isBeginning 12 = .ok (.iload_n 1, 1) := by decide +kernel
theorem dX12_isBeginning_13 : decode cX12_isBeginning 13 = .ok (.if_icmp .ne 7, 3) := by decide +kernel
theorem dX12_isBeginning_16 : decode cX12_isBeginning 16 = .ok (.iconst 1, 1) := by decide +kernel
theorem dX12_isBeginning_17 : decode cX12_isBeginning 17 = .ok (.goto 4, 3) := by decide +kernel
theorem dX12_isBeginning_20 : decode cX12_isBeginning 20 = .ok (.iconst 0, 1) := by decide +kernel
theorem dX12_isBeginning_21 : decode cX12_isBeginning 21 = .ok (.ireturn, 1) := by decide +kernel
theorem dX12_clear_0 : decode cX12_clear 0 = .ok (.iconst 0, 1) := by decide +kernel
theorem dX12_clear_1 : decode cX12_clear 1 = .ok (.istore_n 1, 1) := by decide +kernel
theorem dX12_clear_2 : decode cX12_clear 2 = .ok (.iload_n 1, 1) := by decide +kernel
theorem dX12_clear_3 : decode cX12_clear 3 = .ok (.bipush 8, 2) := by decide +kernel
theorem dX12_clear_5 : decode cX12_clear 5 = .ok (.if_icmp .ge 83, 3) := by decide +kernel
theorem dX12_clear_8 : decode cX12_clear 8 = .ok (.iconst 0, 1) := by decide +kernel
theorem dX12_clear_9 : decode cX12_clear 9 = .ok (.istore_n 2, 1) := by decide +kernel
theorem dX12_clear_10 : decode cX12_clear 10 = .ok (.iload_n 2, 1) := by decide +kernel
theorem dX12_clear_11 : decode cX12_clear 11 = .ok (.bipush 8, 2) := by decide +kernel
theorem dX12_clear_13 : decode cX12_clear 13 = .ok (.if_icmp .ge 69, 3) := by decide +kernel
theorem dX12_clear_16 : decode cX12_clear 16 = .ok (.iload_n 1, 1) := by decide +kernel
theorem dX12_clear_17 : decode cX12_clear 17 = .ok (.iload_n 2, 1) := by decide +kernel
theorem dX12_clear_18 : decode cX12_clear 18 = .ok (.if_icmp .eq 58, 3) := by decide +kernel
theorem dX12_clear_21 : decode cX12_clear 21 = .ok (.aload_n 0, 1) := by decide +kernel
theorem dX12_clear_22 : decode cX12_clear 22 = .ok (.getfield 105, 3) := by decide +kernel
theorem dX12_clear_25 : decode cX12_clear 25 = .ok (.iload_n 1, 1) := by decide +kernel
theorem dX12_clear_26 : decode cX12_clear 26 = .ok (.iaload, 1) := by decide +kernel
theorem dX12_clear_27 : decode cX12_clear 27 = .ok (.ifCond .le 49, 3) := by decide +kernel
theorem dX12_clear_30 : decode cX12_clear 30 = .ok (.aload_n 0, 1) := by decide +kernel
theorem dX12_clear_31 : decode cX12_clear 31 = .ok (.getfield 105, 3) := by decide +kernel
theorem dX12_clear_34 : decode cX12_clear 34 = .ok (.iload_n 2, 1) := by decide +kernel
theorem dX12_clear_35 : decode cX12_clear 35 = .ok (.iaload, 1) := by decide +kernel
theorem dX12_clear_36 : decode cX12_clear 36 = .ok (.ifCond .le 40, 3) := by decide +kernel
theorem dX12_clear_39 : decode cX12_clear 39 = .ok (.aload_n 0, 1) := by decide +kernel
theorem dX12_clear_40 : decode cX12_clear 40 = .ok (.getfield 105, 3) := by decide +kernel
theorem dX12_clear_43 : decode cX12_clear 43 = .ok (.iload_n 1, 1) := by decide +kernel
theorem dX12_clear_44 : decode cX12_clear 44 = .ok (.iaload, 1) := by decide +kernel
theorem dX12_clear_45 : decode cX12_clear 45 = .ok (.aload_n 0, 1) := by decide +kernel
theorem dX12_clear_46 : decode cX12_clear 46 = .ok (.getfield 108, 3) := by decide +kernel
theorem dX12_clear_49 : decode cX12_clear 49 = .ok (.iload_n 1, 1) := by decide +kernel
theorem dX12_clear_50 : decode cX12_clear 50 = .ok (.iaload, 1) := by decide +kernel
theorem dX12_clear_51 : decode cX12_clear 51 = .ok (.aload_n 0, 1) := by decide +kernel
theorem dX12_clear_52 : decode cX12_clear 52 = .ok (.getfield 105, 3) := by decide +kernel
theorem dX12_clear_55 : decode cX12_clear 55 = .ok (.iload_n 2, 1) := by decide +kernel
theorem dX12_clear_56 : decode cX12_clear 56 = .ok (.iaload, 1) := by decide +kernel
theorem dX12_clear_57 : decode cX12_clear 57 = .ok (.aload_n 0, 1) := by decide +kernel
theorem dX12_clear_58 : decode cX12_clear 58 = .ok (.getfield 108, 3) := by decide +kernel
theorem dX12_clear_61 : decode cX12_clear 61 = .ok (.iload_n 2, 1) := by decide +kernel
theorem dX12_clear_62 : decode cX12_clear 62 = .ok (.iaload, 1) := by decide +kernel
theorem dX12_clear_63 : decode cX12_clear 63 = .ok (.invokestatic 283, 3) := by decide +kernel
theorem dX12_clear_66 : decode cX12_clear 66 = .ok (.ifCond .eq 10, 3) := by decide +kernel
theorem dX12_clear_69 : decode cX12_clear 69 = .ok (.bipush 10, 2) := by decide +kernel
theorem dX12_clear_71 : decode cX12_clear 71 = .ok (.iload_n 1, 1) := by decide +kernel
theorem dX12_clear_72 : decode cX12_clear 72 = .ok (.imul, 1) := by decide +kernel
theorem dX12_clear_73 : decode cX12_clear 73 = .ok (.iload_n 2, 1) := by decide +kernel
theorem dX12_clear_74 : decode cX12_clear 74 = .ok (.iadd, 1) := by decide +kernel
theorem dX12_clear_75 : decode cX12_clear 75 = .ok (.ireturn, 1) := by decide +kernel
theorem dX12_clear_76 : decode cX12_clear 76 = .ok (.iinc 2 1, 3) := by decide +kernel
theorem dX12_clear_79 : decode cX12_clear 79 = .ok (.goto (-69), 3) := by decide +kernel
theorem dX12_clear_82 : decode cX12_clear 82 = .ok (.iinc 1 1, 3) := by decide +kernel
theorem dX12_clear_85 : decode cX12_clear 85 = .ok (.goto (-83), 3) := by decide +kernel
theorem dX12_clear_88 : decode cX12_clear 88 = .ok (.bipush (-9), 2) := by decide +kernel
theorem dX12_clear_90 : decode cX12_clear 90 = .ok (.ireturn, 1) := by decide +kernel
theorem dX12_leaves_0 : decode cX12_leaves 0 = .ok (.iconst 1, 1) := by decide +kernel
theorem dX12_leaves_1 : decode cX12_leaves 1 = .ok (.iload_n 1, 1) := by decide +kernel
theorem dX12_leaves_2 : decode cX12_leaves 2 = .ok (.ishl, 1) := by decide +kernel
theorem dX12_leaves_3 : decode cX12_leaves 3 = .ok (.iload_n 2, 1) := by decide +kernel
theorem dX12_leaves_4 : decode cX12_leaves 4 = .ok (.ior, 1) := by decide +kernel
theorem dX12_leaves_5 : decode cX12_leaves 5 = .ok (.istore_n 3, 1) := by decide +kernel
theorem dX12_leaves_6 : decode cX12_leaves 6 = .ok (.aload_n 0, 1) := by decide +kernel
theorem dX12_leaves_7 : decode cX12_leaves 7 = .ok (.getfield 111, 3) := by decide +kernel
theorem dX12_leaves_10 : decode cX12_leaves 10 = .ok (.iload_n 3, 1) := by decide +kernel
theorem dX12_leaves_11 : decode cX12_leaves 11 = .ok (.baload, 1) := by decide +kernel
theorem dX12_leaves_12 : decode cX12_leaves 12 = .ok (.ifCond .ne 30, 3) := by decide +kernel
theorem dX12_leaves_15 : decode cX12_leaves 15 = .ok (.aload_n 0, 1) := by decide +kernel
theorem dX12_leaves_16 : decode cX12_leaves 16 = .ok (.getfield 111, 3) := by decide +kernel
theorem dX12_leaves_19 : decode cX12_leaves 19 = .ok (.iload_n 3, 1) := by decide +kernel
theorem dX12_leaves_20 : decode cX12_leaves 20 = .ok (.iconst 1, 1) := by decide +kernel
theorem dX12_leaves_21 : decode cX12_leaves 21 = .ok (.bastore, 1) := by decide +kernel
theorem dX12_leaves_22 : decode cX12_leaves 22 = .ok (.aload_n 0, 1) := by decide +kernel
theorem dX12_leaves_23 : decode cX12_leaves 23 = .ok (.getfield 115, 3) := by decide +kernel
theorem dX12_leaves_26 : decode cX12_leaves 26 = .ok (.aload_n 0, 1) := by decide +kernel
theorem dX12_leaves_27 : decode cX12_leaves 27 = .ok (.getfield 286, 3) := by decide +kernel
theorem dX12_leaves_30 : decode cX12_leaves 30 = .ok (.iload_n 3, 1) := by decide +kernel
theorem dX12_leaves_31 : decode cX12_leaves 31 = .ok (.iastore, 1) := by decide +kernel
theorem dX12_leaves_32 : decode cX12_leaves 32 = .ok (.aload_n 0, 1) := by decide +kernel
theorem dX12_leaves_33 : decode cX12_leaves 33 = .ok (.dup, 1) := by decide +kernel
theorem dX12_leaves_34 : decode cX12_leaves 34 = .ok (.getfield 286, 3) := by decide +kernel
theorem dX12_leaves_37 : decode cX12_leaves 37 = .ok (.iconst 1, 1) := by decide +kernel
theorem dX12_leaves_38 : decode cX12_leaves 38 = .ok (.iadd, 1) := by decide +kernel
theorem dX12_leaves_39 : decode cX12_leaves 39 = .ok (.putfield 286, 3) := by decide +kernel
theorem dX12_leaves_42 : decode cX12_leaves 42 = .ok (.return_, 1) := by decide +kernel
theorem dX12_sure_0 : decode cX12_sure 0 = .ok (.iconst 0, 1) := by decide +kernel
theorem dX12_sure_1 : decode cX12_sure 1 = .ok (.istore_n 1, 1) := by decide +kernel
theorem dX12_sure_2 : decode cX12_sure 2 = .ok (.iload_n 1, 1) := by decide +kernel
theorem dX12_sure_3 : decode cX12_sure 3 = .ok (.sipush 512, 3) := by decide +kernel
theorem dX12_sure_6 : decode cX12_sure 6 = .ok (.if_icmp .ge 16, 3) := by decide +kernel
theorem dX12_sure_9 : decode cX12_sure 9 = .ok (.aload_n 0, 1) := by decide +kernel
theorem dX12_sure_10 : decode cX12_sure 10 = .ok (.getfield 111, 3) := by decide +kernel
theorem dX12_sure_13 : decode cX12_sure 13 = .ok (.iload_n 1, 1) := by decide +kernel
theorem dX12_sure_14 : decode cX12_sure 14 = .ok (.iconst 0, 1) := by decide +kernel
theorem dX12_sure_15 : decode cX12_sure 15 = .ok (.bastore, 1) := by decide +kernel
theorem dX12_sure_16 : decode cX12_sure 16 = .ok (.iinc 1 1, 3) := by decide +kernel
theorem dX12_sure_19 : decode cX12_sure 19 = .ok (.goto (-17), 3) := by decide +kernel
theorem dX12_sure_22 : decode cX12_sure 22 = .ok (.aload_n 0, 1) := by decide +kernel
theorem dX12_sure_23 : decode cX12_sure 23 = .ok (.iconst 0, 1) := by decide +kernel
theorem dX12_sure_24 : decode cX12_sure 24 = .ok (.putfield 286, 3) := by decide +kernel
theorem dX12_sure_27 : decode cX12_sure 27 = .ok (.iconst 0, 1) := by decide +kernel
theorem dX12_sure_28 : decode cX12_sure 28 = .ok (.istore_n 1, 1) := by decide +kernel
theorem dX12_sure_29 : decode cX12_sure 29 = .ok (.iload_n 1, 1) := by decide +kernel
theorem dX12_sure_30 : decode cX12_sure 30 = .ok (.bipush 8, 2) := by decide +kernel
theorem dX12_sure_32 : decode cX12_sure 32 = .ok (.if_icmp .ge 106, 3) := by decide +kernel
theorem dX12_sure_35 : decode cX12_sure 35 = .ok (.iconst 0, 1) := by decide +kernel
theorem dX12_sure_36 : decode cX12_sure 36 = .ok (.istore_n 2, 1) := by decide +kernel
theorem dX12_sure_37 : decode cX12_sure 37 = .ok (.iload_n 2, 1) := by decide +kernel
theorem dX12_sure_38 : decode cX12_sure 38 = .ok (.bipush 8, 2) := by decide +kernel
theorem dX12_sure_40 : decode cX12_sure 40 = .ok (.if_icmp .ge 92, 3) := by decide +kernel
theorem dX12_sure_43 : decode cX12_sure 43 = .ok (.iload_n 1, 1) := by decide +kernel
theorem dX12_sure_44 : decode cX12_sure 44 = .ok (.iload_n 2, 1) := by decide +kernel
theorem dX12_sure_45 : decode cX12_sure 45 = .ok (.if_icmp .eq 81, 3) := by decide +kernel
theorem dX12_sure_48 : decode cX12_sure 48 = .ok (.aload_n 0, 1) := by decide +kernel
theorem dX12_sure_49 : decode cX12_sure 49 = .ok (.getfield 105, 3) := by decide +kernel
theorem dX12_sure_52 : decode cX12_sure 52 = .ok (.iload_n 1, 1) := by decide +kernel
theorem dX12_sure_53 : decode cX12_sure 53 = .ok (.iaload, 1) := by decide +kernel
theorem dX12_sure_54 : decode cX12_sure 54 = .ok (.ifCond .le 72, 3) := by decide +kernel
theorem dX12_sure_57 : decode cX12_sure 57 = .ok (.aload_n 0, 1) := by decide +kernel
theorem dX12_sure_58 : decode cX12_sure 58 = .ok (.getfield 105, 3) := by decide +kernel
theorem dX12_sure_61 : decode cX12_sure 61 = .ok (.iload_n 2, 1) := by decide +kernel
theorem dX12_sure_62 : decode cX12_sure 62 = .ok (.iaload, 1) := by decide +kernel
theorem dX12_sure_63 : decode cX12_sure 63 = .ok (.ifCond .le 63, 3) := by decide +kernel
theorem dX12_sure_66 : decode cX12_sure 66 = .ok (.aload_n 0, 1) := by decide +kernel
theorem dX12_sure_67 : decode cX12_sure 67 = .ok (.getfield 105, 3) := by decide +kernel
theorem dX12_sure_70 : decode cX12_sure 70 = .ok (.iload_n 1, 1) := by decide +kernel
theorem dX12_sure_71 : decode cX12_sure 71 = .ok (.iaload, 1) := by decide +kernel
theorem dX12_sure_72 : decode cX12_sure 72 = .ok (.aload_n 0, 1) := by decide +kernel
theorem dX12_sure_73 : decode cX12_sure 73 = .ok (.getfield 108, 3) := by decide +kernel
theorem dX12_sure_76 : decode cX12_sure 76 = .ok (.iload_n 1, 1) := by decide +kernel
theorem dX12_sure_77 : decode cX12_sure 77 = .ok (.iaload, 1) := by decide +kernel
theorem dX12_sure_78 : decode cX12_sure 78 = .ok (.aload_n 0, 1) := by decide +kernel
theorem dX12_sure_79 : decode cX12_sure 79 = .ok (.getfield 105, 3) := by decide +kernel
theorem dX12_sure_82 : decode cX12_sure 82 = .ok (.iload_n 2, 1) := by decide +kernel
theorem dX12_sure_83 : decode cX12_sure 83 = .ok (.iaload, 1) := by decide +kernel
theorem dX12_sure_84 : decode cX12_sure 84 = .ok (.aload_n 0, 1) := by decide +kernel
theorem dX12_sure_85 : decode cX12_sure 85 = .ok (.getfield 108, 3) := by decide +kernel
theorem dX12_sure_88 : decode cX12_sure 88 = .ok (.iload_n 2, 1) := by decide +kernel
theorem dX12_sure_89 : decode cX12_sure 89 = .ok (.iaload, 1) := by decide +kernel
theorem dX12_sure_90 : decode cX12_sure 90 = .ok (.invokestatic 283, 3) := by decide +kernel
theorem dX12_sure_93 : decode cX12_sure 93 = .ok (.ifCond .eq 33, 3) := by decide +kernel
theorem dX12_sure_96 : decode cX12_sure 96 = .ok (.aload_n 0, 1) := by decide +kernel
theorem dX12_sure_97 : decode cX12_sure 97 = .ok (.aload_n 0, 1) := by decide +kernel
theorem dX12_sure_98 : decode cX12_sure 98 = .ok (.getfield 105, 3) := by decide +kernel
theorem dX12_sure_101 : decode cX12_sure 101 = .ok (.iload_n 2, 1) := by decide +kernel
theorem dX12_sure_102 : decode cX12_sure 102 = .ok (.iaload, 1) := by decide +kernel
theorem dX12_sure_103 : decode cX12_sure 103 = .ok (.aload_n 0, 1) := by decide +kernel
theorem dX12_sure_104 : decode cX12_sure 104 = .ok (.getfield 105, 3) := by decide +kernel
theorem dX12_sure_107 : decode cX12_sure 107 = .ok (.iload_n 1, 1) := by decide +kernel
theorem dX12_sure_108 : decode cX12_sure 108 = .ok (.iaload, 1) := by decide +kernel
theorem dX12_sure_109 : decode cX12_sure 109 = .ok (.isub, 1) := by decide +kernel
theorem dX12_sure_110 : decode cX12_sure 110 = .ok (.aload_n 0, 1) := by decide +kernel
theorem dX12_sure_111 : decode cX12_sure 111 = .ok (.getfield 108, 3) := by decide +kernel
theorem dX12_sure_114 : decode cX12_sure 114 = .ok (.iload_n 2, 1) := by decide +kernel
theorem dX12_sure_115 : decode cX12_sure 115 = .ok (.iaload, 1) := by decide +kernel
theorem dX12_sure_116 : decode cX12_sure 116 = .ok (.aload_n 0, 1) := by decide +kernel
theorem dX12_sure_117 : decode cX12_sure 117 = .ok (.getfield 105, 3) := by decide +kernel
theorem dX12_sure_120 : decode cX12_sure 120 = .ok (.iload_n 1, 1) := by decide +kernel
theorem dX12_sure_121 : decode cX12_sure 121 = .ok (.iaload, 1) := by decide +kernel
theorem dX12_sure_122 : decode cX12_sure 122 = .ok (.ishr, 1) := by decide +kernel
theorem dX12_sure_123 : decode cX12_sure 123 = .ok (.invokevirtual 289, 3) := by decide +kernel
theorem dX12_sure_126 : decode cX12_sure 126 = .ok (.iinc 2 1, 3) := by decide +kernel
theorem dX12_sure_129 : decode cX12_sure 129 = .ok (.goto (-92), 3) := by decide +kernel
theorem dX12_sure_132 : decode cX12_sure 132 = .ok (.iinc 1 1, 3) := by decide +kernel
theorem dX12_sure_135 : decode cX12_sure 135 = .ok (.goto (-106), 3) := by decide +kernel
theorem dX12_sure_138 : decode cX12_sure 138 = .ok (.iconst 0, 1) := by decide +kernel
theorem dX12_sure_139 : decode cX12_sure 139 = .ok (.istore_n 1, 1) := by decide +kernel
theorem dX12_sure_140 : decode cX12_sure 140 = .ok (.iload_n 1, 1) := by decide +kernel
theorem dX12_sure_141 : decode cX12_sure 141 = .ok (.aload_n 0, 1) := by decide +kernel
theorem dX12_sure_142 : decode cX12_sure 142 = .ok (.getfield 286, 3) := by decide +kernel
theorem dX12_sure_145 : decode cX12_sure 145 = .ok (.if_icmp .ge 179, 3) := by decide +kernel
theorem dX12_sure_148 : decode cX12_sure 148 = .ok (.aload_n 0, 1) := by decide +kernel
theorem dX12_sure_149 : decode cX12_sure 149 = .ok (.getfield 111, 3) := by decide +kernel
theorem dX12_sure_152 : decode cX12_sure 152 = .ok (.iconst 1, 1) := by decide +kernel
theorem dX12_sure_153 : decode cX12_sure 153 = .ok (.baload, 1) := by decide +kernel
theorem dX12_sure_154 : decode cX12_sure 154 = .ok (.ifCond .ne 170, 3) := by decide +kernel
theorem dX12_sure_157 : decode cX12_sure 157 = .ok (.iconst 0, 1) := by decide +kernel
theorem dX12_sure_158 : decode cX12_sure 158 = .ok (.istore_n 2, 1) := by decide +kernel
theorem dX12_sure_159 : decode cX12_sure 159 = .ok (.aload_n 0, 1) := by decide +kernel
theorem dX12_sure_160 : decode cX12_sure 160 = .ok (.getfield 115, 3) := by decide +kernel
theorem dX12_sure_163 : decode cX12_sure 163 = .ok (.iload_n 1, 1) := by decide +kernel
theorem dX12_sure_164 : decode cX12_sure 164 = .ok (.iaload, 1) := by decide +kernel
theorem dX12_sure_165 : decode cX12_sure 165 = .ok (.iload_n 2, 1) := by decide +kernel
theorem dX12_sure_166 : decode cX12_sure 166 = .ok (.iconst 1, 1) := by decide +kernel
theorem dX12_sure_167 : decode cX12_sure 167 = .ok (.iadd, 1) := by decide +kernel
theorem dX12_sure_168 : decode cX12_sure 168 = .ok (.ishr, 1) := by decide +kernel
theorem dX12_sure_169 : decode cX12_sure 169 = .ok (.ifCond .le 9, 3) := by decide +kernel
theorem dX12_sure_172 : decode cX12_sure 172 = .ok (.iinc 2 1, 3) := by decide +kernel
theorem dX12_sure_175 : decode cX12_sure 175 = .ok (.goto (-16), 3) := by decide +kernel
theorem dX12_sure_178 : decode cX12_sure 178 = .ok (.aload_n 0, 1) := by decide +kernel
theorem dX12_sure_179 : decode cX12_sure 179 = .ok (.getfield 115, 3) := by decide +kernel
theorem dX12_sure_182 : decode cX12_sure 182 = .ok (.iload_n 1, 1) := by decide +kernel
theorem dX12_sure_183 : decode cX12_sure 183 = .ok (.iaload, 1) := by decide +kernel
theorem dX12_sure_184 : decode cX12_sure 184 = .ok (.iconst 1, 1) := by decide +kernel
theorem dX12_sure_185 : decode cX12_sure 185 = .ok (.iload_n 2, 1) := by decide +kernel
theorem dX12_sure_186 : decode cX12_sure 186 = .ok (.ishl, 1) := by decide +kernel
theorem dX12_sure_187 : decode cX12_sure 187 = .ok (.iconst 1, 1) := by decide +kernel
theorem dX12_sure_188 : decode cX12_sure 188 = .ok (.isub, 1) := by decide +kernel
theorem dX12_sure_189 : decode cX12_sure 189 = .ok (.iand, 1) := by decide +kernel
theorem dX12_sure_190 : decode cX12_sure 190 = .ok (.istore_n 3, 1) := by decide +kernel
theorem dX12_sure_191 : decode cX12_sure 191 = .ok (.iconst 0, 1) := by decide +kernel
theorem dX12_sure_192 : decode cX12_sure 192 = .ok (.istore 4, 2) := by decide +kernel
theorem dX12_sure_194 : decode cX12_sure 194 = .ok (.iload 4, 2) := by decide +kernel
theorem dX12_sure_196 : decode cX12_sure 196 = .ok (.bipush 8, 2) := by decide +kernel
theorem dX12_sure_198 : decode cX12_sure 198 = .ok (.if_icmp .ge 120, 3) := by decide +kernel
theorem dX12_sure_201 : decode cX12_sure 201 = .ok (.aload_n 0, 1) := by decide +kernel
theorem dX12_sure_202 : decode cX12_sure 202 = .ok (.getfield 105, 3) := by decide +kernel
theorem dX12_sure_205 : decode cX12_sure 205 = .ok (.iload 4, 2) := by decide +kernel
theorem dX12_sure_207 : decode cX12_sure 207 = .ok (.iaload, 1) := by decide +kernel
theorem dX12_sure_208 : decode cX12_sure 208 = .ok (.ifCond .le 50, 3) := by decide +kernel
theorem dX12_sure_211 : decode cX12_sure 211 = .ok (.iload_n 2, 1) := by decide +kernel
theorem dX12_sure_212 : decode cX12_sure 212 = .ok (.iload_n 3, 1) := by decide +kernel
theorem dX12_sure_213 : decode cX12_sure 213 = .ok (.aload_n 0, 1) := by decide +kernel
theorem dX12_sure_214 : decode cX12_sure 214 = .ok (.getfield 105, 3) := by decide +kernel
theorem dX12_sure_217 : decode cX12_sure 217 = .ok (.iload 4, 2) := by decide +kernel
theorem dX12_sure_219 : decode cX12_sure 219 = .ok (.iaload, 1) := by decide +kernel
theorem dX12_sure_220 : decode cX12_sure 220 = .ok (.aload_n 0, 1) := by decide +kernel
theorem dX12_sure_221 : decode cX12_sure 221 = .ok (.getfield 108, 3) := by decide +kernel
theorem dX12_sure_224 : decode cX12_sure 224 = .ok (.iload 4, 2) := by decide +kernel
theorem dX12_sure_226 : decode cX12_sure 226 = .ok (.iaload, 1) := by decide +kernel
theorem dX12_sure_227 : decode cX12_sure 227 = .ok (.invokestatic 283, 3) := by decide +kernel
theorem dX12_sure_230 : decode cX12_sure 230 = .ok (.ifCond .eq 28, 3) := by decide +kernel
theorem dX12_sure_233 : decode cX12_sure 233 = .ok (.aload_n 0, 1) := by decide +kernel
theorem dX12_sure_234 : decode cX12_sure 234 = .ok (.aload_n 0, 1) := by decide +kernel
theorem dX12_sure_235 : decode cX12_sure 235 = .ok (.getfield 105, 3) := by decide +kernel
theorem dX12_sure_238 : decode cX12_sure 238 = .ok (.iload 4, 2) := by decide +kernel
theorem dX12_sure_240 : decode cX12_sure 240 = .ok (.iaload, 1) := by decide +kernel
theorem dX12_sure_241 : decode cX12_sure 241 = .ok (.iload_n 2, 1) := by decide +kernel
theorem dX12_sure_242 : decode cX12_sure 242 = .ok (.isub, 1) := by decide +kernel
theorem dX12_sure_243 : decode cX12_sure 243 = .ok (.aload_n 0, 1) := by decide +kernel
theorem dX12_sure_244 : decode cX12_sure 244 = .ok (.getfield 108, 3) := by decide +kernel
theorem dX12_sure_247 : decode cX12_sure 247 = .ok (.iload 4, 2) := by decide +kernel
theorem dX12_sure_249 : decode cX12_sure 249 = .ok (.iaload, 1) := by decide +kernel
theorem dX12_sure_250 : decode cX12_sure 250 = .ok (.iload_n 2, 1) := by decide +kernel
theorem dX12_sure_251 : decode cX12_sure 251 = .ok (.ishr, 1) := by decide +kernel
theorem dX12_sure_252 : decode cX12_sure 252 = .ok (.invokevirtual 289, 3) := by decide +kernel
theorem dX12_sure_255 : decode cX12_sure 255 = .ok (.goto 57, 3) := by decide +kernel
theorem dX12_sure_258 : decode cX12_sure 258 = .ok (.aload_n 0, 1) := by decide +kernel
theorem dX12_sure_259 : decode cX12_sure 259 = .ok (.getfield 105, 3) := by decide +kernel
theorem dX12_sure_262 : decode cX12_sure 262 = .ok (.iload 4, 2) := by decide +kernel
theorem dX12_sure_264 : decode cX12_sure 264 = .ok (.iaload, 1) := by decide +kernel
theorem dX12_sure_265 : decode cX12_sure 265 = .ok (.ifCond .le 47, 3) := by decide +kernel
theorem dX12_sure_268 : decode cX12_sure 268 = .ok (.aload_n 0, 1) := by decide +kernel
theorem dX12_sure_269 : decode cX12_sure 269 = .ok (.getfield 105, 3) := by decide +kernel
theorem dX12_sure_272 : decode cX12_sure 272 = .ok (.iload 4, 2) := by decide +kernel
theorem dX12_sure_274 : decode cX12_sure 274 = .ok (.iaload, 1) := by decide +kernel
theorem dX12_sure_275 : decode cX12_sure 275 = .ok (.aload_n 0, 1) := by decide +kernel
theorem dX12_sure_276 : decode cX12_sure 276 = .ok (.getfield 108, 3) := by decide +kernel
theorem dX12_sure_279 : decode cX12_sure 279 = .ok (.iload 4, 2) := by decide +kernel
theorem dX12_sure_281 : decode cX12_sure 281 = .ok (.iaload, 1) := by decide +kernel
theorem dX12_sure_282 : decode cX12_sure 282 = .ok (.iload_n 2, 1) := by decide +kernel
theorem dX12_sure_283 : decode cX12_sure 283 = .ok (.iload_n 3, 1) := by decide +kernel
theorem dX12_sure_284 : decode cX12_sure 284 = .ok (.invokestatic 283, 3) := by decide +kernel
theorem dX12_sure_287 : decode cX12_sure 287 = .ok (.ifCond .eq 25, 3) := by decide +kernel
theorem dX12_sure_290 : decode cX12_sure 290 = .ok (.aload_n 0, 1) := by decide +kernel
theorem dX12_sure_291 : decode cX12_sure 291 = .ok (.iload_n 2, 1) := by decide +kernel
theorem dX12_sure_292 : decode cX12_sure 292 = .ok (.aload_n 0, 1) := by decide +kernel
theorem dX12_sure_293 : decode cX12_sure 293 = .ok (.getfield 105, 3) := by decide +kernel
theorem dX12_sure_296 : decode cX12_sure 296 = .ok (.iload 4, 2) := by decide +kernel
theorem dX12_sure_298 : decode cX12_sure 298 = .ok (.iaload, 1) := by decide +kernel
theorem dX12_sure_299 : decode cX12_sure 299 = .ok (.isub, 1) := by decide +kernel
theorem dX12_sure_300 : decode cX12_sure 300 = .ok (.iload_n 3, 1) := by decide +kernel
theorem dX12_sure_301 : decode cX12_sure 301 = .ok (.aload_n 0, 1) := by decide +kernel
theorem dX12_sure_302 : decode cX12_sure 302 = .ok (.getfield 105, 3) := by decide +kernel
theorem dX12_sure_305 : decode cX12_sure 305 = .ok (.iload 4, 2) := by decide +kernel
theorem dX12_sure_307 : decode cX12_sure 307 = .ok (.iaload, 1) := by decide +kernel
theorem dX12_sure_308 : decode cX12_sure 308 = .ok (.ishr, 1) := by decide +kernel
theorem dX12_sure_309 : decode cX12_sure 309 = .ok (.invokevirtual 289, 3) := by decide +kernel
theorem dX12_sure_312 : decode cX12_sure 312 = .ok (.iinc 4 1, 3) := by decide +kernel
theorem dX12_sure_315 : decode cX12_sure 315 = .ok (.goto (-121), 3) := by decide +kernel
theorem dX12_sure_318 : decode cX12_sure 318 = .ok (.iinc 1 1, 3) := by decide +kernel
theorem dX12_sure_321 : decode cX12_sure 321 = .ok (.goto (-181), 3) := by decide +kernel
theorem dX12_sure_324 : decode cX12_sure 324 = .ok (.aload_n 0, 1) := by decide +kernel
theorem dX12_sure_325 : decode cX12_sure 325 = .ok (.getfield 111, 3) := by decide +kernel
theorem dX12_sure_328 : decode cX12_sure 328 = .ok (.iconst 1, 1) := by decide +kernel
theorem dX12_sure_329 : decode cX12_sure 329 = .ok (.baload, 1) := by decide +kernel
theorem dX12_sure_330 : decode cX12_sure 330 = .ok (.ifCond .eq 7, 3) := by decide +kernel
theorem dX12_sure_333 : decode cX12_sure 333 = .ok (.iconst 0, 1) := by decide +kernel
theorem dX12_sure_334 : decode cX12_sure 334 = .ok (.goto 4, 3) := by decide +kernel
theorem dX12_sure_337 : decode cX12_sure 337 = .ok (.iconst 1, 1) := by decide +kernel
theorem dX12_sure_338 : decode cX12_sure 338 = .ok (.ireturn, 1) := by decide +kernel
theorem dX12_shortest_0 : decode cX12_shortest 0 = .ok (.aload_n 0, 1) := by decide +kernel
theorem dX12_shortest_1 : decode cX12_shortest 1 = .ok (.iload_n 1, 1) := by decide +kernel
theorem dX12_shortest_2 : decode cX12_shortest 2 = .ok (.invokevirtual 145, 3) := by decide +kernel
theorem dX12_shortest_5 : decode cX12_shortest 5 = .ok (.istore_n 2, 1) := by decide +kernel
theorem dX12_shortest_6 : decode cX12_shortest 6 = .ok (.iload_n 2, 1) := by decide +kernel
theorem dX12_shortest_7 : decode cX12_shortest 7 = .ok (.ifCond .ge 5, 3) := by decide +kernel
theorem dX12_shortest_10 : decode cX12_shortest 10 = .ok (.iload_n 2, 1) := by decide +kernel
theorem dX12_shortest_11 : decode cX12_shortest 11 = .ok (.ireturn, 1) := by decide +kernel
