theorem dX11_advance_235 : decode cX11_advance 235 = .ok (.iadd, 1) := by decide +kernel
theorem dX11_advance_236 : decode cX11_advance 236 = .ok (.putfield 112, 3) := by decide +kernel
theorem dX11_advance_239 : decode cX11_advance 239 = .ok (.return_, 1) := by decide +kernel
theorem dX11_anew_0 : decode cX11_anew 0 = .ok (.aload_n 0, 1) := by decide +kernel
theorem dX11_anew_1 : decode cX11_anew 1 = .ok (.invokevirtual 295, 3) := by decide +kernel
theorem dX11_anew_4 : decode cX11_anew 4 = .ok (.ifCond .ne 6, 3) := by decide +kernel
theorem dX11_anew_7 : decode cX11_anew 7 = .ok (.bipush (-2), 2) := by decide +kernel
theorem dX11_anew_9 : decode cX11_anew 9 = .ok (.ireturn, 1) := by decide +kernel
theorem dX11_anew_10 : decode cX11_anew 10 = .ok (.aload_n 0, 1) := by decide +kernel
theorem dX11_anew_11 : decode cX11_anew 11 = .ok (.getfield 9, 3) := by decide +kernel
theorem dX11_anew_14 : decode cX11_anew 14 = .ok (.bipush 6, 2) := by decide +kernel
theorem dX11_anew_16 : decode cX11_anew 16 = .ok (.iaload, 1) := by decide +kernel
theorem dX11_anew_17 : decode cX11_anew 17 = .ok (.istore_n 1, 1) := by decide +kernel
theorem dX11_anew_18 : decode cX11_anew 18 = .ok (.aload_n 0, 1) := by decide +kernel
theorem dX11_anew_19 : decode cX11_anew 19 = .ok (.getfield 9, 3) := by decide +kernel
theorem dX11_anew_22 : decode cX11_anew 22 = .ok (.bipush 6, 2) := by decide +kernel
theorem dX11_anew_24 : decode cX11_anew 24 = .ok (.iconst 0, 1) := by decide +kernel
theorem dX11_anew_25 : decode cX11_anew 25 = .ok (.iastore, 1) := by decide +kernel
theorem dX11_anew_26 : decode cX11_anew 26 = .ok (.iload_n 1, 1) := by decide +kernel
theorem dX11_anew_27 : decode cX11_anew 27 = .ok (.ireturn, 1) := by decide +kernel
theorem dX11_areDrawn_0 : decode cX11_areDrawn 0 = .ok (.aload_n 0, 1) := by decide +kernel
theorem dX11_areDrawn_1 : decode cX11_areDrawn 1 = .ok (.invokevirtual 295, 3) := by decide +kernel
theorem dX11_areDrawn_4 : decode cX11_areDrawn 4 = .ok (.ifCond .eq 31, 3) := by decide +kernel
theorem dX11_areDrawn_7 : decode cX11_areDrawn 7 = .ok (.iload_n 1, 1) := by decide +kernel
theorem dX11_areDrawn_8 : decode cX11_areDrawn 8 = .ok (.i2l, 1) := by decide +kernel
theorem dX11_areDrawn_9 : decode cX11_areDrawn 9 = .ok (.lconst 0, 1) := by decide +kernel
theorem dX11_areDrawn_10 : decode cX11_areDrawn 10 = .ok (.ldc2_w 437, 3) := by decide +kernel
theorem dX11_areDrawn_13 : decode cX11_areDrawn 13 = .ok (.invokestatic 94, 3) := by decide +kernel
theorem dX11_areDrawn_16 : decode cX11_areDrawn 16 = .ok (.ifCond .eq 19, 3) := by decide +kernel
theorem dX11_areDrawn_19 : decode cX11_areDrawn 19 = .ok (.iload_n 2, 1) := by decide +kernel
theorem dX11_areDrawn_20 : decode cX11_areDrawn 20 = .ok (.i2l, 1) := by decide +kernel
theorem dX11_areDrawn_21 : decode cX11_areDrawn 21 = .ok (.lconst 0, 1) := by decide +kernel
theorem dX11_areDrawn_22 : decode cX11_areDrawn 22 = .ok (.ldc2_w 439, 3) := by decide +kernel
theorem dX11_areDrawn_25 : decode cX11_areDrawn 25 = .ok (.invokestatic 94, 3) := by decide +kernel
theorem dX11_areDrawn_28 : decode cX11_areDrawn 28 = .ok (.ifCond .eq 7, 3) := by decide +kernel
theorem dX11_areDrawn_31 : decode cX11_areDrawn 31 = .ok (.iconst 1, 1) := by decide +kernel
theorem dX11_areDrawn_32 : decode cX11_areDrawn 32 = .ok (.goto 4, 3) := by decide +kernel
theorem dX11_areDrawn_35 : decode cX11_areDrawn 35 = .ok (.iconst 0, 1) := by decide +kernel
theorem dX11_areDrawn_36 : decode cX11_areDrawn 36 = .ok (.ireturn, 1) := by decide +kernel
theorem dX11_areNights_0 : decode cX11_areNights 0 = .ok (.iload_n 0, 1) := by decide +kernel
theorem dX11_areNights_1 : decode cX11_areNights 1 = .ok (.i2l, 1) := by decide +kernel
theorem dX11_areNights_2 : decode cX11_areNights 2 = .ok (.lconst 0, 1) := by decide +kernel
theorem dX11_areNights_3 : decode cX11_areNights 3 = .ok (.ldc2_w 279, 3) := by decide +kernel
theorem dX11_areNights_6 : decode cX11_areNights 6 = .ok (.invokestatic 94, 3) := by decide +kernel
theorem dX11_areNights_9 : decode cX11_areNights 9 = .ok (.ireturn, 1) := by decide +kernel
theorem dX11_argued_0 : decode cX11_argued 0 = .ok (.aload_n 0, 1) := by decide +kernel
theorem dX11_argued_1 : decode cX11_argued 1 = .ok (.iload_n 1, 1) := by decide +kernel
theorem dX11_argued_2 : decode cX11_argued 2 = .ok (.invokevirtual 416, 3) := by decide +kernel
theorem dX11_argued_5 : decode cX11_argued 5 = .ok (.istore_n 2, 1) := by decide +kernel
theorem dX11_argued_6 : decode cX11_argued 6 = .ok (.iload_n 2, 1) := by decide +kernel
theorem dX11_argued_7 : decode cX11_argued 7 = .ok (.ifCond .ge 5, 3) := by decide +kernel
theorem dX11_argued_10 : decode cX11_argued 10 = .ok (.iload_n 2, 1) := by decide +kernel
theorem dX11_argued_11 : decode cX11_argued 11 = .ok (.ireturn, 1) := by decide +kernel
theorem dX11_argued_12 : decode cX11_argued 12 = .ok (.aload_n 0, 1) := by decide +kernel
theorem dX11_argued_13 : decode cX11_argued 13 = .ok (.iload_n 1, 1) := by decide +kernel
theorem dX11_argued_14 : decode cX11_argued 14 = .ok (.invokevirtual 419, 3) := by decide +kernel
theorem dX11_argued_17 : decode cX11_argued 17 = .ok (.aload_n 0, 1) := by decide +kernel
theorem dX11_argued_18 : decode cX11_argued 18 = .ok (.getfield 409, 3) := by decide +kernel
theorem dX11_argued_21 : decode cX11_argued 21 = .ok (.ireturn, 1) := by decide +kernel
theorem dX11_asItIs_0 : decode cX11_asItIs 0 = .ok (.aload_n 0, 1) := by decide +kernel
theorem dX11_asItIs_1 : decode cX11_asItIs 1 = .ok (.iconst 0, 1) := by decide +kernel
theorem dX11_asItIs_2 : decode cX11_asItIs 2 = .ok (.putfield 208, 3) := by decide +kernel
theorem dX11_asItIs_5 : decode cX11_asItIs 5 = .ok (.aload_n 0, 1) := by decide +kernel
theorem dX11_asItIs_6 : decode cX11_asItIs 6 = .ok (.iconst 0, 1) := by decide +kernel
theorem dX11_asItIs_7 : decode cX11_asItIs 7 = .ok (.putfield 211, 3) := by decide +kernel
theorem dX11_asItIs_10 : decode cX11_asItIs 10 = .ok (.aload_n 0, 1) := by decide +kernel
theorem dX11_asItIs_11 : decode cX11_asItIs 11 = .ok (.iconst (-1), 1) := by decide +kernel
theorem dX11_asItIs_12 : decode cX11_asItIs 12 = .ok (.putfield 214, 3) := by decide +kernel
theorem dX11_asItIs_15 : decode cX11_asItIs 15 = .ok (.iconst 0, 1) := by decide +kernel
theorem dX11_asItIs_16 : decode cX11_asItIs 16 = .ok (.istore_n 1, 1) := by decide +kernel
theorem dX11_asItIs_17 : decode cX11_asItIs 17 = .ok (.iload_n 1, 1) := by decide +kernel
theorem dX11_asItIs_18 : decode cX11_asItIs 18 = .ok (.iconst 5, 1) := by decide +kernel
theorem dX11_asItIs_19 : decode cX11_asItIs 19 = .ok (.if_icmp .ge 45, 3) := by decide +kernel
theorem dX11_asItIs_22 : decode cX11_asItIs 22 = .ok (.aload_n 0, 1) := by decide +kernel
theorem dX11_asItIs_23 : decode cX11_asItIs 23 = .ok (.getfield 34, 3) := by decide +kernel
theorem dX11_asItIs_26 : decode cX11_asItIs 26 = .ok (.iload_n 1, 1) := by decide +kernel
theorem dX11_asItIs_27 : decode cX11_asItIs 27 = .ok (.aload_n 0, 1) := by decide +kernel
theorem dX11_asItIs_28 : decode cX11_asItIs 28 = .ok (.getfield 9, 3) := by decide +kernel
theorem dX11_asItIs_31 : decode cX11_asItIs 31 = .ok (.bipush 7, 2) := by decide +kernel
theorem dX11_asItIs_33 : decode cX11_asItIs 33 = .ok (.iconst 2, 1) := by decide +kernel
theorem dX11_asItIs_34 : decode cX11_asItIs 34 = .ok (.iload_n 1, 1) := by decide +kernel
theorem dX11_asItIs_35 : decode cX11_asItIs 35 = .ok (.imul, 1) := by decide +kernel
theorem dX11_asItIs_36 : decode cX11_asItIs 36 = .ok (.iadd, 1) := by decide +kernel
theorem dX11_asItIs_37 : decode cX11_asItIs 37 = .ok (.iaload, 1) := by decide +kernel
theorem dX11_asItIs_38 : decode cX11_asItIs 38 = .ok (.iastore, 1) := by decide +kernel
theorem dX11_asItIs_39 : decode cX11_asItIs 39 = .ok (.aload_n 0, 1) := by decide +kernel
theorem dX11_asItIs_40 : decode cX11_asItIs 40 = .ok (.getfield 37, 3) := by decide +kernel
theorem dX11_asItIs_43 : decode cX11_asItIs 43 = .ok (.iload_n 1, 1) := by decide +kernel
theorem dX11_asItIs_44 : decode cX11_asItIs 44 = .ok (.aload_n 0, 1) := by decide +kernel
theorem dX11_asItIs_45 : decode cX11_asItIs 45 = .ok (.getfield 9, 3) := by decide +kernel
theorem dX11_asItIs_48 : decode cX11_asItIs 48 = .ok (.bipush 7, 2) := by decide +kernel
theorem dX11_asItIs_50 : decode cX11_asItIs 50 = .ok (.iconst 2, 1) := by decide +kernel
theorem dX11_asItIs_51 : decode cX11_asItIs 51 = .ok (.iload_n 1, 1) := by decide +kernel
theorem dX11_asItIs_52 : decode cX11_asItIs 52 = .ok (.imul, 1) := by decide +kernel
theorem dX11_asItIs_53 : decode cX11_asItIs 53 = .ok (.iadd, 1) := by decide +kernel
theorem dX11_asItIs_54 : decode cX11_asItIs 54 = .ok (.iconst 1, 1) := by decide +kernel
theorem dX11_asItIs_55 : decode cX11_asItIs 55 = .ok (.iadd, 1) := by decide +kernel
theorem dX11_asItIs_56 : decode cX11_asItIs 56 = .ok (.iaload, 1) := by decide +kernel
theorem dX11_asItIs_57 : decode cX11_asItIs 57 = .ok (.iastore, 1) := by decide +kernel
theorem dX11_asItIs_58 : decode cX11_asItIs 58 = .ok (.iinc 1 1, 3) := by decide +kernel
theorem dX11_asItIs_61 : decode cX11_asItIs 61 = .ok (.goto (-44), 3) := by decide +kernel
theorem dX11_asItIs_64 : decode cX11_asItIs 64 = .ok (.iconst 0, 1) := by decide +kernel
theorem dX11_asItIs_65 : decode cX11_asItIs 65 = .ok (.istore_n 1, 1) := by decide +kernel
theorem dX11_asItIs_66 : decode cX11_asItIs 66 = .ok (.iload_n 1, 1) := by decide +kernel
theorem dX11_asItIs_67 : decode cX11_asItIs 67 = .ok (.bipush 6, 2) := by decide +kernel
theorem dX11_asItIs_69 : decode cX11_asItIs 69 = .ok (.if_icmp .ge 49, 3) := by decide +kernel
theorem dX11_asItIs_72 : decode cX11_asItIs 72 = .ok (.aload_n 0, 1) := by decide +kernel
theorem dX11_asItIs_73 : decode cX11_asItIs 73 = .ok (.getfield 40, 3) := by decide +kernel
theorem dX11_asItIs_76 : decode cX11_asItIs 76 = .ok (.iload_n 1, 1) := by decide +kernel
theorem dX11_asItIs_77 : decode cX11_asItIs 77 = .ok (.aload_n 0, 1) := by decide +kernel
theorem dX11_asItIs_78 : decode cX11_asItIs 78 = .ok (.getfield 9, 3) := by decide +kernel
theorem dX11_asItIs_81 : decode cX11_asItIs 81 = .ok (.bipush 17, 2) := by decide +kernel
theorem dX11_asItIs_83 : decode cX11_asItIs 83 = .ok (.iconst 2, 1) := by decide +kernel
theorem dX11_asItIs_84 : decode cX11_asItIs 84 = .ok (.iload_n 1, 1) := by decide +kernel
theorem dX11_asItIs_85 : decode cX11_asItIs 85 = .ok (.imul, 1) := by decide +kernel
theorem dX11_asItIs_86 : decode cX11_asItIs 86 = .ok (.iadd, 1) := by decide +kernel
theorem dX11_asItIs_87 : decode cX11_asItIs 87 = .ok (.iaload, 1) := by decide +kernel
theorem dX11_asItIs_88 : decode cX11_asItIs 88 = .ok (.iastore, 1) := by decide +kernel
theorem dX11_asItIs_89 : decode cX11_asItIs 89 = .ok (.aload_n 0, 1) := by decide +kernel
theorem dX11_asItIs_90 : decode cX11_asItIs 90 = .ok (.getfield 64, 3) := by decide +kernel
theorem dX11_asItIs_93 : decode cX11_asItIs 93 = .ok (.iload_n 1, 1) := by decide +kernel
theorem dX11_asItIs_94 : decode cX11_asItIs 94 = .ok (.iconst 1, 1) := by decide +kernel
theorem dX11_asItIs_95 : decode cX11_asItIs 95 = .ok (.iastore, 1) := by decide +kernel
theorem dX11_asItIs_96 : decode cX11_asItIs 96 = .ok (.aload_n 0, 1) := by decide +kernel
theorem dX11_asItIs_97 : decode cX11_asItIs 97 = .ok (.getfield 61, 3) := by decide +kernel
theorem dX11_asItIs_100 : decode cX11_asItIs 100 = .ok (.sipush 146, 3) := by decide +kernel
theorem dX11_asItIs_103 : decode cX11_asItIs 103 = .ok (.iload_n 1, 1) := by decide +kernel
theorem dX11_asItIs_104 : decode cX11_asItIs 104 = .ok (.imul, 1) := by decide +kernel
theorem dX11_asItIs_105 : decode cX11_asItIs 105 = .ok (.aload_n 0, 1) := by decide +kernel
theorem dX11_asItIs_106 : decode cX11_asItIs 106 = .ok (.getfield 40, 3) := by decide +kernel
theorem dX11_asItIs_109 : decode cX11_asItIs 109 = .ok (.iload_n 1, 1) := by decide +kernel
theorem dX11_asItIs_110 : decode cX11_asItIs 110 = .ok (.iaload, 1) := by decide +kernel
theorem dX11_asItIs_111 : decode cX11_asItIs 111 = .ok (.iastore, 1) := by decide +kernel
theorem dX11_asItIs_112 : decode cX11_asItIs 112 = .ok (.iinc 1 1, 3) := by decide +kernel
theorem dX11_asItIs_115 : decode cX11_asItIs 115 = .ok (.goto (-49), 3) := by decide +kernel
theorem dX11_asItIs_118 : decode cX11_asItIs 118 = .ok (.iconst 0, 1) := by decide +kernel
theorem dX11_asItIs_119 : decode cX11_asItIs 119 = .ok (.istore_n 1, 1) := by decide +kernel
theorem dX11_asItIs_120 : decode cX11_asItIs 120 = .ok (.iload_n 1, 1) := by decide +kernel
theorem dX11_asItIs_121 : decode cX11_asItIs 121 = .ok (.aload_n 0, 1) := by decide +kernel
theorem dX11_asItIs_122 : decode cX11_asItIs 122 = .ok (.getfield 9, 3) := by decide +kernel
theorem dX11_asItIs_125 : decode cX11_asItIs 125 = .ok (.bipush 6, 2) := by decide +kernel
theorem dX11_asItIs_127 : decode cX11_asItIs 127 = .ok (.iaload, 1) := by decide +kernel
theorem dX11_asItIs_128 : decode cX11_asItIs 128 = .ok (.if_icmp .ge 22, 3) := by decide +kernel
theorem dX11_asItIs_131 : decode cX11_asItIs 131 = .ok (.aload_n 0, 1) := by decide +kernel
theorem dX11_asItIs_132 : decode cX11_asItIs 132 = .ok (.aload_n 0, 1) := by decide +kernel
theorem dX11_asItIs_133 : decode cX11_asItIs 133 = .ok (.getfield 9, 3) := by decide +kernel
theorem dX11_asItIs_136 : decode cX11_asItIs 136 = .ok (.bipush 59, 2) := by decide +kernel
theorem dX11_asItIs_138 : decode cX11_asItIs 138 = .ok (.iload_n 1, 1) := by decide +kernel
theorem dX11_asItIs_139 : decode cX11_asItIs 139 = .ok (.iadd, 1) := by decide +kernel
theorem dX11_asItIs_140 : decode cX11_asItIs 140 = .ok (.iaload, 1) := by decide +kernel
theorem dX11_asItIs_141 : decode cX11_asItIs 141 = .ok (.invokevirtual 217, 3) := by decide +kernel
theorem dX11_asItIs_144 : decode cX11_asItIs 144 = .ok (.iinc 1 1, 3) := by decide +kernel
theorem dX11_asItIs_147 : decode cX11_asItIs 147 = .ok (.goto (-27), 3) := by decide +kernel
theorem dX11_asItIs_150 : decode cX11_asItIs 150 = .ok (.return_, 1) := by decide +kernel
theorem dX11_asksPapers_0 : decode cX11_asksPapers 0 = .ok (.iload_n 1, 1) := by decide +kernel
theorem dX11_asksPapers_1 : decode cX11_asksPapers 1 = .ok (.invokestatic 397, 3) := by decide +kernel
theorem dX11_asksPapers_4 : decode cX11_asksPapers 4 = .ok (.ifCond .eq 10, 3) := by decide +kernel
theorem dX11_asksPapers_7 : decode cX11_asksPapers 7 = .ok (.aload_n 0, 1) := by decide +kernel
theorem dX11_asksPapers_8 : decode cX11_asksPapers 8 = .ok (.invokevirtual 295, 3) := by decide +kernel
theorem dX11_asksPapers_11 : decode cX11_asksPapers 11 = .ok (.ifCond .ne 6, 3) := by decide +kernel
theorem dX11_asksPapers_14 : decode cX11_asksPapers 14 = .ok (.bipush (-2), 2) := by decide +kernel
theorem dX11_asksPapers_16 : decode cX11_asksPapers 16 = .ok (.ireturn, 1) := by decide +kernel
theorem dX11_asksPapers_17 : decode cX11_asksPapers 17 = .ok (.aload_n 0, 1) := by decide +kernel
theorem dX11_asksPapers_18 : decode cX11_asksPapers 18 = .ok (.getfield 76, 3) := by decide +kernel
theorem dX11_asksPapers_21 : decode cX11_asksPapers 21 = .ok (.iload_n 1, 1) := by decide +kernel
theorem dX11_asksPapers_22 : decode cX11_asksPapers 22 = .ok (.iaload, 1) := by decide +kernel
theorem dX11_asksPapers_23 : decode cX11_asksPapers 23 = .ok (.iconst (-1), 1) := by decide +kernel
theorem dX11_asksPapers_24 : decode cX11_asksPapers 24 = .ok (.if_icmp .ne 6, 3) := by decide +kernel
theorem dX11_asksPapers_27 : decode cX11_asksPapers 27 = .ok (.bipush (-6), 2) := by decide +kernel
theorem dX11_asksPapers_29 : decode cX11_asksPapers 29 = .ok (.ireturn, 1) := by decide +kernel
theorem dX11_asksPapers_30 : decode cX11_asksPapers 30 = .ok (.aload_n 0, 1) := by decide +kernel
theorem dX11_asksPapers_31 : decode cX11_asksPapers 31 = .ok (.getfield 76, 3) := by decide +kernel
theorem dX11_asksPapers_34 : decode cX11_asksPapers 34 = .ok (.iload_n 1, 1) := by decide +kernel
theorem dX11_asksPapers_35 : decode cX11_asksPapers 35 = .ok (.iaload, 1) := by decide +kernel
theorem dX11_asksPapers_36 : decode cX11_asksPapers 36 = .ok (.iconst 4, 1) := by decide +kernel
theorem dX11_asksPapers_37 : decode cX11_asksPapers 37 = .ok (.irem, 1) := by decide +kernel
theorem dX11_asksPapers_38 : decode cX11_asksPapers 38 = .ok (.ifCond .eq 6, 3) := by decide +kernel
theorem dX11_asksPapers_41 : decode cX11_asksPapers 41 = .ok (.bipush (-2), 2) := by decide +kernel
theorem dX11_asksPapers_43 : decode cX11_asksPapers 43 = .ok (.ireturn, 1) := by decide +kernel
theorem dX11_asksPapers_44 : decode cX11_asksPapers 44 = .ok (.iconst 0, 1) := by decide +kernel
theorem dX11_asksPapers_45 : decode cX11_asksPapers 45 = .ok (.istore_n 2, 1) := by decide +kernel
theorem dX11_asksPapers_46 : decode cX11_asksPapers 46 = .ok (.iload_n 2, 1) := by decide +kernel
theorem dX11_asksPapers_47 : decode cX11_asksPapers 47 = .ok (.aload_n 0, 1) := by decide +kernel
theorem dX11_asksPapers_48 : decode cX11_asksPapers 48 = .ok (.getfield 76, 3) := by decide +kernel
theorem dX11_asksPapers_51 : decode cX11_asksPapers 51 = .ok (.iload_n 1, 1) := by decide +kernel
theorem dX11_asksPapers_52 : decode cX11_asksPapers 52 = .ok (.iaload, 1) := by decide +kernel
theorem dX11_asksPapers_53 : decode cX11_asksPapers 53 = .ok (.if_icmp .ge 21, 3) := by decide +kernel
theorem dX11_asksPapers_56 : decode cX11_asksPapers 56 = .ok (.aload_n 0, 1) := by decide +kernel
theorem dX11_asksPapers_57 : decode cX11_asksPapers 57 = .ok (.iload_n 1, 1) := by decide +kernel
theorem dX11_asksPapers_58 : decode cX11_asksPapers 58 = .ok (.iload_n 2, 1) := by decide +kernel
theorem dX11_asksPapers_59 : decode cX11_asksPapers 59 = .ok (.invokevirtual 400, 3) := by decide +kernel
theorem dX11_asksPapers_62 : decode cX11_asksPapers 62 = .ok (.ifCond .ne 6, 3) := by decide +kernel
theorem dX11_asksPapers_65 : decode cX11_asksPapers 65 = .ok (.bipush (-2), 2) := by decide +kernel
theorem dX11_asksPapers_67 : decode cX11_asksPapers 67 = .ok (.ireturn, 1) := by decide +kernel
theorem dX11_asksPapers_68 : decode cX11_asksPapers 68 = .ok (.iinc 2 4, 3) := by decide +kernel
theorem dX11_asksPapers_71 : decode cX11_asksPapers 71 = .ok (.goto (-25), 3) := by decide +kernel
theorem dX11_asksPapers_74 : decode cX11_asksPapers 74 = .ok (.aload_n 0, 1) := by decide +kernel
theorem dX11_asksPapers_75 : decode cX11_asksPapers 75 = .ok (.invokevirtual 250, 3) := by decide +kernel
theorem dX11_asksPapers_78 : decode cX11_asksPapers 78 = .ok (.iconst 0, 1) := by decide +kernel
theorem dX11_asksPapers_79 : decode cX11_asksPapers 79 = .ok (.ireturn, 1) := by decide +kernel
theorem dX11_back_0 : decode cX11_back 0 = .ok (.iload_n 1, 1) := by decide +kernel
theorem dX11_back_1 : decode cX11_back 1 = .ok (.i2l, 1) := by decide +kernel
theorem dX11_back_2 : decode cX11_back 2 = .ok (.lconst 0, 1) := by decide +kernel
theorem dX11_back_3 : decode cX11_back 3 = .ok (.ldc2_w 92, 3) := by decide +kernel
theorem dX11_back_6 : decode cX11_back 6 = .ok (.invokestatic 94, 3) := by decide +kernel
theorem dX11_back_9 : decode cX11_back 9 = .ok (.ifCond .ne 6, 3) := by decide +kernel
theorem dX11_back_12 : decode cX11_back 12 = .ok (.bipush (-2), 2) := by decide +kernel
theorem dX11_back_14 : decode cX11_back 14 = .ok (.ireturn, 1) := by decide +kernel
theorem dX11_back_15 : decode cX11_back 15 = .ok (.aload_n 0, 1) := by decide +kernel
theorem dX11_back_16 : decode cX11_back 16 = .ok (.getfield 16, 3) := by decide +kernel
theorem dX11_back_19 : decode cX11_back 19 = .ok (.iload_n 1, 1) := by decide +kernel
theorem dX11_back_20 : decode cX11_back 20 = .ok (.baload, 1) := by decide +kernel
theorem dX11_back_21 : decode cX11_back 21 = .ok (.ifCond .ne 6, 3) := by decide +kernel
theorem dX11_back_24 : decode cX11_back 24 = .ok (.bipush (-6), 2) := by decide +kernel
theorem dX11_back_26 : decode cX11_back 26 = .ok (.ireturn, 1) := by decide +kernel
theorem dX11_back_27 : decode cX11_back 27 = .ok (.iconst 0, 1) := by decide +kernel
theorem dX11_back_28 : decode cX11_back 28 = .ok (.istore_n 2, 1) := by decide +kernel
theorem dX11_back_29 : decode cX11_back 29 = .ok (.iload_n 2, 1) := by decide +kernel
theorem dX11_back_30 : decode cX11_back 30 = .ok (.bipush 119, 2) := by decide +kernel
theorem dX11_back_32 : decode cX11_back 32 = .ok (.if_icmp .ge 26, 3) := by decide +kernel
theorem dX11_back_35 : decode cX11_back 35 = .ok (.aload_n 0, 1) := by decide +kernel
theorem dX11_back_36 : decode cX11_back 36 = .ok (.getfield 9, 3) := by decide +kernel
theorem dX11_back_39 : decode cX11_back 39 = .ok (.iload_n 2, 1) := by decide +kernel
theorem dX11_back_40 : decode cX11_back 40 = .ok (.aload_n 0, 1) := by decide +kernel
theorem dX11_back_41 : decode cX11_back 41 = .ok (.getfield 13, 3) := by decide +kernel
theorem dX11_back_44 : decode cX11_back 44 = .ok (.bipush 119, 2) := by decide +kernel
theorem dX11_back_46 : decode cX11_back 46 = .ok (.iload_n 1, 1) := by decide +kernel
theorem dX11_back_47 : decode cX11_back 47 = .ok (.imul, 1) := by decide +kernel
theorem dX11_back_48 : decode cX11_back 48 = .ok (.iload_n 2, 1) := by decide +kernel
theorem dX11_back_49 : decode cX11_back 49 = .ok (.iadd, 1) := by decide +kernel
theorem dX11_back_50 : decode cX11_back 50 = .ok (.iaload, 1) := by decide +kernel
theorem dX11_back_51 : decode cX11_back 51 = .ok (.iastore, 1) := by decide +kernel
theorem dX11_back_52 : decode cX11_back 52 = .ok (.iinc 2 1, 3) := by decide +kernel
theorem dX11_back_55 : decode cX11_back 55 = .ok (.goto (-26), 3) := by decide +kernel
theorem dX11_back_58 : decode cX11_back 58 = .ok (.iconst 0, 1) := by decide +kernel
theorem dX11_back_59 : decode cX11_back 59 = .ok (.ireturn, 1) := by decide +kernel
theorem dX11_bit_0 : decode cX11_bit 0 = .ok (.iload_n 0, 1) := by decide +kernel
theorem dX11_bit_1 : decode cX11_bit 1 = .ok (.iload_n 1, 1) := by decide +kernel
theorem dX11_bit_2 : decode cX11_bit 2 = .ok (.ishr, 1) := by decide +kernel
theorem dX11_bit_3 : decode cX11_bit 3 = .ok (.iconst 1, 1) := by decide +kernel
theorem dX11_bit_4 : decode cX11_bit 4 = .ok (.iand, 1) := by decide +kernel
theorem dX11_bit_5 : decode cX11_bit 5 = .ok (.ireturn, 1) := by decide +kernel
theorem dX11_bits_0 : decode cX11_bits 0 = .ok (.iconst 0, 1) := by decide +kernel
theorem dX11_bits_1 : decode cX11_bits 1 = .ok (.istore_n 1, 1) := by decide +kernel
theorem dX11_bits_2 : decode cX11_bits 2 = .ok (.iconst 0, 1) := by decide +kernel
theorem dX11_bits_3 : decode cX11_bits 3 = .ok (.istore_n 2, 1) := by decide +kernel
theorem dX11_bits_4 : decode cX11_bits 4 = .ok (.iload_n 2, 1) := by decide +kernel
theorem dX11_bits_5 : decode cX11_bits 5 = .ok (.bipush 24, 2) := by decide +kernel
theorem dX11_bits_7 : decode cX11_bits 7 = .ok (.if_icmp .ge 17, 3) := by decide +kernel
theorem dX11_bits_10 : decode cX11_bits 10 = .ok (.iload_n 1, 1) := by decide +kernel
theorem dX11_bits_11 : decode cX11_bits 11 = .ok (.iload_n 0, 1) := by decide +kernel
theorem dX11_bits_12 : decode cX11_bits 12 = .ok (.iload_n 2, 1) := by decide +kernel
theorem dX11_bits_13 : decode cX11_bits 13 = .ok (.ishr, 1) := by decide +kernel
theorem dX11_bits_14 : decode cX11_bits 14 = .ok (.iconst 1, 1) := by decide +kernel
theorem dX11_bits_15 : decode cX11_bits 15 = .ok (.iand, 1) := by decide +kernel
theorem dX11_bits_16 : decode cX11_bits 16 = .ok (.iadd, 1) := by decide +kernel
theorem dX11_bits_17 : decode cX11_bits 17 = .ok (.istore_n 1, 1) := by decide +kernel
theorem dX11_bits_18 : decode cX11_bits 18 = .ok (.iinc 2 1, 3) := by decide +kernel
theorem dX11_bits_21 : decode cX11_bits 21 = .ok (.goto (-17), 3) := by decide +kernel
theorem dX11_bits_24 : decode cX11_bits 24 = .ok (.iload_n 1, 1) := by decide +kernel
theorem dX11_bits_25 : decode cX11_bits 25 = .ok (.ireturn, 1) := by decide +kernel
theorem dX11_bring0_0 : decode cX11_bring0 0 = .ok (.aload_n 0, 1) := by decide +kernel
theorem dX11_bring0_1 : decode cX11_bring0 1 = .ok (.aload_n 0, 1) := by decide +kernel
theorem dX11_bring0_2 : decode cX11_bring0 2 = .ok (.getfield 46, 3) := by decide +kernel
theorem dX11_bring0_5 : decode cX11_bring0 5 = .ok (.iload_n 1, 1) := by decide +kernel
theorem dX11_bring0_6 : decode cX11_bring0 6 = .ok (.iaload, 1) := by decide +kernel
theorem dX11_bring0_7 : decode cX11_bring0 7 = .ok (.aload_n 0, 1) := by decide +kernel
theorem dX11_bring0_8 : decode cX11_bring0 8 = .ok (.getfield 49, 3) := by decide +kernel
theorem dX11_bring0_11 : decode cX11_bring0 11 = .ok (.iload_n 1, 1) := by decide +kernel
theorem dX11_bring0_12 : decode cX11_bring0 12 = .ok (.iaload, 1) := by decide +kernel
theorem dX11_bring0_13 : decode cX11_bring0 13 = .ok (.invokevirtual 235, 3) := by decide +kernel
theorem dX11_bring0_16 : decode cX11_bring0 16 = .ok (.aload_n 0, 1) := by decide +kernel
theorem dX11_bring0_17 : decode cX11_bring0 17 = .ok (.getfield 55, 3) := by decide +kernel
theorem dX11_bring0_20 : decode cX11_bring0 20 = .ok (.iload_n 1, 1) := by decide +kernel
theorem dX11_bring0_21 : decode cX11_bring0 21 = .ok (.iconst 1, 1) := by decide +kernel
theorem dX11_bring0_22 : decode cX11_bring0 22 = .ok (.iastore, 1) := by decide +kernel
theorem dX11_bring0_23 : decode cX11_bring0 23 = .ok (.return_, 1) := by decide +kernel
theorem dX11_brings_0 : decode cX11_brings 0 = .ok (.aload_n 0, 1) := by decide +kernel
theorem dX11_brings_1 : decode cX11_brings 1 = .ok (.iload_n 1, 1) := by decide +kernel
theorem dX11_brings_2 : decode cX11_brings 2 = .ok (.invokevirtual 272, 3) := by decide +kernel
theorem dX11_brings_5 : decode cX11_brings 5 = .ok (.ifCond .ne 6, 3) := by decide +kernel
theorem dX11_brings_8 : decode cX11_brings 8 = .ok (.bipush (-2), 2) := by decide +kernel
theorem dX11_brings_10 : decode cX11_brings 10 = .ok (.ireturn, 1) := by decide +kernel
theorem dX11_brings_11 : decode cX11_brings 11 = .ok (.aload_n 0, 1) := by decide +kernel
theorem dX11_brings_12 : decode cX11_brings 12 = .ok (.iload_n 1, 1) := by decide +kernel
theorem dX11_brings_13 : decode cX11_brings 13 = .ok (.invokevirtual 253, 3) := by decide +kernel
theorem dX11_brings_16 : decode cX11_brings 16 = .ok (.ifCond .eq 43, 3) := by decide +kernel
theorem dX11_brings_19 : decode cX11_brings 19 = .ok (.aload_n 0, 1) := by decide +kernel
theorem dX11_brings_20 : decode cX11_brings 20 = .ok (.getfield 40, 3) := by decide +kernel
theorem dX11_brings_23 : decode cX11_brings 23 = .ok (.aload_n 0, 1) := by decide +kernel
theorem dX11_brings_24 : decode cX11_brings 24 = .ok (.getfield 46, 3) := by decide +kernel
theorem dX11_brings_27 : decode cX11_brings 27 = .ok (.iload_n 1, 1) := by decide +kernel
theorem dX11_brings_28 : decode cX11_brings 28 = .ok (.iaload, 1) := by decide +kernel
theorem dX11_brings_29 : decode cX11_brings 29 = .ok (.iaload, 1) := by decide +kernel
theorem dX11_brings_30 : decode cX11_brings 30 = .ok (.aload_n 0, 1) := by decide +kernel
theorem dX11_brings_31 : decode cX11_brings 31 = .ok (.getfield 43, 3) := by decide +kernel
theorem dX11_brings_34 : decode cX11_brings 34 = .ok (.iload_n 1, 1) := by decide +kernel
theorem dX11_brings_35 : decode cX11_brings 35 = .ok (.iaload, 1) := by decide +kernel
theorem dX11_brings_36 : decode cX11_brings 36 = .ok (.if_icmp .ne 23, 3) := by decide +kernel
theorem dX11_brings_39 : decode cX11_brings 39 = .ok (.aload_n 0, 1) := by decide +kernel
theorem dX11_brings_40 : decode cX11_brings 40 = .ok (.iconst 2, 1) := by decide +kernel
theorem dX11_brings_41 : decode cX11_brings 41 = .ok (.iload_n 1, 1) := by decide +kernel
theorem dX11_brings_42 : decode cX11_brings 42 = .ok (.iconst 0, 1) := by decide +kernel
theorem dX11_brings_43 : decode cX11_brings 43 = .ok (.iconst 0, 1) := by decide +kernel
theorem dX11_brings_44 : decode cX11_brings 44 = .ok (.invokevirtual 285, 3) := by decide +kernel
theorem dX11_brings_47 : decode cX11_brings 47 = .ok (.ifCond .eq 12, 3) := by decide +kernel
theorem dX11_brings_50 : decode cX11_brings 50 = .ok (.aload_n 0, 1) := by decide +kernel
theorem dX11_brings_51 : decode cX11_brings 51 = .ok (.getfield 49, 3) := by decide +kernel
theorem dX11_brings_54 : decode cX11_brings 54 = .ok (.iload_n 1, 1) := by decide +kernel
theorem dX11_brings_55 : decode cX11_brings 55 = .ok (.iaload, 1) := by decide +kernel
theorem dX11_brings_56 : decode cX11_brings 56 = .ok (.goto 5, 3) := by decide +kernel
theorem dX11_brings_59 : decode cX11_brings 59 = .ok (.bipush (-5), 2) := by decide +kernel
theorem dX11_brings_61 : decode cX11_brings 61 = .ok (.ireturn, 1) := by decide +kernel
theorem dX11_canSteal_0 : decode cX11_canSteal 0 = .ok (.aload_n 0, 1) := by decide +kernel
theorem dX11_canSteal_1 : decode cX11_canSteal 1 = .ok (.getfield 40, 3) := by decide +kernel
theorem dX11_canSteal_4 : decode cX11_canSteal 4 = .ok (.iload_n 2, 1) := by decide +kernel
theorem dX11_canSteal_5 : decode cX11_canSteal 5 = .ok (.iaload, 1) := by decide +kernel
theorem dX11_canSteal_6 : decode cX11_canSteal 6 = .ok (.iload_n 1, 1) := by decide +kernel
theorem dX11_canSteal_7 : decode cX11_canSteal 7 = .ok (.if_icmp .eq 30, 3) := by decide +kernel
theorem dX11_canSteal_10 : decode cX11_canSteal 10 = .ok (.aload_n 0, 1) := by decide +kernel
theorem dX11_canSteal_11 : decode cX11_canSteal 11 = .ok (.getfield 37, 3) := by decide +kernel
theorem dX11_canSteal_14 : decode cX11_canSteal 14 = .ok (.aload_n 0, 1) := by decide +kernel
theorem dX11_canSteal_15 : decode cX11_canSteal 15 = .ok (.getfield 40, 3) := by decide +kernel
theorem dX11_canSteal_18 : decode cX11_canSteal 18 = .ok (.iload_n 2, 1) := by decide +kernel
theorem dX11_canSteal_19 : decode cX11_canSteal 19 = .ok (.iaload, 1) := by decide +kernel
theorem dX11_canSteal_20 : decode cX11_canSteal 20 = .ok (.iaload, 1) := by decide +kernel
theorem dX11_canSteal_21 : decode cX11_canSteal 21 = .ok (.ifCond .ne 16, 3) := by decide +kernel
theorem dX11_canSteal_24 : decode cX11_canSteal 24 = .ok (.aload_n 0, 1) := by decide +kernel
theorem dX11_canSteal_25 : decode cX11_canSteal 25 = .ok (.getfield 208, 3) := by decide +kernel
theorem dX11_canSteal_28 : decode cX11_canSteal 28 = .ok (.bipush 24, 2) := by decide +kernel
theorem dX11_canSteal_30 : decode cX11_canSteal 30 = .ok (.if_icmp .ge 7, 3) := by decide +kernel
theorem dX11_canSteal_33 : decode cX11_canSteal 33 = .ok (.iconst 1, 1) := by decide +kernel
theorem dX11_canSteal_34 : decode cX11_canSteal 34 = .ok (.goto 4, 3) := by decide +kernel
theorem dX11_canSteal_37 : decode cX11_canSteal 37 = .ok (.iconst 0, 1) := by decide +kernel
theorem dX11_canSteal_38 : decode cX11_canSteal 38 = .ok (.ireturn, 1) := by decide +kernel
theorem dX11_chain_0 : decode cX11_chain 0 = .ok (.aload_n 0, 1) := by decide +kernel
theorem dX11_chain_1 : decode cX11_chain 1 = .ok (.iload_n 1, 1) := by decide +kernel
theorem dX11_chain_2 : decode cX11_chain 2 = .ok (.i2l, 1) := by decide +kernel
theorem dX11_chain_3 : decode cX11_chain 3 = .ok (.invokevirtual 266, 3) := by decide +kernel
theorem dX11_chain_6 : decode cX11_chain 6 = .ok (.ifCond .ne 6, 3) := by decide +kernel
theorem dX11_chain_9 : decode cX11_chain 9 = .ok (.bipush (-2), 2) := by decide +kernel
theorem dX11_chain_11 : decode cX11_chain 11 = .ok (.ireturn, 1) := by decide +kernel
theorem dX11_chain_12 : decode cX11_chain 12 = .ok (.aload_n 0, 1) := by decide +kernel
theorem dX11_chain_13 : decode cX11_chain 13 = .ok (.invokevirtual 250, 3) := by decide +kernel
theorem dX11_chain_16 : decode cX11_chain 16 = .ok (.aload_n 0, 1) := by decide +kernel
theorem dX11_chain_17 : decode cX11_chain 17 = .ok (.iload_n 1, 1) := by decide +kernel
theorem dX11_chain_18 : decode cX11_chain 18 = .ok (.invokevirtual 309, 3) := by decide +kernel
theorem dX11_chain_21 : decode cX11_chain 21 = .ok (.pop, 1) := by decide +kernel
theorem dX11_chain_22 : decode cX11_chain 22 = .ok (.iload_n 2, 1) := by decide +kernel
theorem dX11_chain_23 : decode cX11_chain 23 = .ok (.i2l, 1) := by decide +kernel
theorem dX11_chain_24 : decode cX11_chain 24 = .ok (.lconst 0, 1) := by decide +kernel
theorem dX11_chain_25 : decode cX11_chain 25 = .ok (.aload_n 0, 1) := by decide +kernel
theorem dX11_chain_26 : decode cX11_chain 26 = .ok (.getfield 300, 3) := by decide +kernel
theorem dX11_chain_29 : decode cX11_chain 29 = .ok (.iconst 1, 1) := by decide +kernel
theorem dX11_chain_30 : decode cX11_chain 30 = .ok (.isub, 1) := by decide +kernel
theorem dX11_chain_31 : decode cX11_chain 31 = .ok (.i2l, 1) := by decide +kernel
theorem dX11_chain_32 : decode cX11_chain 32 = .ok (.invokestatic 94, 3) := by decide +kernel
theorem dX11_chain_35 : decode cX11_chain 35 = .ok (.ifCond .eq 12, 3) := by decide +kernel
theorem dX11_chain_38 : decode cX11_chain 38 = .ok (.aload_n 0, 1) := by decide +kernel
theorem dX11_chain_39 : decode cX11_chain 39 = .ok (.getfield 67, 3) := by decide +kernel
theorem dX11_chain_42 : decode cX11_chain 42 = .ok (.iload_n 2, 1) := by decide +kernel
theorem dX11_chain_43 : decode cX11_chain 43 = .ok (.iaload, 1) := by decide +kernel
theorem dX11_chain_44 : decode cX11_chain 44 = .ok (.goto 4, 3) := by decide +kernel
theorem dX11_chain_47 : decode cX11_chain 47 = .ok (.iconst (-1), 1) := by decide +kernel
theorem dX11_chain_48 : decode cX11_chain 48 = .ok (.ireturn, 1) := by decide +kernel
theorem dX11_change_0 : decode cX11_change 0 = .ok (.aload_n 0, 1) := by decide +kernel
theorem dX11_change_1 : decode cX11_change 1 = .ok (.iload_n 1, 1) := by decide +kernel
theorem dX11_change_2 : decode cX11_change 2 = .ok (.i2l, 1) := by decide +kernel
theorem dX11_change_3 : decode cX11_change 3 = .ok (.invokevirtual 257, 3) := by decide +kernel
theorem dX11_change_6 : decode cX11_change 6 = .ok (.ifCond .eq 17, 3) := by decide +kernel
theorem dX11_change_9 : decode cX11_change 9 = .ok (.aload_n 0, 1) := by decide +kernel
theorem dX11_change_10 : decode cX11_change 10 = .ok (.iload_n 2, 1) := by decide +kernel
theorem dX11_change_11 : decode cX11_change 11 = .ok (.i2l, 1) := by decide +kernel
theorem dX11_change_12 : decode cX11_change 12 = .ok (.invokevirtual 257, 3) := by decide +kernel
theorem dX11_change_15 : decode cX11_change 15 = .ok (.ifCond .eq 8, 3) := by decide +kernel
theorem dX11_change_18 : decode cX11_change 18 = .ok (.iload_n 1, 1) := by decide +kernel
theorem dX11_change_19 : decode cX11_change 19 = .ok (.iload_n 2, 1) := by decide +kernel
theorem dX11_change_20 : decode cX11_change 20 = .ok (.if_icmp .ne 6, 3) := by decide +kernel
theorem dX11_change_23 : decode cX11_change 23 = .ok (.bipush (-2), 2) := by decide +kernel
theorem dX11_change_25 : decode cX11_change 25 = .ok (.ireturn, 1) := by decide +kernel
theorem dX11_change_26 : decode cX11_change 26 = .ok (.aload_n 0, 1) := by decide +kernel
theorem dX11_change_27 : decode cX11_change 27 = .ok (.invokevirtual 250, 3) := by decide +kernel
theorem dX11_change_30 : decode cX11_change 30 = .ok (.iconst 0, 1) := by decide +kernel
theorem dX11_change_31 : decode cX11_change 31 = .ok (.istore_n 3, 1) := by decide +kernel
theorem dX11_change_32 : decode cX11_change 32 = .ok (.iload_n 3, 1) := by decide +kernel
theorem dX11_change_33 : decode cX11_change 33 = .ok (.aload_n 0, 1) := by decide +kernel
theorem dX11_change_34 : decode cX11_change 34 = .ok (.getfield 9, 3) := by decide +kernel
theorem dX11_change_37 : decode cX11_change 37 = .ok (.iconst 4, 1) := by decide +kernel
theorem dX11_change_38 : decode cX11_change 38 = .ok (.iaload, 1) := by decide +kernel
theorem dX11_change_39 : decode cX11_change 39 = .ok (.if_icmp .ge 90, 3) := by decide +kernel
theorem dX11_change_42 : decode cX11_change 42 = .ok (.iconst 0, 1) := by decide +kernel
theorem dX11_change_43 : decode cX11_change 43 = .ok (.istore 4, 2) := by decide +kernel
theorem dX11_change_45 : decode cX11_change 45 = .ok (.iload 4, 2) := by decide +kernel
theorem dX11_change_47 : decode cX11_change 47 = .ok (.aload_n 0, 1) := by decide +kernel
theorem dX11_change_48 : decode cX11_change 48 = .ok (.getfield 9, 3) := by decide +kernel
theorem dX11_change_51 : decode cX11_change 51 = .ok (.iconst 4, 1) := by decide +kernel
theorem dX11_change_52 : decode cX11_change 52 = .ok (.iaload, 1) := by decide +kernel
theorem dX11_change_53 : decode cX11_change 53 = .ok (.if_icmp .ge 70, 3) := by decide +kernel
theorem dX11_change_56 : decode cX11_change 56 = .ok (.aload_n 0, 1) := by decide +kernel
theorem dX11_change_57 : decode cX11_change 57 = .ok (.getfield 40, 3) := by decide +kernel
theorem dX11_change_60 : decode cX11_change 60 = .ok (.iload_n 3, 1) := by decide +kernel
theorem dX11_change_61 : decode cX11_change 61 = .ok (.iaload, 1) := by decide +kernel
theorem dX11_change_62 : decode cX11_change 62 = .ok (.iload_n 1, 1) := by decide +kernel
theorem dX11_change_63 : decode cX11_change 63 = .ok (.if_icmp .ne 54, 3) := by decide +kernel
theorem dX11_change_66 : decode cX11_change 66 = .ok (.aload_n 0, 1) := by decide +kernel
theorem dX11_change_67 : decode cX11_change 67 = .ok (.getfield 40, 3) := by decide +kernel
theorem dX11_change_70 : decode cX11_change 70 = .ok (.iload 4, 2) := by decide +kernel
theorem dX11_change_72 : decode cX11_change 72 = .ok (.iaload, 1) := by decide +kernel
theorem dX11_change_73 : decode cX11_change 73 = .ok (.iload_n 2, 1) := by decide +kernel
theorem dX11_change_74 : decode cX11_change 74 = .ok (.if_icmp .ne 43, 3) := by decide +kernel
theorem dX11_change_77 : decode cX11_change 77 = .ok (.aload_n 0, 1) := by decide +kernel
theorem dX11_change_78 : decode cX11_change 78 = .ok (.iload_n 1, 1) := by decide +kernel
theorem dX11_change_79 : decode cX11_change 79 = .ok (.iload 4, 2) := by decide +kernel
theorem dX11_change_81 : decode cX11_change 81 = .ok (.invokevirtual 269, 3) := by decide +kernel
theorem dX11_change_84 : decode cX11_change 84 = .ok (.aload_n 0, 1) := by decide +kernel
theorem dX11_change_85 : decode cX11_change 85 = .ok (.iload_n 1, 1) := by decide +kernel
theorem dX11_change_86 : decode cX11_change 86 = .ok (.iload_n 3, 1) := by decide +kernel
theorem dX11_change_87 : decode cX11_change 87 = .ok (.invokevirtual 269, 3) := by decide +kernel
theorem dX11_change_90 : decode cX11_change 90 = .ok (.if_icmp .le 27, 3) := by decide +kernel
theorem dX11_change_93 : decode cX11_change 93 = .ok (.aload_n 0, 1) := by decide +kernel
theorem dX11_change_94 : decode cX11_change 94 = .ok (.iload_n 2, 1) := by decide +kernel
theorem dX11_change_95 : decode cX11_change 95 = .ok (.iload_n 3, 1) := by decide +kernel
theorem dX11_change_96 : decode cX11_change 96 = .ok (.invokevirtual 269, 3) := by decide +kernel
theorem dX11_change_99 : decode cX11_change 99 = .ok (.aload_n 0, 1) := by decide +kernel
theorem dX11_change_100 : decode cX11_change 100 = .ok (.iload_n 2, 1) := by decide +kernel
theorem dX11_change_101 : decode cX11_change 101 = .ok (.iload 4, 2) := by decide +kernel
theorem dX11_change_103 : decode cX11_change 103 = .ok (.invokevirtual 269, 3) := by decide +kernel
theorem dX11_change_106 : decode cX11_change 106 = .ok (.if_icmp .le 11, 3) := by decide +kernel
theorem dX11_change_109 : decode cX11_change 109 = .ok (.bipush 10, 2) := by decide +kernel
theorem dX11_change_111 : decode cX11_change 111 = .ok (.iload_n 3, 1) := by decide +kernel
theorem dX11_change_112 : decode cX11_change 112 = .ok (.imul, 1) := by decide +kernel
theorem dX11_change_113 : decode cX11_change 113 = .ok (.iload 4, 2) := by decide +kernel
theorem dX11_change_115 : decode cX11_change 115 = .ok (.iadd, 1) := by decide +kernel
theorem dX11_change_116 : decode cX11_change 116 = .ok (.ireturn, 1) := by decide +kernel
theorem dX11_change_117 : decode cX11_change 117 = .ok (.iinc 4 1, 3) := by decide +kernel
theorem dX11_change_120 : decode cX11_change 120 = .ok (.goto (-75), 3) := by decide +kernel
theorem dX11_change_123 : decode cX11_change 123 = .ok (.iinc 3 1, 3) := by decide +kernel
theorem dX11_change_126 : decode cX11_change 126 = .ok (.goto (-94), 3) := by decide +kernel
theorem dX11_change_129 : decode cX11_change 129 = .ok (.iconst (-1), 1) := by decide +kernel
theorem dX11_change_130 : decode cX11_change 130 = .ok (.ireturn, 1) := by decide +kernel
theorem dX11_city_0 : decode cX11_city 0 = .ok (.aload_n 0, 1) := by decide +kernel
theorem dX11_city_1 : decode cX11_city 1 = .ok (.aload_n 0, 1) := by decide +kernel
theorem dX11_city_2 : decode cX11_city 2 = .ok (.getfield 106, 3) := by decide +kernel
theorem dX11_city_5 : decode cX11_city 5 = .ok (.putfield 109, 3) := by decide +kernel
theorem dX11_city_8 : decode cX11_city 8 = .ok (.aload_n 0, 1) := by decide +kernel
theorem dX11_city_9 : decode cX11_city 9 = .ok (.iconst 0, 1) := by decide +kernel
theorem dX11_city_10 : decode cX11_city 10 = .ok (.putfield 106, 3) := by decide +kernel
theorem dX11_city_13 : decode cX11_city 13 = .ok (.aload_n 0, 1) := by decide +kernel
theorem dX11_city_14 : decode cX11_city 14 = .ok (.iconst 0, 1) := by decide +kernel
theorem dX11_city_15 : decode cX11_city 15 = .ok (.putfield 112, 3) := by decide +kernel
theorem dX11_city_18 : decode cX11_city 18 = .ok (.aload_n 0, 1) := by decide +kernel
theorem dX11_city_19 : decode cX11_city 19 = .ok (.iconst 0, 1) := by decide +kernel
theorem dX11_city_20 : decode cX11_city 20 = .ok (.putfield 141, 3) := by decide +kernel
theorem dX11_city_23 : decode cX11_city 23 = .ok (.aload_n 0, 1) := by decide +kernel
theorem dX11_city_24 : decode cX11_city 24 = .ok (.iconst (-1), 1) := by decide +kernel
theorem dX11_city_25 : decode cX11_city 25 = .ok (.putfield 27, 3) := by decide +kernel
theorem dX11_city_28 : decode cX11_city 28 = .ok (.iconst 0, 1) := by decide +kernel
theorem dX11_city_29 : decode cX11_city 29 = .ok (.istore_n 1, 1) := by decide +kernel
theorem dX11_city_30 : decode cX11_city 30 = .ok (.iload_n 1, 1) := by decide +kernel
theorem dX11_city_31 : decode cX11_city 31 = .ok (.bipush 119, 2) := by decide +kernel
theorem dX11_city_33 : decode cX11_city 33 = .ok (.if_icmp .ge 16, 3) := by decide +kernel
theorem dX11_city_36 : decode cX11_city 36 = .ok (.aload_n 0, 1) := by decide +kernel
theorem dX11_city_37 : decode cX11_city 37 = .ok (.getfield 31, 3) := by decide +kernel
theorem dX11_city_40 : decode cX11_city 40 = .ok (.iload_n 1, 1) := by decide +kernel
theorem dX11_city_41 : decode cX11_city 41 = .ok (.iconst 0, 1) := by decide +kernel
theorem dX11_city_42 : decode cX11_city 42 = .ok (.iastore, 1) := by decide +kernel
theorem dX11_city_43 : decode cX11_city 43 = .ok (.iinc 1 1, 3) := by decide +kernel
theorem dX11_city_46 : decode cX11_city 46 = .ok (.goto (-16), 3) := by decide +kernel
theorem dX11_city_49 : decode cX11_city 49 = .ok (.aload_n 0, 1) := by decide +kernel
theorem dX11_city_50 : decode cX11_city 50 = .ok (.invokevirtual 162, 3) := by decide +kernel
theorem dX11_city_53 : decode cX11_city 53 = .ok (.aload_n 0, 1) := by decide +kernel
theorem dX11_city_54 : decode cX11_city 54 = .ok (.invokevirtual 144, 3) := by decide +kernel
theorem dX11_city_57 : decode cX11_city 57 = .ok (.ifCond .eq 17, 3) := by decide +kernel
theorem dX11_city_60 : decode cX11_city 60 = .ok (.aload_n 0, 1) := by decide +kernel
theorem dX11_city_61 : decode cX11_city 61 = .ok (.getfield 121, 3) := by decide +kernel
theorem dX11_city_64 : decode cX11_city 64 = .ok (.ifCond .eq 10, 3) := by decide +kernel
theorem dX11_city_67 : decode cX11_city 67 = .ok (.aload_n 0, 1) := by decide +kernel
theorem dX11_city_68 : decode cX11_city 68 = .ok (.invokevirtual 205, 3) := by decide +kernel
theorem dX11_city_71 : decode cX11_city 71 = .ok (.goto (-18), 3) := by decide +kernel
theorem dX11_city_74 : decode cX11_city 74 = .ok (.aload_n 0, 1) := by decide +kernel
theorem dX11_city_75 : decode cX11_city 75 = .ok (.invokevirtual 144, 3) := by decide +kernel
theorem dX11_city_78 : decode cX11_city 78 = .ok (.ifCond .ne 6, 3) := by decide +kernel
theorem dX11_city_81 : decode cX11_city 81 = .ok (.bipush (-4), 2) := by decide +kernel
theorem dX11_city_83 : decode cX11_city 83 = .ok (.ireturn, 1) := by decide +kernel
theorem dX11_city_84 : decode cX11_city 84 = .ok (.iconst 0, 1) := by decide +kernel
theorem dX11_city_85 : decode cX11_city 85 = .ok (.istore_n 1, 1) := by decide +kernel
theorem dX11_city_86 : decode cX11_city 86 = .ok (.iload_n 1, 1) := by decide +kernel
theorem dX11_city_87 : decode cX11_city 87 = .ok (.bipush 119, 2) := by decide +kernel
theorem dX11_city_89 : decode cX11_city 89 = .ok (.if_icmp .ge 21, 3) := by decide +kernel
theorem dX11_city_92 : decode cX11_city 92 = .ok (.aload_n 0, 1) := by decide +kernel
theorem dX11_city_93 : decode cX11_city 93 = .ok (.getfield 9, 3) := by decide +kernel
theorem dX11_city_96 : decode cX11_city 96 = .ok (.iload_n 1, 1) := by decide +kernel
theorem dX11_city_97 : decode cX11_city 97 = .ok (.aload_n 0, 1) := by decide +kernel
theorem dX11_city_98 : decode cX11_city 98 = .ok (.getfield 31, 3) := by decide +kernel
theorem dX11_city_101 : decode cX11_city 101 = .ok (.iload_n 1, 1) := by decide +kernel
theorem dX11_city_102 : decode cX11_city 102 = .ok (.iaload, 1) := by decide +kernel
theorem dX11_city_103 : decode cX11_city 103 = .ok (.iastore, 1) := by decide +kernel
theorem dX11_city_104 : decode cX11_city 104 = .ok (.iinc 1 1, 3) := by decide +kernel
theorem dX11_city_107 : decode cX11_city 107 = .ok (.goto (-21), 3) := by decide +kernel
theorem dX11_city_110 : decode cX11_city 110 = .ok (.aload_n 0, 1) := by decide +kernel
theorem dX11_city_111 : decode cX11_city 111 = .ok (.getfield 9, 3) := by decide +kernel
theorem dX11_city_114 : decode cX11_city 114 = .ok (.iconst 5, 1) := by decide +kernel
theorem dX11_city_115 : decode cX11_city 115 = .ok (.iaload, 1) := by decide +kernel
theorem dX11_city_116 : decode cX11_city 116 = .ok (.ireturn, 1) := by decide +kernel
theorem dX11_count_0 : decode cX11_count 0 = .ok (.iconst 0, 1) := by decide +kernel
theorem dX11_count_1 : decode cX11_count 1 = .ok (.istore_n 2, 1) := by decide +kernel
theorem dX11_count_2 : decode cX11_count 2 = .ok (.iload_n 1, 1) := by decide +kernel
theorem dX11_count_3 : decode cX11_count 3 = .ok (.tableswitch 150 0 9 #[53, 60, 67, 74, 81, 88, 97, 105, 112, 117], 53) := by decide +kernel
theorem dX11_count_56 : decode cX11_count 56 = .ok (.aload_n 0, 1) := by decide +kernel
theorem dX11_count_57 : decode cX11_count 57 = .ok (.getfield 9, 3) := by decide +kernel
theorem dX11_count_60 : decode cX11_count 60 = .ok (.iconst 0, 1) := by decide +kernel
theorem dX11_count_61 : decode cX11_count 61 = .ok (.iaload, 1) := by decide +kernel
theorem dX11_count_62 : decode cX11_count 62 = .ok (.ireturn, 1) := by decide +kernel
theorem dX11_count_63 : decode cX11_count 63 = .ok (.aload_n 0, 1) := by decide +kernel
theorem dX11_count_64 : decode cX11_count 64 = .ok (.getfield 9, 3) := by decide +kernel
theorem dX11_count_67 : decode cX11_count 67 = .ok (.iconst 1, 1) := by decide +kernel
theorem dX11_count_68 : decode cX11_count 68 = .ok (.iaload, 1) := by decide +kernel
theorem dX11_count_69 : decode cX11_count 69 = .ok (.ireturn, 1) := by decide +kernel
theorem dX11_count_70 : decode cX11_count 70 = .ok (.aload_n 0, 1) := by decide +kernel
theorem dX11_count_71 : decode cX11_count 71 = .ok (.getfield 9, 3) := by decide +kernel
theorem dX11_count_74 : decode cX11_count 74 = .ok (.iconst 2, 1) := by decide +kernel
theorem dX11_count_75 : decode cX11_count 75 = .ok (.iaload, 1) := by decide +kernel
theorem dX11_count_76 : decode cX11_count 76 = .ok (.ireturn, 1) := by decide +kernel
theorem dX11_count_77 : decode cX11_count 77 = .ok (.aload_n 0, 1) := by decide +kernel
theorem dX11_count_78 : decode cX11_count 78 = .ok (.getfield 9, 3) := by decide +kernel
theorem dX11_count_81 : decode cX11_count 81 = .ok (.iconst 3, 1) := by decide +kernel
theorem dX11_count_82 : decode cX11_count 82 = .ok (.iaload, 1) := by decide +kernel
theorem dX11_count_83 : decode cX11_count 83 = .ok (.ireturn, 1) := by decide +kernel
theorem dX11_count_84 : decode cX11_count 84 = .ok (.aload_n 0, 1) := by decide +kernel
theorem dX11_count_85 : decode cX11_count 85 = .ok (.getfield 9, 3) := by decide +kernel
theorem dX11_count_88 : decode cX11_count 88 = .ok (.iconst 4, 1) := by decide +kernel
theorem dX11_count_89 : decode cX11_count 89 = .ok (.iaload, 1) := by decide +kernel
theorem dX11_count_90 : decode cX11_count 90 = .ok (.ireturn, 1) := by decide +kernel
theorem dX11_count_91 : decode cX11_count 91 = .ok (.aload_n 0, 1) := by decide +kernel
theorem dX11_count_92 : decode cX11_count 92 = .ok (.invokevirtual 250, 3) := by decide +kernel
theorem dX11_count_95 : decode cX11_count 95 = .ok (.aload_n 0, 1) := by decide +kernel
theorem dX11_count_96 : decode cX11_count 96 = .ok (.getfield 208, 3) := by decide +kernel
theorem dX11_count_99 : decode cX11_count 99 = .ok (.ireturn, 1) := by decide +kernel
theorem dX11_count_100 : decode cX11_count 100 = .ok (.aload_n 0, 1) := by decide +kernel
theorem dX11_count_101 : decode cX11_count 101 = .ok (.getfield 9, 3) := by decide +kernel
theorem dX11_count_104 : decode cX11_count 104 = .ok (.bipush 6, 2) := by decide +kernel
theorem dX11_count_106 : decode cX11_count 106 = .ok (.iaload, 1) := by decide +kernel
theorem dX11_count_107 : decode cX11_count 107 = .ok (.ireturn, 1) := by decide +kernel
theorem dX11_count_108 : decode cX11_count 108 = .ok (.aload_n 0, 1) := by decide +kernel
theorem dX11_count_109 : decode cX11_count 109 = .ok (.getfield 9, 3) := by decide +kernel
theorem dX11_count_112 : decode cX11_count 112 = .ok (.iconst 5, 1) := by decide +kernel
theorem dX11_count_113 : decode cX11_count 113 = .ok (.iaload, 1) := by decide +kernel
theorem dX11_count_114 : decode cX11_count 114 = .ok (.ireturn, 1) := by decide +kernel
theorem dX11_count_115 : decode cX11_count 115 = .ok (.aload_n 0, 1) := by decide +kernel
theorem dX11_count_116 : decode cX11_count 116 = .ok (.getfield 106, 3) := by decide +kernel
theorem dX11_count_119 : decode cX11_count 119 = .ok (.ireturn, 1) := by decide +kernel
theorem dX11_count_120 : decode cX11_count 120 = .ok (.iconst 0, 1) := by decide +kernel
theorem dX11_count_121 : decode cX11_count 121 = .ok (.istore_n 3, 1) := by decide +kernel
theorem dX11_count_122 : decode cX11_count 122 = .ok (.iload_n 3, 1) := by decide +kernel
theorem dX11_count_123 : decode cX11_count 123 = .ok (.iconst 4, 1) := by decide +kernel
theorem dX11_count_124 : decode cX11_count 124 = .ok (.if_icmp .ge 27, 3) := by decide +kernel
theorem dX11_count_127 : decode cX11_count 127 = .ok (.iload_n 2, 1) := by decide +kernel
theorem dX11_count_128 : decode cX11_count 128 = .ok (.aload_n 0, 1) := by decide +kernel
theorem dX11_count_129 : decode cX11_count 129 = .ok (.getfield 76, 3) := by decide +kernel
theorem dX11_count_132 : decode cX11_count 132 = .ok (.iload_n 3, 1) := by decide +kernel
theorem dX11_count_133 : decode cX11_count 133 = .ok (.iaload, 1) := by decide +kernel
theorem dX11_count_134 : decode cX11_count 134 = .ok (.iconst (-1), 1) := by decide +kernel
theorem dX11_count_135 : decode cX11_count 135 = .ok (.if_icmp .ne 7, 3) := by decide +kernel
theorem dX11_count_138 : decode cX11_count 138 = .ok (.iconst 0, 1) := by decide +kernel
theorem dX11_count_139 : decode cX11_count 139 = .ok (.goto 4, 3) := by decide +kernel
theorem dX11_count_142 : decode cX11_count 142 = .ok (.iconst 1, 1) := by decide +kernel
theorem dX11_count_143 : decode cX11_count 143 = .ok (.iadd, 1) := by decide +kernel
theorem dX11_count_144 : decode cX11_count 144 = .ok (.istore_n 2, 1) := by decide +kernel
theorem dX11_count_145 : decode cX11_count 145 = .ok (.iinc 3 1, 3) := by decide +kernel
theorem dX11_count_148 : decode cX11_count 148 = .ok (.goto (-26), 3) := by decide +kernel
theorem dX11_count_151 : decode cX11_count 151 = .ok (.iload_n 2, 1) := by decide +kernel
theorem dX11_count_152 : decode cX11_count 152 = .ok (.ireturn, 1) := by decide +kernel
theorem dX11_count_153 : decode cX11_count 153 = .ok (.iconst (-1), 1) := by decide +kernel
theorem dX11_count_154 : decode cX11_count 154 = .ok (.ireturn, 1) := by decide +kernel
theorem dX11_cut_0 : decode cX11_cut 0 = .ok (.bipush 64, 2) := by decide +kernel
theorem dX11_cut_2 : decode cX11_cut 2 = .ok (.bipush 8, 2) := by decide +kernel
theorem dX11_cut_4 : decode cX11_cut 4 = .ok (.iload_n 2, 1) := by decide +kernel
theorem dX11_cut_5 : decode cX11_cut 5 = .ok (.ishl, 1) := by decide +kernel
theorem dX11_cut_6 : decode cX11_cut 6 = .ok (.isub, 1) := by decide +kernel
theorem dX11_cut_7 : decode cX11_cut 7 = .ok (.istore_n 3, 1) := by decide +kernel
theorem dX11_cut_8 : decode cX11_cut 8 = .ok (.lload_n 0, 1) := by decide +kernel
theorem dX11_cut_9 : decode cX11_cut 9 = .ok (.iload_n 3, 1) := by decide +kernel
theorem dX11_cut_10 : decode cX11_cut 10 = .ok (.lshl, 1) := by decide +kernel
theorem dX11_cut_11 : decode cX11_cut 11 = .ok (.iload_n 3, 1) := by decide +kernel
theorem dX11_cut_12 : decode cX11_cut 12 = .ok (.lshr, 1) := by decide +kernel
theorem dX11_cut_13 : decode cX11_cut 13 = .ok (.lreturn, 1) := by decide +kernel
theorem dX11_deal_0 : decode cX11_deal 0 = .ok (.aload_n 0, 1) := by decide +kernel
theorem dX11_deal_1 : decode cX11_deal 1 = .ok (.invokevirtual 295, 3) := by decide +kernel
theorem dX11_deal_4 : decode cX11_deal 4 = .ok (.ifCond .eq 10, 3) := by decide +kernel
theorem dX11_deal_7 : decode cX11_deal 7 = .ok (.aload_n 0, 1) := by decide +kernel
theorem dX11_deal_8 : decode cX11_deal 8 = .ok (.invokevirtual 371, 3) := by decide +kernel
theorem dX11_deal_11 : decode cX11_deal 11 = .ok (.goto 5, 3) := by decide +kernel
theorem dX11_deal_14 : decode cX11_deal 14 = .ok (.bipush (-2), 2) := by decide +kernel
theorem dX11_deal_16 : decode cX11_deal 16 = .ok (.ireturn, 1) := by decide +kernel
theorem dX11_deals_0 : decode cX11_deals 0 = .ok (.aload_n 0, 1) := by decide +kernel
theorem dX11_deals_1 : decode cX11_deals 1 = .ok (.iload_n 1, 1) := by decide +kernel
theorem dX11_deals_2 : decode cX11_deals 2 = .ok (.i2l, 1) := by decide +kernel
theorem dX11_deals_3 : decode cX11_deals 3 = .ok (.invokevirtual 266, 3) := by decide +kernel
theorem dX11_deals_6 : decode cX11_deals 6 = .ok (.ifCond .ne 6, 3) := by decide +kernel
theorem dX11_deals_9 : decode cX11_deals 9 = .ok (.bipush (-2), 2) := by decide +kernel
theorem dX11_deals_11 : decode cX11_deals 11 = .ok (.ireturn, 1) := by decide +kernel
theorem dX11_deals_12 : decode cX11_deals 12 = .ok (.aload_n 0, 1) := by decide +kernel
theorem dX11_deals_13 : decode cX11_deals 13 = .ok (.invokevirtual 371, 3) := by decide +kernel
theorem dX11_deals_16 : decode cX11_deals 16 = .ok (.pop, 1) := by decide +kernel
theorem dX11_deals_17 : decode cX11_deals 17 = .ok (.iconst 0, 1) := by decide +kernel
theorem dX11_deals_18 : decode cX11_deals 18 = .ok (.istore_n 2, 1) := by decide +kernel
theorem dX11_deals_19 : decode cX11_deals 19 = .ok (.iconst (-1), 1) := by decide +kernel
theorem dX11_deals_20 : decode cX11_deals 20 = .ok (.istore_n 3, 1) := by decide +kernel
theorem dX11_deals_21 : decode cX11_deals 21 = .ok (.iconst 0, 1) := by decide +kernel
theorem dX11_deals_22 : decode cX11_deals 22 = .ok (.istore 4, 2) := by decide +kernel
theorem dX11_deals_24 : decode cX11_deals 24 = .ok (.iload 4, 2) := by decide +kernel
theorem dX11_deals_26 : decode cX11_deals 26 = .ok (.iload_n 1, 1) := by decide +kernel
theorem dX11_deals_27 : decode cX11_deals 27 = .ok (.if_icmp .gt 86, 3) := by decide +kernel
theorem dX11_deals_30 : decode cX11_deals 30 = .ok (.iconst (-1), 1) := by decide +kernel
theorem dX11_deals_31 : decode cX11_deals 31 = .ok (.istore_n 3, 1) := by decide +kernel
theorem dX11_deals_32 : decode cX11_deals 32 = .ok (.iconst 0, 1) := by decide +kernel
theorem dX11_deals_33 : decode cX11_deals 33 = .ok (.istore 5, 2) := by decide +kernel
theorem dX11_deals_35 : decode cX11_deals 35 = .ok (.iload 5, 2) := by decide +kernel
theorem dX11_deals_37 : decode cX11_deals 37 = .ok (.aload_n 0, 1) := by decide +kernel
theorem dX11_deals_38 : decode cX11_deals 38 = .ok (.getfield 9, 3) := by decide +kernel
theorem dX11_deals_41 : decode cX11_deals 41 = .ok (.iconst 3, 1) := by decide +kernel
theorem dX11_deals_42 : decode cX11_deals 42 = .ok (.iaload, 1) := by decide +kernel
theorem dX11_deals_43 : decode cX11_deals 43 = .ok (.if_icmp .ge 49, 3) := by decide +kernel
theorem dX11_deals_46 : decode cX11_deals 46 = .ok (.iload_n 3, 1) := by decide +kernel
theorem dX11_deals_47 : decode cX11_deals 47 = .ok (.iconst (-1), 1) := by decide +kernel
theorem dX11_deals_48 : decode cX11_deals 48 = .ok (.if_icmp .ne 44, 3) := by decide +kernel
theorem dX11_deals_51 : decode cX11_deals 51 = .ok (.iload_n 2, 1) := by decide +kernel
theorem dX11_deals_52 : decode cX11_deals 52 = .ok (.iload 5, 2) := by decide +kernel
theorem dX11_deals_54 : decode cX11_deals 54 = .ok (.invokestatic 344, 3) := by decide +kernel
theorem dX11_deals_57 : decode cX11_deals 57 = .ok (.ifCond .ne 27, 3) := by decide +kernel
theorem dX11_deals_60 : decode cX11_deals 60 = .ok (.aload_n 0, 1) := by decide +kernel
theorem dX11_deals_61 : decode cX11_deals 61 = .ok (.iload 4, 2) := by decide +kernel
theorem dX11_deals_63 : decode cX11_deals 63 = .ok (.iload_n 2, 1) := by decide +kernel
theorem dX11_deals_64 : decode cX11_deals 64 = .ok (.iload 5, 2) := by decide +kernel
theorem dX11_deals_66 : decode cX11_deals 66 = .ok (.invokevirtual 365, 3) := by decide +kernel
theorem dX11_deals_69 : decode cX11_deals 69 = .ok (.aload_n 0, 1) := by decide +kernel
theorem dX11_deals_70 : decode cX11_deals 70 = .ok (.iload 4, 2) := by decide +kernel
theorem dX11_deals_72 : decode cX11_deals 72 = .ok (.iload_n 2, 1) := by decide +kernel
theorem dX11_deals_73 : decode cX11_deals 73 = .ok (.invokevirtual 362, 3) := by decide +kernel
theorem dX11_deals_76 : decode cX11_deals 76 = .ok (.if_icmp .ne 8, 3) := by decide +kernel
theorem dX11_deals_79 : decode cX11_deals 79 = .ok (.iload 5, 2) := by decide +kernel
theorem dX11_deals_81 : decode cX11_deals 81 = .ok (.goto 4, 3) := by decide +kernel
theorem dX11_deals_84 : decode cX11_deals 84 = .ok (.iconst (-1), 1) := by decide +kernel
theorem dX11_deals_85 : decode cX11_deals 85 = .ok (.istore_n 3, 1) := by decide +kernel
theorem dX11_deals_86 : decode cX11_deals 86 = .ok (.iinc 5 1, 3) := by decide +kernel
theorem dX11_deals_89 : decode cX11_deals 89 = .ok (.goto (-54), 3) := by decide +kernel
theorem dX11_deals_92 : decode cX11_deals 92 = .ok (.iload_n 2, 1) := by decide +kernel
theorem dX11_deals_93 : decode cX11_deals 93 = .ok (.iload_n 3, 1) := by decide +kernel
theorem dX11_deals_94 : decode cX11_deals 94 = .ok (.iconst (-1), 1) := by decide +kernel
theorem dX11_deals_95 : decode cX11_deals 95 = .ok (.if_icmp .ne 7, 3) := by decide +kernel
theorem dX11_deals_98 : decode cX11_deals 98 = .ok (.iconst 0, 1) := by decide +kernel
theorem dX11_deals_99 : decode cX11_deals 99 = .ok (.goto 6, 3) := by decide +kernel
theorem dX11_deals_102 : decode cX11_deals 102 = .ok (.iconst 1, 1) := by decide +kernel
theorem dX11_deals_103 : decode cX11_deals 103 = .ok (.iload_n 3, 1) := by decide +kernel
theorem dX11_deals_104 : decode cX11_deals 104 = .ok (.ishl, 1) := by decide +kernel
theorem dX11_deals_105 : decode cX11_deals 105 = .ok (.ior, 1) := by decide +kernel
theorem dX11_deals_106 : decode cX11_deals 106 = .ok (.istore_n 2, 1) := by decide +kernel
theorem dX11_deals_107 : decode cX11_deals 107 = .ok (.iinc 4 1, 3) := by decide +kernel
theorem dX11_deals_110 : decode cX11_deals 110 = .ok (.goto (-86), 3) := by decide +kernel
theorem dX11_deals_113 : decode cX11_deals 113 = .ok (.iload_n 3, 1) := by decide +kernel
theorem dX11_deals_114 : decode cX11_deals 114 = .ok (.ireturn, 1) := by decide +kernel
theorem dX11_dealtBy_0 : decode cX11_dealtBy 0 = .ok (.aload_n 0, 1) := by decide +kernel
theorem dX11_dealtBy_1 : decode cX11_dealtBy 1 = .ok (.iload_n 3, 1) := by decide +kernel
theorem dX11_dealtBy_2 : decode cX11_dealtBy 2 = .ok (.iload_n 1, 1) := by decide +kernel
theorem dX11_dealtBy_3 : decode cX11_dealtBy 3 = .ok (.invokevirtual 269, 3) := by decide +kernel
theorem dX11_dealtBy_6 : decode cX11_dealtBy 6 = .ok (.aload_n 0, 1) := by decide +kernel
theorem dX11_dealtBy_7 : decode cX11_dealtBy 7 = .ok (.iload_n 1, 1) := by decide +kernel
theorem dX11_dealtBy_8 : decode cX11_dealtBy 8 = .ok (.iconst 1, 1) := by decide +kernel
theorem dX11_dealtBy_9 : decode cX11_dealtBy 9 = .ok (.iadd, 1) := by decide +kernel
theorem dX11_dealtBy_10 : decode cX11_dealtBy 10 = .ok (.iload_n 2, 1) := by decide +kernel
theorem dX11_dealtBy_11 : decode cX11_dealtBy 11 = .ok (.iconst 1, 1) := by decide +kernel
theorem dX11_dealtBy_12 : decode cX11_dealtBy 12 = .ok (.iload_n 3, 1) := by decide +kernel
theorem dX11_dealtBy_13 : decode cX11_dealtBy 13 = .ok (.ishl, 1) := by decide +kernel
theorem dX11_dealtBy_14 : decode cX11_dealtBy 14 = .ok (.ior, 1) := by decide +kernel
theorem dX11_dealtBy_15 : decode cX11_dealtBy 15 = .ok (.invokevirtual 362, 3) := by decide +kernel
theorem dX11_dealtBy_18 : decode cX11_dealtBy 18 = .ok (.iadd, 1) := by decide +kernel
theorem dX11_dealtBy_19 : decode cX11_dealtBy 19 = .ok (.ireturn, 1) := by decide +kernel
theorem dX11_dealtFrom_0 : decode cX11_dealtFrom 0 = .ok (.aload_n 0, 1) := by decide +kernel
theorem dX11_dealtFrom_1 : decode cX11_dealtFrom 1 = .ok (.getfield 73, 3) := by decide +kernel
theorem dX11_dealtFrom_4 : decode cX11_dealtFrom 4 = .ok (.iload_n 1, 1) := by decide +kernel
theorem dX11_dealtFrom_5 : decode cX11_dealtFrom 5 = .ok (.iconst 5, 1) := by decide +kernel
theorem dX11_dealtFrom_6 : decode cX11_dealtFrom 6 = .ok (.ishl, 1) := by decide +kernel
theorem dX11_dealtFrom_7 : decode cX11_dealtFrom 7 = .ok (.iload_n 2, 1) := by decide +kernel
theorem dX11_dealtFrom_8 : decode cX11_dealtFrom 8 = .ok (.ior, 1) := by decide +kernel
theorem dX11_dealtFrom_9 : decode cX11_dealtFrom 9 = .ok (.iaload, 1) := by decide +kernel
theorem dX11_dealtFrom_10 : decode cX11_dealtFrom 10 = .ok (.ireturn, 1) := by decide +kernel
theorem dX11_dear_0 : decode cX11_dear 0 = .ok (.aload_n 0, 1) := by decide +kernel
theorem dX11_dear_1 : decode cX11_dear 1 = .ok (.invokevirtual 295, 3) := by decide +kernel
theorem dX11_dear_4 : decode cX11_dear 4 = .ok (.ifCond .ne 6, 3) := by decide +kernel
theorem dX11_dear_7 : decode cX11_dear 7 = .ok (.bipush (-2), 2) := by decide +kernel
theorem dX11_dear_9 : decode cX11_dear 9 = .ok (.ireturn, 1) := by decide +kernel
theorem dX11_dear_10 : decode cX11_dear 10 = .ok (.aload_n 0, 1) := by decide +kernel
theorem dX11_dear_11 : decode cX11_dear 11 = .ok (.invokevirtual 250, 3) := by decide +kernel
theorem dX11_dear_14 : decode cX11_dear 14 = .ok (.sipush 999, 3) := by decide +kernel
theorem dX11_dear_17 : decode cX11_dear 17 = .ok (.istore_n 1, 1) := by decide +kernel
theorem dX11_dear_18 : decode cX11_dear 18 = .ok (.iload_n 1, 1) := by decide +kernel
theorem dX11_dear_19 : decode cX11_dear 19 = .ok (.ifCond .lt 29, 3) := by decide +kernel
theorem dX11_dear_22 : decode cX11_dear 22 = .ok (.aload_n 0, 1) := by decide +kernel
theorem dX11_dear_23 : decode cX11_dear 23 = .ok (.iconst 1, 1) := by decide +kernel
theorem dX11_dear_24 : decode cX11_dear 24 = .ok (.aload_n 0, 1) := by decide +kernel
theorem dX11_dear_25 : decode cX11_dear 25 = .ok (.getfield 9, 3) := by decide +kernel
theorem dX11_dear_28 : decode cX11_dear 28 = .ok (.iconst 3, 1) := by decide +kernel
theorem dX11_dear_29 : decode cX11_dear 29 = .ok (.iaload, 1) := by decide +kernel
theorem dX11_dear_30 : decode cX11_dear 30 = .ok (.ishl, 1) := by decide +kernel
theorem dX11_dear_31 : decode cX11_dear 31 = .ok (.iconst 1, 1) := by decide +kernel
theorem dX11_dear_32 : decode cX11_dear 32 = .ok (.isub, 1) := by decide +kernel
theorem dX11_dear_33 : decode cX11_dear 33 = .ok (.iload_n 1, 1) := by decide +kernel
theorem dX11_dear_34 : decode cX11_dear 34 = .ok (.invokevirtual 388, 3) := by decide +kernel
theorem dX11_dear_37 : decode cX11_dear 37 = .ok (.ifCond .eq 5, 3) := by decide +kernel
theorem dX11_dear_40 : decode cX11_dear 40 = .ok (.iload_n 1, 1) := by decide +kernel
theorem dX11_dear_41 : decode cX11_dear 41 = .ok (.ireturn, 1) := by decide +kernel
theorem dX11_dear_42 : decode cX11_dear 42 = .ok (.iinc 1 (-1), 3) := by decide +kernel
theorem dX11_dear_45 : decode cX11_dear 45 = .ok (.goto (-27), 3) := by decide +kernel
theorem dX11_dear_48 : decode cX11_dear 48 = .ok (.iconst (-1), 1) := by decide +kernel
theorem dX11_dear_49 : decode cX11_dear 49 = .ok (.ireturn, 1) := by decide +kernel
theorem dX11_draw_0 : decode cX11_draw 0 = .ok (.aload_n 0, 1) := by decide +kernel
theorem dX11_draw_1 : decode cX11_draw 1 = .ok (.ldc2_w 422, 3) := by decide +kernel
theorem dX11_draw_4 : decode cX11_draw 4 = .ok (.aload_n 0, 1) := by decide +kernel
theorem dX11_draw_5 : decode cX11_draw 5 = .ok (.getfield 424, 3) := by decide +kernel
theorem dX11_draw_8 : decode cX11_draw 8 = .ok (.lmul, 1) := by decide +kernel
theorem dX11_draw_9 : decode cX11_draw 9 = .ok (.ldc2_w 428, 3) := by decide +kernel
theorem dX11_draw_12 : decode cX11_draw 12 = .ok (.ladd, 1) := by decide +kernel
theorem dX11_draw_13 : decode cX11_draw 13 = .ok (.ldc2_w 430, 3) := by decide +kernel
theorem dX11_draw_16 : decode cX11_draw 16 = .ok (.lrem, 1) := by decide +kernel
theorem dX11_draw_17 : decode cX11_draw 17 = .ok (.putfield 424, 3) := by decide +kernel
theorem dX11_draw_20 : decode cX11_draw 20 = .ok (.aload_n 0, 1) := by decide +kernel
theorem dX11_draw_21 : decode cX11_draw 21 = .ok (.getfield 424, 3) := by decide +kernel
theorem dX11_draw_24 : decode cX11_draw 24 = .ok (.ldc2_w 432, 3) := by decide +kernel
theorem dX11_draw_27 : decode cX11_draw 27 = .ok (.ldiv, 1) := by decide +kernel
theorem dX11_draw_28 : decode cX11_draw 28 = .ok (.iload_n 1, 1) := by decide +kernel
theorem dX11_draw_29 : decode cX11_draw 29 = .ok (.i2l, 1) := by decide +kernel
theorem dX11_draw_30 : decode cX11_draw 30 = .ok (.lrem, 1) := by decide +kernel
theorem dX11_draw_31 : decode cX11_draw 31 = .ok (.l2i, 1) := by decide +kernel
theorem dX11_draw_32 : decode cX11_draw 32 = .ok (.ireturn, 1) := by decide +kernel
theorem dX11_drawn_0 : decode cX11_drawn 0 = .ok (.aload_n 0, 1) := by decide +kernel
theorem dX11_drawn_1 : decode cX11_drawn 1 = .ok (.iload_n 1, 1) := by decide +kernel
theorem dX11_drawn_2 : decode cX11_drawn 2 = .ok (.iload_n 2, 1) := by decide +kernel
theorem dX11_drawn_3 : decode cX11_drawn 3 = .ok (.invokevirtual 441, 3) := by decide +kernel
theorem dX11_drawn_6 : decode cX11_drawn 6 = .ok (.ifCond .eq 15, 3) := by decide +kernel
theorem dX11_drawn_9 : decode cX11_drawn 9 = .ok (.iload_n 3, 1) := by decide +kernel
theorem dX11_drawn_10 : decode cX11_drawn 10 = .ok (.i2l, 1) := by decide +kernel
theorem dX11_drawn_11 : decode cX11_drawn 11 = .ok (.lconst 0, 1) := by decide +kernel
theorem dX11_drawn_12 : decode cX11_drawn 12 = .ok (.ldc2_w 92, 3) := by decide +kernel
theorem dX11_drawn_15 : decode cX11_drawn 15 = .ok (.invokestatic 94, 3) := by decide +kernel
theorem dX11_drawn_18 : decode cX11_drawn 18 = .ok (.ifCond .ne 6, 3) := by decide +kernel
theorem dX11_drawn_21 : decode cX11_drawn 21 = .ok (.bipush (-2), 2) := by decide +kernel
theorem dX11_drawn_23 : decode cX11_drawn 23 = .ok (.ireturn, 1) := by decide +kernel
theorem dX11_drawn_24 : decode cX11_drawn 24 = .ok (.aload_n 0, 1) := by decide +kernel
theorem dX11_drawn_25 : decode cX11_drawn 25 = .ok (.iload_n 1, 1) := by decide +kernel
theorem dX11_drawn_26 : decode cX11_drawn 26 = .ok (.i2l, 1) := by decide +kernel
theorem dX11_drawn_27 : decode cX11_drawn 27 = .ok (.iload_n 2, 1) := by decide +kernel
theorem dX11_drawn_28 : decode cX11_drawn 28 = .ok (.invokevirtual 444, 3) := by decide +kernel
theorem dX11_drawn_31 : decode cX11_drawn 31 = .ok (.istore 4, 2) := by decide +kernel
theorem dX11_drawn_33 : decode cX11_drawn 33 = .ok (.iload_n 3, 1) := by decide +kernel
theorem dX11_drawn_34 : decode cX11_drawn 34 = .ok (.ifCond .ne 8, 3) := by decide +kernel
theorem dX11_drawn_37 : decode cX11_drawn 37 = .ok (.iload 4, 2) := by decide +kernel
theorem dX11_drawn_39 : decode cX11_drawn 39 = .ok (.goto 34, 3) := by decide +kernel
theorem dX11_drawn_42 : decode cX11_drawn 42 = .ok (.iload_n 3, 1) := by decide +kernel
theorem dX11_drawn_43 : decode cX11_drawn 43 = .ok (.iconst 1, 1) := by decide +kernel
theorem dX11_drawn_44 : decode cX11_drawn 44 = .ok (.if_icmp .ne 10, 3) := by decide +kernel
theorem dX11_drawn_47 : decode cX11_drawn 47 = .ok (.aload_n 0, 1) := by decide +kernel
theorem dX11_drawn_48 : decode cX11_drawn 48 = .ok (.getfield 208, 3) := by decide +kernel
theorem dX11_drawn_51 : decode cX11_drawn 51 = .ok (.goto 22, 3) := by decide +kernel
theorem dX11_drawn_54 : decode cX11_drawn 54 = .ok (.aload_n 0, 1) := by decide +kernel
theorem dX11_drawn_55 : decode cX11_drawn 55 = .ok (.getfield 9, 3) := by decide +kernel
theorem dX11_drawn_58 : decode cX11_drawn 58 = .ok (.iconst 3, 1) := by decide +kernel
theorem dX11_drawn_59 : decode cX11_drawn 59 = .ok (.iaload, 1) := by decide +kernel
theorem dX11_drawn_60 : decode cX11_drawn 60 = .ok (.ifCond .ne 7, 3) := by decide +kernel
theorem dX11_drawn_63 : decode cX11_drawn 63 = .ok (.iconst (-1), 1) := by decide +kernel
theorem dX11_drawn_64 : decode cX11_drawn 64 = .ok (.goto 9, 3) := by decide +kernel
theorem dX11_drawn_67 : decode cX11_drawn 67 = .ok (.aload_n 0, 1) := by decide +kernel
theorem dX11_drawn_68 : decode cX11_drawn 68 = .ok (.getfield 34, 3) := by decide +kernel
theorem dX11_drawn_71 : decode cX11_drawn 71 = .ok (.iconst 0, 1) := by decide +kernel
theorem dX11_drawn_72 : decode cX11_drawn 72 = .ok (.iaload, 1) := by decide +kernel
theorem dX11_drawn_73 : decode cX11_drawn 73 = .ok (.ireturn, 1) := by decide +kernel
theorem dX11_due_0 : decode cX11_due 0 = .ok (.aload_n 0, 1) := by decide +kernel
theorem dX11_due_1 : decode cX11_due 1 = .ok (.invokevirtual 295, 3) := by decide +kernel
theorem dX11_due_4 : decode cX11_due 4 = .ok (.ifCond .eq 15, 3) := by decide +kernel
theorem dX11_due_7 : decode cX11_due 7 = .ok (.iload_n 1, 1) := by decide +kernel
theorem dX11_due_8 : decode cX11_due 8 = .ok (.i2l, 1) := by decide +kernel
theorem dX11_due_9 : decode cX11_due 9 = .ok (.lconst 0, 1) := by decide +kernel
theorem dX11_due_10 : decode cX11_due 10 = .ok (.ldc2_w 279, 3) := by decide +kernel
theorem dX11_due_13 : decode cX11_due 13 = .ok (.invokestatic 94, 3) := by decide +kernel
theorem dX11_due_16 : decode cX11_due 16 = .ok (.ifCond .ne 6, 3) := by decide +kernel
theorem dX11_due_19 : decode cX11_due 19 = .ok (.bipush (-2), 2) := by decide +kernel
theorem dX11_due_21 : decode cX11_due 21 = .ok (.ireturn, 1) := by decide +kernel
theorem dX11_due_22 : decode cX11_due 22 = .ok (.aload_n 0, 1) := by decide +kernel
theorem dX11_due_23 : decode cX11_due 23 = .ok (.invokevirtual 250, 3) := by decide +kernel
theorem dX11_due_26 : decode cX11_due 26 = .ok (.aload_n 0, 1) := by decide +kernel
theorem dX11_due_27 : decode cX11_due 27 = .ok (.iload_n 1, 1) := by decide +kernel
theorem dX11_due_28 : decode cX11_due 28 = .ok (.invokevirtual 331, 3) := by decide +kernel
theorem dX11_due_31 : decode cX11_due 31 = .ok (.ireturn, 1) := by decide +kernel
theorem dX11_dueOn_0 : decode cX11_dueOn 0 = .ok (.iconst 0, 1) := by decide +kernel
theorem dX11_dueOn_1 : decode cX11_dueOn 1 = .ok (.istore_n 2, 1) := by decide +kernel
theorem dX11_dueOn_2 : decode cX11_dueOn 2 = .ok (.iconst 0, 1) := by decide +kernel
theorem dX11_dueOn_3 : decode cX11_dueOn 3 = .ok (.istore_n 3, 1) := by decide +kernel
theorem dX11_dueOn_4 : decode cX11_dueOn 4 = .ok (.iload_n 3, 1) := by decide +kernel
theorem dX11_dueOn_5 : decode cX11_dueOn 5 = .ok (.aload_n 0, 1) := by decide +kernel
theorem dX11_dueOn_6 : decode cX11_dueOn 6 = .ok (.getfield 208, 3) := by decide +kernel
theorem dX11_dueOn_9 : decode cX11_dueOn 9 = .ok (.if_icmp .ge 37, 3) := by decide +kernel
theorem dX11_dueOn_12 : decode cX11_dueOn 12 = .ok (.iload_n 2, 1) := by decide +kernel
theorem dX11_dueOn_13 : decode cX11_dueOn 13 = .ok (.aload_n 0, 1) := by decide +kernel
theorem dX11_dueOn_14 : decode cX11_dueOn 14 = .ok (.iload_n 3, 1) := by decide +kernel
theorem dX11_dueOn_15 : decode cX11_dueOn 15 = .ok (.invokevirtual 253, 3) := by decide +kernel
theorem dX11_dueOn_18 : decode cX11_dueOn 18 = .ok (.ifCond .eq 19, 3) := by decide +kernel
theorem dX11_dueOn_21 : decode cX11_dueOn 21 = .ok (.aload_n 0, 1) := by decide +kernel
theorem dX11_dueOn_22 : decode cX11_dueOn 22 = .ok (.getfield 52, 3) := by decide +kernel
theorem dX11_dueOn_25 : decode cX11_dueOn 25 = .ok (.iload_n 3, 1) := by decide +kernel
theorem dX11_dueOn_26 : decode cX11_dueOn 26 = .ok (.iaload, 1) := by decide +kernel
theorem dX11_dueOn_27 : decode cX11_dueOn 27 = .ok (.iload_n 1, 1) := by decide +kernel
theorem dX11_dueOn_28 : decode cX11_dueOn 28 = .ok (.if_icmp .ne 9, 3) := by decide +kernel
theorem dX11_dueOn_31 : decode cX11_dueOn 31 = .ok (.iconst 1, 1) := by decide +kernel
theorem dX11_dueOn_32 : decode cX11_dueOn 32 = .ok (.iload_n 3, 1) := by decide +kernel
theorem dX11_dueOn_33 : decode cX11_dueOn 33 = .ok (.ishl, 1) := by decide +kernel
theorem dX11_dueOn_34 : decode cX11_dueOn 34 = .ok (.goto 4, 3) := by decide +kernel
theorem dX11_dueOn_37 : decode cX11_dueOn 37 = .ok (.iconst 0, 1) := by decide +kernel
theorem dX11_dueOn_38 : decode cX11_dueOn 38 = .ok (.ior, 1) := by decide +kernel
theorem dX11_dueOn_39 : decode cX11_dueOn 39 = .ok (.istore_n 2, 1) := by decide +kernel
theorem dX11_dueOn_40 : decode cX11_dueOn 40 = .ok (.iinc 3 1, 3) := by decide +kernel
theorem dX11_dueOn_43 : decode cX11_dueOn 43 = .ok (.goto (-39), 3) := by decide +kernel
theorem dX11_dueOn_46 : decode cX11_dueOn 46 = .ok (.iload_n 2, 1) := by decide +kernel
theorem dX11_dueOn_47 : decode cX11_dueOn 47 = .ok (.ireturn, 1) := by decide +kernel
theorem dX11_end_0 : decode cX11_end 0 = .ok (.iload_n 1, 1) := by decide +kernel
theorem dX11_end_1 : decode cX11_end 1 = .ok (.i2l, 1) := by decide +kernel
theorem dX11_end_2 : decode cX11_end 2 = .ok (.lconst 0, 1) := by decide +kernel
theorem dX11_end_3 : decode cX11_end 3 = .ok (.aload_n 0, 1) := by decide +kernel
theorem dX11_end_4 : decode cX11_end 4 = .ok (.getfield 106, 3) := by decide +kernel
theorem dX11_end_7 : decode cX11_end 7 = .ok (.i2l, 1) := by decide +kernel
theorem dX11_end_8 : decode cX11_end 8 = .ok (.invokestatic 94, 3) := by decide +kernel
theorem dX11_end_11 : decode cX11_end 11 = .ok (.ifCond .ne 5, 3) := by decide +kernel
theorem dX11_end_14 : decode cX11_end 14 = .ok (.iconst (-1), 1) := by decide +kernel
theorem dX11_end_15 : decode cX11_end 15 = .ok (.ireturn, 1) := by decide +kernel
theorem dX11_end_16 : decode cX11_end 16 = .ok (.aload_n 0, 1) := by decide +kernel
theorem dX11_end_17 : decode cX11_end 17 = .ok (.iload_n 1, 1) := by decide +kernel
theorem dX11_end_18 : decode cX11_end 18 = .ok (.putfield 106, 3) := by decide +kernel
theorem dX11_end_21 : decode cX11_end 21 = .ok (.iload_n 1, 1) := by decide +kernel
theorem dX11_end_22 : decode cX11_end 22 = .ok (.ireturn, 1) := by decide +kernel
theorem dX11_errs_0 : decode cX11_errs 0 = .ok (.aload_n 0, 1) := by decide +kernel
theorem dX11_errs_1 : decode cX11_errs 1 = .ok (.invokevirtual 144, 3) := by decide +kernel
theorem dX11_errs_4 : decode cX11_errs 4 = .ok (.ifCond .ne 4, 3) := by decide +kernel
theorem dX11_errs_7 : decode cX11_errs 7 = .ok (.return_, 1) := by decide +kernel
theorem dX11_errs_8 : decode cX11_errs 8 = .ok (.aload_n 0, 1) := by decide +kernel
theorem dX11_errs_9 : decode cX11_errs 9 = .ok (.iload_n 1, 1) := by decide +kernel
theorem dX11_errs_10 : decode cX11_errs 10 = .ok (.putfield 141, 3) := by decide +kernel
theorem dX11_errs_13 : decode cX11_errs 13 = .ok (.aload_n 0, 1) := by decide +kernel
theorem dX11_errs_14 : decode cX11_errs 14 = .ok (.aload_n 0, 1) := by decide +kernel
theorem dX11_errs_15 : decode cX11_errs 15 = .ok (.getfield 118, 3) := by decide +kernel
theorem dX11_errs_18 : decode cX11_errs 18 = .ok (.putfield 27, 3) := by decide +kernel
theorem dX11_errs_21 : decode cX11_errs 21 = .ok (.return_, 1) := by decide +kernel
theorem dX11_failedSet_0 : decode cX11_failedSet 0 = .ok (.iconst 0, 1) := by decide +kernel
theorem dX11_failedSet_1 : decode cX11_failedSet 1 = .ok (.istore_n 1, 1) := by decide +kernel
theorem dX11_failedSet_2 : decode cX11_failedSet 2 = .ok (.iconst 0, 1) := by decide +kernel
theorem dX11_failedSet_3 : decode cX11_failedSet 3 = .ok (.istore_n 2, 1) := by decide +kernel
theorem dX11_failedSet_4 : decode cX11_failedSet 4 = .ok (.iload_n 2, 1) := by decide +kernel
theorem dX11_failedSet_5 : decode cX11_failedSet 5 = .ok (.aload_n 0, 1) := by decide +kernel
theorem dX11_failedSet_6 : decode cX11_failedSet 6 = .ok (.getfield 208, 3) := by decide +kernel
theorem dX11_failedSet_9 : decode cX11_failedSet 9 = .ok (.if_icmp .ge 29, 3) := by decide +kernel
theorem dX11_failedSet_12 : decode cX11_failedSet 12 = .ok (.iload_n 1, 1) := by decide +kernel
theorem dX11_failedSet_13 : decode cX11_failedSet 13 = .ok (.aload_n 0, 1) := by decide +kernel
theorem dX11_failedSet_14 : decode cX11_failedSet 14 = .ok (.getfield 55, 3) := by decide +kernel
theorem dX11_failedSet_17 : decode cX11_failedSet 17 = .ok (.iload_n 2, 1) := by decide +kernel
theorem dX11_failedSet_18 : decode cX11_failedSet 18 = .ok (.iaload, 1) := by decide +kernel
theorem dX11_failedSet_19 : decode cX11_failedSet 19 = .ok (.iconst 3, 1) := by decide +kernel
theorem dX11_failedSet_20 : decode cX11_failedSet 20 = .ok (.if_icmp .ne 9, 3) := by decide +kernel
theorem dX11_failedSet_23 : decode cX11_failedSet 23 = .ok (.iconst 1, 1) := by decide +kernel
theorem dX11_failedSet_24 : decode cX11_failedSet 24 = .ok (.iload_n 2, 1) := by decide +kernel
theorem dX11_failedSet_25 : decode cX11_failedSet 25 = .ok (.ishl, 1) := by decide +kernel
theorem dX11_failedSet_26 : decode cX11_failedSet 26 = .ok (.goto 4, 3) := by decide +kernel
theorem dX11_failedSet_29 : decode cX11_failedSet 29 = .ok (.iconst 0, 1) := by decide +kernel
theorem dX11_failedSet_30 : decode cX11_failedSet 30 = .ok (.ior, 1) := by decide +kernel
theorem dX11_failedSet_31 : decode cX11_failedSet 31 = .ok (.istore_n 1, 1) := by decide +kernel
theorem dX11_failedSet_32 : decode cX11_failedSet 32 = .ok (.iinc 2 1, 3) := by decide +kernel
theorem dX11_failedSet_35 : decode cX11_failedSet 35 = .ok (.goto (-31), 3) := by decide +kernel
theorem dX11_failedSet_38 : decode cX11_failedSet 38 = .ok (.iload_n 1, 1) := by decide +kernel
theorem dX11_failedSet_39 : decode cX11_failedSet 39 = .ok (.ireturn, 1) := by decide +kernel
theorem dX11_fails_0 : decode cX11_fails 0 = .ok (.aload_n 0, 1) := by decide +kernel
theorem dX11_fails_1 : decode cX11_fails 1 = .ok (.invokevirtual 295, 3) := by decide +kernel
theorem dX11_fails_4 : decode cX11_fails 4 = .ok (.ifCond .eq 18, 3) := by decide +kernel
theorem dX11_fails_7 : decode cX11_fails 7 = .ok (.iload_n 1, 1) := by decide +kernel
theorem dX11_fails_8 : decode cX11_fails 8 = .ok (.invokestatic 338, 3) := by decide +kernel
theorem dX11_fails_11 : decode cX11_fails 11 = .ok (.ifCond .eq 11, 3) := by decide +kernel
theorem dX11_fails_14 : decode cX11_fails 14 = .ok (.aload_n 0, 1) := by decide +kernel
theorem dX11_fails_15 : decode cX11_fails 15 = .ok (.iload_n 1, 1) := by decide +kernel
theorem dX11_fails_16 : decode cX11_fails 16 = .ok (.invokevirtual 341, 3) := by decide +kernel
theorem dX11_fails_19 : decode cX11_fails 19 = .ok (.goto 5, 3) := by decide +kernel
theorem dX11_fails_22 : decode cX11_fails 22 = .ok (.bipush (-2), 2) := by decide +kernel
theorem dX11_fails_24 : decode cX11_fails 24 = .ok (.ireturn, 1) := by decide +kernel
theorem dX11_fault_0 : decode cX11_fault 0 = .ok (.iload_n 1, 1) := by decide +kernel
theorem dX11_fault_1 : decode cX11_fault 1 = .ok (.ifCond .ne 10, 3) := by decide +kernel
theorem dX11_fault_4 : decode cX11_fault 4 = .ok (.aload_n 0, 1) := by decide +kernel
theorem dX11_fault_5 : decode cX11_fault 5 = .ok (.getfield 141, 3) := by decide +kernel
theorem dX11_fault_8 : decode cX11_fault 8 = .ok (.goto 16, 3) := by decide +kernel
theorem dX11_fault_11 : decode cX11_fault 11 = .ok (.iload_n 1, 1) := by decide +kernel
theorem dX11_fault_12 : decode cX11_fault 12 = .ok (.iconst 1, 1) := by decide +kernel
theorem dX11_fault_13 : decode cX11_fault 13 = .ok (.if_icmp .ne 10, 3) := by decide +kernel
theorem dX11_fault_16 : decode cX11_fault 16 = .ok (.aload_n 0, 1) := by decide +kernel
theorem dX11_fault_17 : decode cX11_fault 17 = .ok (.getfield 27, 3) := by decide +kernel
theorem dX11_fault_20 : decode cX11_fault 20 = .ok (.goto 4, 3) := by decide +kernel
theorem dX11_fault_23 : decode cX11_fault 23 = .ok (.iconst (-1), 1) := by decide +kernel
theorem dX11_fault_24 : decode cX11_fault 24 = .ok (.ireturn, 1) := by decide +kernel
theorem dX11_feed_0 : decode cX11_feed 0 = .ok (.aload_n 0, 1) := by decide +kernel
theorem dX11_feed_1 : decode cX11_feed 1 = .ok (.getfield 106, 3) := by decide +kernel
theorem dX11_feed_4 : decode cX11_feed 4 = .ok (.bipush 20, 2) := by decide +kernel
theorem dX11_feed_6 : decode cX11_feed 6 = .ok (.iadd, 1) := by decide +kernel
theorem dX11_feed_7 : decode cX11_feed 7 = .ok (.sipush 800, 3) := by decide +kernel
theorem dX11_feed_10 : decode cX11_feed 10 = .ok (.if_icmp .le 5, 3) := by decide +kernel
theorem dX11_feed_13 : decode cX11_feed 13 = .ok (.iconst (-1), 1) := by decide +kernel
theorem dX11_feed_14 : decode cX11_feed 14 = .ok (.ireturn, 1) := by decide +kernel
theorem dX11_feed_15 : decode cX11_feed 15 = .ok (.aload_n 0, 1) := by decide +kernel
theorem dX11_feed_16 : decode cX11_feed 16 = .ok (.getfield 24, 3) := by decide +kernel
theorem dX11_feed_19 : decode cX11_feed 19 = .ok (.iconst 0, 1) := by decide +kernel
theorem dX11_feed_20 : decode cX11_feed 20 = .ok (.iload_n 1, 1) := by decide +kernel
theorem dX11_feed_21 : decode cX11_feed 21 = .ok (.iastore, 1) := by decide +kernel
theorem dX11_feed_22 : decode cX11_feed 22 = .ok (.aload_n 0, 1) := by decide +kernel
theorem dX11_feed_23 : decode cX11_feed 23 = .ok (.getfield 24, 3) := by decide +kernel
theorem dX11_feed_26 : decode cX11_feed 26 = .ok (.iconst 1, 1) := by decide +kernel
theorem dX11_feed_27 : decode cX11_feed 27 = .ok (.iload_n 2, 1) := by decide +kernel
theorem dX11_feed_28 : decode cX11_feed 28 = .ok (.iastore, 1) := by decide +kernel
theorem dX11_feed_29 : decode cX11_feed 29 = .ok (.aload_n 0, 1) := by decide +kernel
theorem dX11_feed_30 : decode cX11_feed 30 = .ok (.getfield 24, 3) := by decide +kernel
theorem dX11_feed_33 : decode cX11_feed 33 = .ok (.iconst 2, 1) := by decide +kernel
theorem dX11_feed_34 : decode cX11_feed 34 = .ok (.iload_n 3, 1) := by decide +kernel
theorem dX11_feed_35 : decode cX11_feed 35 = .ok (.iastore, 1) := by decide +kernel
theorem dX11_feed_36 : decode cX11_feed 36 = .ok (.aload_n 0, 1) := by decide +kernel
theorem dX11_feed_37 : decode cX11_feed 37 = .ok (.getfield 24, 3) := by decide +kernel
theorem dX11_feed_40 : decode cX11_feed 40 = .ok (.iconst 3, 1) := by decide +kernel
theorem dX11_feed_41 : decode cX11_feed 41 = .ok (.iload 4, 2) := by decide +kernel
theorem dX11_feed_43 : decode cX11_feed 43 = .ok (.iastore, 1) := by decide +kernel
theorem dX11_feed_44 : decode cX11_feed 44 = .ok (.aload_n 0, 1) := by decide +kernel
theorem dX11_feed_45 : decode cX11_feed 45 = .ok (.getfield 24, 3) := by decide +kernel
theorem dX11_feed_48 : decode cX11_feed 48 = .ok (.iconst 4, 1) := by decide +kernel
theorem dX11_feed_49 : decode cX11_feed 49 = .ok (.iload 5, 2) := by decide +kernel
theorem dX11_feed_51 : decode cX11_feed 51 = .ok (.iastore, 1) := by decide +kernel
theorem dX11_feed_52 : decode cX11_feed 52 = .ok (.iconst 0, 1) := by decide +kernel
theorem dX11_feed_53 : decode cX11_feed 53 = .ok (.istore 6, 2) := by decide +kernel
theorem dX11_feed_55 : decode cX11_feed 55 = .ok (.iload 6, 2) := by decide +kernel
theorem dX11_feed_57 : decode cX11_feed 57 = .ok (.bipush 20, 2) := by decide +kernel
theorem dX11_feed_59 : decode cX11_feed 59 = .ok (.if_icmp .ge 42, 3) := by decide +kernel
theorem dX11_feed_62 : decode cX11_feed 62 = .ok (.aload_n 0, 1) := by decide +kernel
theorem dX11_feed_63 : decode cX11_feed 63 = .ok (.getfield 20, 3) := by decide +kernel
theorem dX11_feed_66 : decode cX11_feed 66 = .ok (.aload_n 0, 1) := by decide +kernel
theorem dX11_feed_67 : decode cX11_feed 67 = .ok (.getfield 106, 3) := by decide +kernel
theorem dX11_feed_70 : decode cX11_feed 70 = .ok (.iload 6, 2) := by decide +kernel
theorem dX11_feed_72 : decode cX11_feed 72 = .ok (.iadd, 1) := by decide +kernel
theorem dX11_feed_73 : decode cX11_feed 73 = .ok (.aload_n 0, 1) := by decide +kernel
theorem dX11_feed_74 : decode cX11_feed 74 = .ok (.getfield 24, 3) := by decide +kernel
theorem dX11_feed_77 : decode cX11_feed 77 = .ok (.iload 6, 2) := by decide +kernel
theorem dX11_feed_79 : decode cX11_feed 79 = .ok (.iconst 4, 1) := by decide +kernel
theorem dX11_feed_80 : decode cX11_feed 80 = .ok (.idiv, 1) := by decide +kernel
theorem dX11_feed_81 : decode cX11_feed 81 = .ok (.iaload, 1) := by decide +kernel
theorem dX11_feed_82 : decode cX11_feed 82 = .ok (.bipush 24, 2) := by decide +kernel
theorem dX11_feed_84 : decode cX11_feed 84 = .ok (.bipush 8, 2) := by decide +kernel
theorem dX11_feed_86 : decode cX11_feed 86 = .ok (.iload 6, 2) := by decide +kernel
theorem dX11_feed_88 : decode cX11_feed 88 = .ok (.iconst 4, 1) := by decide +kernel
theorem dX11_feed_89 : decode cX11_feed 89 = .ok (.irem, 1) := by decide +kernel
theorem dX11_feed_90 : decode cX11_feed 90 = .ok (.imul, 1) := by decide +kernel
theorem dX11_feed_91 : decode cX11_feed 91 = .ok (.isub, 1) := by decide +kernel
theorem dX11_feed_92 : decode cX11_feed 92 = .ok (.ishr, 1) := by decide +kernel
theorem dX11_feed_93 : decode cX11_feed 93 = .ok (.i2b, 1) := by decide +kernel
theorem dX11_feed_94 : decode cX11_feed 94 = .ok (.bastore, 1) := by decide +kernel
theorem dX11_feed_95 : decode cX11_feed 95 = .ok (.iinc 6 1, 3) := by decide +kernel
theorem dX11_feed_98 : decode cX11_feed 98 = .ok (.goto (-43), 3) := by decide +kernel
theorem dX11_feed_101 : decode cX11_feed 101 = .ok (.aload_n 0, 1) := by decide +kernel
theorem dX11_feed_102 : decode cX11_feed 102 = .ok (.dup, 1) := by decide +kernel
theorem dX11_feed_103 : decode cX11_feed 103 = .ok (.getfield 106, 3) := by decide +kernel
theorem dX11_feed_106 : decode cX11_feed 106 = .ok (.bipush 20, 2) := by decide +kernel
theorem dX11_feed_108 : decode cX11_feed 108 = .ok (.iadd, 1) := by decide +kernel
theorem dX11_feed_109 : decode cX11_feed 109 = .ok (.putfield 106, 3) := by decide +kernel
theorem dX11_feed_112 : decode cX11_feed 112 = .ok (.aload_n 0, 1) := by decide +kernel
theorem dX11_feed_113 : decode cX11_feed 113 = .ok (.getfield 106, 3) := by decide +kernel
theorem dX11_feed_116 : decode cX11_feed 116 = .ok (.ireturn, 1) := by decide +kernel
theorem dX11_fitsRow_0 : decode cX11_fitsRow 0 = .ok (.aload_n 0, 1) := by decide +kernel
theorem dX11_fitsRow_1 : decode cX11_fitsRow 1 = .ok (.iload_n 3, 1) := by decide +kernel
theorem dX11_fitsRow_2 : decode cX11_fitsRow 2 = .ok (.invokevirtual 253, 3) := by decide +kernel
theorem dX11_fitsRow_5 : decode cX11_fitsRow 5 = .ok (.ifCond .eq 85, 3) := by decide +kernel
theorem dX11_fitsRow_8 : decode cX11_fitsRow 8 = .ok (.aload_n 0, 1) := by decide +kernel
theorem dX11_fitsRow_9 : decode cX11_fitsRow 9 = .ok (.getfield 43, 3) := by decide +kernel
theorem dX11_fitsRow_12 : decode cX11_fitsRow 12 = .ok (.iload_n 3, 1) := by decide +kernel
theorem dX11_fitsRow_13 : decode cX11_fitsRow 13 = .ok (.iaload, 1) := by decide +kernel
theorem dX11_fitsRow_14 : decode cX11_fitsRow 14 = .ok (.i2l, 1) := by decide +kernel
theorem dX11_fitsRow_15 : decode cX11_fitsRow 15 = .ok (.aload_n 0, 1) := by decide +kernel
theorem dX11_fitsRow_16 : decode cX11_fitsRow 16 = .ok (.iload_n 1, 1) := by decide +kernel
theorem dX11_fitsRow_17 : decode cX11_fitsRow 17 = .ok (.iload_n 2, 1) := by decide +kernel
theorem dX11_fitsRow_18 : decode cX11_fitsRow 18 = .ok (.invokevirtual 391, 3) := by decide +kernel
theorem dX11_fitsRow_21 : decode cX11_fitsRow 21 = .ok (.lcmp, 1) := by decide +kernel
theorem dX11_fitsRow_22 : decode cX11_fitsRow 22 = .ok (.ifCond .ne 68, 3) := by decide +kernel
theorem dX11_fitsRow_25 : decode cX11_fitsRow 25 = .ok (.aload_n 0, 1) := by decide +kernel
theorem dX11_fitsRow_26 : decode cX11_fitsRow 26 = .ok (.getfield 46, 3) := by decide +kernel
theorem dX11_fitsRow_29 : decode cX11_fitsRow 29 = .ok (.iload_n 3, 1) := by decide +kernel
theorem dX11_fitsRow_30 : decode cX11_fitsRow 30 = .ok (.iaload, 1) := by decide +kernel
theorem dX11_fitsRow_31 : decode cX11_fitsRow 31 = .ok (.i2l, 1) := by decide +kernel
theorem dX11_fitsRow_32 : decode cX11_fitsRow 32 = .ok (.aload_n 0, 1) := by decide +kernel
theorem dX11_fitsRow_33 : decode cX11_fitsRow 33 = .ok (.iload_n 1, 1) := by decide +kernel
theorem dX11_fitsRow_34 : decode cX11_fitsRow 34 = .ok (.iload_n 2, 1) := by decide +kernel
theorem dX11_fitsRow_35 : decode cX11_fitsRow 35 = .ok (.iconst 1, 1) := by decide +kernel
theorem dX11_fitsRow_36 : decode cX11_fitsRow 36 = .ok (.iadd, 1) := by decide +kernel
theorem dX11_fitsRow_37 : decode cX11_fitsRow 37 = .ok (.invokevirtual 391, 3) := by decide +kernel
theorem dX11_fitsRow_40 : decode cX11_fitsRow 40 = .ok (.lcmp, 1) := by decide +kernel
theorem dX11_fitsRow_41 : decode cX11_fitsRow 41 = .ok (.ifCond .ne 49, 3) := by decide +kernel
theorem dX11_fitsRow_44 : decode cX11_fitsRow 44 = .ok (.aload_n 0, 1) := by decide +kernel
theorem dX11_fitsRow_45 : decode cX11_fitsRow 45 = .ok (.getfield 52, 3) := by decide +kernel
theorem dX11_fitsRow_48 : decode cX11_fitsRow 48 = .ok (.iload_n 3, 1) := by decide +kernel
theorem dX11_fitsRow_49 : decode cX11_fitsRow 49 = .ok (.iaload, 1) := by decide +kernel
theorem dX11_fitsRow_50 : decode cX11_fitsRow 50 = .ok (.i2l, 1) := by decide +kernel
theorem dX11_fitsRow_51 : decode cX11_fitsRow 51 = .ok (.aload_n 0, 1) := by decide +kernel
theorem dX11_fitsRow_52 : decode cX11_fitsRow 52 = .ok (.iload_n 1, 1) := by decide +kernel
theorem dX11_fitsRow_53 : decode cX11_fitsRow 53 = .ok (.iload_n 2, 1) := by decide +kernel
theorem dX11_fitsRow_54 : decode cX11_fitsRow 54 = .ok (.iconst 3, 1) := by decide +kernel
theorem dX11_fitsRow_55 : decode cX11_fitsRow 55 = .ok (.iadd, 1) := by decide +kernel
theorem dX11_fitsRow_56 : decode cX11_fitsRow 56 = .ok (.invokevirtual 391, 3) := by decide +kernel
theorem dX11_fitsRow_59 : decode cX11_fitsRow 59 = .ok (.lcmp, 1) := by decide +kernel
theorem dX11_fitsRow_60 : decode cX11_fitsRow 60 = .ok (.ifCond .ne 30, 3) := by decide +kernel
theorem dX11_fitsRow_63 : decode cX11_fitsRow 63 = .ok (.iload 4, 2) := by decide +kernel
theorem dX11_fitsRow_65 : decode cX11_fitsRow 65 = .ok (.ifCond .eq 21, 3) := by decide +kernel
theorem dX11_fitsRow_68 : decode cX11_fitsRow 68 = .ok (.aload_n 0, 1) := by decide +kernel
theorem dX11_fitsRow_69 : decode cX11_fitsRow 69 = .ok (.iload_n 3, 1) := by decide +kernel
theorem dX11_fitsRow_70 : decode cX11_fitsRow 70 = .ok (.invokevirtual 238, 3) := by decide +kernel
theorem dX11_fitsRow_73 : decode cX11_fitsRow 73 = .ok (.i2l, 1) := by decide +kernel
theorem dX11_fitsRow_74 : decode cX11_fitsRow 74 = .ok (.aload_n 0, 1) := by decide +kernel
theorem dX11_fitsRow_75 : decode cX11_fitsRow 75 = .ok (.iload_n 1, 1) := by decide +kernel
theorem dX11_fitsRow_76 : decode cX11_fitsRow 76 = .ok (.iload_n 2, 1) := by decide +kernel
theorem dX11_fitsRow_77 : decode cX11_fitsRow 77 = .ok (.iconst 2, 1) := by decide +kernel
theorem dX11_fitsRow_78 : decode cX11_fitsRow 78 = .ok (.iadd, 1) := by decide +kernel
theorem dX11_fitsRow_79 : decode cX11_fitsRow 79 = .ok (.invokevirtual 391, 3) := by decide +kernel
theorem dX11_fitsRow_82 : decode cX11_fitsRow 82 = .ok (.lcmp, 1) := by decide +kernel
theorem dX11_fitsRow_83 : decode cX11_fitsRow 83 = .ok (.ifCond .ne 7, 3) := by decide +kernel
theorem dX11_fitsRow_86 : decode cX11_fitsRow 86 = .ok (.iconst 1, 1) := by decide +kernel
theorem dX11_fitsRow_87 : decode cX11_fitsRow 87 = .ok (.goto 4, 3) := by decide +kernel
theorem dX11_fitsRow_90 : decode cX11_fitsRow 90 = .ok (.iconst 0, 1) := by decide +kernel
theorem dX11_fitsRow_91 : decode cX11_fitsRow 91 = .ok (.ireturn, 1) := by decide +kernel
theorem dX11_forged_0 : decode cX11_forged 0 = .ok (.aload_n 0, 1) := by decide +kernel
theorem dX11_forged_1 : decode cX11_forged 1 = .ok (.iload_n 1, 1) := by decide +kernel
theorem dX11_forged_2 : decode cX11_forged 2 = .ok (.invokevirtual 416, 3) := by decide +kernel
theorem dX11_forged_5 : decode cX11_forged 5 = .ok (.istore_n 2, 1) := by decide +kernel
theorem dX11_forged_6 : decode cX11_forged 6 = .ok (.iload_n 2, 1) := by decide +kernel
theorem dX11_forged_7 : decode cX11_forged 7 = .ok (.ifCond .ge 5, 3) := by decide +kernel
theorem dX11_forged_10 : decode cX11_forged 10 = .ok (.iload_n 2, 1) := by decide +kernel
theorem dX11_forged_11 : decode cX11_forged 11 = .ok (.ireturn, 1) := by decide +kernel
theorem dX11_forged_12 : decode cX11_forged 12 = .ok (.aload_n 0, 1) := by decide +kernel
theorem dX11_forged_13 : decode cX11_forged 13 = .ok (.iload_n 1, 1) := by decide +kernel
theorem dX11_forged_14 : decode cX11_forged 14 = .ok (.invokevirtual 419, 3) := by decide +kernel
theorem dX11_forged_17 : decode cX11_forged 17 = .ok (.aload_n 0, 1) := by decide +kernel
theorem dX11_forged_18 : decode cX11_forged 18 = .ok (.getfield 406, 3) := by decide +kernel
theorem dX11_forged_21 : decode cX11_forged 21 = .ok (.ireturn, 1) := by decide +kernel
theorem dX11_gainOf_0 : decode cX11_gainOf 0 = .ok (.iconst 0, 1) := by decide +kernel
theorem dX11_gainOf_1 : decode cX11_gainOf 1 = .ok (.istore_n 3, 1) := by decide +kernel
theorem dX11_gainOf_2 : decode cX11_gainOf 2 = .ok (.iconst 0, 1) := by decide +kernel
theorem dX11_gainOf_3 : decode cX11_gainOf 3 = .ok (.istore 4, 2) := by decide +kernel
theorem dX11_gainOf_5 : decode cX11_gainOf 5 = .ok (.iload 4, 2) := by decide +kernel
theorem dX11_gainOf_7 : decode cX11_gainOf 7 = .ok (.aload_n 0, 1) := by decide +kernel
theorem dX11_gainOf_8 : decode cX11_gainOf 8 = .ok (.getfield 9, 3) := by decide +kernel
theorem dX11_gainOf_11 : decode cX11_gainOf 11 = .ok (.iconst 4, 1) := by decide +kernel
theorem dX11_gainOf_12 : decode cX11_gainOf 12 = .ok (.iaload, 1) := by decide +kernel
theorem dX11_gainOf_13 : decode cX11_gainOf 13 = .ok (.if_icmp .ge 50, 3) := by decide +kernel
theorem dX11_gainOf_16 : decode cX11_gainOf 16 = .ok (.aload_n 0, 1) := by decide +kernel
theorem dX11_gainOf_17 : decode cX11_gainOf 17 = .ok (.getfield 40, 3) := by decide +kernel
theorem dX11_gainOf_20 : decode cX11_gainOf 20 = .ok (.iload 4, 2) := by decide +kernel
theorem dX11_gainOf_22 : decode cX11_gainOf 22 = .ok (.iaload, 1) := by decide +kernel
theorem dX11_gainOf_23 : decode cX11_gainOf 23 = .ok (.iload_n 1, 1) := by decide +kernel
theorem dX11_gainOf_24 : decode cX11_gainOf 24 = .ok (.if_icmp .eq 31, 3) := by decide +kernel
theorem dX11_gainOf_27 : decode cX11_gainOf 27 = .ok (.iload_n 2, 1) := by decide +kernel
theorem dX11_gainOf_28 : decode cX11_gainOf 28 = .ok (.aload_n 0, 1) := by decide +kernel
theorem dX11_gainOf_29 : decode cX11_gainOf 29 = .ok (.getfield 40, 3) := by decide +kernel
theorem dX11_gainOf_32 : decode cX11_gainOf 32 = .ok (.iload 4, 2) := by decide +kernel
theorem dX11_gainOf_34 : decode cX11_gainOf 34 = .ok (.iaload, 1) := by decide +kernel
theorem dX11_gainOf_35 : decode cX11_gainOf 35 = .ok (.invokestatic 344, 3) := by decide +kernel
theorem dX11_gainOf_38 : decode cX11_gainOf 38 = .ok (.ifCond .ne 17, 3) := by decide +kernel
theorem dX11_gainOf_41 : decode cX11_gainOf 41 = .ok (.iload_n 3, 1) := by decide +kernel
theorem dX11_gainOf_42 : decode cX11_gainOf 42 = .ok (.aload_n 0, 1) := by decide +kernel
theorem dX11_gainOf_43 : decode cX11_gainOf 43 = .ok (.iload_n 1, 1) := by decide +kernel
theorem dX11_gainOf_44 : decode cX11_gainOf 44 = .ok (.iload 4, 2) := by decide +kernel
theorem dX11_gainOf_46 : decode cX11_gainOf 46 = .ok (.invokevirtual 102, 3) := by decide +kernel
theorem dX11_gainOf_49 : decode cX11_gainOf 49 = .ok (.invokestatic 368, 3) := by decide +kernel
theorem dX11_gainOf_52 : decode cX11_gainOf 52 = .ok (.goto 4, 3) := by decide +kernel
theorem dX11_gainOf_55 : decode cX11_gainOf 55 = .ok (.iload_n 3, 1) := by decide +kernel
theorem dX11_gainOf_56 : decode cX11_gainOf 56 = .ok (.istore_n 3, 1) := by decide +kernel
theorem dX11_gainOf_57 : decode cX11_gainOf 57 = .ok (.iinc 4 1, 3) := by decide +kernel
theorem dX11_gainOf_60 : decode cX11_gainOf 60 = .ok (.goto (-55), 3) := by decide +kernel
theorem dX11_gainOf_63 : decode cX11_gainOf 63 = .ok (.iload_n 3, 1) := by decide +kernel
theorem dX11_gainOf_64 : decode cX11_gainOf 64 = .ok (.ireturn, 1) := by decide +kernel
theorem dX11_getsBy_0 : decode cX11_getsBy 0 = .ok (.aload_n 0, 1) := by decide +kernel
theorem dX11_getsBy_1 : decode cX11_getsBy 1 = .ok (.iload_n 1, 1) := by decide +kernel
theorem dX11_getsBy_2 : decode cX11_getsBy 2 = .ok (.iload_n 2, 1) := by decide +kernel
theorem dX11_getsBy_3 : decode cX11_getsBy 3 = .ok (.invokevirtual 374, 3) := by decide +kernel
theorem dX11_getsBy_6 : decode cX11_getsBy 6 = .ok (.iload_n 2, 1) := by decide +kernel
theorem dX11_getsBy_7 : decode cX11_getsBy 7 = .ok (.iload_n 1, 1) := by decide +kernel
theorem dX11_getsBy_8 : decode cX11_getsBy 8 = .ok (.invokestatic 344, 3) := by decide +kernel
theorem dX11_getsBy_11 : decode cX11_getsBy 11 = .ok (.iconst 1, 1) := by decide +kernel
theorem dX11_getsBy_12 : decode cX11_getsBy 12 = .ok (.if_icmp .ne 7, 3) := by decide +kernel
theorem dX11_getsBy_15 : decode cX11_getsBy 15 = .ok (.iload_n 3, 1) := by decide +kernel
theorem dX11_getsBy_16 : decode cX11_getsBy 16 = .ok (.goto 8, 3) := by decide +kernel
theorem dX11_getsBy_19 : decode cX11_getsBy 19 = .ok (.aload_n 0, 1) := by decide +kernel
theorem dX11_getsBy_20 : decode cX11_getsBy 20 = .ok (.iload_n 1, 1) := by decide +kernel
theorem dX11_getsBy_21 : decode cX11_getsBy 21 = .ok (.invokevirtual 377, 3) := by decide +kernel
theorem dX11_getsBy_24 : decode cX11_getsBy 24 = .ok (.isub, 1) := by decide +kernel
theorem dX11_getsBy_25 : decode cX11_getsBy 25 = .ok (.ireturn, 1) := by decide +kernel
theorem dX11_goDrawn_0 : decode cX11_goDrawn 0 = .ok (.aload_n 0, 1) := by decide +kernel
theorem dX11_goDrawn_1 : decode cX11_goDrawn 1 = .ok (.invokevirtual 250, 3) := by decide +kernel
theorem dX11_goDrawn_4 : decode cX11_goDrawn 4 = .ok (.aload_n 0, 1) := by decide +kernel
theorem dX11_goDrawn_5 : decode cX11_goDrawn 5 = .ok (.lload_n 1, 1) := by decide +kernel
theorem dX11_goDrawn_6 : decode cX11_goDrawn 6 = .ok (.putfield 424, 3) := by decide +kernel
theorem dX11_goDrawn_9 : decode cX11_goDrawn 9 = .ok (.iconst 0, 1) := by decide +kernel
theorem dX11_goDrawn_10 : decode cX11_goDrawn 10 = .ok (.istore 4, 2) := by decide +kernel
theorem dX11_goDrawn_12 : decode cX11_goDrawn 12 = .ok (.iconst 0, 1) := by decide +kernel
theorem dX11_goDrawn_13 : decode cX11_goDrawn 13 = .ok (.istore 5, 2) := by decide +kernel
theorem dX11_goDrawn_15 : decode cX11_goDrawn 15 = .ok (.iload 5, 2) := by decide +kernel
theorem dX11_goDrawn_17 : decode cX11_goDrawn 17 = .ok (.iload_n 3, 1) := by decide +kernel
theorem dX11_goDrawn_18 : decode cX11_goDrawn 18 = .ok (.if_icmp .ge 103, 3) := by decide +kernel
theorem dX11_goDrawn_21 : decode cX11_goDrawn 21 = .ok (.iconst 0, 1) := by decide +kernel
theorem dX11_goDrawn_22 : decode cX11_goDrawn 22 = .ok (.istore 6, 2) := by decide +kernel
theorem dX11_goDrawn_24 : decode cX11_goDrawn 24 = .ok (.iload 6, 2) := by decide +kernel
theorem dX11_goDrawn_26 : decode cX11_goDrawn 26 = .ok (.aload_n 0, 1) := by decide +kernel
theorem dX11_goDrawn_27 : decode cX11_goDrawn 27 = .ok (.getfield 9, 3) := by decide +kernel
theorem dX11_goDrawn_30 : decode cX11_goDrawn 30 = .ok (.iconst 3, 1) := by decide +kernel
theorem dX11_goDrawn_31 : decode cX11_goDrawn 31 = .ok (.iaload, 1) := by decide +kernel
theorem dX11_goDrawn_32 : decode cX11_goDrawn 32 = .ok (.if_icmp .ge 74, 3) := by decide +kernel
theorem dX11_goDrawn_35 : decode cX11_goDrawn 35 = .ok (.aload_n 0, 1) := by decide +kernel
theorem dX11_goDrawn_36 : decode cX11_goDrawn 36 = .ok (.bipush 100, 2) := by decide +kernel
theorem dX11_goDrawn_38 : decode cX11_goDrawn 38 = .ok (.invokevirtual 434, 3) := by decide +kernel
theorem dX11_goDrawn_41 : decode cX11_goDrawn 41 = .ok (.aload_n 0, 1) := by decide +kernel
theorem dX11_goDrawn_42 : decode cX11_goDrawn 42 = .ok (.getfield 9, 3) := by decide +kernel
theorem dX11_goDrawn_45 : decode cX11_goDrawn 45 = .ok (.iconst 2, 1) := by decide +kernel
theorem dX11_goDrawn_46 : decode cX11_goDrawn 46 = .ok (.iaload, 1) := by decide +kernel
theorem dX11_goDrawn_47 : decode cX11_goDrawn 47 = .ok (.if_icmp .ge 53, 3) := by decide +kernel
theorem dX11_goDrawn_50 : decode cX11_goDrawn 50 = .ok (.aload_n 0, 1) := by decide +kernel
theorem dX11_goDrawn_51 : decode cX11_goDrawn 51 = .ok (.getfield 9, 3) := by decide +kernel
theorem dX11_goDrawn_54 : decode cX11_goDrawn 54 = .ok (.iconst 4, 1) := by decide +kernel
theorem dX11_goDrawn_55 : decode cX11_goDrawn 55 = .ok (.iaload, 1) := by decide +kernel
theorem dX11_goDrawn_56 : decode cX11_goDrawn 56 = .ok (.ifCond .ne 6, 3) := by decide +kernel
theorem dX11_goDrawn_59 : decode cX11_goDrawn 59 = .ok (.goto 41, 3) := by decide +kernel
theorem dX11_goDrawn_62 : decode cX11_goDrawn 62 = .ok (.aload_n 0, 1) := by decide +kernel
theorem dX11_goDrawn_63 : decode cX11_goDrawn 63 = .ok (.aload_n 0, 1) := by decide +kernel
theorem dX11_goDrawn_64 : decode cX11_goDrawn 64 = .ok (.getfield 9, 3) := by decide +kernel
theorem dX11_goDrawn_67 : decode cX11_goDrawn 67 = .ok (.iconst 4, 1) := by decide +kernel
theorem dX11_goDrawn_68 : decode cX11_goDrawn 68 = .ok (.iaload, 1) := by decide +kernel
theorem dX11_goDrawn_69 : decode cX11_goDrawn 69 = .ok (.invokevirtual 434, 3) := by decide +kernel
theorem dX11_goDrawn_72 : decode cX11_goDrawn 72 = .ok (.istore 7, 2) := by decide +kernel
theorem dX11_goDrawn_74 : decode cX11_goDrawn 74 = .ok (.aload_n 0, 1) := by decide +kernel
theorem dX11_goDrawn_75 : decode cX11_goDrawn 75 = .ok (.iload 6, 2) := by decide +kernel
theorem dX11_goDrawn_77 : decode cX11_goDrawn 77 = .ok (.iload 7, 2) := by decide +kernel
theorem dX11_goDrawn_79 : decode cX11_goDrawn 79 = .ok (.invokevirtual 281, 3) := by decide +kernel
theorem dX11_goDrawn_82 : decode cX11_goDrawn 82 = .ok (.ifCond .eq 18, 3) := by decide +kernel
theorem dX11_goDrawn_85 : decode cX11_goDrawn 85 = .ok (.aload_n 0, 1) := by decide +kernel
theorem dX11_goDrawn_86 : decode cX11_goDrawn 86 = .ok (.iload 6, 2) := by decide +kernel
theorem dX11_goDrawn_88 : decode cX11_goDrawn 88 = .ok (.iload 7, 2) := by decide +kernel
theorem dX11_goDrawn_90 : decode cX11_goDrawn 90 = .ok (.aload_n 0, 1) := by decide +kernel
theorem dX11_goDrawn_91 : decode cX11_goDrawn 91 = .ok (.getfield 211, 3) := by decide +kernel
theorem dX11_goDrawn_94 : decode cX11_goDrawn 94 = .ok (.bipush 7, 2) := by decide +kernel
theorem dX11_goDrawn_96 : decode cX11_goDrawn 96 = .ok (.iadd, 1) := by decide +kernel
theorem dX11_goDrawn_97 : decode cX11_goDrawn 97 = .ok (.invokevirtual 221, 3) := by decide +kernel
theorem dX11_goDrawn_100 : decode cX11_goDrawn 100 = .ok (.iinc 6 1, 3) := by decide +kernel
theorem dX11_goDrawn_103 : decode cX11_goDrawn 103 = .ok (.goto (-79), 3) := by decide +kernel
theorem dX11_goDrawn_106 : decode cX11_goDrawn 106 = .ok (.iload 4, 2) := by decide +kernel
theorem dX11_goDrawn_108 : decode cX11_goDrawn 108 = .ok (.aload_n 0, 1) := by decide +kernel
theorem dX11_goDrawn_109 : decode cX11_goDrawn 109 = .ok (.invokevirtual 232, 3) := by decide +kernel
theorem dX11_goDrawn_112 : decode cX11_goDrawn 112 = .ok (.iadd, 1) := by decide +kernel
theorem dX11_goDrawn_113 : decode cX11_goDrawn 113 = .ok (.istore 4, 2) := by decide +kernel
theorem dX11_goDrawn_115 : decode cX11_goDrawn 115 = .ok (.iinc 5 1, 3) := by decide +kernel
theorem dX11_goDrawn_118 : decode cX11_goDrawn 118 = .ok (.goto (-103), 3) := by decide +kernel
theorem dX11_goDrawn_121 : decode cX11_goDrawn 121 = .ok (.iload 4, 2) := by decide +kernel
theorem dX11_goDrawn_123 : decode cX11_goDrawn 123 = .ok (.ireturn, 1) := by decide +kernel
theorem dX11_goNights_0 : decode cX11_goNights 0 = .ok (.aload_n 0, 1) := by decide +kernel
theorem dX11_goNights_1 : decode cX11_goNights 1 = .ok (.invokevirtual 250, 3) := by decide +kernel
theorem dX11_goNights_4 : decode cX11_goNights 4 = .ok (.aload_n 0, 1) := by decide +kernel
theorem dX11_goNights_5 : decode cX11_goNights 5 = .ok (.invokevirtual 335, 3) := by decide +kernel
theorem dX11_goNights_8 : decode cX11_goNights 8 = .ok (.istore_n 2, 1) := by decide +kernel
theorem dX11_goNights_9 : decode cX11_goNights 9 = .ok (.iconst 0, 1) := by decide +kernel
theorem dX11_goNights_10 : decode cX11_goNights 10 = .ok (.istore_n 3, 1) := by decide +kernel
theorem dX11_goNights_11 : decode cX11_goNights 11 = .ok (.iload_n 3, 1) := by decide +kernel
theorem dX11_goNights_12 : decode cX11_goNights 12 = .ok (.iload_n 1, 1) := by decide +kernel
theorem dX11_goNights_13 : decode cX11_goNights 13 = .ok (.if_icmp .ge 14, 3) := by decide +kernel
theorem dX11_goNights_16 : decode cX11_goNights 16 = .ok (.aload_n 0, 1) := by decide +kernel
theorem dX11_goNights_17 : decode cX11_goNights 17 = .ok (.invokevirtual 232, 3) := by decide +kernel
theorem dX11_goNights_20 : decode cX11_goNights 20 = .ok (.pop, 1) := by decide +kernel
theorem dX11_goNights_21 : decode cX11_goNights 21 = .ok (.iinc 3 1, 3) := by decide +kernel
theorem dX11_goNights_24 : decode cX11_goNights 24 = .ok (.goto (-13), 3) := by decide +kernel
theorem dX11_goNights_27 : decode cX11_goNights 27 = .ok (.aload_n 0, 1) := by decide +kernel
theorem dX11_goNights_28 : decode cX11_goNights 28 = .ok (.invokevirtual 335, 3) := by decide +kernel
theorem dX11_goNights_31 : decode cX11_goNights 31 = .ok (.iload_n 2, 1) := by decide +kernel
theorem dX11_goNights_32 : decode cX11_goNights 32 = .ok (.iconst (-1), 1) := by decide +kernel
theorem dX11_goNights_33 : decode cX11_goNights 33 = .ok (.ixor, 1) := by decide +kernel
theorem dX11_goNights_34 : decode cX11_goNights 34 = .ok (.iand, 1) := by decide +kernel
theorem dX11_goNights_35 : decode cX11_goNights 35 = .ok (.ireturn, 1) := by decide +kernel
theorem dX11_goTo_0 : decode cX11_goTo 0 = .ok (.aload_n 0, 1) := by decide +kernel
theorem dX11_goTo_1 : decode cX11_goTo 1 = .ok (.getfield 40, 3) := by decide +kernel
theorem dX11_goTo_4 : decode cX11_goTo 4 = .ok (.iload_n 1, 1) := by decide +kernel
theorem dX11_goTo_5 : decode cX11_goTo 5 = .ok (.iaload, 1) := by decide +kernel
theorem dX11_goTo_6 : decode cX11_goTo 6 = .ok (.iload_n 2, 1) := by decide +kernel
theorem dX11_goTo_7 : decode cX11_goTo 7 = .ok (.if_icmp .ne 4, 3) := by decide +kernel
theorem dX11_goTo_10 : decode cX11_goTo 10 = .ok (.return_, 1) := by decide +kernel
theorem dX11_goTo_11 : decode cX11_goTo 11 = .ok (.aload_n 0, 1) := by decide +kernel
theorem dX11_goTo_12 : decode cX11_goTo 12 = .ok (.getfield 40, 3) := by decide +kernel
theorem dX11_goTo_15 : decode cX11_goTo 15 = .ok (.iload_n 1, 1) := by decide +kernel
theorem dX11_goTo_16 : decode cX11_goTo 16 = .ok (.iload_n 2, 1) := by decide +kernel
theorem dX11_goTo_17 : decode cX11_goTo 17 = .ok (.iastore, 1) := by decide +kernel
theorem dX11_goTo_18 : decode cX11_goTo 18 = .ok (.aload_n 0, 1) := by decide +kernel
theorem dX11_goTo_19 : decode cX11_goTo 19 = .ok (.getfield 64, 3) := by decide +kernel
theorem dX11_goTo_22 : decode cX11_goTo 22 = .ok (.iload_n 1, 1) := by decide +kernel
theorem dX11_goTo_23 : decode cX11_goTo 23 = .ok (.iaload, 1) := by decide +kernel
theorem dX11_goTo_24 : decode cX11_goTo 24 = .ok (.sipush 146, 3) := by decide +kernel
theorem dX11_goTo_27 : decode cX11_goTo 27 = .ok (.if_icmp .ne 4, 3) := by decide +kernel
theorem dX11_goTo_30 : decode cX11_goTo 30 = .ok (.return_, 1) := by decide +kernel
theorem dX11_goTo_31 : decode cX11_goTo 31 = .ok (.aload_n 0, 1) := by decide +kernel
theorem dX11_goTo_32 : decode cX11_goTo 32 = .ok (.getfield 61, 3) := by decide +kernel
theorem dX11_goTo_35 : decode cX11_goTo 35 = .ok (.sipush 146, 3) := by decide +kernel
theorem dX11_goTo_38 : decode cX11_goTo 38 = .ok (.iload_n 1, 1) := by decide +kernel
theorem dX11_goTo_39 : decode cX11_goTo 39 = .ok (.imul, 1) := by decide +kernel
theorem dX11_goTo_40 : decode cX11_goTo 40 = .ok (.aload_n 0, 1) := by decide +kernel
theorem dX11_goTo_41 : decode cX11_goTo 41 = .ok (.getfield 64, 3) := by decide +kernel
theorem dX11_goTo_44 : decode cX11_goTo 44 = .ok (.iload_n 1, 1) := by decide +kernel
theorem dX11_goTo_45 : decode cX11_goTo 45 = .ok (.iaload, 1) := by decide +kernel
theorem dX11_goTo_46 : decode cX11_goTo 46 = .ok (.iadd, 1) := by decide +kernel
theorem dX11_goTo_47 : decode cX11_goTo 47 = .ok (.iload_n 2, 1) := by decide +kernel
theorem dX11_goTo_48 : decode cX11_goTo 48 = .ok (.iastore, 1) := by decide +kernel
theorem dX11_goTo_49 : decode cX11_goTo 49 = .ok (.aload_n 0, 1) := by decide +kernel
theorem dX11_goTo_50 : decode cX11_goTo 50 = .ok (.getfield 64, 3) := by decide +kernel
theorem dX11_goTo_53 : decode cX11_goTo 53 = .ok (.iload_n 1, 1) := by decide +kernel
theorem dX11_goTo_54 : decode cX11_goTo 54 = .ok (.dup2, 1) := by decide +kernel
theorem dX11_goTo_55 : decode cX11_goTo 55 = .ok (.iaload, 1) := by decide +kernel
theorem dX11_goTo_56 : decode cX11_goTo 56 = .ok (.iconst 1, 1) := by decide +kernel
theorem dX11_goTo_57 : decode cX11_goTo 57 = .ok (.iadd, 1) := by decide +kernel
theorem dX11_goTo_58 : decode cX11_goTo 58 = .ok (.iastore, 1) := by decide +kernel
theorem dX11_goTo_59 : decode cX11_goTo 59 = .ok (.return_, 1) := by decide +kernel
theorem dX11_good_0 : decode cX11_good 0 = .ok (.aload_n 0, 1) := by decide +kernel
theorem dX11_good_1 : decode cX11_good 1 = .ok (.getfield 141, 3) := by decide +kernel
theorem dX11_good_4 : decode cX11_good 4 = .ok (.ifCond .ne 7, 3) := by decide +kernel
theorem dX11_good_7 : decode cX11_good 7 = .ok (.iconst 1, 1) := by decide +kernel
theorem dX11_good_8 : decode cX11_good 8 = .ok (.goto 4, 3) := by decide +kernel
theorem dX11_good_11 : decode cX11_good 11 = .ok (.iconst 0, 1) := by decide +kernel
theorem dX11_good_12 : decode cX11_good 12 = .ok (.ireturn, 1) := by decide +kernel
theorem dX11_hit_0 : decode cX11_hit 0 = .ok (.aload_n 0, 1) := by decide +kernel
theorem dX11_hit_1 : decode cX11_hit 1 = .ok (.iload_n 1, 1) := by decide +kernel
theorem dX11_hit_2 : decode cX11_hit 2 = .ok (.i2l, 1) := by decide +kernel
theorem dX11_hit_3 : decode cX11_hit 3 = .ok (.invokevirtual 257, 3) := by decide +kernel
theorem dX11_hit_6 : decode cX11_hit 6 = .ok (.ifCond .eq 11, 3) := by decide +kernel
theorem dX11_hit_9 : decode cX11_hit 9 = .ok (.aload_n 0, 1) := by decide +kernel
theorem dX11_hit_10 : decode cX11_hit 10 = .ok (.iload_n 1, 1) := by decide +kernel
theorem dX11_hit_11 : decode cX11_hit 11 = .ok (.invokevirtual 350, 3) := by decide +kernel
theorem dX11_hit_14 : decode cX11_hit 14 = .ok (.goto 5, 3) := by decide +kernel
theorem dX11_hit_17 : decode cX11_hit 17 = .ok (.bipush (-2), 2) := by decide +kernel
theorem dX11_hit_19 : decode cX11_hit 19 = .ok (.ireturn, 1) := by decide +kernel
theorem dX11_hitOf_0 : decode cX11_hitOf 0 = .ok (.aload_n 0, 1) := by decide +kernel
theorem dX11_hitOf_1 : decode cX11_hitOf 1 = .ok (.invokevirtual 250, 3) := by decide +kernel
theorem dX11_hitOf_4 : decode cX11_hitOf 4 = .ok (.aload_n 0, 1) := by decide +kernel
theorem dX11_hitOf_5 : decode cX11_hitOf 5 = .ok (.iconst (-1), 1) := by decide +kernel
theorem dX11_hitOf_6 : decode cX11_hitOf 6 = .ok (.putfield 347, 3) := by decide +kernel
theorem dX11_hitOf_9 : decode cX11_hitOf 9 = .ok (.iconst 0, 1) := by decide +kernel
theorem dX11_hitOf_10 : decode cX11_hitOf 10 = .ok (.istore_n 2, 1) := by decide +kernel
theorem dX11_hitOf_11 : decode cX11_hitOf 11 = .ok (.iconst 0, 1) := by decide +kernel
theorem dX11_hitOf_12 : decode cX11_hitOf 12 = .ok (.istore_n 3, 1) := by decide +kernel
theorem dX11_hitOf_13 : decode cX11_hitOf 13 = .ok (.iload_n 3, 1) := by decide +kernel
theorem dX11_hitOf_14 : decode cX11_hitOf 14 = .ok (.aload_n 0, 1) := by decide +kernel
theorem dX11_hitOf_15 : decode cX11_hitOf 15 = .ok (.getfield 9, 3) := by decide +kernel
theorem dX11_hitOf_18 : decode cX11_hitOf 18 = .ok (.iconst 3, 1) := by decide +kernel
theorem dX11_hitOf_19 : decode cX11_hitOf 19 = .ok (.iaload, 1) := by decide +kernel
theorem dX11_hitOf_20 : decode cX11_hitOf 20 = .ok (.if_icmp .ge 98, 3) := by decide +kernel
theorem dX11_hitOf_23 : decode cX11_hitOf 23 = .ok (.iconst 0, 1) := by decide +kernel
theorem dX11_hitOf_24 : decode cX11_hitOf 24 = .ok (.istore 4, 2) := by decide +kernel
theorem dX11_hitOf_26 : decode cX11_hitOf 26 = .ok (.iconst 0, 1) := by decide +kernel
theorem dX11_hitOf_27 : decode cX11_hitOf 27 = .ok (.istore 5, 2) := by decide +kernel
theorem dX11_hitOf_29 : decode cX11_hitOf 29 = .ok (.iload 5, 2) := by decide +kernel
theorem dX11_hitOf_31 : decode cX11_hitOf 31 = .ok (.aload_n 0, 1) := by decide +kernel
theorem dX11_hitOf_32 : decode cX11_hitOf 32 = .ok (.getfield 208, 3) := by decide +kernel
theorem dX11_hitOf_35 : decode cX11_hitOf 35 = .ok (.if_icmp .ge 55, 3) := by decide +kernel
theorem dX11_hitOf_38 : decode cX11_hitOf 38 = .ok (.iload 4, 2) := by decide +kernel
theorem dX11_hitOf_40 : decode cX11_hitOf 40 = .ok (.aload_n 0, 1) := by decide +kernel
theorem dX11_hitOf_41 : decode cX11_hitOf 41 = .ok (.iload 5, 2) := by decide +kernel
theorem dX11_hitOf_43 : decode cX11_hitOf 43 = .ok (.invokevirtual 253, 3) := by decide +kernel
theorem dX11_hitOf_46 : decode cX11_hitOf 46 = .ok (.ifCond .eq 34, 3) := by decide +kernel
theorem dX11_hitOf_49 : decode cX11_hitOf 49 = .ok (.aload_n 0, 1) := by decide +kernel
theorem dX11_hitOf_50 : decode cX11_hitOf 50 = .ok (.getfield 43, 3) := by decide +kernel
theorem dX11_hitOf_53 : decode cX11_hitOf 53 = .ok (.iload 5, 2) := by decide +kernel
theorem dX11_hitOf_55 : decode cX11_hitOf 55 = .ok (.iaload, 1) := by decide +kernel
theorem dX11_hitOf_56 : decode cX11_hitOf 56 = .ok (.iload_n 1, 1) := by decide +kernel
theorem dX11_hitOf_57 : decode cX11_hitOf 57 = .ok (.if_icmp .ne 23, 3) := by decide +kernel
theorem dX11_hitOf_60 : decode cX11_hitOf 60 = .ok (.aload_n 0, 1) := by decide +kernel
theorem dX11_hitOf_61 : decode cX11_hitOf 61 = .ok (.getfield 49, 3) := by decide +kernel
theorem dX11_hitOf_64 : decode cX11_hitOf 64 = .ok (.iload 5, 2) := by decide +kernel
theorem dX11_hitOf_66 : decode cX11_hitOf 66 = .ok (.iaload, 1) := by decide +kernel
theorem dX11_hitOf_67 : decode cX11_hitOf 67 = .ok (.iload_n 3, 1) := by decide +kernel
theorem dX11_hitOf_68 : decode cX11_hitOf 68 = .ok (.if_icmp .ne 12, 3) := by decide +kernel
theorem dX11_hitOf_71 : decode cX11_hitOf 71 = .ok (.aload_n 0, 1) := by decide +kernel
theorem dX11_hitOf_72 : decode cX11_hitOf 72 = .ok (.iload 5, 2) := by decide +kernel
theorem dX11_hitOf_74 : decode cX11_hitOf 74 = .ok (.invokevirtual 238, 3) := by decide +kernel
theorem dX11_hitOf_77 : decode cX11_hitOf 77 = .ok (.goto 4, 3) := by decide +kernel
theorem dX11_hitOf_80 : decode cX11_hitOf 80 = .ok (.iconst 0, 1) := by decide +kernel
theorem dX11_hitOf_81 : decode cX11_hitOf 81 = .ok (.iadd, 1) := by decide +kernel
theorem dX11_hitOf_82 : decode cX11_hitOf 82 = .ok (.istore 4, 2) := by decide +kernel
theorem dX11_hitOf_84 : decode cX11_hitOf 84 = .ok (.iinc 5 1, 3) := by decide +kernel
theorem dX11_hitOf_87 : decode cX11_hitOf 87 = .ok (.goto (-58), 3) := by decide +kernel
theorem dX11_hitOf_90 : decode cX11_hitOf 90 = .ok (.iload_n 3, 1) := by decide +kernel
theorem dX11_hitOf_91 : decode cX11_hitOf 91 = .ok (.iload_n 1, 1) := by decide +kernel
theorem dX11_hitOf_92 : decode cX11_hitOf 92 = .ok (.if_icmp .eq 20, 3) := by decide +kernel
theorem dX11_hitOf_95 : decode cX11_hitOf 95 = .ok (.iload 4, 2) := by decide +kernel
theorem dX11_hitOf_97 : decode cX11_hitOf 97 = .ok (.iload_n 2, 1) := by decide +kernel
theorem dX11_hitOf_98 : decode cX11_hitOf 98 = .ok (.if_icmp .gt 6, 3) := by decide +kernel
theorem dX11_hitOf_101 : decode cX11_hitOf 101 = .ok (.goto 11, 3) := by decide +kernel
theorem dX11_hitOf_104 : decode cX11_hitOf 104 = .ok (.iload 4, 2) := by decide +kernel
theorem dX11_hitOf_106 : decode cX11_hitOf 106 = .ok (.istore_n 2, 1) := by decide +kernel
theorem dX11_hitOf_107 : decode cX11_hitOf 107 = .ok (.aload_n 0, 1) := by decide +kernel
theorem dX11_hitOf_108 : decode cX11_hitOf 108 = .ok (.iload_n 3, 1) := by decide +kernel
theorem dX11_hitOf_109 : decode cX11_hitOf 109 = .ok (.putfield 347, 3) := by decide +kernel
theorem dX11_hitOf_112 : decode cX11_hitOf 112 = .ok (.iinc 3 1, 3) := by decide +kernel
theorem dX11_hitOf_115 : decode cX11_hitOf 115 = .ok (.goto (-102), 3) := by decide +kernel
theorem dX11_hitOf_118 : decode cX11_hitOf 118 = .ok (.iload_n 2, 1) := by decide +kernel
theorem dX11_hitOf_119 : decode cX11_hitOf 119 = .ok (.ireturn, 1) := by decide +kernel
theorem dX11_hits_0 : decode cX11_hits 0 = .ok (.aload_n 0, 1) := by decide +kernel
theorem dX11_hits_1 : decode cX11_hits 1 = .ok (.iload_n 1, 1) := by decide +kernel
theorem dX11_hits_2 : decode cX11_hits 2 = .ok (.i2l, 1) := by decide +kernel
theorem dX11_hits_3 : decode cX11_hits 3 = .ok (.invokevirtual 257, 3) := by decide +kernel
theorem dX11_hits_6 : decode cX11_hits 6 = .ok (.ifCond .ne 6, 3) := by decide +kernel
theorem dX11_hits_9 : decode cX11_hits 9 = .ok (.bipush (-2), 2) := by decide +kernel
theorem dX11_hits_11 : decode cX11_hits 11 = .ok (.ireturn, 1) := by decide +kernel
theorem dX11_hits_12 : decode cX11_hits 12 = .ok (.aload_n 0, 1) := by decide +kernel
theorem dX11_hits_13 : decode cX11_hits 13 = .ok (.iload_n 1, 1) := by decide +kernel
theorem dX11_hits_14 : decode cX11_hits 14 = .ok (.invokevirtual 350, 3) := by decide +kernel
theorem dX11_hits_17 : decode cX11_hits 17 = .ok (.pop, 1) := by decide +kernel
theorem dX11_hits_18 : decode cX11_hits 18 = .ok (.aload_n 0, 1) := by decide +kernel
theorem dX11_hits_19 : decode cX11_hits 19 = .ok (.getfield 347, 3) := by decide +kernel
theorem dX11_hits_22 : decode cX11_hits 22 = .ok (.ireturn, 1) := by decide +kernel
theorem dX11_house_0 : decode cX11_house 0 = .ok (.aload_n 0, 1) := by decide +kernel
theorem dX11_house_1 : decode cX11_house 1 = .ok (.iload_n 1, 1) := by decide +kernel
theorem dX11_house_2 : decode cX11_house 2 = .ok (.i2l, 1) := by decide +kernel
theorem dX11_house_3 : decode cX11_house 3 = .ok (.invokevirtual 257, 3) := by decide +kernel
theorem dX11_house_6 : decode cX11_house 6 = .ok (.ifCond .eq 15, 3) := by decide +kernel
theorem dX11_house_9 : decode cX11_house 9 = .ok (.iload_n 2, 1) := by decide +kernel
theorem dX11_house_10 : decode cX11_house 10 = .ok (.i2l, 1) := by decide +kernel
theorem dX11_house_11 : decode cX11_house 11 = .ok (.lconst 0, 1) := by decide +kernel
theorem dX11_house_12 : decode cX11_house 12 = .ok (.ldc2_w 261, 3) := by decide +kernel
theorem dX11_house_15 : decode cX11_house 15 = .ok (.invokestatic 94, 3) := by decide +kernel
theorem dX11_house_18 : decode cX11_house 18 = .ok (.ifCond .ne 6, 3) := by decide +kernel
theorem dX11_house_21 : decode cX11_house 21 = .ok (.bipush (-2), 2) := by decide +kernel
theorem dX11_house_23 : decode cX11_house 23 = .ok (.ireturn, 1) := by decide +kernel
theorem dX11_house_24 : decode cX11_house 24 = .ok (.aload_n 0, 1) := by decide +kernel
theorem dX11_house_25 : decode cX11_house 25 = .ok (.invokevirtual 250, 3) := by decide +kernel
theorem dX11_house_28 : decode cX11_house 28 = .ok (.iload_n 2, 1) := by decide +kernel
theorem dX11_house_29 : decode cX11_house 29 = .ok (.ifCond .ne 10, 3) := by decide +kernel
theorem dX11_house_32 : decode cX11_house 32 = .ok (.aload_n 0, 1) := by decide +kernel
theorem dX11_house_33 : decode cX11_house 33 = .ok (.getfield 34, 3) := by decide +kernel
theorem dX11_house_36 : decode cX11_house 36 = .ok (.iload_n 1, 1) := by decide +kernel
theorem dX11_house_37 : decode cX11_house 37 = .ok (.iaload, 1) := by decide +kernel
theorem dX11_house_38 : decode cX11_house 38 = .ok (.ireturn, 1) := by decide +kernel
theorem dX11_house_39 : decode cX11_house 39 = .ok (.iload_n 2, 1) := by decide +kernel
theorem dX11_house_40 : decode cX11_house 40 = .ok (.iconst 1, 1) := by decide +kernel
theorem dX11_house_41 : decode cX11_house 41 = .ok (.if_icmp .ne 10, 3) := by decide +kernel
theorem dX11_house_44 : decode cX11_house 44 = .ok (.aload_n 0, 1) := by decide +kernel
theorem dX11_house_45 : decode cX11_house 45 = .ok (.getfield 37, 3) := by decide +kernel
theorem dX11_house_48 : decode cX11_house 48 = .ok (.iload_n 1, 1) := by decide +kernel
theorem dX11_house_49 : decode cX11_house 49 = .ok (.iaload, 1) := by decide +kernel
theorem dX11_house_50 : decode cX11_house 50 = .ok (.ireturn, 1) := by decide +kernel
theorem dX11_house_51 : decode cX11_house 51 = .ok (.iload_n 2, 1) := by decide +kernel
theorem dX11_house_52 : decode cX11_house 52 = .ok (.iconst 2, 1) := by decide +kernel
theorem dX11_house_53 : decode cX11_house 53 = .ok (.if_icmp .ne 9, 3) := by decide +kernel
theorem dX11_house_56 : decode cX11_house 56 = .ok (.aload_n 0, 1) := by decide +kernel
theorem dX11_house_57 : decode cX11_house 57 = .ok (.iload_n 1, 1) := by decide +kernel
theorem dX11_house_58 : decode cX11_house 58 = .ok (.invokevirtual 263, 3) := by decide +kernel
theorem dX11_house_61 : decode cX11_house 61 = .ok (.ireturn, 1) := by decide +kernel
theorem dX11_house_62 : decode cX11_house 62 = .ok (.iconst 0, 1) := by decide +kernel
theorem dX11_house_63 : decode cX11_house 63 = .ok (.istore_n 3, 1) := by decide +kernel
theorem dX11_house_64 : decode cX11_house 64 = .ok (.iconst 0, 1) := by decide +kernel
theorem dX11_house_65 : decode cX11_house 65 = .ok (.istore 4, 2) := by decide +kernel
theorem dX11_house_67 : decode cX11_house 67 = .ok (.iload 4, 2) := by decide +kernel
theorem dX11_house_69 : decode cX11_house 69 = .ok (.aload_n 0, 1) := by decide +kernel
theorem dX11_house_70 : decode cX11_house 70 = .ok (.getfield 208, 3) := by decide +kernel
theorem dX11_house_73 : decode cX11_house 73 = .ok (.if_icmp .ge 55, 3) := by decide +kernel
theorem dX11_house_76 : decode cX11_house 76 = .ok (.iload_n 3, 1) := by decide +kernel
theorem dX11_house_77 : decode cX11_house 77 = .ok (.aload_n 0, 1) := by decide +kernel
theorem dX11_house_78 : decode cX11_house 78 = .ok (.iload 4, 2) := by decide +kernel
theorem dX11_house_80 : decode cX11_house 80 = .ok (.invokevirtual 253, 3) := by decide +kernel
theorem dX11_house_83 : decode cX11_house 83 = .ok (.ifCond .eq 36, 3) := by decide +kernel
theorem dX11_house_86 : decode cX11_house 86 = .ok (.iload_n 2, 1) := by decide +kernel
theorem dX11_house_87 : decode cX11_house 87 = .ok (.iconst 3, 1) := by decide +kernel
theorem dX11_house_88 : decode cX11_house 88 = .ok (.if_icmp .ne 13, 3) := by decide +kernel
theorem dX11_house_91 : decode cX11_house 91 = .ok (.aload_n 0, 1) := by decide +kernel
theorem dX11_house_92 : decode cX11_house 92 = .ok (.getfield 49, 3) := by decide +kernel
theorem dX11_house_95 : decode cX11_house 95 = .ok (.iload 4, 2) := by decide +kernel
theorem dX11_house_97 : decode cX11_house 97 = .ok (.iaload, 1) := by decide +kernel
theorem dX11_house_98 : decode cX11_house 98 = .ok (.goto 10, 3) := by decide +kernel
theorem dX11_house_101 : decode cX11_house 101 = .ok (.aload_n 0, 1) := by decide +kernel
theorem dX11_house_102 : decode cX11_house 102 = .ok (.getfield 43, 3) := by decide +kernel
theorem dX11_house_105 : decode cX11_house 105 = .ok (.iload 4, 2) := by decide +kernel
theorem dX11_house_107 : decode cX11_house 107 = .ok (.iaload, 1) := by decide +kernel
theorem dX11_house_108 : decode cX11_house 108 = .ok (.iload_n 1, 1) := by decide +kernel
theorem dX11_house_109 : decode cX11_house 109 = .ok (.if_icmp .ne 10, 3) := by decide +kernel
theorem dX11_house_112 : decode cX11_house 112 = .ok (.iconst 1, 1) := by decide +kernel
theorem dX11_house_113 : decode cX11_house 113 = .ok (.iload 4, 2) := by decide +kernel
theorem dX11_house_115 : decode cX11_house 115 = .ok (.ishl, 1) := by decide +kernel
theorem dX11_house_116 : decode cX11_house 116 = .ok (.goto 4, 3) := by decide +kernel
theorem dX11_house_119 : decode cX11_house 119 = .ok (.iconst 0, 1) := by decide +kernel
theorem dX11_house_120 : decode cX11_house 120 = .ok (.ior, 1) := by decide +kernel
theorem dX11_house_121 : decode cX11_house 121 = .ok (.istore_n 3, 1) := by decide +kernel
theorem dX11_house_122 : decode cX11_house 122 = .ok (.iinc 4 1, 3) := by decide +kernel
theorem dX11_house_125 : decode cX11_house 125 = .ok (.goto (-58), 3) := by decide +kernel
theorem dX11_house_128 : decode cX11_house 128 = .ok (.iload_n 3, 1) := by decide +kernel
theorem dX11_house_129 : decode cX11_house 129 = .ok (.ireturn, 1) := by decide +kernel
theorem dX11_image_0 : decode cX11_image 0 = .ok (.iload_n 1, 1) := by decide +kernel
theorem dX11_image_1 : decode cX11_image 1 = .ok (.i2l, 1) := by decide +kernel
theorem dX11_image_2 : decode cX11_image 2 = .ok (.lconst 0, 1) := by decide +kernel
theorem dX11_image_3 : decode cX11_image 3 = .ok (.ldc2_w 92, 3) := by decide +kernel
theorem dX11_image_6 : decode cX11_image 6 = .ok (.invokestatic 94, 3) := by decide +kernel
theorem dX11_image_9 : decode cX11_image 9 = .ok (.ifCond .ne 6, 3) := by decide +kernel
theorem dX11_image_12 : decode cX11_image 12 = .ok (.bipush (-2), 2) := by decide +kernel
theorem dX11_image_14 : decode cX11_image 14 = .ok (.ireturn, 1) := by decide +kernel
theorem dX11_image_15 : decode cX11_image 15 = .ok (.iconst 0, 1) := by decide +kernel
theorem dX11_image_16 : decode cX11_image 16 = .ok (.istore_n 2, 1) := by decide +kernel
theorem dX11_image_17 : decode cX11_image 17 = .ok (.iload_n 2, 1) := by decide +kernel
theorem dX11_image_18 : decode cX11_image 18 = .ok (.bipush 119, 2) := by decide +kernel
theorem dX11_image_20 : decode cX11_image 20 = .ok (.if_icmp .ge 26, 3) := by decide +kernel
theorem dX11_image_23 : decode cX11_image 23 = .ok (.aload_n 0, 1) := by decide +kernel
theorem dX11_image_24 : decode cX11_image 24 = .ok (.getfield 13, 3) := by decide +kernel
theorem dX11_image_27 : decode cX11_image 27 = .ok (.bipush 119, 2) := by decide +kernel
theorem dX11_image_29 : decode cX11_image 29 = .ok (.iload_n 1, 1) := by decide +kernel
theorem dX11_image_30 : decode cX11_image 30 = .ok (.imul, 1) := by decide +kernel
theorem dX11_image_31 : decode cX11_image 31 = .ok (.iload_n 2, 1) := by decide +kernel
theorem dX11_image_32 : decode cX11_image 32 = .ok (.iadd, 1) := by decide +kernel
theorem dX11_image_33 : decode cX11_image 33 = .ok (.aload_n 0, 1) := by decide +kernel
theorem dX11_image_34 : decode cX11_image 34 = .ok (.getfield 9, 3) := by decide +kernel
theorem dX11_image_37 : decode cX11_image 37 = .ok (.iload_n 2, 1) := by decide +kernel
theorem dX11_image_38 : decode cX11_image 38 = .ok (.iaload, 1) := by decide +kernel
theorem dX11_image_39 : decode cX11_image 39 = .ok (.iastore, 1) := by decide +kernel
theorem dX11_image_40 : decode cX11_image 40 = .ok (.iinc 2 1, 3) := by decide +kernel
theorem dX11_image_43 : decode cX11_image 43 = .ok (.goto (-26), 3) := by decide +kernel
theorem dX11_image_46 : decode cX11_image 46 = .ok (.aload_n 0, 1) := by decide +kernel
theorem dX11_image_47 : decode cX11_image 47 = .ok (.getfield 16, 3) := by decide +kernel
theorem dX11_image_50 : decode cX11_image 50 = .ok (.iload_n 1, 1) := by decide +kernel
theorem dX11_image_51 : decode cX11_image 51 = .ok (.iconst 1, 1) := by decide +kernel
theorem dX11_image_52 : decode cX11_image 52 = .ok (.bastore, 1) := by decide +kernel
theorem dX11_image_53 : decode cX11_image 53 = .ok (.iconst 0, 1) := by decide +kernel
theorem dX11_image_54 : decode cX11_image 54 = .ok (.ireturn, 1) := by decide +kernel
theorem dX11_in_0 : decode cX11_in 0 = .ok (.lload_n 0, 1) := by decide +kernel
theorem dX11_in_1 : decode cX11_in 1 = .ok (.lload_n 2, 1) := by decide +kernel
theorem dX11_in_2 : decode cX11_in 2 = .ok (.lcmp, 1) := by decide +kernel
theorem dX11_in_3 : decode cX11_in 3 = .ok (.ifCond .lt 14, 3) := by decide +kernel
theorem dX11_in_6 : decode cX11_in 6 = .ok (.lload_n 0, 1) := by decide +kernel
theorem dX11_in_7 : decode cX11_in 7 = .ok (.lload 4, 2) := by decide +kernel
theorem dX11_in_9 : decode cX11_in 9 = .ok (.lcmp, 1) := by decide +kernel
theorem dX11_in_10 : decode cX11_in 10 = .ok (.ifCond .gt 7, 3) := by decide +kernel
theorem dX11_in_13 : decode cX11_in 13 = .ok (.iconst 1, 1) := by decide +kernel
theorem dX11_in_14 : decode cX11_in 14 = .ok (.goto 4, 3) := by decide +kernel
theorem dX11_in_17 : decode cX11_in 17 = .ok (.iconst 0, 1) := by decide +kernel
theorem dX11_in_18 : decode cX11_in 18 = .ok (.ireturn, 1) := by decide +kernel
theorem dX11_init_0 : decode cX11_init 0 = .ok (.aload_n 0, 1) := by decide +kernel
theorem dX11_init_1 : decode cX11_init 1 = .ok (.invokespecial 3, 3) := by decide +kernel
theorem dX11_init_4 : decode cX11_init 4 = .ok (.aload_n 0, 1) := by decide +kernel
theorem dX11_init_5 : decode cX11_init 5 = .ok (.bipush 119, 2) := by decide +kernel
theorem dX11_init_7 : decode cX11_init 7 = .ok (.newarray .int, 2) := by decide +kernel
theorem dX11_init_9 : decode cX11_init 9 = .ok (.putfield 9, 3) := by decide +kernel
theorem dX11_init_12 : decode cX11_init 12 = .ok (.aload_n 0, 1) := by decide +kernel
theorem dX11_init_13 : decode cX11_init 13 = .ok (.sipush 357, 3) := by decide +kernel
theorem dX11_init_16 : decode cX11_init 16 = .ok (.newarray .int, 2) := by decide +kernel
theorem dX11_init_18 : decode cX11_init 18 = .ok (.putfield 13, 3) := by decide +kernel
theorem dX11_init_21 : decode cX11_init 21 = .ok (.aload_n 0, 1) := by decide +kernel
theorem dX11_init_22 : decode cX11_init 22 = .ok (.iconst 3, 1) := by decide +kernel
theorem dX11_init_23 : decode cX11_init 23 = .ok (.newarray .boolean, 2) := by decide +kernel
theorem dX11_init_25 : decode cX11_init 25 = .ok (.putfield 16, 3) := by decide +kernel
theorem dX11_init_28 : decode cX11_init 28 = .ok (.aload_n 0, 1) := by decide +kernel
theorem dX11_init_29 : decode cX11_init 29 = .ok (.sipush 800, 3) := by decide +kernel
theorem dX11_init_32 : decode cX11_init 32 = .ok (.newarray .byte, 2) := by decide +kernel
theorem dX11_init_34 : decode cX11_init 34 = .ok (.putfield 20, 3) := by decide +kernel
theorem dX11_init_37 : decode cX11_init 37 = .ok (.aload_n 0, 1) := by decide +kernel
theorem dX11_init_38 : decode cX11_init 38 = .ok (.iconst 5, 1) := by decide +kernel
theorem dX11_init_39 : decode cX11_init 39 = .ok (.newarray .int, 2) := by decide +kernel
theorem dX11_init_41 : decode cX11_init 41 = .ok (.putfield 24, 3) := by decide +kernel
theorem dX11_init_44 : decode cX11_init 44 = .ok (.aload_n 0, 1) := by decide +kernel
theorem dX11_init_45 : decode cX11_init 45 = .ok (.iconst (-1), 1) := by decide +kernel
theorem dX11_init_46 : decode cX11_init 46 = .ok (.putfield 27, 3) := by decide +kernel
theorem dX11_init_49 : decode cX11_init 49 = .ok (.aload_n 0, 1) := by decide +kernel
theorem dX11_init_50 : decode cX11_init 50 = .ok (.bipush 119, 2) := by decide +kernel
theorem dX11_init_52 : decode cX11_init 52 = .ok (.newarray .int, 2) := by decide +kernel
theorem dX11_init_54 : decode cX11_init 54 = .ok (.putfield 31, 3) := by decide +kernel
theorem dX11_init_57 : decode cX11_init 57 = .ok (.aload_n 0, 1) := by decide +kernel
theorem dX11_init_58 : decode cX11_init 58 = .ok (.iconst 5, 1) := by decide +kernel
theorem dX11_init_59 : decode cX11_init 59 = .ok (.newarray .int, 2) := by decide +kernel
theorem dX11_init_61 : decode cX11_init 61 = .ok (.putfield 34, 3) := by decide +kernel
theorem dX11_init_64 : decode cX11_init 64 = .ok (.aload_n 0, 1) := by decide +kernel
theorem dX11_init_65 : decode cX11_init 65 = .ok (.iconst 5, 1) := by decide +kernel
theorem dX11_init_66 : decode cX11_init 66 = .ok (.newarray .int, 2) := by decide +kernel
theorem dX11_init_68 : decode cX11_init 68 = .ok (.putfield 37, 3) := by decide +kernel
theorem dX11_init_71 : decode cX11_init 71 = .ok (.aload_n 0, 1) := by decide +kernel
theorem dX11_init_72 : decode cX11_init 72 = .ok (.bipush 6, 2) := by decide +kernel
theorem dX11_init_74 : decode cX11_init 74 = .ok (.newarray .int, 2) := by decide +kernel
theorem dX11_init_76 : decode cX11_init 76 = .ok (.putfield 40, 3) := by decide +kernel
theorem dX11_init_79 : decode cX11_init 79 = .ok (.aload_n 0, 1) := by decide +kernel
theorem dX11_init_80 : decode cX11_init 80 = .ok (.bipush 24, 2) := by decide +kernel
theorem dX11_init_82 : decode cX11_init 82 = .ok (.newarray .int, 2) := by decide +kernel
theorem dX11_init_84 : decode cX11_init 84 = .ok (.putfield 43, 3) := by decide +kernel
theorem dX11_init_87 : decode cX11_init 87 = .ok (.aload_n 0, 1) := by decide +kernel
theorem dX11_init_88 : decode cX11_init 88 = .ok (.bipush 24, 2) := by decide +kernel
theorem dX11_init_90 : decode cX11_init 90 = .ok (.newarray .int, 2) := by decide +kernel
theorem dX11_init_92 : decode cX11_init 92 = .ok (.putfield 46, 3) := by decide +kernel
theorem dX11_init_95 : decode cX11_init 95 = .ok (.aload_n 0, 1) := by decide +kernel
theorem dX11_init_96 : decode cX11_init 96 = .ok (.bipush 24, 2) := by decide +kernel
theorem dX11_init_98 : decode cX11_init 98 = .ok (.newarray .int, 2) := by decide +kernel
theorem dX11_init_100 : decode cX11_init 100 = .ok (.putfield 49, 3) := by decide +kernel
theorem dX11_init_103 : decode cX11_init 103 = .ok (.aload_n 0, 1) := by decide +kernel
theorem dX11_init_104 : decode cX11_init 104 = .ok (.bipush 24, 2) := by decide +kernel
theorem dX11_init_106 : decode cX11_init 106 = .ok (.newarray .int, 2) := by decide +kernel
theorem dX11_init_108 : decode cX11_init 108 = .ok (.putfield 52, 3) := by decide +kernel
theorem dX11_init_111 : decode cX11_init 111 = .ok (.aload_n 0, 1) := by decide +kernel
theorem dX11_init_112 : decode cX11_init 112 = .ok (.bipush 24, 2) := by decide +kernel
theorem dX11_init_114 : decode cX11_init 114 = .ok (.newarray .int, 2) := by decide +kernel
theorem dX11_init_116 : decode cX11_init 116 = .ok (.putfield 55, 3) := by decide +kernel
theorem dX11_init_119 : decode cX11_init 119 = .ok (.aload_n 0, 1) := by decide +kernel
theorem dX11_init_120 : decode cX11_init 120 = .ok (.iconst 5, 1) := by decide +kernel
theorem dX11_init_121 : decode cX11_init 121 = .ok (.newarray .int, 2) := by decide +kernel
theorem dX11_init_123 : decode cX11_init 123 = .ok (.putfield 58, 3) := by decide +kernel
theorem dX11_init_126 : decode cX11_init 126 = .ok (.aload_n 0, 1) := by decide +kernel
theorem dX11_init_127 : decode cX11_init 127 = .ok (.sipush 876, 3) := by decide +kernel
theorem dX11_init_130 : decode cX11_init 130 = .ok (.newarray .int, 2) := by decide +kernel
theorem dX11_init_132 : decode cX11_init 132 = .ok (.putfield 61, 3) := by decide +kernel
theorem dX11_init_135 : decode cX11_init 135 = .ok (.aload_n 0, 1) := by decide +kernel
theorem dX11_init_136 : decode cX11_init 136 = .ok (.bipush 6, 2) := by decide +kernel
theorem dX11_init_138 : decode cX11_init 138 = .ok (.newarray .int, 2) := by decide +kernel
theorem dX11_init_140 : decode cX11_init 140 = .ok (.putfield 64, 3) := by decide +kernel
theorem dX11_init_143 : decode cX11_init 143 = .ok (.aload_n 0, 1) := by decide +kernel
theorem dX11_init_144 : decode cX11_init 144 = .ok (.iconst 5, 1) := by decide +kernel
theorem dX11_init_145 : decode cX11_init 145 = .ok (.newarray .int, 2) := by decide +kernel
theorem dX11_init_147 : decode cX11_init 147 = .ok (.putfield 67, 3) := by decide +kernel
theorem dX11_init_150 : decode cX11_init 150 = .ok (.aload_n 0, 1) := by decide +kernel
theorem dX11_init_151 : decode cX11_init 151 = .ok (.iconst 5, 1) := by decide +kernel
theorem dX11_init_152 : decode cX11_init 152 = .ok (.newarray .int, 2) := by decide +kernel
theorem dX11_init_154 : decode cX11_init 154 = .ok (.putfield 70, 3) := by decide +kernel
theorem dX11_init_157 : decode cX11_init 157 = .ok (.aload_n 0, 1) := by decide +kernel
theorem dX11_init_158 : decode cX11_init 158 = .ok (.sipush 224, 3) := by decide +kernel
theorem dX11_init_161 : decode cX11_init 161 = .ok (.newarray .int, 2) := by decide +kernel
theorem dX11_init_163 : decode cX11_init 163 = .ok (.putfield 73, 3) := by decide +kernel
theorem dX11_init_166 : decode cX11_init 166 = .ok (.aload_n 0, 1) := by decide +kernel
theorem dX11_init_167 : decode cX11_init 167 = .ok (.iconst 4, 1) := by decide +kernel
theorem dX11_init_168 : decode cX11_init 168 = .ok (.newarray .int, 2) := by decide +kernel
theorem dX11_init_170 : decode cX11_init 170 = .ok (.dup, 1) := by decide +kernel
theorem dX11_init_171 : decode cX11_init 171 = .ok (.iconst 0, 1) := by decide +kernel
theorem dX11_init_172 : decode cX11_init 172 = .ok (.iconst (-1), 1) := by decide +kernel
theorem dX11_init_173 : decode cX11_init 173 = .ok (.iastore, 1) := by decide +kernel
theorem dX11_init_174 : decode cX11_init 174 = .ok (.dup, 1) := by decide +kernel
theorem dX11_init_175 : decode cX11_init 175 = .ok (.iconst 1, 1) := by decide +kernel
theorem dX11_init_176 : decode cX11_init 176 = .ok (.iconst (-1), 1) := by decide +kernel
theorem dX11_init_177 : decode cX11_init 177 = .ok (.iastore, 1) := by decide +kernel
theorem dX11_init_178 : decode cX11_init 178 = .ok (.dup, 1) := by decide +kernel
theorem dX11_init_179 : decode cX11_init 179 = .ok (.iconst 2, 1) := by decide +kernel
theorem dX11_init_180 : decode cX11_init 180 = .ok (.iconst (-1), 1) := by decide +kernel
theorem dX11_init_181 : decode cX11_init 181 = .ok (.iastore, 1) := by decide +kernel
theorem dX11_init_182 : decode cX11_init 182 = .ok (.dup, 1) := by decide +kernel
theorem dX11_init_183 : decode cX11_init 183 = .ok (.iconst 3, 1) := by decide +kernel
theorem dX11_init_184 : decode cX11_init 184 = .ok (.iconst (-1), 1) := by decide +kernel
theorem dX11_init_185 : decode cX11_init 185 = .ok (.iastore, 1) := by decide +kernel
theorem dX11_init_186 : decode cX11_init 186 = .ok (.putfield 76, 3) := by decide +kernel
theorem dX11_init_189 : decode cX11_init 189 = .ok (.aload_n 0, 1) := by decide +kernel
theorem dX11_init_190 : decode cX11_init 190 = .ok (.iconst 4, 1) := by decide +kernel
theorem dX11_init_191 : decode cX11_init 191 = .ok (.newarray .int, 2) := by decide +kernel
theorem dX11_init_193 : decode cX11_init 193 = .ok (.putfield 79, 3) := by decide +kernel
theorem dX11_init_196 : decode cX11_init 196 = .ok (.aload_n 0, 1) := by decide +kernel
theorem dX11_init_197 : decode cX11_init 197 = .ok (.sipush 240, 3) := by decide +kernel
theorem dX11_init_200 : decode cX11_init 200 = .ok (.newarray .long, 2) := by decide +kernel
theorem dX11_init_202 : decode cX11_init 202 = .ok (.putfield 82, 3) := by decide +kernel
theorem dX11_init_205 : decode cX11_init 205 = .ok (.aload_n 0, 1) := by decide +kernel
theorem dX11_init_206 : decode cX11_init 206 = .ok (.bipush 60, 2) := by decide +kernel
theorem dX11_init_208 : decode cX11_init 208 = .ok (.newarray .long, 2) := by decide +kernel
theorem dX11_init_210 : decode cX11_init 210 = .ok (.putfield 86, 3) := by decide +kernel
theorem dX11_init_213 : decode cX11_init 213 = .ok (.return_, 1) := by decide +kernel
theorem dX11_is_0 : decode cX11_is 0 = .ok (.aload_n 0, 1) := by decide +kernel
theorem dX11_is_1 : decode cX11_is 1 = .ok (.invokevirtual 144, 3) := by decide +kernel
theorem dX11_is_4 : decode cX11_is 4 = .ok (.ifCond .eq 31, 3) := by decide +kernel
theorem dX11_is_7 : decode cX11_is 7 = .ok (.aload_n 0, 1) := by decide +kernel
theorem dX11_is_8 : decode cX11_is 8 = .ok (.getfield 121, 3) := by decide +kernel
theorem dX11_is_11 : decode cX11_is 11 = .ok (.iconst 1, 1) := by decide +kernel
theorem dX11_is_12 : decode cX11_is 12 = .ok (.if_icmp .ne 23, 3) := by decide +kernel
theorem dX11_is_15 : decode cX11_is 15 = .ok (.aload_n 0, 1) := by decide +kernel
theorem dX11_is_16 : decode cX11_is 16 = .ok (.getfield 112, 3) := by decide +kernel
theorem dX11_is_19 : decode cX11_is 19 = .ok (.aload_n 0, 1) := by decide +kernel
theorem dX11_is_20 : decode cX11_is 20 = .ok (.getfield 118, 3) := by decide +kernel
theorem dX11_is_23 : decode cX11_is 23 = .ok (.isub, 1) := by decide +kernel
theorem dX11_is_24 : decode cX11_is 24 = .ok (.aload_n 1, 1) := by decide +kernel
theorem dX11_is_25 : decode cX11_is 25 = .ok (.invokevirtual 148, 3) := by decide +kernel
theorem dX11_is_28 : decode cX11_is 28 = .ok (.if_icmp .ne 7, 3) := by decide +kernel
theorem dX11_is_31 : decode cX11_is 31 = .ok (.iconst 1, 1) := by decide +kernel
theorem dX11_is_32 : decode cX11_is 32 = .ok (.goto 4, 3) := by decide +kernel
theorem dX11_is_35 : decode cX11_is 35 = .ok (.iconst 0, 1) := by decide +kernel
theorem dX11_is_36 : decode cX11_is 36 = .ok (.istore_n 2, 1) := by decide +kernel
theorem dX11_is_37 : decode cX11_is 37 = .ok (.iconst 0, 1) := by decide +kernel
theorem dX11_is_38 : decode cX11_is 38 = .ok (.istore_n 3, 1) := by decide +kernel
theorem dX11_is_39 : decode cX11_is 39 = .ok (.iload_n 3, 1) := by decide +kernel
theorem dX11_is_40 : decode cX11_is 40 = .ok (.aload_n 1, 1) := by decide +kernel
theorem dX11_is_41 : decode cX11_is 41 = .ok (.invokevirtual 148, 3) := by decide +kernel
theorem dX11_is_44 : decode cX11_is 44 = .ok (.if_icmp .ge 38, 3) := by decide +kernel
theorem dX11_is_47 : decode cX11_is 47 = .ok (.iload_n 2, 1) := by decide +kernel
theorem dX11_is_48 : decode cX11_is 48 = .ok (.ifCond .eq 34, 3) := by decide +kernel
theorem dX11_is_51 : decode cX11_is 51 = .ok (.aload_n 0, 1) := by decide +kernel
theorem dX11_is_52 : decode cX11_is 52 = .ok (.getfield 20, 3) := by decide +kernel
theorem dX11_is_55 : decode cX11_is 55 = .ok (.aload_n 0, 1) := by decide +kernel
theorem dX11_is_56 : decode cX11_is 56 = .ok (.getfield 118, 3) := by decide +kernel
theorem dX11_is_59 : decode cX11_is 59 = .ok (.iload_n 3, 1) := by decide +kernel
theorem dX11_is_60 : decode cX11_is 60 = .ok (.iadd, 1) := by decide +kernel
theorem dX11_is_61 : decode cX11_is 61 = .ok (.baload, 1) := by decide +kernel
theorem dX11_is_62 : decode cX11_is 62 = .ok (.aload_n 1, 1) := by decide +kernel
theorem dX11_is_63 : decode cX11_is 63 = .ok (.iload_n 3, 1) := by decide +kernel
theorem dX11_is_64 : decode cX11_is 64 = .ok (.invokevirtual 154, 3) := by decide +kernel
theorem dX11_is_67 : decode cX11_is 67 = .ok (.if_icmp .ne 7, 3) := by decide +kernel
theorem dX11_is_70 : decode cX11_is 70 = .ok (.iconst 1, 1) := by decide +kernel
theorem dX11_is_71 : decode cX11_is 71 = .ok (.goto 4, 3) := by decide +kernel
theorem dX11_is_74 : decode cX11_is 74 = .ok (.iconst 0, 1) := by decide +kernel
theorem dX11_is_75 : decode cX11_is 75 = .ok (.istore_n 2, 1) := by decide +kernel
theorem dX11_is_76 : decode cX11_is 76 = .ok (.iinc 3 1, 3) := by decide +kernel
theorem dX11_is_79 : decode cX11_is 79 = .ok (.goto (-40), 3) := by decide +kernel
theorem dX11_is_82 : decode cX11_is 82 = .ok (.iload_n 2, 1) := by decide +kernel
theorem dX11_is_83 : decode cX11_is 83 = .ok (.ireturn, 1) := by decide +kernel
theorem dX11_isCity_0 : decode cX11_isCity 0 = .ok (.aload_n 0, 1) := by decide +kernel
theorem dX11_isCity_1 : decode cX11_isCity 1 = .ok (.getfield 9, 3) := by decide +kernel
theorem dX11_isCity_4 : decode cX11_isCity 4 = .ok (.iconst 5, 1) := by decide +kernel
theorem dX11_isCity_5 : decode cX11_isCity 5 = .ok (.iaload, 1) := by decide +kernel
theorem dX11_isCity_6 : decode cX11_isCity 6 = .ok (.ifCond .le 7, 3) := by decide +kernel
theorem dX11_isCity_9 : decode cX11_isCity 9 = .ok (.iconst 1, 1) := by decide +kernel
theorem dX11_isCity_10 : decode cX11_isCity 10 = .ok (.goto 4, 3) := by decide +kernel
theorem dX11_isCity_13 : decode cX11_isCity 13 = .ok (.iconst 0, 1) := by decide +kernel
theorem dX11_isCity_14 : decode cX11_isCity 14 = .ok (.ireturn, 1) := by decide +kernel
theorem dX11_isCost_0 : decode cX11_isCost 0 = .ok (.aload_n 0, 1) := by decide +kernel
theorem dX11_isCost_1 : decode cX11_isCost 1 = .ok (.invokevirtual 250, 3) := by decide +kernel
theorem dX11_isCost_4 : decode cX11_isCost 4 = .ok (.aload_n 0, 1) := by decide +kernel
theorem dX11_isCost_5 : decode cX11_isCost 5 = .ok (.invokevirtual 295, 3) := by decide +kernel
theorem dX11_isCost_8 : decode cX11_isCost 8 = .ok (.ifCond .eq 19, 3) := by decide +kernel
theorem dX11_isCost_11 : decode cX11_isCost 11 = .ok (.iload_n 1, 1) := by decide +kernel
theorem dX11_isCost_12 : decode cX11_isCost 12 = .ok (.i2l, 1) := by decide +kernel
theorem dX11_isCost_13 : decode cX11_isCost 13 = .ok (.lconst 0, 1) := by decide +kernel
theorem dX11_isCost_14 : decode cX11_isCost 14 = .ok (.ldc2_w 383, 3) := by decide +kernel
theorem dX11_isCost_17 : decode cX11_isCost 17 = .ok (.invokestatic 94, 3) := by decide +kernel
theorem dX11_isCost_20 : decode cX11_isCost 20 = .ok (.ifCond .eq 7, 3) := by decide +kernel
theorem dX11_isCost_23 : decode cX11_isCost 23 = .ok (.iconst 1, 1) := by decide +kernel
theorem dX11_isCost_24 : decode cX11_isCost 24 = .ok (.goto 4, 3) := by decide +kernel
theorem dX11_isCost_27 : decode cX11_isCost 27 = .ok (.iconst 0, 1) := by decide +kernel
theorem dX11_isCost_28 : decode cX11_isCost 28 = .ok (.ireturn, 1) := by decide +kernel
theorem dX11_isEdge_0 : decode cX11_isEdge 0 = .ok (.aload_n 0, 1) := by decide +kernel
theorem dX11_isEdge_1 : decode cX11_isEdge 1 = .ok (.iload_n 1, 1) := by decide +kernel
theorem dX11_isEdge_2 : decode cX11_isEdge 2 = .ok (.invokevirtual 253, 3) := by decide +kernel
theorem dX11_isEdge_5 : decode cX11_isEdge 5 = .ok (.ifCond .eq 32, 3) := by decide +kernel
theorem dX11_isEdge_8 : decode cX11_isEdge 8 = .ok (.aload_n 0, 1) := by decide +kernel
theorem dX11_isEdge_9 : decode cX11_isEdge 9 = .ok (.getfield 46, 3) := by decide +kernel
theorem dX11_isEdge_12 : decode cX11_isEdge 12 = .ok (.iload_n 1, 1) := by decide +kernel
theorem dX11_isEdge_13 : decode cX11_isEdge 13 = .ok (.iaload, 1) := by decide +kernel
theorem dX11_isEdge_14 : decode cX11_isEdge 14 = .ok (.iload_n 2, 1) := by decide +kernel
theorem dX11_isEdge_15 : decode cX11_isEdge 15 = .ok (.if_icmp .ne 22, 3) := by decide +kernel
theorem dX11_isEdge_18 : decode cX11_isEdge 18 = .ok (.aload_n 0, 1) := by decide +kernel
theorem dX11_isEdge_19 : decode cX11_isEdge 19 = .ok (.getfield 49, 3) := by decide +kernel
theorem dX11_isEdge_22 : decode cX11_isEdge 22 = .ok (.iload_n 1, 1) := by decide +kernel
theorem dX11_isEdge_23 : decode cX11_isEdge 23 = .ok (.iaload, 1) := by decide +kernel
theorem dX11_isEdge_24 : decode cX11_isEdge 24 = .ok (.aload_n 0, 1) := by decide +kernel
theorem dX11_isEdge_25 : decode cX11_isEdge 25 = .ok (.getfield 43, 3) := by decide +kernel
theorem dX11_isEdge_28 : decode cX11_isEdge 28 = .ok (.iload_n 1, 1) := by decide +kernel
theorem dX11_isEdge_29 : decode cX11_isEdge 29 = .ok (.iaload, 1) := by decide +kernel
theorem dX11_isEdge_30 : decode cX11_isEdge 30 = .ok (.if_icmp .eq 7, 3) := by decide +kernel
theorem dX11_isEdge_33 : decode cX11_isEdge 33 = .ok (.iconst 1, 1) := by decide +kernel
theorem dX11_isEdge_34 : decode cX11_isEdge 34 = .ok (.goto 4, 3) := by decide +kernel
theorem dX11_isEdge_37 : decode cX11_isEdge 37 = .ok (.iconst 0, 1) := by decide +kernel
theorem dX11_isEdge_38 : decode cX11_isEdge 38 = .ok (.ireturn, 1) := by decide +kernel
theorem dX11_isHouse_0 : decode cX11_isHouse 0 = .ok (.lload_n 1, 1) := by decide +kernel
theorem dX11_isHouse_1 : decode cX11_isHouse 1 = .ok (.lconst 0, 1) := by decide +kernel
theorem dX11_isHouse_2 : decode cX11_isHouse 2 = .ok (.aload_n 0, 1) := by decide +kernel
theorem dX11_isHouse_3 : decode cX11_isHouse 3 = .ok (.getfield 9, 3) := by decide +kernel
theorem dX11_isHouse_6 : decode cX11_isHouse 6 = .ok (.iconst 3, 1) := by decide +kernel
theorem dX11_isHouse_7 : decode cX11_isHouse 7 = .ok (.iaload, 1) := by decide +kernel
theorem dX11_isHouse_8 : decode cX11_isHouse 8 = .ok (.iconst 1, 1) := by decide +kernel
theorem dX11_isHouse_9 : decode cX11_isHouse 9 = .ok (.isub, 1) := by decide +kernel
theorem dX11_isHouse_10 : decode cX11_isHouse 10 = .ok (.i2l, 1) := by decide +kernel
theorem dX11_isHouse_11 : decode cX11_isHouse 11 = .ok (.invokestatic 94, 3) := by decide +kernel
theorem dX11_isHouse_14 : decode cX11_isHouse 14 = .ok (.ireturn, 1) := by decide +kernel
theorem dX11_isOpen_0 : decode cX11_isOpen 0 = .ok (.aload_n 0, 1) := by decide +kernel
theorem dX11_isOpen_1 : decode cX11_isOpen 1 = .ok (.getfield 55, 3) := by decide +kernel
theorem dX11_isOpen_4 : decode cX11_isOpen 4 = .ok (.iload_n 1, 1) := by decide +kernel
theorem dX11_isOpen_5 : decode cX11_isOpen 5 = .ok (.iaload, 1) := by decide +kernel
theorem dX11_isOpen_6 : decode cX11_isOpen 6 = .ok (.ifCond .ne 7, 3) := by decide +kernel
theorem dX11_isOpen_9 : decode cX11_isOpen 9 = .ok (.iconst 1, 1) := by decide +kernel
theorem dX11_isOpen_10 : decode cX11_isOpen 10 = .ok (.goto 4, 3) := by decide +kernel
theorem dX11_isOpen_13 : decode cX11_isOpen 13 = .ok (.iconst 0, 1) := by decide +kernel
theorem dX11_isOpen_14 : decode cX11_isOpen 14 = .ok (.ireturn, 1) := by decide +kernel
theorem dX11_isPaper_0 : decode cX11_isPaper 0 = .ok (.aload_n 0, 1) := by decide +kernel
theorem dX11_isPaper_1 : decode cX11_isPaper 1 = .ok (.invokevirtual 250, 3) := by decide +kernel
theorem dX11_isPaper_4 : decode cX11_isPaper 4 = .ok (.iload_n 1, 1) := by decide +kernel
theorem dX11_isPaper_5 : decode cX11_isPaper 5 = .ok (.i2l, 1) := by decide +kernel
theorem dX11_isPaper_6 : decode cX11_isPaper 6 = .ok (.lconst 0, 1) := by decide +kernel
theorem dX11_isPaper_7 : decode cX11_isPaper 7 = .ok (.aload_n 0, 1) := by decide +kernel
theorem dX11_isPaper_8 : decode cX11_isPaper 8 = .ok (.getfield 208, 3) := by decide +kernel
theorem dX11_isPaper_11 : decode cX11_isPaper 11 = .ok (.iconst 1, 1) := by decide +kernel
theorem dX11_isPaper_12 : decode cX11_isPaper 12 = .ok (.isub, 1) := by decide +kernel
theorem dX11_isPaper_13 : decode cX11_isPaper 13 = .ok (.i2l, 1) := by decide +kernel
theorem dX11_isPaper_14 : decode cX11_isPaper 14 = .ok (.invokestatic 94, 3) := by decide +kernel
theorem dX11_isPaper_17 : decode cX11_isPaper 17 = .ok (.ireturn, 1) := by decide +kernel
theorem dX11_isPlan_0 : decode cX11_isPlan 0 = .ok (.iload_n 0, 1) := by decide +kernel
theorem dX11_isPlan_1 : decode cX11_isPlan 1 = .ok (.i2l, 1) := by decide +kernel
theorem dX11_isPlan_2 : decode cX11_isPlan 2 = .ok (.lconst 1, 1) := by decide +kernel
theorem dX11_isPlan_3 : decode cX11_isPlan 3 = .ok (.ldc2_w 261, 3) := by decide +kernel
theorem dX11_isPlan_6 : decode cX11_isPlan 6 = .ok (.invokestatic 94, 3) := by decide +kernel
theorem dX11_isPlan_9 : decode cX11_isPlan 9 = .ok (.ireturn, 1) := by decide +kernel
theorem dX11_isRest_0 : decode cX11_isRest 0 = .ok (.iconst 0, 1) := by decide +kernel
theorem dX11_isRest_1 : decode cX11_isRest 1 = .ok (.istore_n 3, 1) := by decide +kernel
theorem dX11_isRest_2 : decode cX11_isRest 2 = .ok (.iload_n 3, 1) := by decide +kernel
theorem dX11_isRest_3 : decode cX11_isRest 3 = .ok (.aload_n 0, 1) := by decide +kernel
theorem dX11_isRest_4 : decode cX11_isRest 4 = .ok (.getfield 9, 3) := by decide +kernel
theorem dX11_isRest_7 : decode cX11_isRest 7 = .ok (.iconst 3, 1) := by decide +kernel
theorem dX11_isRest_8 : decode cX11_isRest 8 = .ok (.iaload, 1) := by decide +kernel
theorem dX11_isRest_9 : decode cX11_isRest 9 = .ok (.if_icmp .ge 32, 3) := by decide +kernel
theorem dX11_isRest_12 : decode cX11_isRest 12 = .ok (.aload_n 0, 1) := by decide +kernel
theorem dX11_isRest_13 : decode cX11_isRest 13 = .ok (.iload_n 3, 1) := by decide +kernel
theorem dX11_isRest_14 : decode cX11_isRest 14 = .ok (.iload_n 1, 1) := by decide +kernel
theorem dX11_isRest_15 : decode cX11_isRest 15 = .ok (.iconst 1, 1) := by decide +kernel
theorem dX11_isRest_16 : decode cX11_isRest 16 = .ok (.iload_n 3, 1) := by decide +kernel
theorem dX11_isRest_17 : decode cX11_isRest 17 = .ok (.ishl, 1) := by decide +kernel
theorem dX11_isRest_18 : decode cX11_isRest 18 = .ok (.ixor, 1) := by decide +kernel
theorem dX11_isRest_19 : decode cX11_isRest 19 = .ok (.iload_n 2, 1) := by decide +kernel
theorem dX11_isRest_20 : decode cX11_isRest 20 = .ok (.invokevirtual 380, 3) := by decide +kernel
theorem dX11_isRest_23 : decode cX11_isRest 23 = .ok (.aload_n 0, 1) := by decide +kernel
theorem dX11_isRest_24 : decode cX11_isRest 24 = .ok (.iload_n 3, 1) := by decide +kernel
theorem dX11_isRest_25 : decode cX11_isRest 25 = .ok (.iload_n 1, 1) := by decide +kernel
theorem dX11_isRest_26 : decode cX11_isRest 26 = .ok (.iload_n 2, 1) := by decide +kernel
theorem dX11_isRest_27 : decode cX11_isRest 27 = .ok (.invokevirtual 380, 3) := by decide +kernel
theorem dX11_isRest_30 : decode cX11_isRest 30 = .ok (.if_icmp .le 5, 3) := by decide +kernel
theorem dX11_isRest_33 : decode cX11_isRest 33 = .ok (.iconst 0, 1) := by decide +kernel
theorem dX11_isRest_34 : decode cX11_isRest 34 = .ok (.ireturn, 1) := by decide +kernel
theorem dX11_isRest_35 : decode cX11_isRest 35 = .ok (.iinc 3 1, 3) := by decide +kernel
theorem dX11_isRest_38 : decode cX11_isRest 38 = .ok (.goto (-36), 3) := by decide +kernel
theorem dX11_isRest_41 : decode cX11_isRest 41 = .ok (.iconst 1, 1) := by decide +kernel
theorem dX11_isRest_42 : decode cX11_isRest 42 = .ok (.ireturn, 1) := by decide +kernel
theorem dX11_isRowPaper_0 : decode cX11_isRowPaper 0 = .ok (.aload_n 0, 1) := by decide +kernel
theorem dX11_isRowPaper_1 : decode cX11_isRowPaper 1 = .ok (.aload_n 0, 1) := by decide +kernel
theorem dX11_isRowPaper_2 : decode cX11_isRowPaper 2 = .ok (.iload_n 1, 1) := by decide +kernel
theorem dX11_isRowPaper_3 : decode cX11_isRowPaper 3 = .ok (.iload_n 2, 1) := by decide +kernel
theorem dX11_isRowPaper_4 : decode cX11_isRowPaper 4 = .ok (.invokevirtual 391, 3) := by decide +kernel
theorem dX11_isRowPaper_7 : decode cX11_isRowPaper 7 = .ok (.invokevirtual 257, 3) := by decide +kernel
theorem dX11_isRowPaper_10 : decode cX11_isRowPaper 10 = .ok (.ifCond .eq 58, 3) := by decide +kernel
theorem dX11_isRowPaper_13 : decode cX11_isRowPaper 13 = .ok (.aload_n 0, 1) := by decide +kernel
theorem dX11_isRowPaper_14 : decode cX11_isRowPaper 14 = .ok (.aload_n 0, 1) := by decide +kernel
theorem dX11_isRowPaper_15 : decode cX11_isRowPaper 15 = .ok (.iload_n 1, 1) := by decide +kernel
theorem dX11_isRowPaper_16 : decode cX11_isRowPaper 16 = .ok (.iload_n 2, 1) := by decide +kernel
theorem dX11_isRowPaper_17 : decode cX11_isRowPaper 17 = .ok (.iconst 1, 1) := by decide +kernel
theorem dX11_isRowPaper_18 : decode cX11_isRowPaper 18 = .ok (.iadd, 1) := by decide +kernel
theorem dX11_isRowPaper_19 : decode cX11_isRowPaper 19 = .ok (.invokevirtual 391, 3) := by decide +kernel
theorem dX11_isRowPaper_22 : decode cX11_isRowPaper 22 = .ok (.invokevirtual 266, 3) := by decide +kernel
theorem dX11_isRowPaper_25 : decode cX11_isRowPaper 25 = .ok (.ifCond .eq 43, 3) := by decide +kernel
theorem dX11_isRowPaper_28 : decode cX11_isRowPaper 28 = .ok (.aload_n 0, 1) := by decide +kernel
theorem dX11_isRowPaper_29 : decode cX11_isRowPaper 29 = .ok (.iload_n 1, 1) := by decide +kernel
theorem dX11_isRowPaper_30 : decode cX11_isRowPaper 30 = .ok (.iload_n 2, 1) := by decide +kernel
theorem dX11_isRowPaper_31 : decode cX11_isRowPaper 31 = .ok (.iconst 2, 1) := by decide +kernel
theorem dX11_isRowPaper_32 : decode cX11_isRowPaper 32 = .ok (.iadd, 1) := by decide +kernel
theorem dX11_isRowPaper_33 : decode cX11_isRowPaper 33 = .ok (.invokevirtual 391, 3) := by decide +kernel
theorem dX11_isRowPaper_36 : decode cX11_isRowPaper 36 = .ok (.lconst 0, 1) := by decide +kernel
theorem dX11_isRowPaper_37 : decode cX11_isRowPaper 37 = .ok (.ldc2_w 395, 3) := by decide +kernel
theorem dX11_isRowPaper_40 : decode cX11_isRowPaper 40 = .ok (.invokestatic 94, 3) := by decide +kernel
theorem dX11_isRowPaper_43 : decode cX11_isRowPaper 43 = .ok (.ifCond .eq 25, 3) := by decide +kernel
theorem dX11_isRowPaper_46 : decode cX11_isRowPaper 46 = .ok (.aload_n 0, 1) := by decide +kernel
theorem dX11_isRowPaper_47 : decode cX11_isRowPaper 47 = .ok (.iload_n 1, 1) := by decide +kernel
theorem dX11_isRowPaper_48 : decode cX11_isRowPaper 48 = .ok (.iload_n 2, 1) := by decide +kernel
theorem dX11_isRowPaper_49 : decode cX11_isRowPaper 49 = .ok (.iconst 3, 1) := by decide +kernel
theorem dX11_isRowPaper_50 : decode cX11_isRowPaper 50 = .ok (.iadd, 1) := by decide +kernel
theorem dX11_isRowPaper_51 : decode cX11_isRowPaper 51 = .ok (.invokevirtual 391, 3) := by decide +kernel
theorem dX11_isRowPaper_54 : decode cX11_isRowPaper 54 = .ok (.lconst 1, 1) := by decide +kernel
theorem dX11_isRowPaper_55 : decode cX11_isRowPaper 55 = .ok (.ldc2_w 279, 3) := by decide +kernel
theorem dX11_isRowPaper_58 : decode cX11_isRowPaper 58 = .ok (.invokestatic 94, 3) := by decide +kernel
theorem dX11_isRowPaper_61 : decode cX11_isRowPaper 61 = .ok (.ifCond .eq 7, 3) := by decide +kernel
theorem dX11_isRowPaper_64 : decode cX11_isRowPaper 64 = .ok (.iconst 1, 1) := by decide +kernel
theorem dX11_isRowPaper_65 : decode cX11_isRowPaper 65 = .ok (.goto 4, 3) := by decide +kernel
theorem dX11_isRowPaper_68 : decode cX11_isRowPaper 68 = .ok (.iconst 0, 1) := by decide +kernel
theorem dX11_isRowPaper_69 : decode cX11_isRowPaper 69 = .ok (.ireturn, 1) := by decide +kernel
theorem dX11_isSlot_0 : decode cX11_isSlot 0 = .ok (.iload_n 0, 1) := by decide +kernel
theorem dX11_isSlot_1 : decode cX11_isSlot 1 = .ok (.i2l, 1) := by decide +kernel
theorem dX11_isSlot_2 : decode cX11_isSlot 2 = .ok (.lconst 0, 1) := by decide +kernel
theorem dX11_isSlot_3 : decode cX11_isSlot 3 = .ok (.ldc2_w 298, 3) := by decide +kernel
theorem dX11_isSlot_6 : decode cX11_isSlot 6 = .ok (.invokestatic 94, 3) := by decide +kernel
theorem dX11_isSlot_9 : decode cX11_isSlot 9 = .ok (.ireturn, 1) := by decide +kernel
theorem dX11_isThing_0 : decode cX11_isThing 0 = .ok (.lload_n 1, 1) := by decide +kernel
theorem dX11_isThing_1 : decode cX11_isThing 1 = .ok (.lconst 0, 1) := by decide +kernel
theorem dX11_isThing_2 : decode cX11_isThing 2 = .ok (.aload_n 0, 1) := by decide +kernel
theorem dX11_isThing_3 : decode cX11_isThing 3 = .ok (.getfield 9, 3) := by decide +kernel
theorem dX11_isThing_6 : decode cX11_isThing 6 = .ok (.iconst 4, 1) := by decide +kernel
theorem dX11_isThing_7 : decode cX11_isThing 7 = .ok (.iaload, 1) := by decide +kernel
theorem dX11_isThing_8 : decode cX11_isThing 8 = .ok (.iconst 1, 1) := by decide +kernel
theorem dX11_isThing_9 : decode cX11_isThing 9 = .ok (.isub, 1) := by decide +kernel
theorem dX11_isThing_10 : decode cX11_isThing 10 = .ok (.i2l, 1) := by decide +kernel
theorem dX11_isThing_11 : decode cX11_isThing 11 = .ok (.invokestatic 94, 3) := by decide +kernel
theorem dX11_isThing_14 : decode cX11_isThing 14 = .ok (.ireturn, 1) := by decide +kernel
theorem dX11_keepAct_0 : decode cX11_keepAct 0 = .ok (.aload_n 0, 1) := by decide +kernel
theorem dX11_keepAct_1 : decode cX11_keepAct 1 = .ok (.getfield 9, 3) := by decide +kernel
theorem dX11_keepAct_4 : decode cX11_keepAct 4 = .ok (.bipush 6, 2) := by decide +kernel
theorem dX11_keepAct_6 : decode cX11_keepAct 6 = .ok (.iaload, 1) := by decide +kernel
theorem dX11_keepAct_7 : decode cX11_keepAct 7 = .ok (.bipush 60, 2) := by decide +kernel
theorem dX11_keepAct_9 : decode cX11_keepAct 9 = .ok (.if_icmp .ne 5, 3) := by decide +kernel
theorem dX11_keepAct_12 : decode cX11_keepAct 12 = .ok (.iconst 0, 1) := by decide +kernel
theorem dX11_keepAct_13 : decode cX11_keepAct 13 = .ok (.ireturn, 1) := by decide +kernel
theorem dX11_keepAct_14 : decode cX11_keepAct 14 = .ok (.aload_n 0, 1) := by decide +kernel
theorem dX11_keepAct_15 : decode cX11_keepAct 15 = .ok (.getfield 9, 3) := by decide +kernel
theorem dX11_keepAct_18 : decode cX11_keepAct 18 = .ok (.bipush 59, 2) := by decide +kernel
theorem dX11_keepAct_20 : decode cX11_keepAct 20 = .ok (.aload_n 0, 1) := by decide +kernel
theorem dX11_keepAct_21 : decode cX11_keepAct 21 = .ok (.getfield 9, 3) := by decide +kernel
theorem dX11_keepAct_24 : decode cX11_keepAct 24 = .ok (.bipush 6, 2) := by decide +kernel
theorem dX11_keepAct_26 : decode cX11_keepAct 26 = .ok (.iaload, 1) := by decide +kernel
theorem dX11_keepAct_27 : decode cX11_keepAct 27 = .ok (.iadd, 1) := by decide +kernel
theorem dX11_keepAct_28 : decode cX11_keepAct 28 = .ok (.ldc 220, 2) := by decide +kernel
theorem dX11_keepAct_30 : decode cX11_keepAct 30 = .ok (.iload_n 1, 1) := by decide +kernel
theorem dX11_keepAct_31 : decode cX11_keepAct 31 = .ok (.imul, 1) := by decide +kernel
theorem dX11_keepAct_32 : decode cX11_keepAct 32 = .ok (.sipush 10000, 3) := by decide +kernel
theorem dX11_keepAct_35 : decode cX11_keepAct 35 = .ok (.iload_n 2, 1) := by decide +kernel
theorem dX11_keepAct_36 : decode cX11_keepAct 36 = .ok (.imul, 1) := by decide +kernel
theorem dX11_keepAct_37 : decode cX11_keepAct 37 = .ok (.iadd, 1) := by decide +kernel
theorem dX11_keepAct_38 : decode cX11_keepAct 38 = .ok (.bipush 100, 2) := by decide +kernel
theorem dX11_keepAct_40 : decode cX11_keepAct 40 = .ok (.iload_n 3, 1) := by decide +kernel
theorem dX11_keepAct_41 : decode cX11_keepAct 41 = .ok (.imul, 1) := by decide +kernel
theorem dX11_keepAct_42 : decode cX11_keepAct 42 = .ok (.iadd, 1) := by decide +kernel
theorem dX11_keepAct_43 : decode cX11_keepAct 43 = .ok (.iload 4, 2) := by decide +kernel
theorem dX11_keepAct_45 : decode cX11_keepAct 45 = .ok (.iadd, 1) := by decide +kernel
theorem dX11_keepAct_46 : decode cX11_keepAct 46 = .ok (.iastore, 1) := by decide +kernel
theorem dX11_keepAct_47 : decode cX11_keepAct 47 = .ok (.aload_n 0, 1) := by decide +kernel
theorem dX11_keepAct_48 : decode cX11_keepAct 48 = .ok (.getfield 9, 3) := by decide +kernel
theorem dX11_keepAct_51 : decode cX11_keepAct 51 = .ok (.bipush 6, 2) := by decide +kernel
theorem dX11_keepAct_53 : decode cX11_keepAct 53 = .ok (.dup2, 1) := by decide +kernel
theorem dX11_keepAct_54 : decode cX11_keepAct 54 = .ok (.iaload, 1) := by decide +kernel
theorem dX11_keepAct_55 : decode cX11_keepAct 55 = .ok (.iconst 1, 1) := by decide +kernel
theorem dX11_keepAct_56 : decode cX11_keepAct 56 = .ok (.iadd, 1) := by decide +kernel
theorem dX11_keepAct_57 : decode cX11_keepAct 57 = .ok (.iastore, 1) := by decide +kernel
theorem dX11_keepAct_58 : decode cX11_keepAct 58 = .ok (.iconst 1, 1) := by decide +kernel
theorem dX11_keepAct_59 : decode cX11_keepAct 59 = .ok (.ireturn, 1) := by decide +kernel
theorem dX11_lacks_0 : decode cX11_lacks 0 = .ok (.aload_n 0, 1) := by decide +kernel
theorem dX11_lacks_1 : decode cX11_lacks 1 = .ok (.iload_n 1, 1) := by decide +kernel
theorem dX11_lacks_2 : decode cX11_lacks 2 = .ok (.i2l, 1) := by decide +kernel
theorem dX11_lacks_3 : decode cX11_lacks 3 = .ok (.invokevirtual 257, 3) := by decide +kernel
theorem dX11_lacks_6 : decode cX11_lacks 6 = .ok (.ifCond .ne 6, 3) := by decide +kernel
theorem dX11_lacks_9 : decode cX11_lacks 9 = .ok (.bipush (-2), 2) := by decide +kernel
theorem dX11_lacks_11 : decode cX11_lacks 11 = .ok (.ireturn, 1) := by decide +kernel
theorem dX11_lacks_12 : decode cX11_lacks 12 = .ok (.aload_n 0, 1) := by decide +kernel
theorem dX11_lacks_13 : decode cX11_lacks 13 = .ok (.invokevirtual 250, 3) := by decide +kernel
theorem dX11_lacks_16 : decode cX11_lacks 16 = .ok (.iconst 0, 1) := by decide +kernel
theorem dX11_lacks_17 : decode cX11_lacks 17 = .ok (.istore_n 2, 1) := by decide +kernel
theorem dX11_lacks_18 : decode cX11_lacks 18 = .ok (.iconst 0, 1) := by decide +kernel
theorem dX11_lacks_19 : decode cX11_lacks 19 = .ok (.istore_n 3, 1) := by decide +kernel
theorem dX11_lacks_20 : decode cX11_lacks 20 = .ok (.iload_n 3, 1) := by decide +kernel
theorem dX11_lacks_21 : decode cX11_lacks 21 = .ok (.aload_n 0, 1) := by decide +kernel
theorem dX11_lacks_22 : decode cX11_lacks 22 = .ok (.getfield 208, 3) := by decide +kernel
theorem dX11_lacks_25 : decode cX11_lacks 25 = .ok (.if_icmp .ge 54, 3) := by decide +kernel
theorem dX11_lacks_28 : decode cX11_lacks 28 = .ok (.iload_n 2, 1) := by decide +kernel
theorem dX11_lacks_29 : decode cX11_lacks 29 = .ok (.aload_n 0, 1) := by decide +kernel
theorem dX11_lacks_30 : decode cX11_lacks 30 = .ok (.iload_n 3, 1) := by decide +kernel
theorem dX11_lacks_31 : decode cX11_lacks 31 = .ok (.invokevirtual 253, 3) := by decide +kernel
theorem dX11_lacks_34 : decode cX11_lacks 34 = .ok (.ifCond .eq 36, 3) := by decide +kernel
theorem dX11_lacks_37 : decode cX11_lacks 37 = .ok (.aload_n 0, 1) := by decide +kernel
theorem dX11_lacks_38 : decode cX11_lacks 38 = .ok (.getfield 43, 3) := by decide +kernel
theorem dX11_lacks_41 : decode cX11_lacks 41 = .ok (.iload_n 3, 1) := by decide +kernel
theorem dX11_lacks_42 : decode cX11_lacks 42 = .ok (.iaload, 1) := by decide +kernel
theorem dX11_lacks_43 : decode cX11_lacks 43 = .ok (.iload_n 1, 1) := by decide +kernel
theorem dX11_lacks_44 : decode cX11_lacks 44 = .ok (.if_icmp .ne 26, 3) := by decide +kernel
theorem dX11_lacks_47 : decode cX11_lacks 47 = .ok (.aload_n 0, 1) := by decide +kernel
theorem dX11_lacks_48 : decode cX11_lacks 48 = .ok (.getfield 40, 3) := by decide +kernel
theorem dX11_lacks_51 : decode cX11_lacks 51 = .ok (.aload_n 0, 1) := by decide +kernel
theorem dX11_lacks_52 : decode cX11_lacks 52 = .ok (.getfield 46, 3) := by decide +kernel
theorem dX11_lacks_55 : decode cX11_lacks 55 = .ok (.iload_n 3, 1) := by decide +kernel
theorem dX11_lacks_56 : decode cX11_lacks 56 = .ok (.iaload, 1) := by decide +kernel
theorem dX11_lacks_57 : decode cX11_lacks 57 = .ok (.iaload, 1) := by decide +kernel
theorem dX11_lacks_58 : decode cX11_lacks 58 = .ok (.iload_n 1, 1) := by decide +kernel
theorem dX11_lacks_59 : decode cX11_lacks 59 = .ok (.if_icmp .eq 11, 3) := by decide +kernel
theorem dX11_lacks_62 : decode cX11_lacks 62 = .ok (.aload_n 0, 1) := by decide +kernel
theorem dX11_lacks_63 : decode cX11_lacks 63 = .ok (.iload_n 3, 1) := by decide +kernel
theorem dX11_lacks_64 : decode cX11_lacks 64 = .ok (.invokevirtual 238, 3) := by decide +kernel
theorem dX11_lacks_67 : decode cX11_lacks 67 = .ok (.goto 4, 3) := by decide +kernel
theorem dX11_lacks_70 : decode cX11_lacks 70 = .ok (.iconst 0, 1) := by decide +kernel
theorem dX11_lacks_71 : decode cX11_lacks 71 = .ok (.iadd, 1) := by decide +kernel
theorem dX11_lacks_72 : decode cX11_lacks 72 = .ok (.istore_n 2, 1) := by decide +kernel
theorem dX11_lacks_73 : decode cX11_lacks 73 = .ok (.iinc 3 1, 3) := by decide +kernel
theorem dX11_lacks_76 : decode cX11_lacks 76 = .ok (.goto (-56), 3) := by decide +kernel
theorem dX11_lacks_79 : decode cX11_lacks 79 = .ok (.iload_n 2, 1) := by decide +kernel
theorem dX11_lacks_80 : decode cX11_lacks 80 = .ok (.ireturn, 1) := by decide +kernel
theorem dX11_later_0 : decode cX11_later 0 = .ok (.aload_n 0, 1) := by decide +kernel
theorem dX11_later_1 : decode cX11_later 1 = .ok (.iload_n 1, 1) := by decide +kernel
theorem dX11_later_2 : decode cX11_later 2 = .ok (.i2l, 1) := by decide +kernel
theorem dX11_later_3 : decode cX11_later 3 = .ok (.invokevirtual 266, 3) := by decide +kernel
theorem dX11_later_6 : decode cX11_later 6 = .ok (.ifCond .eq 10, 3) := by decide +kernel
theorem dX11_later_9 : decode cX11_later 9 = .ok (.iload_n 2, 1) := by decide +kernel
theorem dX11_later_10 : decode cX11_later 10 = .ok (.invokestatic 338, 3) := by decide +kernel
theorem dX11_later_13 : decode cX11_later 13 = .ok (.ifCond .ne 6, 3) := by decide +kernel
theorem dX11_later_16 : decode cX11_later 16 = .ok (.bipush (-2), 2) := by decide +kernel
theorem dX11_later_18 : decode cX11_later 18 = .ok (.ireturn, 1) := by decide +kernel
theorem dX11_later_19 : decode cX11_later 19 = .ok (.aload_n 0, 1) := by decide +kernel
theorem dX11_later_20 : decode cX11_later 20 = .ok (.iload_n 2, 1) := by decide +kernel
theorem dX11_later_21 : decode cX11_later 21 = .ok (.invokevirtual 341, 3) := by decide +kernel
theorem dX11_later_24 : decode cX11_later 24 = .ok (.pop, 1) := by decide +kernel
theorem dX11_later_25 : decode cX11_later 25 = .ok (.aload_n 0, 1) := by decide +kernel
theorem dX11_later_26 : decode cX11_later 26 = .ok (.getfield 40, 3) := by decide +kernel
theorem dX11_later_29 : decode cX11_later 29 = .ok (.iload_n 1, 1) := by decide +kernel
theorem dX11_later_30 : decode cX11_later 30 = .ok (.iaload, 1) := by decide +kernel
theorem dX11_later_31 : decode cX11_later 31 = .ok (.ireturn, 1) := by decide +kernel
theorem dX11_latest_0 : decode cX11_latest 0 = .ok (.aload_n 0, 1) := by decide +kernel
theorem dX11_latest_1 : decode cX11_latest 1 = .ok (.getfield 208, 3) := by decide +kernel
theorem dX11_latest_4 : decode cX11_latest 4 = .ok (.iconst 1, 1) := by decide +kernel
theorem dX11_latest_5 : decode cX11_latest 5 = .ok (.isub, 1) := by decide +kernel
theorem dX11_latest_6 : decode cX11_latest 6 = .ok (.istore 4, 2) := by decide +kernel
theorem dX11_latest_8 : decode cX11_latest 8 = .ok (.iload 4, 2) := by decide +kernel
theorem dX11_latest_10 : decode cX11_latest 10 = .ok (.ifCond .lt 44, 3) := by decide +kernel
theorem dX11_latest_13 : decode cX11_latest 13 = .ok (.aload_n 0, 1) := by decide +kernel
theorem dX11_latest_14 : decode cX11_latest 14 = .ok (.iload 4, 2) := by decide +kernel
theorem dX11_latest_16 : decode cX11_latest 16 = .ok (.iload_n 3, 1) := by decide +kernel
theorem dX11_latest_17 : decode cX11_latest 17 = .ok (.invokevirtual 312, 3) := by decide +kernel
theorem dX11_latest_20 : decode cX11_latest 20 = .ok (.ifCond .eq 28, 3) := by decide +kernel
theorem dX11_latest_23 : decode cX11_latest 23 = .ok (.aload_n 0, 1) := by decide +kernel
theorem dX11_latest_24 : decode cX11_latest 24 = .ok (.getfield 43, 3) := by decide +kernel
theorem dX11_latest_27 : decode cX11_latest 27 = .ok (.iload 4, 2) := by decide +kernel
theorem dX11_latest_29 : decode cX11_latest 29 = .ok (.iaload, 1) := by decide +kernel
theorem dX11_latest_30 : decode cX11_latest 30 = .ok (.iload_n 1, 1) := by decide +kernel
theorem dX11_latest_31 : decode cX11_latest 31 = .ok (.if_icmp .ne 17, 3) := by decide +kernel
theorem dX11_latest_34 : decode cX11_latest 34 = .ok (.aload_n 0, 1) := by decide +kernel
theorem dX11_latest_35 : decode cX11_latest 35 = .ok (.getfield 49, 3) := by decide +kernel
theorem dX11_latest_38 : decode cX11_latest 38 = .ok (.iload 4, 2) := by decide +kernel
theorem dX11_latest_40 : decode cX11_latest 40 = .ok (.iaload, 1) := by decide +kernel
theorem dX11_latest_41 : decode cX11_latest 41 = .ok (.iload_n 2, 1) := by decide +kernel
theorem dX11_latest_42 : decode cX11_latest 42 = .ok (.if_icmp .ne 6, 3) := by decide +kernel
theorem dX11_latest_45 : decode cX11_latest 45 = .ok (.iload 4, 2) := by decide +kernel
theorem dX11_latest_47 : decode cX11_latest 47 = .ok (.ireturn, 1) := by decide +kernel
theorem dX11_latest_48 : decode cX11_latest 48 = .ok (.iinc 4 (-1), 3) := by decide +kernel
theorem dX11_latest_51 : decode cX11_latest 51 = .ok (.goto (-43), 3) := by decide +kernel
theorem dX11_latest_54 : decode cX11_latest 54 = .ok (.iconst (-1), 1) := by decide +kernel
theorem dX11_latest_55 : decode cX11_latest 55 = .ok (.ireturn, 1) := by decide +kernel
theorem dX11_layChain_0 : decode cX11_layChain 0 = .ok (.aload_n 0, 1) := by decide +kernel
theorem dX11_layChain_1 : decode cX11_layChain 1 = .ok (.iconst 0, 1) := by decide +kernel
theorem dX11_layChain_2 : decode cX11_layChain 2 = .ok (.putfield 300, 3) := by decide +kernel
theorem dX11_layChain_5 : decode cX11_layChain 5 = .ok (.aload_n 0, 1) := by decide +kernel
theorem dX11_layChain_6 : decode cX11_layChain 6 = .ok (.getfield 40, 3) := by decide +kernel
theorem dX11_layChain_9 : decode cX11_layChain 9 = .ok (.iload_n 1, 1) := by decide +kernel
theorem dX11_layChain_10 : decode cX11_layChain 10 = .ok (.iaload, 1) := by decide +kernel
theorem dX11_layChain_11 : decode cX11_layChain 11 = .ok (.istore_n 2, 1) := by decide +kernel
theorem dX11_layChain_12 : decode cX11_layChain 12 = .ok (.iload_n 2, 1) := by decide +kernel
theorem dX11_layChain_13 : decode cX11_layChain 13 = .ok (.iconst (-1), 1) := by decide +kernel
theorem dX11_layChain_14 : decode cX11_layChain 14 = .ok (.if_icmp .eq 43, 3) := by decide +kernel
theorem dX11_layChain_17 : decode cX11_layChain 17 = .ok (.aload_n 0, 1) := by decide +kernel
theorem dX11_layChain_18 : decode cX11_layChain 18 = .ok (.iload_n 2, 1) := by decide +kernel
theorem dX11_layChain_19 : decode cX11_layChain 19 = .ok (.invokevirtual 303, 3) := by decide +kernel
theorem dX11_layChain_22 : decode cX11_layChain 22 = .ok (.ifCond .eq 5, 3) := by decide +kernel
theorem dX11_layChain_25 : decode cX11_layChain 25 = .ok (.iconst (-1), 1) := by decide +kernel
theorem dX11_layChain_26 : decode cX11_layChain 26 = .ok (.ireturn, 1) := by decide +kernel
theorem dX11_layChain_27 : decode cX11_layChain 27 = .ok (.aload_n 0, 1) := by decide +kernel
theorem dX11_layChain_28 : decode cX11_layChain 28 = .ok (.getfield 67, 3) := by decide +kernel
theorem dX11_layChain_31 : decode cX11_layChain 31 = .ok (.aload_n 0, 1) := by decide +kernel
theorem dX11_layChain_32 : decode cX11_layChain 32 = .ok (.getfield 300, 3) := by decide +kernel
theorem dX11_layChain_35 : decode cX11_layChain 35 = .ok (.iload_n 2, 1) := by decide +kernel
theorem dX11_layChain_36 : decode cX11_layChain 36 = .ok (.iastore, 1) := by decide +kernel
theorem dX11_layChain_37 : decode cX11_layChain 37 = .ok (.aload_n 0, 1) := by decide +kernel
theorem dX11_layChain_38 : decode cX11_layChain 38 = .ok (.dup, 1) := by decide +kernel
theorem dX11_layChain_39 : decode cX11_layChain 39 = .ok (.getfield 300, 3) := by decide +kernel
theorem dX11_layChain_42 : decode cX11_layChain 42 = .ok (.iconst 1, 1) := by decide +kernel
theorem dX11_layChain_43 : decode cX11_layChain 43 = .ok (.iadd, 1) := by decide +kernel
theorem dX11_layChain_44 : decode cX11_layChain 44 = .ok (.putfield 300, 3) := by decide +kernel
theorem dX11_layChain_47 : decode cX11_layChain 47 = .ok (.aload_n 0, 1) := by decide +kernel
theorem dX11_layChain_48 : decode cX11_layChain 48 = .ok (.iload_n 2, 1) := by decide +kernel
theorem dX11_layChain_49 : decode cX11_layChain 49 = .ok (.iload_n 1, 1) := by decide +kernel
theorem dX11_layChain_50 : decode cX11_layChain 50 = .ok (.invokevirtual 306, 3) := by decide +kernel
theorem dX11_layChain_53 : decode cX11_layChain 53 = .ok (.istore_n 2, 1) := by decide +kernel
theorem dX11_layChain_54 : decode cX11_layChain 54 = .ok (.goto (-42), 3) := by decide +kernel
theorem dX11_layChain_57 : decode cX11_layChain 57 = .ok (.aload_n 0, 1) := by decide +kernel
theorem dX11_layChain_58 : decode cX11_layChain 58 = .ok (.getfield 67, 3) := by decide +kernel
theorem dX11_layChain_61 : decode cX11_layChain 61 = .ok (.aload_n 0, 1) := by decide +kernel
theorem dX11_layChain_62 : decode cX11_layChain 62 = .ok (.getfield 300, 3) := by decide +kernel
theorem dX11_layChain_65 : decode cX11_layChain 65 = .ok (.iconst 1, 1) := by decide +kernel
theorem dX11_layChain_66 : decode cX11_layChain 66 = .ok (.isub, 1) := by decide +kernel
theorem dX11_layChain_67 : decode cX11_layChain 67 = .ok (.iaload, 1) := by decide +kernel
theorem dX11_layChain_68 : decode cX11_layChain 68 = .ok (.ireturn, 1) := by decide +kernel
theorem dX11_layDeals_0 : decode cX11_layDeals 0 = .ok (.aload_n 0, 1) := by decide +kernel
theorem dX11_layDeals_1 : decode cX11_layDeals 1 = .ok (.getfield 9, 3) := by decide +kernel
theorem dX11_layDeals_4 : decode cX11_layDeals 4 = .ok (.iconst 4, 1) := by decide +kernel
theorem dX11_layDeals_5 : decode cX11_layDeals 5 = .ok (.iaload, 1) := by decide +kernel
theorem dX11_layDeals_6 : decode cX11_layDeals 6 = .ok (.istore_n 1, 1) := by decide +kernel
theorem dX11_layDeals_7 : decode cX11_layDeals 7 = .ok (.iload_n 1, 1) := by decide +kernel
theorem dX11_layDeals_8 : decode cX11_layDeals 8 = .ok (.ifCond .lt 115, 3) := by decide +kernel
theorem dX11_layDeals_11 : decode cX11_layDeals 11 = .ok (.iconst 0, 1) := by decide +kernel
theorem dX11_layDeals_12 : decode cX11_layDeals 12 = .ok (.istore_n 2, 1) := by decide +kernel
theorem dX11_layDeals_13 : decode cX11_layDeals 13 = .ok (.iload_n 2, 1) := by decide +kernel
theorem dX11_layDeals_14 : decode cX11_layDeals 14 = .ok (.iconst 1, 1) := by decide +kernel
theorem dX11_layDeals_15 : decode cX11_layDeals 15 = .ok (.aload_n 0, 1) := by decide +kernel
theorem dX11_layDeals_16 : decode cX11_layDeals 16 = .ok (.getfield 9, 3) := by decide +kernel
theorem dX11_layDeals_19 : decode cX11_layDeals 19 = .ok (.iconst 3, 1) := by decide +kernel
theorem dX11_layDeals_20 : decode cX11_layDeals 20 = .ok (.iaload, 1) := by decide +kernel
theorem dX11_layDeals_21 : decode cX11_layDeals 21 = .ok (.ishl, 1) := by decide +kernel
theorem dX11_layDeals_22 : decode cX11_layDeals 22 = .ok (.if_icmp .ge 95, 3) := by decide +kernel
theorem dX11_layDeals_25 : decode cX11_layDeals 25 = .ok (.iload_n 1, 1) := by decide +kernel
theorem dX11_layDeals_26 : decode cX11_layDeals 26 = .ok (.aload_n 0, 1) := by decide +kernel
theorem dX11_layDeals_27 : decode cX11_layDeals 27 = .ok (.getfield 9, 3) := by decide +kernel
theorem dX11_layDeals_30 : decode cX11_layDeals 30 = .ok (.iconst 4, 1) := by decide +kernel
theorem dX11_layDeals_31 : decode cX11_layDeals 31 = .ok (.iaload, 1) := by decide +kernel
theorem dX11_layDeals_32 : decode cX11_layDeals 32 = .ok (.if_icmp .ne 7, 3) := by decide +kernel
theorem dX11_layDeals_35 : decode cX11_layDeals 35 = .ok (.iconst 0, 1) := by decide +kernel
theorem dX11_layDeals_36 : decode cX11_layDeals 36 = .ok (.goto 11, 3) := by decide +kernel
theorem dX11_layDeals_39 : decode cX11_layDeals 39 = .ok (.aload_n 0, 1) := by decide +kernel
theorem dX11_layDeals_40 : decode cX11_layDeals 40 = .ok (.iload_n 1, 1) := by decide +kernel
theorem dX11_layDeals_41 : decode cX11_layDeals 41 = .ok (.iconst 1, 1) := by decide +kernel
theorem dX11_layDeals_42 : decode cX11_layDeals 42 = .ok (.iadd, 1) := by decide +kernel
theorem dX11_layDeals_43 : decode cX11_layDeals 43 = .ok (.iload_n 2, 1) := by decide +kernel
theorem dX11_layDeals_44 : decode cX11_layDeals 44 = .ok (.invokevirtual 362, 3) := by decide +kernel
theorem dX11_layDeals_47 : decode cX11_layDeals 47 = .ok (.istore_n 3, 1) := by decide +kernel
theorem dX11_layDeals_48 : decode cX11_layDeals 48 = .ok (.iconst 0, 1) := by decide +kernel
theorem dX11_layDeals_49 : decode cX11_layDeals 49 = .ok (.istore 4, 2) := by decide +kernel
theorem dX11_layDeals_51 : decode cX11_layDeals 51 = .ok (.iload 4, 2) := by decide +kernel
theorem dX11_layDeals_53 : decode cX11_layDeals 53 = .ok (.aload_n 0, 1) := by decide +kernel
theorem dX11_layDeals_54 : decode cX11_layDeals 54 = .ok (.getfield 9, 3) := by decide +kernel
theorem dX11_layDeals_57 : decode cX11_layDeals 57 = .ok (.iconst 3, 1) := by decide +kernel
theorem dX11_layDeals_58 : decode cX11_layDeals 58 = .ok (.iaload, 1) := by decide +kernel
theorem dX11_layDeals_59 : decode cX11_layDeals 59 = .ok (.if_icmp .ge 41, 3) := by decide +kernel
theorem dX11_layDeals_62 : decode cX11_layDeals 62 = .ok (.iload_n 1, 1) := by decide +kernel
theorem dX11_layDeals_63 : decode cX11_layDeals 63 = .ok (.aload_n 0, 1) := by decide +kernel
theorem dX11_layDeals_64 : decode cX11_layDeals 64 = .ok (.getfield 9, 3) := by decide +kernel
theorem dX11_layDeals_67 : decode cX11_layDeals 67 = .ok (.iconst 4, 1) := by decide +kernel
theorem dX11_layDeals_68 : decode cX11_layDeals 68 = .ok (.iaload, 1) := by decide +kernel
theorem dX11_layDeals_69 : decode cX11_layDeals 69 = .ok (.if_icmp .ge 31, 3) := by decide +kernel
theorem dX11_layDeals_72 : decode cX11_layDeals 72 = .ok (.iload_n 2, 1) := by decide +kernel
theorem dX11_layDeals_73 : decode cX11_layDeals 73 = .ok (.iload 4, 2) := by decide +kernel
theorem dX11_layDeals_75 : decode cX11_layDeals 75 = .ok (.invokestatic 344, 3) := by decide +kernel
theorem dX11_layDeals_78 : decode cX11_layDeals 78 = .ok (.ifCond .ne 16, 3) := by decide +kernel
theorem dX11_layDeals_81 : decode cX11_layDeals 81 = .ok (.iload_n 3, 1) := by decide +kernel
theorem dX11_layDeals_82 : decode cX11_layDeals 82 = .ok (.aload_n 0, 1) := by decide +kernel
theorem dX11_layDeals_83 : decode cX11_layDeals 83 = .ok (.iload_n 1, 1) := by decide +kernel
theorem dX11_layDeals_84 : decode cX11_layDeals 84 = .ok (.iload_n 2, 1) := by decide +kernel
theorem dX11_layDeals_85 : decode cX11_layDeals 85 = .ok (.iload 4, 2) := by decide +kernel
theorem dX11_layDeals_87 : decode cX11_layDeals 87 = .ok (.invokevirtual 365, 3) := by decide +kernel
theorem dX11_layDeals_90 : decode cX11_layDeals 90 = .ok (.invokestatic 368, 3) := by decide +kernel
theorem dX11_layDeals_93 : decode cX11_layDeals 93 = .ok (.istore_n 3, 1) := by decide +kernel
theorem dX11_layDeals_94 : decode cX11_layDeals 94 = .ok (.iinc 4 1, 3) := by decide +kernel
theorem dX11_layDeals_97 : decode cX11_layDeals 97 = .ok (.goto (-46), 3) := by decide +kernel
theorem dX11_layDeals_100 : decode cX11_layDeals 100 = .ok (.aload_n 0, 1) := by decide +kernel
theorem dX11_layDeals_101 : decode cX11_layDeals 101 = .ok (.getfield 73, 3) := by decide +kernel
theorem dX11_layDeals_104 : decode cX11_layDeals 104 = .ok (.iload_n 1, 1) := by decide +kernel
theorem dX11_layDeals_105 : decode cX11_layDeals 105 = .ok (.iconst 5, 1) := by decide +kernel
theorem dX11_layDeals_106 : decode cX11_layDeals 106 = .ok (.ishl, 1) := by decide +kernel
theorem dX11_layDeals_107 : decode cX11_layDeals 107 = .ok (.iload_n 2, 1) := by decide +kernel
theorem dX11_layDeals_108 : decode cX11_layDeals 108 = .ok (.ior, 1) := by decide +kernel
theorem dX11_layDeals_109 : decode cX11_layDeals 109 = .ok (.iload_n 3, 1) := by decide +kernel
theorem dX11_layDeals_110 : decode cX11_layDeals 110 = .ok (.iastore, 1) := by decide +kernel
theorem dX11_layDeals_111 : decode cX11_layDeals 111 = .ok (.iinc 2 1, 3) := by decide +kernel
theorem dX11_layDeals_114 : decode cX11_layDeals 114 = .ok (.goto (-101), 3) := by decide +kernel
theorem dX11_layDeals_117 : decode cX11_layDeals 117 = .ok (.iinc 1 (-1), 3) := by decide +kernel
theorem dX11_layDeals_120 : decode cX11_layDeals 120 = .ok (.goto (-113), 3) := by decide +kernel
theorem dX11_layDeals_123 : decode cX11_layDeals 123 = .ok (.aload_n 0, 1) := by decide +kernel
theorem dX11_layDeals_124 : decode cX11_layDeals 124 = .ok (.iconst 0, 1) := by decide +kernel
theorem dX11_layDeals_125 : decode cX11_layDeals 125 = .ok (.iconst 0, 1) := by decide +kernel
theorem dX11_layDeals_126 : decode cX11_layDeals 126 = .ok (.invokevirtual 362, 3) := by decide +kernel
theorem dX11_layDeals_129 : decode cX11_layDeals 129 = .ok (.ireturn, 1) := by decide +kernel
theorem dX11_layFalse_0 : decode cX11_layFalse 0 = .ok (.aload_n 0, 1) := by decide +kernel
theorem dX11_layFalse_1 : decode cX11_layFalse 1 = .ok (.iconst 0, 1) := by decide +kernel
theorem dX11_layFalse_2 : decode cX11_layFalse 2 = .ok (.putfield 403, 3) := by decide +kernel
theorem dX11_layFalse_5 : decode cX11_layFalse 5 = .ok (.aload_n 0, 1) := by decide +kernel
theorem dX11_layFalse_6 : decode cX11_layFalse 6 = .ok (.iconst (-1), 1) := by decide +kernel
theorem dX11_layFalse_7 : decode cX11_layFalse 7 = .ok (.putfield 406, 3) := by decide +kernel
theorem dX11_layFalse_10 : decode cX11_layFalse 10 = .ok (.aload_n 0, 1) := by decide +kernel
theorem dX11_layFalse_11 : decode cX11_layFalse 11 = .ok (.iconst 0, 1) := by decide +kernel
theorem dX11_layFalse_12 : decode cX11_layFalse 12 = .ok (.putfield 409, 3) := by decide +kernel
theorem dX11_layFalse_15 : decode cX11_layFalse 15 = .ok (.iconst 0, 1) := by decide +kernel
theorem dX11_layFalse_16 : decode cX11_layFalse 16 = .ok (.istore_n 2, 1) := by decide +kernel
theorem dX11_layFalse_17 : decode cX11_layFalse 17 = .ok (.iconst 0, 1) := by decide +kernel
theorem dX11_layFalse_18 : decode cX11_layFalse 18 = .ok (.istore_n 3, 1) := by decide +kernel
theorem dX11_layFalse_19 : decode cX11_layFalse 19 = .ok (.iload_n 3, 1) := by decide +kernel
theorem dX11_layFalse_20 : decode cX11_layFalse 20 = .ok (.aload_n 0, 1) := by decide +kernel
theorem dX11_layFalse_21 : decode cX11_layFalse 21 = .ok (.getfield 76, 3) := by decide +kernel
theorem dX11_layFalse_24 : decode cX11_layFalse 24 = .ok (.iload_n 1, 1) := by decide +kernel
theorem dX11_layFalse_25 : decode cX11_layFalse 25 = .ok (.iaload, 1) := by decide +kernel
theorem dX11_layFalse_26 : decode cX11_layFalse 26 = .ok (.if_icmp .ge 185, 3) := by decide +kernel
theorem dX11_layFalse_29 : decode cX11_layFalse 29 = .ok (.iconst (-1), 1) := by decide +kernel
theorem dX11_layFalse_30 : decode cX11_layFalse 30 = .ok (.istore 4, 2) := by decide +kernel
theorem dX11_layFalse_32 : decode cX11_layFalse 32 = .ok (.iconst 0, 1) := by decide +kernel
theorem dX11_layFalse_33 : decode cX11_layFalse 33 = .ok (.istore 5, 2) := by decide +kernel
theorem dX11_layFalse_35 : decode cX11_layFalse 35 = .ok (.iconst 0, 1) := by decide +kernel
theorem dX11_layFalse_36 : decode cX11_layFalse 36 = .ok (.istore 6, 2) := by decide +kernel
theorem dX11_layFalse_38 : decode cX11_layFalse 38 = .ok (.iload 6, 2) := by decide +kernel
theorem dX11_layFalse_40 : decode cX11_layFalse 40 = .ok (.aload_n 0, 1) := by decide +kernel
theorem dX11_layFalse_41 : decode cX11_layFalse 41 = .ok (.getfield 208, 3) := by decide +kernel
theorem dX11_layFalse_44 : decode cX11_layFalse 44 = .ok (.if_icmp .ge 69, 3) := by decide +kernel
theorem dX11_layFalse_47 : decode cX11_layFalse 47 = .ok (.iload 4, 2) := by decide +kernel
theorem dX11_layFalse_49 : decode cX11_layFalse 49 = .ok (.iconst (-1), 1) := by decide +kernel
theorem dX11_layFalse_50 : decode cX11_layFalse 50 = .ok (.if_icmp .ne 29, 3) := by decide +kernel
theorem dX11_layFalse_53 : decode cX11_layFalse 53 = .ok (.iload_n 2, 1) := by decide +kernel
theorem dX11_layFalse_54 : decode cX11_layFalse 54 = .ok (.iload 6, 2) := by decide +kernel
theorem dX11_layFalse_56 : decode cX11_layFalse 56 = .ok (.invokestatic 344, 3) := by decide +kernel
theorem dX11_layFalse_59 : decode cX11_layFalse 59 = .ok (.ifCond .ne 20, 3) := by decide +kernel
theorem dX11_layFalse_62 : decode cX11_layFalse 62 = .ok (.aload_n 0, 1) := by decide +kernel
theorem dX11_layFalse_63 : decode cX11_layFalse 63 = .ok (.iload_n 1, 1) := by decide +kernel
theorem dX11_layFalse_64 : decode cX11_layFalse 64 = .ok (.iload_n 3, 1) := by decide +kernel
theorem dX11_layFalse_65 : decode cX11_layFalse 65 = .ok (.iload 6, 2) := by decide +kernel
theorem dX11_layFalse_67 : decode cX11_layFalse 67 = .ok (.iconst 1, 1) := by decide +kernel
theorem dX11_layFalse_68 : decode cX11_layFalse 68 = .ok (.invokevirtual 412, 3) := by decide +kernel
theorem dX11_layFalse_71 : decode cX11_layFalse 71 = .ok (.ifCond .eq 8, 3) := by decide +kernel
theorem dX11_layFalse_74 : decode cX11_layFalse 74 = .ok (.iload 6, 2) := by decide +kernel
theorem dX11_layFalse_76 : decode cX11_layFalse 76 = .ok (.goto 5, 3) := by decide +kernel
theorem dX11_layFalse_79 : decode cX11_layFalse 79 = .ok (.iload 4, 2) := by decide +kernel
theorem dX11_layFalse_81 : decode cX11_layFalse 81 = .ok (.istore 4, 2) := by decide +kernel
theorem dX11_layFalse_83 : decode cX11_layFalse 83 = .ok (.iload 5, 2) := by decide +kernel
theorem dX11_layFalse_85 : decode cX11_layFalse 85 = .ok (.ifCond .ne 15, 3) := by decide +kernel
theorem dX11_layFalse_88 : decode cX11_layFalse 88 = .ok (.aload_n 0, 1) := by decide +kernel
theorem dX11_layFalse_89 : decode cX11_layFalse 89 = .ok (.iload_n 1, 1) := by decide +kernel
theorem dX11_layFalse_90 : decode cX11_layFalse 90 = .ok (.iload_n 3, 1) := by decide +kernel
theorem dX11_layFalse_91 : decode cX11_layFalse 91 = .ok (.iload 6, 2) := by decide +kernel
theorem dX11_layFalse_93 : decode cX11_layFalse 93 = .ok (.iconst 0, 1) := by decide +kernel
theorem dX11_layFalse_94 : decode cX11_layFalse 94 = .ok (.invokevirtual 412, 3) := by decide +kernel
theorem dX11_layFalse_97 : decode cX11_layFalse 97 = .ok (.ifCond .eq 7, 3) := by decide +kernel
theorem dX11_layFalse_100 : decode cX11_layFalse 100 = .ok (.iconst 1, 1) := by decide +kernel
theorem dX11_layFalse_101 : decode cX11_layFalse 101 = .ok (.goto 4, 3) := by decide +kernel
theorem dX11_layFalse_104 : decode cX11_layFalse 104 = .ok (.iconst 0, 1) := by decide +kernel
theorem dX11_layFalse_105 : decode cX11_layFalse 105 = .ok (.istore 5, 2) := by decide +kernel
theorem dX11_layFalse_107 : decode cX11_layFalse 107 = .ok (.iinc 6 1, 3) := by decide +kernel
theorem dX11_layFalse_110 : decode cX11_layFalse 110 = .ok (.goto (-72), 3) := by decide +kernel
theorem dX11_layFalse_113 : decode cX11_layFalse 113 = .ok (.iload 4, 2) := by decide +kernel
theorem dX11_layFalse_115 : decode cX11_layFalse 115 = .ok (.iconst (-1), 1) := by decide +kernel
theorem dX11_layFalse_116 : decode cX11_layFalse 116 = .ok (.if_icmp .eq 13, 3) := by decide +kernel
theorem dX11_layFalse_119 : decode cX11_layFalse 119 = .ok (.iload_n 2, 1) := by decide +kernel
theorem dX11_layFalse_120 : decode cX11_layFalse 120 = .ok (.iconst 1, 1) := by decide +kernel
theorem dX11_layFalse_121 : decode cX11_layFalse 121 = .ok (.iload 4, 2) := by decide +kernel
theorem dX11_layFalse_123 : decode cX11_layFalse 123 = .ok (.ishl, 1) := by decide +kernel
theorem dX11_layFalse_124 : decode cX11_layFalse 124 = .ok (.ior, 1) := by decide +kernel
theorem dX11_layFalse_125 : decode cX11_layFalse 125 = .ok (.istore_n 2, 1) := by decide +kernel
theorem dX11_layFalse_126 : decode cX11_layFalse 126 = .ok (.goto 79, 3) := by decide +kernel
theorem dX11_layFalse_129 : decode cX11_layFalse 129 = .ok (.aload_n 0, 1) := by decide +kernel
theorem dX11_layFalse_130 : decode cX11_layFalse 130 = .ok (.aload_n 0, 1) := by decide +kernel
theorem dX11_layFalse_131 : decode cX11_layFalse 131 = .ok (.getfield 403, 3) := by decide +kernel
theorem dX11_layFalse_134 : decode cX11_layFalse 134 = .ok (.ifCond .ne 9, 3) := by decide +kernel
theorem dX11_layFalse_137 : decode cX11_layFalse 137 = .ok (.iload_n 3, 1) := by decide +kernel
theorem dX11_layFalse_138 : decode cX11_layFalse 138 = .ok (.iconst 4, 1) := by decide +kernel
theorem dX11_layFalse_139 : decode cX11_layFalse 139 = .ok (.idiv, 1) := by decide +kernel
theorem dX11_layFalse_140 : decode cX11_layFalse 140 = .ok (.goto 7, 3) := by decide +kernel
theorem dX11_layFalse_143 : decode cX11_layFalse 143 = .ok (.aload_n 0, 1) := by decide +kernel
theorem dX11_layFalse_144 : decode cX11_layFalse 144 = .ok (.getfield 406, 3) := by decide +kernel
theorem dX11_layFalse_147 : decode cX11_layFalse 147 = .ok (.putfield 406, 3) := by decide +kernel
theorem dX11_layFalse_150 : decode cX11_layFalse 150 = .ok (.aload_n 0, 1) := by decide +kernel
theorem dX11_layFalse_151 : decode cX11_layFalse 151 = .ok (.dup, 1) := by decide +kernel
theorem dX11_layFalse_152 : decode cX11_layFalse 152 = .ok (.getfield 403, 3) := by decide +kernel
theorem dX11_layFalse_155 : decode cX11_layFalse 155 = .ok (.iconst 1, 1) := by decide +kernel
theorem dX11_layFalse_156 : decode cX11_layFalse 156 = .ok (.iadd, 1) := by decide +kernel
theorem dX11_layFalse_157 : decode cX11_layFalse 157 = .ok (.putfield 403, 3) := by decide +kernel
theorem dX11_layFalse_160 : decode cX11_layFalse 160 = .ok (.aload_n 0, 1) := by decide +kernel
theorem dX11_layFalse_161 : decode cX11_layFalse 161 = .ok (.dup, 1) := by decide +kernel
theorem dX11_layFalse_162 : decode cX11_layFalse 162 = .ok (.getfield 409, 3) := by decide +kernel
theorem dX11_layFalse_165 : decode cX11_layFalse 165 = .ok (.iload 5, 2) := by decide +kernel
theorem dX11_layFalse_167 : decode cX11_layFalse 167 = .ok (.ifCond .eq 33, 3) := by decide +kernel
theorem dX11_layFalse_170 : decode cX11_layFalse 170 = .ok (.aload_n 0, 1) := by decide +kernel
theorem dX11_layFalse_171 : decode cX11_layFalse 171 = .ok (.iload_n 1, 1) := by decide +kernel
theorem dX11_layFalse_172 : decode cX11_layFalse 172 = .ok (.iload_n 3, 1) := by decide +kernel
theorem dX11_layFalse_173 : decode cX11_layFalse 173 = .ok (.iconst 2, 1) := by decide +kernel
theorem dX11_layFalse_174 : decode cX11_layFalse 174 = .ok (.iadd, 1) := by decide +kernel
theorem dX11_layFalse_175 : decode cX11_layFalse 175 = .ok (.invokevirtual 391, 3) := by decide +kernel
theorem dX11_layFalse_178 : decode cX11_layFalse 178 = .ok (.aload_n 0, 1) := by decide +kernel
theorem dX11_layFalse_179 : decode cX11_layFalse 179 = .ok (.aload_n 0, 1) := by decide +kernel
theorem dX11_layFalse_180 : decode cX11_layFalse 180 = .ok (.iload_n 1, 1) := by decide +kernel
theorem dX11_layFalse_181 : decode cX11_layFalse 181 = .ok (.iload_n 3, 1) := by decide +kernel
theorem dX11_layFalse_182 : decode cX11_layFalse 182 = .ok (.iconst 1, 1) := by decide +kernel
theorem dX11_layFalse_183 : decode cX11_layFalse 183 = .ok (.iadd, 1) := by decide +kernel
theorem dX11_layFalse_184 : decode cX11_layFalse 184 = .ok (.invokevirtual 391, 3) := by decide +kernel
theorem dX11_layFalse_187 : decode cX11_layFalse 187 = .ok (.l2i, 1) := by decide +kernel
theorem dX11_layFalse_188 : decode cX11_layFalse 188 = .ok (.invokevirtual 98, 3) := by decide +kernel
theorem dX11_layFalse_191 : decode cX11_layFalse 191 = .ok (.i2l, 1) := by decide +kernel
theorem dX11_layFalse_192 : decode cX11_layFalse 192 = .ok (.lcmp, 1) := by decide +kernel
theorem dX11_layFalse_193 : decode cX11_layFalse 193 = .ok (.ifCond .eq 7, 3) := by decide +kernel
theorem dX11_layFalse_196 : decode cX11_layFalse 196 = .ok (.iconst 1, 1) := by decide +kernel
theorem dX11_layFalse_197 : decode cX11_layFalse 197 = .ok (.goto 4, 3) := by decide +kernel
theorem dX11_layFalse_200 : decode cX11_layFalse 200 = .ok (.iconst 0, 1) := by decide +kernel
theorem dX11_layFalse_201 : decode cX11_layFalse 201 = .ok (.iadd, 1) := by decide +kernel
theorem dX11_layFalse_202 : decode cX11_layFalse 202 = .ok (.putfield 409, 3) := by decide +kernel
theorem dX11_layFalse_205 : decode cX11_layFalse 205 = .ok (.iinc 3 4, 3) := by decide +kernel
theorem dX11_layFalse_208 : decode cX11_layFalse 208 = .ok (.goto (-189), 3) := by decide +kernel
theorem dX11_layFalse_211 : decode cX11_layFalse 211 = .ok (.return_, 1) := by decide +kernel
theorem dX11_leadRound_0 : decode cX11_leadRound 0 = .ok (.iconst 0, 1) := by decide +kernel
theorem dX11_leadRound_1 : decode cX11_leadRound 1 = .ok (.istore_n 1, 1) := by decide +kernel
theorem dX11_leadRound_2 : decode cX11_leadRound 2 = .ok (.iload_n 1, 1) := by decide +kernel
theorem dX11_leadRound_3 : decode cX11_leadRound 3 = .ok (.aload_n 0, 1) := by decide +kernel
theorem dX11_leadRound_4 : decode cX11_leadRound 4 = .ok (.getfield 9, 3) := by decide +kernel
theorem dX11_leadRound_7 : decode cX11_leadRound 7 = .ok (.iconst 3, 1) := by decide +kernel
theorem dX11_leadRound_8 : decode cX11_leadRound 8 = .ok (.iaload, 1) := by decide +kernel
theorem dX11_leadRound_9 : decode cX11_leadRound 9 = .ok (.if_icmp .ge 62, 3) := by decide +kernel
theorem dX11_leadRound_12 : decode cX11_leadRound 12 = .ok (.iload_n 1, 1) := by decide +kernel
theorem dX11_leadRound_13 : decode cX11_leadRound 13 = .ok (.istore_n 2, 1) := by decide +kernel
theorem dX11_leadRound_14 : decode cX11_leadRound 14 = .ok (.iconst 0, 1) := by decide +kernel
theorem dX11_leadRound_15 : decode cX11_leadRound 15 = .ok (.istore_n 3, 1) := by decide +kernel
theorem dX11_leadRound_16 : decode cX11_leadRound 16 = .ok (.iload_n 3, 1) := by decide +kernel
theorem dX11_leadRound_17 : decode cX11_leadRound 17 = .ok (.iconst 5, 1) := by decide +kernel
theorem dX11_leadRound_18 : decode cX11_leadRound 18 = .ok (.if_icmp .gt 40, 3) := by decide +kernel
theorem dX11_leadRound_21 : decode cX11_leadRound 21 = .ok (.iload_n 2, 1) := by decide +kernel
theorem dX11_leadRound_22 : decode cX11_leadRound 22 = .ok (.iconst (-1), 1) := by decide +kernel
theorem dX11_leadRound_23 : decode cX11_leadRound 23 = .ok (.if_icmp .eq 35, 3) := by decide +kernel
theorem dX11_leadRound_26 : decode cX11_leadRound 26 = .ok (.aload_n 0, 1) := by decide +kernel
theorem dX11_leadRound_27 : decode cX11_leadRound 27 = .ok (.getfield 70, 3) := by decide +kernel
theorem dX11_leadRound_30 : decode cX11_leadRound 30 = .ok (.iload_n 2, 1) := by decide +kernel
theorem dX11_leadRound_31 : decode cX11_leadRound 31 = .ok (.iaload, 1) := by decide +kernel
theorem dX11_leadRound_32 : decode cX11_leadRound 32 = .ok (.iconst (-1), 1) := by decide +kernel
theorem dX11_leadRound_33 : decode cX11_leadRound 33 = .ok (.if_icmp .ne 7, 3) := by decide +kernel
theorem dX11_leadRound_36 : decode cX11_leadRound 36 = .ok (.iconst (-1), 1) := by decide +kernel
theorem dX11_leadRound_37 : decode cX11_leadRound 37 = .ok (.goto 14, 3) := by decide +kernel
theorem dX11_leadRound_40 : decode cX11_leadRound 40 = .ok (.aload_n 0, 1) := by decide +kernel
theorem dX11_leadRound_41 : decode cX11_leadRound 41 = .ok (.getfield 49, 3) := by decide +kernel
theorem dX11_leadRound_44 : decode cX11_leadRound 44 = .ok (.aload_n 0, 1) := by decide +kernel
theorem dX11_leadRound_45 : decode cX11_leadRound 45 = .ok (.getfield 70, 3) := by decide +kernel
theorem dX11_leadRound_48 : decode cX11_leadRound 48 = .ok (.iload_n 2, 1) := by decide +kernel
theorem dX11_leadRound_49 : decode cX11_leadRound 49 = .ok (.iaload, 1) := by decide +kernel
theorem dX11_leadRound_50 : decode cX11_leadRound 50 = .ok (.iaload, 1) := by decide +kernel
theorem dX11_leadRound_51 : decode cX11_leadRound 51 = .ok (.istore_n 2, 1) := by decide +kernel
theorem dX11_leadRound_52 : decode cX11_leadRound 52 = .ok (.iinc 3 1, 3) := by decide +kernel
theorem dX11_leadRound_55 : decode cX11_leadRound 55 = .ok (.goto (-39), 3) := by decide +kernel
theorem dX11_leadRound_58 : decode cX11_leadRound 58 = .ok (.iload_n 2, 1) := by decide +kernel
theorem dX11_leadRound_59 : decode cX11_leadRound 59 = .ok (.iconst (-1), 1) := by decide +kernel
theorem dX11_leadRound_60 : decode cX11_leadRound 60 = .ok (.if_icmp .eq 5, 3) := by decide +kernel
theorem dX11_leadRound_63 : decode cX11_leadRound 63 = .ok (.iconst 1, 1) := by decide +kernel
theorem dX11_leadRound_64 : decode cX11_leadRound 64 = .ok (.ireturn, 1) := by decide +kernel
theorem dX11_leadRound_65 : decode cX11_leadRound 65 = .ok (.iinc 1 1, 3) := by decide +kernel
theorem dX11_leadRound_68 : decode cX11_leadRound 68 = .ok (.goto (-66), 3) := by decide +kernel
theorem dX11_leadRound_71 : decode cX11_leadRound 71 = .ok (.iconst 0, 1) := by decide +kernel
theorem dX11_leadRound_72 : decode cX11_leadRound 72 = .ok (.ireturn, 1) := by decide +kernel
theorem dX11_leadsTo_0 : decode cX11_leadsTo 0 = .ok (.aload_n 0, 1) := by decide +kernel
theorem dX11_leadsTo_1 : decode cX11_leadsTo 1 = .ok (.getfield 208, 3) := by decide +kernel
theorem dX11_leadsTo_4 : decode cX11_leadsTo 4 = .ok (.iconst 1, 1) := by decide +kernel
theorem dX11_leadsTo_5 : decode cX11_leadsTo 5 = .ok (.isub, 1) := by decide +kernel
theorem dX11_leadsTo_6 : decode cX11_leadsTo 6 = .ok (.istore_n 3, 1) := by decide +kernel
theorem dX11_leadsTo_7 : decode cX11_leadsTo 7 = .ok (.iload_n 3, 1) := by decide +kernel
theorem dX11_leadsTo_8 : decode cX11_leadsTo 8 = .ok (.ifCond .lt 54, 3) := by decide +kernel
theorem dX11_leadsTo_11 : decode cX11_leadsTo 11 = .ok (.aload_n 0, 1) := by decide +kernel
theorem dX11_leadsTo_12 : decode cX11_leadsTo 12 = .ok (.iload_n 3, 1) := by decide +kernel
theorem dX11_leadsTo_13 : decode cX11_leadsTo 13 = .ok (.invokevirtual 253, 3) := by decide +kernel
theorem dX11_leadsTo_16 : decode cX11_leadsTo 16 = .ok (.ifCond .eq 40, 3) := by decide +kernel
theorem dX11_leadsTo_19 : decode cX11_leadsTo 19 = .ok (.aload_n 0, 1) := by decide +kernel
theorem dX11_leadsTo_20 : decode cX11_leadsTo 20 = .ok (.getfield 43, 3) := by decide +kernel
theorem dX11_leadsTo_23 : decode cX11_leadsTo 23 = .ok (.iload_n 3, 1) := by decide +kernel
theorem dX11_leadsTo_24 : decode cX11_leadsTo 24 = .ok (.iaload, 1) := by decide +kernel
theorem dX11_leadsTo_25 : decode cX11_leadsTo 25 = .ok (.iload_n 1, 1) := by decide +kernel
theorem dX11_leadsTo_26 : decode cX11_leadsTo 26 = .ok (.if_icmp .ne 30, 3) := by decide +kernel
theorem dX11_leadsTo_29 : decode cX11_leadsTo 29 = .ok (.aload_n 0, 1) := by decide +kernel
theorem dX11_leadsTo_30 : decode cX11_leadsTo 30 = .ok (.getfield 46, 3) := by decide +kernel
theorem dX11_leadsTo_33 : decode cX11_leadsTo 33 = .ok (.iload_n 3, 1) := by decide +kernel
theorem dX11_leadsTo_34 : decode cX11_leadsTo 34 = .ok (.iaload, 1) := by decide +kernel
theorem dX11_leadsTo_35 : decode cX11_leadsTo 35 = .ok (.iload_n 2, 1) := by decide +kernel
theorem dX11_leadsTo_36 : decode cX11_leadsTo 36 = .ok (.if_icmp .ne 20, 3) := by decide +kernel
theorem dX11_leadsTo_39 : decode cX11_leadsTo 39 = .ok (.aload_n 0, 1) := by decide +kernel
theorem dX11_leadsTo_40 : decode cX11_leadsTo 40 = .ok (.getfield 49, 3) := by decide +kernel
theorem dX11_leadsTo_43 : decode cX11_leadsTo 43 = .ok (.iload_n 3, 1) := by decide +kernel
theorem dX11_leadsTo_44 : decode cX11_leadsTo 44 = .ok (.iaload, 1) := by decide +kernel
theorem dX11_leadsTo_45 : decode cX11_leadsTo 45 = .ok (.iload_n 1, 1) := by decide +kernel
theorem dX11_leadsTo_46 : decode cX11_leadsTo 46 = .ok (.if_icmp .eq 10, 3) := by decide +kernel
theorem dX11_leadsTo_49 : decode cX11_leadsTo 49 = .ok (.aload_n 0, 1) := by decide +kernel
theorem dX11_leadsTo_50 : decode cX11_leadsTo 50 = .ok (.getfield 49, 3) := by decide +kernel
theorem dX11_leadsTo_53 : decode cX11_leadsTo 53 = .ok (.iload_n 3, 1) := by decide +kernel
theorem dX11_leadsTo_54 : decode cX11_leadsTo 54 = .ok (.iaload, 1) := by decide +kernel
theorem dX11_leadsTo_55 : decode cX11_leadsTo 55 = .ok (.ireturn, 1) := by decide +kernel
theorem dX11_leadsTo_56 : decode cX11_leadsTo 56 = .ok (.iinc 3 (-1), 3) := by decide +kernel
theorem dX11_leadsTo_59 : decode cX11_leadsTo 59 = .ok (.goto (-52), 3) := by decide +kernel
theorem dX11_leadsTo_62 : decode cX11_leadsTo 62 = .ok (.iconst (-1), 1) := by decide +kernel
theorem dX11_leadsTo_63 : decode cX11_leadsTo 63 = .ok (.ireturn, 1) := by decide +kernel
theorem dX11_lies_0 : decode cX11_lies 0 = .ok (.aload_n 0, 1) := by decide +kernel
theorem dX11_lies_1 : decode cX11_lies 1 = .ok (.iload_n 1, 1) := by decide +kernel
theorem dX11_lies_2 : decode cX11_lies 2 = .ok (.i2l, 1) := by decide +kernel
theorem dX11_lies_3 : decode cX11_lies 3 = .ok (.invokevirtual 257, 3) := by decide +kernel
theorem dX11_lies_6 : decode cX11_lies 6 = .ok (.ifCond .ne 6, 3) := by decide +kernel
theorem dX11_lies_9 : decode cX11_lies 9 = .ok (.bipush (-2), 2) := by decide +kernel
theorem dX11_lies_11 : decode cX11_lies 11 = .ok (.ireturn, 1) := by decide +kernel
theorem dX11_lies_12 : decode cX11_lies 12 = .ok (.aload_n 0, 1) := by decide +kernel
theorem dX11_lies_13 : decode cX11_lies 13 = .ok (.invokevirtual 250, 3) := by decide +kernel
theorem dX11_lies_16 : decode cX11_lies 16 = .ok (.aload_n 0, 1) := by decide +kernel
theorem dX11_lies_17 : decode cX11_lies 17 = .ok (.iload_n 1, 1) := by decide +kernel
theorem dX11_lies_18 : decode cX11_lies 18 = .ok (.invokevirtual 328, 3) := by decide +kernel
theorem dX11_lies_21 : decode cX11_lies 21 = .ok (.ireturn, 1) := by decide +kernel
theorem dX11_liesFor_0 : decode cX11_liesFor 0 = .ok (.iconst 0, 1) := by decide +kernel
theorem dX11_liesFor_1 : decode cX11_liesFor 1 = .ok (.istore_n 2, 1) := by decide +kernel
theorem dX11_liesFor_2 : decode cX11_liesFor 2 = .ok (.iconst 0, 1) := by decide +kernel
theorem dX11_liesFor_3 : decode cX11_liesFor 3 = .ok (.istore_n 3, 1) := by decide +kernel
theorem dX11_liesFor_4 : decode cX11_liesFor 4 = .ok (.iload_n 3, 1) := by decide +kernel
theorem dX11_liesFor_5 : decode cX11_liesFor 5 = .ok (.aload_n 0, 1) := by decide +kernel
theorem dX11_liesFor_6 : decode cX11_liesFor 6 = .ok (.getfield 9, 3) := by decide +kernel
theorem dX11_liesFor_9 : decode cX11_liesFor 9 = .ok (.iconst 4, 1) := by decide +kernel
theorem dX11_liesFor_10 : decode cX11_liesFor 10 = .ok (.iaload, 1) := by decide +kernel
theorem dX11_liesFor_11 : decode cX11_liesFor 11 = .ok (.if_icmp .ge 43, 3) := by decide +kernel
theorem dX11_liesFor_14 : decode cX11_liesFor 14 = .ok (.iload_n 2, 1) := by decide +kernel
theorem dX11_liesFor_15 : decode cX11_liesFor 15 = .ok (.aload_n 0, 1) := by decide +kernel
theorem dX11_liesFor_16 : decode cX11_liesFor 16 = .ok (.getfield 40, 3) := by decide +kernel
theorem dX11_liesFor_19 : decode cX11_liesFor 19 = .ok (.iload_n 3, 1) := by decide +kernel
theorem dX11_liesFor_20 : decode cX11_liesFor 20 = .ok (.iaload, 1) := by decide +kernel
theorem dX11_liesFor_21 : decode cX11_liesFor 21 = .ok (.iload_n 1, 1) := by decide +kernel
theorem dX11_liesFor_22 : decode cX11_liesFor 22 = .ok (.if_icmp .eq 23, 3) := by decide +kernel
theorem dX11_liesFor_25 : decode cX11_liesFor 25 = .ok (.aload_n 0, 1) := by decide +kernel
theorem dX11_liesFor_26 : decode cX11_liesFor 26 = .ok (.getfield 37, 3) := by decide +kernel
theorem dX11_liesFor_29 : decode cX11_liesFor 29 = .ok (.aload_n 0, 1) := by decide +kernel
theorem dX11_liesFor_30 : decode cX11_liesFor 30 = .ok (.getfield 40, 3) := by decide +kernel
theorem dX11_liesFor_33 : decode cX11_liesFor 33 = .ok (.iload_n 3, 1) := by decide +kernel
theorem dX11_liesFor_34 : decode cX11_liesFor 34 = .ok (.iaload, 1) := by decide +kernel
theorem dX11_liesFor_35 : decode cX11_liesFor 35 = .ok (.iaload, 1) := by decide +kernel
theorem dX11_liesFor_36 : decode cX11_liesFor 36 = .ok (.ifCond .ne 9, 3) := by decide +kernel
theorem dX11_liesFor_39 : decode cX11_liesFor 39 = .ok (.iconst 1, 1) := by decide +kernel
theorem dX11_liesFor_40 : decode cX11_liesFor 40 = .ok (.iload_n 3, 1) := by decide +kernel
theorem dX11_liesFor_41 : decode cX11_liesFor 41 = .ok (.ishl, 1) := by decide +kernel
theorem dX11_liesFor_42 : decode cX11_liesFor 42 = .ok (.goto 4, 3) := by decide +kernel
theorem dX11_liesFor_45 : decode cX11_liesFor 45 = .ok (.iconst 0, 1) := by decide +kernel
theorem dX11_liesFor_46 : decode cX11_liesFor 46 = .ok (.ior, 1) := by decide +kernel
theorem dX11_liesFor_47 : decode cX11_liesFor 47 = .ok (.istore_n 2, 1) := by decide +kernel
theorem dX11_liesFor_48 : decode cX11_liesFor 48 = .ok (.iinc 3 1, 3) := by decide +kernel
theorem dX11_liesFor_51 : decode cX11_liesFor 51 = .ok (.goto (-47), 3) := by decide +kernel
theorem dX11_liesFor_54 : decode cX11_liesFor 54 = .ok (.iload_n 2, 1) := by decide +kernel
theorem dX11_liesFor_55 : decode cX11_liesFor 55 = .ok (.ireturn, 1) := by decide +kernel
theorem dX11_lock_0 : decode cX11_lock 0 = .ok (.aload_n 0, 1) := by decide +kernel
theorem dX11_lock_1 : decode cX11_lock 1 = .ok (.iload_n 1, 1) := by decide +kernel
theorem dX11_lock_2 : decode cX11_lock 2 = .ok (.i2l, 1) := by decide +kernel
theorem dX11_lock_3 : decode cX11_lock 3 = .ok (.invokevirtual 257, 3) := by decide +kernel
theorem dX11_lock_6 : decode cX11_lock 6 = .ok (.ifCond .eq 13, 3) := by decide +kernel
theorem dX11_lock_9 : decode cX11_lock 9 = .ok (.iload_n 2, 1) := by decide +kernel
theorem dX11_lock_10 : decode cX11_lock 10 = .ok (.i2l, 1) := by decide +kernel
theorem dX11_lock_11 : decode cX11_lock 11 = .ok (.lconst 0, 1) := by decide +kernel
theorem dX11_lock_12 : decode cX11_lock 12 = .ok (.lconst 1, 1) := by decide +kernel
theorem dX11_lock_13 : decode cX11_lock 13 = .ok (.invokestatic 94, 3) := by decide +kernel
theorem dX11_lock_16 : decode cX11_lock 16 = .ok (.ifCond .ne 6, 3) := by decide +kernel
theorem dX11_lock_19 : decode cX11_lock 19 = .ok (.bipush (-2), 2) := by decide +kernel
theorem dX11_lock_21 : decode cX11_lock 21 = .ok (.ireturn, 1) := by decide +kernel
theorem dX11_lock_22 : decode cX11_lock 22 = .ok (.aload_n 0, 1) := by decide +kernel
theorem dX11_lock_23 : decode cX11_lock 23 = .ok (.invokevirtual 250, 3) := by decide +kernel
theorem dX11_lock_26 : decode cX11_lock 26 = .ok (.aload_n 0, 1) := by decide +kernel
theorem dX11_lock_27 : decode cX11_lock 27 = .ok (.iconst 4, 1) := by decide +kernel
theorem dX11_lock_28 : decode cX11_lock 28 = .ok (.iload_n 1, 1) := by decide +kernel
theorem dX11_lock_29 : decode cX11_lock 29 = .ok (.iload_n 2, 1) := by decide +kernel
theorem dX11_lock_30 : decode cX11_lock 30 = .ok (.iconst 0, 1) := by decide +kernel
theorem dX11_lock_31 : decode cX11_lock 31 = .ok (.invokevirtual 285, 3) := by decide +kernel
theorem dX11_lock_34 : decode cX11_lock 34 = .ok (.ifCond .eq 12, 3) := by decide +kernel
theorem dX11_lock_37 : decode cX11_lock 37 = .ok (.aload_n 0, 1) := by decide +kernel
theorem dX11_lock_38 : decode cX11_lock 38 = .ok (.getfield 37, 3) := by decide +kernel
theorem dX11_lock_41 : decode cX11_lock 41 = .ok (.iload_n 1, 1) := by decide +kernel
theorem dX11_lock_42 : decode cX11_lock 42 = .ok (.iaload, 1) := by decide +kernel
theorem dX11_lock_43 : decode cX11_lock 43 = .ok (.goto 5, 3) := by decide +kernel
theorem dX11_lock_46 : decode cX11_lock 46 = .ok (.bipush (-5), 2) := by decide +kernel
theorem dX11_lock_48 : decode cX11_lock 48 = .ok (.ireturn, 1) := by decide +kernel
theorem dX11_lossOf_0 : decode cX11_lossOf 0 = .ok (.iconst 0, 1) := by decide +kernel
theorem dX11_lossOf_1 : decode cX11_lossOf 1 = .ok (.istore_n 2, 1) := by decide +kernel
theorem dX11_lossOf_2 : decode cX11_lossOf 2 = .ok (.iconst 0, 1) := by decide +kernel
theorem dX11_lossOf_3 : decode cX11_lossOf 3 = .ok (.istore_n 3, 1) := by decide +kernel
theorem dX11_lossOf_4 : decode cX11_lossOf 4 = .ok (.iload_n 3, 1) := by decide +kernel
theorem dX11_lossOf_5 : decode cX11_lossOf 5 = .ok (.aload_n 0, 1) := by decide +kernel
theorem dX11_lossOf_6 : decode cX11_lossOf 6 = .ok (.getfield 9, 3) := by decide +kernel
theorem dX11_lossOf_9 : decode cX11_lossOf 9 = .ok (.iconst 4, 1) := by decide +kernel
theorem dX11_lossOf_10 : decode cX11_lossOf 10 = .ok (.iaload, 1) := by decide +kernel
theorem dX11_lossOf_11 : decode cX11_lossOf 11 = .ok (.if_icmp .ge 34, 3) := by decide +kernel
theorem dX11_lossOf_14 : decode cX11_lossOf 14 = .ok (.aload_n 0, 1) := by decide +kernel
theorem dX11_lossOf_15 : decode cX11_lossOf 15 = .ok (.getfield 40, 3) := by decide +kernel
theorem dX11_lossOf_18 : decode cX11_lossOf 18 = .ok (.iload_n 3, 1) := by decide +kernel
theorem dX11_lossOf_19 : decode cX11_lossOf 19 = .ok (.iaload, 1) := by decide +kernel
theorem dX11_lossOf_20 : decode cX11_lossOf 20 = .ok (.iload_n 1, 1) := by decide +kernel
theorem dX11_lossOf_21 : decode cX11_lossOf 21 = .ok (.if_icmp .ne 16, 3) := by decide +kernel
theorem dX11_lossOf_24 : decode cX11_lossOf 24 = .ok (.iload_n 2, 1) := by decide +kernel
theorem dX11_lossOf_25 : decode cX11_lossOf 25 = .ok (.aload_n 0, 1) := by decide +kernel
theorem dX11_lossOf_26 : decode cX11_lossOf 26 = .ok (.iload_n 1, 1) := by decide +kernel
theorem dX11_lossOf_27 : decode cX11_lossOf 27 = .ok (.iload_n 3, 1) := by decide +kernel
theorem dX11_lossOf_28 : decode cX11_lossOf 28 = .ok (.invokevirtual 102, 3) := by decide +kernel
theorem dX11_lossOf_31 : decode cX11_lossOf 31 = .ok (.invokestatic 368, 3) := by decide +kernel
theorem dX11_lossOf_34 : decode cX11_lossOf 34 = .ok (.goto 4, 3) := by decide +kernel
theorem dX11_lossOf_37 : decode cX11_lossOf 37 = .ok (.iload_n 2, 1) := by decide +kernel
theorem dX11_lossOf_38 : decode cX11_lossOf 38 = .ok (.istore_n 2, 1) := by decide +kernel
theorem dX11_lossOf_39 : decode cX11_lossOf 39 = .ok (.iinc 3 1, 3) := by decide +kernel
theorem dX11_lossOf_42 : decode cX11_lossOf 42 = .ok (.goto (-38), 3) := by decide +kernel
theorem dX11_lossOf_45 : decode cX11_lossOf 45 = .ok (.iload_n 2, 1) := by decide +kernel
theorem dX11_lossOf_46 : decode cX11_lossOf 46 = .ok (.ireturn, 1) := by decide +kernel
theorem dX11_luck_0 : decode cX11_luck 0 = .ok (.aload_n 0, 1) := by decide +kernel
theorem dX11_luck_1 : decode cX11_luck 1 = .ok (.iload_n 1, 1) := by decide +kernel
theorem dX11_luck_2 : decode cX11_luck 2 = .ok (.iload_n 3, 1) := by decide +kernel
theorem dX11_luck_3 : decode cX11_luck 3 = .ok (.invokevirtual 441, 3) := by decide +kernel
theorem dX11_luck_6 : decode cX11_luck 6 = .ok (.ifCond .eq 35, 3) := by decide +kernel
theorem dX11_luck_9 : decode cX11_luck 9 = .ok (.iload_n 2, 1) := by decide +kernel
theorem dX11_luck_10 : decode cX11_luck 10 = .ok (.i2l, 1) := by decide +kernel
theorem dX11_luck_11 : decode cX11_luck 11 = .ok (.lconst 1, 1) := by decide +kernel
theorem dX11_luck_12 : decode cX11_luck 12 = .ok (.ldc2_w 448, 3) := by decide +kernel
theorem dX11_luck_15 : decode cX11_luck 15 = .ok (.invokestatic 94, 3) := by decide +kernel
theorem dX11_luck_18 : decode cX11_luck 18 = .ok (.ifCond .eq 23, 3) := by decide +kernel
theorem dX11_luck_21 : decode cX11_luck 21 = .ok (.aload_n 0, 1) := by decide +kernel
theorem dX11_luck_22 : decode cX11_luck 22 = .ok (.iload 4, 2) := by decide +kernel
theorem dX11_luck_24 : decode cX11_luck 24 = .ok (.i2l, 1) := by decide +kernel
theorem dX11_luck_25 : decode cX11_luck 25 = .ok (.invokevirtual 266, 3) := by decide +kernel
theorem dX11_luck_28 : decode cX11_luck 28 = .ok (.ifCond .eq 13, 3) := by decide +kernel
theorem dX11_luck_31 : decode cX11_luck 31 = .ok (.aload_n 0, 1) := by decide +kernel
theorem dX11_luck_32 : decode cX11_luck 32 = .ok (.iload 5, 2) := by decide +kernel
theorem dX11_luck_34 : decode cX11_luck 34 = .ok (.i2l, 1) := by decide +kernel
theorem dX11_luck_35 : decode cX11_luck 35 = .ok (.invokevirtual 257, 3) := by decide +kernel
theorem dX11_luck_38 : decode cX11_luck 38 = .ok (.ifCond .ne 6, 3) := by decide +kernel
theorem dX11_luck_41 : decode cX11_luck 41 = .ok (.bipush (-2), 2) := by decide +kernel
theorem dX11_luck_43 : decode cX11_luck 43 = .ok (.ireturn, 1) := by decide +kernel
theorem dX11_luck_44 : decode cX11_luck 44 = .ok (.iconst 0, 1) := by decide +kernel
theorem dX11_luck_45 : decode cX11_luck 45 = .ok (.istore 6, 2) := by decide +kernel
theorem dX11_luck_47 : decode cX11_luck 47 = .ok (.iconst 0, 1) := by decide +kernel
theorem dX11_luck_48 : decode cX11_luck 48 = .ok (.istore 7, 2) := by decide +kernel
theorem dX11_luck_50 : decode cX11_luck 50 = .ok (.iload 7, 2) := by decide +kernel
theorem dX11_luck_52 : decode cX11_luck 52 = .ok (.iload_n 2, 1) := by decide +kernel
theorem dX11_luck_53 : decode cX11_luck 53 = .ok (.if_icmp .ge 43, 3) := by decide +kernel
theorem dX11_luck_56 : decode cX11_luck 56 = .ok (.aload_n 0, 1) := by decide +kernel
theorem dX11_luck_57 : decode cX11_luck 57 = .ok (.iload_n 1, 1) := by decide +kernel
theorem dX11_luck_58 : decode cX11_luck 58 = .ok (.i2l, 1) := by decide +kernel
theorem dX11_luck_59 : decode cX11_luck 59 = .ok (.iload 7, 2) := by decide +kernel
theorem dX11_luck_61 : decode cX11_luck 61 = .ok (.i2l, 1) := by decide +kernel
theorem dX11_luck_62 : decode cX11_luck 62 = .ok (.ladd, 1) := by decide +kernel
theorem dX11_luck_63 : decode cX11_luck 63 = .ok (.iload_n 3, 1) := by decide +kernel
theorem dX11_luck_64 : decode cX11_luck 64 = .ok (.invokevirtual 444, 3) := by decide +kernel
theorem dX11_luck_67 : decode cX11_luck 67 = .ok (.pop, 1) := by decide +kernel
theorem dX11_luck_68 : decode cX11_luck 68 = .ok (.iload 6, 2) := by decide +kernel
theorem dX11_luck_70 : decode cX11_luck 70 = .ok (.aload_n 0, 1) := by decide +kernel
theorem dX11_luck_71 : decode cX11_luck 71 = .ok (.getfield 40, 3) := by decide +kernel
theorem dX11_luck_74 : decode cX11_luck 74 = .ok (.iload 4, 2) := by decide +kernel
theorem dX11_luck_76 : decode cX11_luck 76 = .ok (.iaload, 1) := by decide +kernel
theorem dX11_luck_77 : decode cX11_luck 77 = .ok (.iload 5, 2) := by decide +kernel
theorem dX11_luck_79 : decode cX11_luck 79 = .ok (.if_icmp .ne 7, 3) := by decide +kernel
theorem dX11_luck_82 : decode cX11_luck 82 = .ok (.iconst 1, 1) := by decide +kernel
theorem dX11_luck_83 : decode cX11_luck 83 = .ok (.goto 4, 3) := by decide +kernel
theorem dX11_luck_86 : decode cX11_luck 86 = .ok (.iconst 0, 1) := by decide +kernel
theorem dX11_luck_87 : decode cX11_luck 87 = .ok (.iadd, 1) := by decide +kernel
theorem dX11_luck_88 : decode cX11_luck 88 = .ok (.istore 6, 2) := by decide +kernel
theorem dX11_luck_90 : decode cX11_luck 90 = .ok (.iinc 7 1, 3) := by decide +kernel
theorem dX11_luck_93 : decode cX11_luck 93 = .ok (.goto (-43), 3) := by decide +kernel
theorem dX11_luck_96 : decode cX11_luck 96 = .ok (.iload 6, 2) := by decide +kernel
theorem dX11_luck_98 : decode cX11_luck 98 = .ok (.ireturn, 1) := by decide +kernel
theorem dX11_monday_0 : decode cX11_monday 0 = .ok (.aload_n 0, 1) := by decide +kernel
theorem dX11_monday_1 : decode cX11_monday 1 = .ok (.invokevirtual 295, 3) := by decide +kernel
theorem dX11_monday_4 : decode cX11_monday 4 = .ok (.ifCond .ne 6, 3) := by decide +kernel
theorem dX11_monday_7 : decode cX11_monday 7 = .ok (.bipush (-2), 2) := by decide +kernel
theorem dX11_monday_9 : decode cX11_monday 9 = .ok (.ireturn, 1) := by decide +kernel
theorem dX11_monday_10 : decode cX11_monday 10 = .ok (.aload_n 0, 1) := by decide +kernel
theorem dX11_monday_11 : decode cX11_monday 11 = .ok (.invokevirtual 250, 3) := by decide +kernel
theorem dX11_monday_14 : decode cX11_monday 14 = .ok (.iconst (-1), 1) := by decide +kernel
theorem dX11_monday_15 : decode cX11_monday 15 = .ok (.istore_n 1, 1) := by decide +kernel
theorem dX11_monday_16 : decode cX11_monday 16 = .ok (.iconst 0, 1) := by decide +kernel
theorem dX11_monday_17 : decode cX11_monday 17 = .ok (.istore_n 2, 1) := by decide +kernel
theorem dX11_monday_18 : decode cX11_monday 18 = .ok (.iconst 0, 1) := by decide +kernel
theorem dX11_monday_19 : decode cX11_monday 19 = .ok (.istore_n 3, 1) := by decide +kernel
theorem dX11_monday_20 : decode cX11_monday 20 = .ok (.iload_n 3, 1) := by decide +kernel
theorem dX11_monday_21 : decode cX11_monday 21 = .ok (.bipush 60, 2) := by decide +kernel
theorem dX11_monday_23 : decode cX11_monday 23 = .ok (.if_icmp .gt 35, 3) := by decide +kernel
theorem dX11_monday_26 : decode cX11_monday 26 = .ok (.aload_n 0, 1) := by decide +kernel
theorem dX11_monday_27 : decode cX11_monday 27 = .ok (.iload_n 3, 1) := by decide +kernel
theorem dX11_monday_28 : decode cX11_monday 28 = .ok (.invokevirtual 331, 3) := by decide +kernel
theorem dX11_monday_31 : decode cX11_monday 31 = .ok (.invokestatic 292, 3) := by decide +kernel
theorem dX11_monday_34 : decode cX11_monday 34 = .ok (.iload_n 2, 1) := by decide +kernel
theorem dX11_monday_35 : decode cX11_monday 35 = .ok (.if_icmp .gt 6, 3) := by decide +kernel
theorem dX11_monday_38 : decode cX11_monday 38 = .ok (.goto 14, 3) := by decide +kernel
theorem dX11_monday_41 : decode cX11_monday 41 = .ok (.aload_n 0, 1) := by decide +kernel
theorem dX11_monday_42 : decode cX11_monday 42 = .ok (.iload_n 3, 1) := by decide +kernel
theorem dX11_monday_43 : decode cX11_monday 43 = .ok (.invokevirtual 331, 3) := by decide +kernel
theorem dX11_monday_46 : decode cX11_monday 46 = .ok (.invokestatic 292, 3) := by decide +kernel
theorem dX11_monday_49 : decode cX11_monday 49 = .ok (.istore_n 2, 1) := by decide +kernel
theorem dX11_monday_50 : decode cX11_monday 50 = .ok (.iload_n 3, 1) := by decide +kernel
theorem dX11_monday_51 : decode cX11_monday 51 = .ok (.istore_n 1, 1) := by decide +kernel
theorem dX11_monday_52 : decode cX11_monday 52 = .ok (.iinc 3 1, 3) := by decide +kernel
theorem dX11_monday_55 : decode cX11_monday 55 = .ok (.goto (-35), 3) := by decide +kernel
theorem dX11_monday_58 : decode cX11_monday 58 = .ok (.iload_n 1, 1) := by decide +kernel
theorem dX11_monday_59 : decode cX11_monday 59 = .ok (.ireturn, 1) := by decide +kernel
theorem dX11_mostWanted_0 : decode cX11_mostWanted 0 = .ok (.iconst (-1), 1) := by decide +kernel
theorem dX11_mostWanted_1 : decode cX11_mostWanted 1 = .ok (.istore_n 3, 1) := by decide +kernel
theorem dX11_mostWanted_2 : decode cX11_mostWanted 2 = .ok (.iconst 0, 1) := by decide +kernel
theorem dX11_mostWanted_3 : decode cX11_mostWanted 3 = .ok (.istore 4, 2) := by decide +kernel
theorem dX11_mostWanted_5 : decode cX11_mostWanted 5 = .ok (.iload 4, 2) := by decide +kernel
theorem dX11_mostWanted_7 : decode cX11_mostWanted 7 = .ok (.aload_n 0, 1) := by decide +kernel
theorem dX11_mostWanted_8 : decode cX11_mostWanted 8 = .ok (.getfield 9, 3) := by decide +kernel
theorem dX11_mostWanted_11 : decode cX11_mostWanted 11 = .ok (.iconst 4, 1) := by decide +kernel
theorem dX11_mostWanted_12 : decode cX11_mostWanted 12 = .ok (.iaload, 1) := by decide +kernel
theorem dX11_mostWanted_13 : decode cX11_mostWanted 13 = .ok (.if_icmp .ge 53, 3) := by decide +kernel
theorem dX11_mostWanted_16 : decode cX11_mostWanted 16 = .ok (.iload_n 2, 1) := by decide +kernel
theorem dX11_mostWanted_17 : decode cX11_mostWanted 17 = .ok (.iload 4, 2) := by decide +kernel
theorem dX11_mostWanted_19 : decode cX11_mostWanted 19 = .ok (.invokestatic 344, 3) := by decide +kernel
theorem dX11_mostWanted_22 : decode cX11_mostWanted 22 = .ok (.iconst 1, 1) := by decide +kernel
theorem dX11_mostWanted_23 : decode cX11_mostWanted 23 = .ok (.if_icmp .ne 37, 3) := by decide +kernel
theorem dX11_mostWanted_26 : decode cX11_mostWanted 26 = .ok (.aload_n 0, 1) := by decide +kernel
theorem dX11_mostWanted_27 : decode cX11_mostWanted 27 = .ok (.iload_n 1, 1) := by decide +kernel
theorem dX11_mostWanted_28 : decode cX11_mostWanted 28 = .ok (.iload 4, 2) := by decide +kernel
theorem dX11_mostWanted_30 : decode cX11_mostWanted 30 = .ok (.invokevirtual 102, 3) := by decide +kernel
theorem dX11_mostWanted_33 : decode cX11_mostWanted 33 = .ok (.ifCond .le 27, 3) := by decide +kernel
theorem dX11_mostWanted_36 : decode cX11_mostWanted 36 = .ok (.iload_n 3, 1) := by decide +kernel
theorem dX11_mostWanted_37 : decode cX11_mostWanted 37 = .ok (.iconst (-1), 1) := by decide +kernel
theorem dX11_mostWanted_38 : decode cX11_mostWanted 38 = .ok (.if_icmp .eq 19, 3) := by decide +kernel
theorem dX11_mostWanted_41 : decode cX11_mostWanted 41 = .ok (.aload_n 0, 1) := by decide +kernel
theorem dX11_mostWanted_42 : decode cX11_mostWanted 42 = .ok (.iload_n 1, 1) := by decide +kernel
theorem dX11_mostWanted_43 : decode cX11_mostWanted 43 = .ok (.iload 4, 2) := by decide +kernel
theorem dX11_mostWanted_45 : decode cX11_mostWanted 45 = .ok (.invokevirtual 102, 3) := by decide +kernel
theorem dX11_mostWanted_48 : decode cX11_mostWanted 48 = .ok (.aload_n 0, 1) := by decide +kernel
theorem dX11_mostWanted_49 : decode cX11_mostWanted 49 = .ok (.iload_n 1, 1) := by decide +kernel
theorem dX11_mostWanted_50 : decode cX11_mostWanted 50 = .ok (.iload_n 3, 1) := by decide +kernel
theorem dX11_mostWanted_51 : decode cX11_mostWanted 51 = .ok (.invokevirtual 102, 3) := by decide +kernel
theorem dX11_mostWanted_54 : decode cX11_mostWanted 54 = .ok (.if_icmp .le 6, 3) := by decide +kernel
theorem dX11_mostWanted_57 : decode cX11_mostWanted 57 = .ok (.iload 4, 2) := by decide +kernel
theorem dX11_mostWanted_59 : decode cX11_mostWanted 59 = .ok (.istore_n 3, 1) := by decide +kernel
theorem dX11_mostWanted_60 : decode cX11_mostWanted 60 = .ok (.iinc 4 1, 3) := by decide +kernel
theorem dX11_mostWanted_63 : decode cX11_mostWanted 63 = .ok (.goto (-58), 3) := by decide +kernel
theorem dX11_mostWanted_66 : decode cX11_mostWanted 66 = .ok (.iload_n 3, 1) := by decide +kernel
theorem dX11_mostWanted_67 : decode cX11_mostWanted 67 = .ok (.ireturn, 1) := by decide +kernel
theorem dX11_needs_0 : decode cX11_needs 0 = .ok (.aload_n 0, 1) := by decide +kernel
theorem dX11_needs_1 : decode cX11_needs 1 = .ok (.aload_n 1, 1) := by decide +kernel
theorem dX11_needs_2 : decode cX11_needs 2 = .ok (.invokevirtual 165, 3) := by decide +kernel
theorem dX11_needs_5 : decode cX11_needs 5 = .ok (.ifCond .ne 8, 3) := by decide +kernel
theorem dX11_needs_8 : decode cX11_needs 8 = .ok (.aload_n 0, 1) := by decide +kernel
theorem dX11_needs_9 : decode cX11_needs 9 = .ok (.iconst 1, 1) := by decide +kernel
theorem dX11_needs_10 : decode cX11_needs 10 = .ok (.invokevirtual 168, 3) := by decide +kernel
theorem dX11_needs_13 : decode cX11_needs 13 = .ok (.return_, 1) := by decide +kernel
theorem dX11_needs__0 : decode cX11_needs_ 0 = .ok (.aload_n 0, 1) := by decide +kernel
theorem dX11_needs__1 : decode cX11_needs_ 1 = .ok (.iload_n 1, 1) := by decide +kernel
theorem dX11_needs__2 : decode cX11_needs_ 2 = .ok (.i2l, 1) := by decide +kernel
theorem dX11_needs__3 : decode cX11_needs_ 3 = .ok (.invokevirtual 257, 3) := by decide +kernel
theorem dX11_needs__6 : decode cX11_needs_ 6 = .ok (.ifCond .ne 6, 3) := by decide +kernel
theorem dX11_needs__9 : decode cX11_needs_ 9 = .ok (.bipush (-2), 2) := by decide +kernel
theorem dX11_needs__11 : decode cX11_needs_ 11 = .ok (.ireturn, 1) := by decide +kernel
theorem dX11_needs__12 : decode cX11_needs_ 12 = .ok (.aload_n 0, 1) := by decide +kernel
theorem dX11_needs__13 : decode cX11_needs_ 13 = .ok (.invokevirtual 250, 3) := by decide +kernel
theorem dX11_needs__16 : decode cX11_needs_ 16 = .ok (.aload_n 0, 1) := by decide +kernel
theorem dX11_needs__17 : decode cX11_needs_ 17 = .ok (.getfield 34, 3) := by decide +kernel
theorem dX11_needs__20 : decode cX11_needs_ 20 = .ok (.iload_n 1, 1) := by decide +kernel
theorem dX11_needs__21 : decode cX11_needs_ 21 = .ok (.ldc_w 334, 3) := by decide +kernel
theorem dX11_needs__24 : decode cX11_needs_ 24 = .ok (.iastore, 1) := by decide +kernel
theorem dX11_needs__25 : decode cX11_needs_ 25 = .ok (.aload_n 0, 1) := by decide +kernel
theorem dX11_needs__26 : decode cX11_needs_ 26 = .ok (.iload_n 1, 1) := by decide +kernel
theorem dX11_needs__27 : decode cX11_needs_ 27 = .ok (.putfield 214, 3) := by decide +kernel
theorem dX11_needs__30 : decode cX11_needs_ 30 = .ok (.aload_n 0, 1) := by decide +kernel
theorem dX11_needs__31 : decode cX11_needs_ 31 = .ok (.ldc_w 334, 3) := by decide +kernel
theorem dX11_needs__34 : decode cX11_needs_ 34 = .ok (.putfield 241, 3) := by decide +kernel
theorem dX11_needs__37 : decode cX11_needs_ 37 = .ok (.iconst 0, 1) := by decide +kernel
