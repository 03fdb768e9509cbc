theorem dX11_needs__38 : decode cX11_needs_ 38 = .ok (.istore_n 2, 1) := by decide +kernel
theorem dX11_needs__39 : decode cX11_needs_ 39 = .ok (.iload_n 2, 1) := by decide +kernel
theorem dX11_needs__40 : decode cX11_needs_ 40 = .ok (.bipush 60, 2) := by decide +kernel
theorem dX11_needs__42 : decode cX11_needs_ 42 = .ok (.if_icmp .ge 14, 3) := by decide +kernel
theorem dX11_needs__45 : decode cX11_needs_ 45 = .ok (.aload_n 0, 1) := by decide +kernel
theorem dX11_needs__46 : decode cX11_needs_ 46 = .ok (.invokevirtual 232, 3) := by decide +kernel
theorem dX11_needs__49 : decode cX11_needs_ 49 = .ok (.pop, 1) := by decide +kernel
theorem dX11_needs__50 : decode cX11_needs_ 50 = .ok (.iinc 2 1, 3) := by decide +kernel
theorem dX11_needs__53 : decode cX11_needs_ 53 = .ok (.goto (-14), 3) := by decide +kernel
theorem dX11_needs__56 : decode cX11_needs_ 56 = .ok (.ldc_w 334, 3) := by decide +kernel
theorem dX11_needs__59 : decode cX11_needs_ 59 = .ok (.aload_n 0, 1) := by decide +kernel
theorem dX11_needs__60 : decode cX11_needs_ 60 = .ok (.getfield 241, 3) := by decide +kernel
theorem dX11_needs__63 : decode cX11_needs_ 63 = .ok (.isub, 1) := by decide +kernel
theorem dX11_needs__64 : decode cX11_needs_ 64 = .ok (.ireturn, 1) := by decide +kernel
theorem dX11_net_0 : decode cX11_net 0 = .ok (.aload_n 0, 1) := by decide +kernel
theorem dX11_net_1 : decode cX11_net 1 = .ok (.iload_n 1, 1) := by decide +kernel
theorem dX11_net_2 : decode cX11_net 2 = .ok (.i2l, 1) := by decide +kernel
theorem dX11_net_3 : decode cX11_net 3 = .ok (.invokevirtual 257, 3) := by decide +kernel
theorem dX11_net_6 : decode cX11_net 6 = .ok (.ifCond .ne 7, 3) := by decide +kernel
theorem dX11_net_9 : decode cX11_net 9 = .ok (.ldc_w 275, 3) := by decide +kernel
theorem dX11_net_12 : decode cX11_net 12 = .ok (.ireturn, 1) := by decide +kernel
theorem dX11_net_13 : decode cX11_net 13 = .ok (.aload_n 0, 1) := by decide +kernel
theorem dX11_net_14 : decode cX11_net 14 = .ok (.invokevirtual 250, 3) := by decide +kernel
theorem dX11_net_17 : decode cX11_net 17 = .ok (.aload_n 0, 1) := by decide +kernel
theorem dX11_net_18 : decode cX11_net 18 = .ok (.iload_n 1, 1) := by decide +kernel
theorem dX11_net_19 : decode cX11_net 19 = .ok (.invokevirtual 276, 3) := by decide +kernel
theorem dX11_net_22 : decode cX11_net 22 = .ok (.ireturn, 1) := by decide +kernel
theorem dX11_netOf_0 : decode cX11_netOf 0 = .ok (.aload_n 0, 1) := by decide +kernel
theorem dX11_netOf_1 : decode cX11_netOf 1 = .ok (.getfield 34, 3) := by decide +kernel
theorem dX11_netOf_4 : decode cX11_netOf 4 = .ok (.iload_n 1, 1) := by decide +kernel
theorem dX11_netOf_5 : decode cX11_netOf 5 = .ok (.iaload, 1) := by decide +kernel
theorem dX11_netOf_6 : decode cX11_netOf 6 = .ok (.istore_n 2, 1) := by decide +kernel
theorem dX11_netOf_7 : decode cX11_netOf 7 = .ok (.iconst 0, 1) := by decide +kernel
theorem dX11_netOf_8 : decode cX11_netOf 8 = .ok (.istore_n 3, 1) := by decide +kernel
theorem dX11_netOf_9 : decode cX11_netOf 9 = .ok (.iload_n 3, 1) := by decide +kernel
theorem dX11_netOf_10 : decode cX11_netOf 10 = .ok (.aload_n 0, 1) := by decide +kernel
theorem dX11_netOf_11 : decode cX11_netOf 11 = .ok (.getfield 9, 3) := by decide +kernel
theorem dX11_netOf_14 : decode cX11_netOf 14 = .ok (.iconst 4, 1) := by decide +kernel
theorem dX11_netOf_15 : decode cX11_netOf 15 = .ok (.iaload, 1) := by decide +kernel
theorem dX11_netOf_16 : decode cX11_netOf 16 = .ok (.if_icmp .ge 32, 3) := by decide +kernel
theorem dX11_netOf_19 : decode cX11_netOf 19 = .ok (.iload_n 2, 1) := by decide +kernel
theorem dX11_netOf_20 : decode cX11_netOf 20 = .ok (.aload_n 0, 1) := by decide +kernel
theorem dX11_netOf_21 : decode cX11_netOf 21 = .ok (.getfield 40, 3) := by decide +kernel
theorem dX11_netOf_24 : decode cX11_netOf 24 = .ok (.iload_n 3, 1) := by decide +kernel
theorem dX11_netOf_25 : decode cX11_netOf 25 = .ok (.iaload, 1) := by decide +kernel
theorem dX11_netOf_26 : decode cX11_netOf 26 = .ok (.iload_n 1, 1) := by decide +kernel
theorem dX11_netOf_27 : decode cX11_netOf 27 = .ok (.if_icmp .ne 12, 3) := by decide +kernel
theorem dX11_netOf_30 : decode cX11_netOf 30 = .ok (.aload_n 0, 1) := by decide +kernel
theorem dX11_netOf_31 : decode cX11_netOf 31 = .ok (.iload_n 1, 1) := by decide +kernel
theorem dX11_netOf_32 : decode cX11_netOf 32 = .ok (.iload_n 3, 1) := by decide +kernel
theorem dX11_netOf_33 : decode cX11_netOf 33 = .ok (.invokevirtual 269, 3) := by decide +kernel
theorem dX11_netOf_36 : decode cX11_netOf 36 = .ok (.goto 4, 3) := by decide +kernel
theorem dX11_netOf_39 : decode cX11_netOf 39 = .ok (.iconst 0, 1) := by decide +kernel
theorem dX11_netOf_40 : decode cX11_netOf 40 = .ok (.iadd, 1) := by decide +kernel
theorem dX11_netOf_41 : decode cX11_netOf 41 = .ok (.istore_n 2, 1) := by decide +kernel
theorem dX11_netOf_42 : decode cX11_netOf 42 = .ok (.iinc 3 1, 3) := by decide +kernel
theorem dX11_netOf_45 : decode cX11_netOf 45 = .ok (.goto (-36), 3) := by decide +kernel
theorem dX11_netOf_48 : decode cX11_netOf 48 = .ok (.iconst 0, 1) := by decide +kernel
theorem dX11_netOf_49 : decode cX11_netOf 49 = .ok (.istore_n 3, 1) := by decide +kernel
theorem dX11_netOf_50 : decode cX11_netOf 50 = .ok (.iload_n 3, 1) := by decide +kernel
theorem dX11_netOf_51 : decode cX11_netOf 51 = .ok (.aload_n 0, 1) := by decide +kernel
theorem dX11_netOf_52 : decode cX11_netOf 52 = .ok (.getfield 208, 3) := by decide +kernel
theorem dX11_netOf_55 : decode cX11_netOf 55 = .ok (.if_icmp .ge 59, 3) := by decide +kernel
theorem dX11_netOf_58 : decode cX11_netOf 58 = .ok (.aload_n 0, 1) := by decide +kernel
theorem dX11_netOf_59 : decode cX11_netOf 59 = .ok (.iload_n 3, 1) := by decide +kernel
theorem dX11_netOf_60 : decode cX11_netOf 60 = .ok (.invokevirtual 253, 3) := by decide +kernel
theorem dX11_netOf_63 : decode cX11_netOf 63 = .ok (.ifCond .eq 45, 3) := by decide +kernel
theorem dX11_netOf_66 : decode cX11_netOf 66 = .ok (.iload_n 2, 1) := by decide +kernel
theorem dX11_netOf_67 : decode cX11_netOf 67 = .ok (.aload_n 0, 1) := by decide +kernel
theorem dX11_netOf_68 : decode cX11_netOf 68 = .ok (.getfield 49, 3) := by decide +kernel
theorem dX11_netOf_71 : decode cX11_netOf 71 = .ok (.iload_n 3, 1) := by decide +kernel
theorem dX11_netOf_72 : decode cX11_netOf 72 = .ok (.iaload, 1) := by decide +kernel
theorem dX11_netOf_73 : decode cX11_netOf 73 = .ok (.iload_n 1, 1) := by decide +kernel
theorem dX11_netOf_74 : decode cX11_netOf 74 = .ok (.if_icmp .ne 11, 3) := by decide +kernel
theorem dX11_netOf_77 : decode cX11_netOf 77 = .ok (.aload_n 0, 1) := by decide +kernel
theorem dX11_netOf_78 : decode cX11_netOf 78 = .ok (.iload_n 3, 1) := by decide +kernel
theorem dX11_netOf_79 : decode cX11_netOf 79 = .ok (.invokevirtual 238, 3) := by decide +kernel
theorem dX11_netOf_82 : decode cX11_netOf 82 = .ok (.goto 4, 3) := by decide +kernel
theorem dX11_netOf_85 : decode cX11_netOf 85 = .ok (.iconst 0, 1) := by decide +kernel
theorem dX11_netOf_86 : decode cX11_netOf 86 = .ok (.aload_n 0, 1) := by decide +kernel
theorem dX11_netOf_87 : decode cX11_netOf 87 = .ok (.getfield 43, 3) := by decide +kernel
theorem dX11_netOf_90 : decode cX11_netOf 90 = .ok (.iload_n 3, 1) := by decide +kernel
theorem dX11_netOf_91 : decode cX11_netOf 91 = .ok (.iaload, 1) := by decide +kernel
theorem dX11_netOf_92 : decode cX11_netOf 92 = .ok (.iload_n 1, 1) := by decide +kernel
theorem dX11_netOf_93 : decode cX11_netOf 93 = .ok (.if_icmp .ne 11, 3) := by decide +kernel
theorem dX11_netOf_96 : decode cX11_netOf 96 = .ok (.aload_n 0, 1) := by decide +kernel
theorem dX11_netOf_97 : decode cX11_netOf 97 = .ok (.iload_n 3, 1) := by decide +kernel
theorem dX11_netOf_98 : decode cX11_netOf 98 = .ok (.invokevirtual 238, 3) := by decide +kernel
theorem dX11_netOf_101 : decode cX11_netOf 101 = .ok (.goto 4, 3) := by decide +kernel
theorem dX11_netOf_104 : decode cX11_netOf 104 = .ok (.iconst 0, 1) := by decide +kernel
theorem dX11_netOf_105 : decode cX11_netOf 105 = .ok (.isub, 1) := by decide +kernel
theorem dX11_netOf_106 : decode cX11_netOf 106 = .ok (.iadd, 1) := by decide +kernel
theorem dX11_netOf_107 : decode cX11_netOf 107 = .ok (.istore_n 2, 1) := by decide +kernel
theorem dX11_netOf_108 : decode cX11_netOf 108 = .ok (.iinc 3 1, 3) := by decide +kernel
theorem dX11_netOf_111 : decode cX11_netOf 111 = .ok (.goto (-61), 3) := by decide +kernel
theorem dX11_netOf_114 : decode cX11_netOf 114 = .ok (.iload_n 2, 1) := by decide +kernel
theorem dX11_netOf_115 : decode cX11_netOf 115 = .ok (.ireturn, 1) := by decide +kernel
theorem dX11_night_0 : decode cX11_night 0 = .ok (.aload_n 0, 1) := by decide +kernel
theorem dX11_night_1 : decode cX11_night 1 = .ok (.invokevirtual 295, 3) := by decide +kernel
theorem dX11_night_4 : decode cX11_night 4 = .ok (.ifCond .ne 6, 3) := by decide +kernel
theorem dX11_night_7 : decode cX11_night 7 = .ok (.bipush (-2), 2) := by decide +kernel
theorem dX11_night_9 : decode cX11_night 9 = .ok (.ireturn, 1) := by decide +kernel
theorem dX11_night_10 : decode cX11_night 10 = .ok (.aload_n 0, 1) := by decide +kernel
theorem dX11_night_11 : decode cX11_night 11 = .ok (.invokevirtual 250, 3) := by decide +kernel
theorem dX11_night_14 : decode cX11_night 14 = .ok (.aload_n 0, 1) := by decide +kernel
theorem dX11_night_15 : decode cX11_night 15 = .ok (.iconst 5, 1) := by decide +kernel
theorem dX11_night_16 : decode cX11_night 16 = .ok (.iconst 0, 1) := by decide +kernel
theorem dX11_night_17 : decode cX11_night 17 = .ok (.iconst 0, 1) := by decide +kernel
theorem dX11_night_18 : decode cX11_night 18 = .ok (.iconst 0, 1) := by decide +kernel
theorem dX11_night_19 : decode cX11_night 19 = .ok (.invokevirtual 285, 3) := by decide +kernel
theorem dX11_night_22 : decode cX11_night 22 = .ok (.ifCond .eq 10, 3) := by decide +kernel
theorem dX11_night_25 : decode cX11_night 25 = .ok (.aload_n 0, 1) := by decide +kernel
theorem dX11_night_26 : decode cX11_night 26 = .ok (.invokevirtual 232, 3) := by decide +kernel
theorem dX11_night_29 : decode cX11_night 29 = .ok (.goto 5, 3) := by decide +kernel
theorem dX11_night_32 : decode cX11_night 32 = .ok (.bipush (-5), 2) := by decide +kernel
theorem dX11_night_34 : decode cX11_night 34 = .ok (.ireturn, 1) := by decide +kernel
theorem dX11_night0_0 : decode cX11_night0 0 = .ok (.iconst 0, 1) := by decide +kernel
theorem dX11_night0_1 : decode cX11_night0 1 = .ok (.istore_n 1, 1) := by decide +kernel
theorem dX11_night0_2 : decode cX11_night0 2 = .ok (.aload_n 0, 1) := by decide +kernel
theorem dX11_night0_3 : decode cX11_night0 3 = .ok (.dup, 1) := by decide +kernel
theorem dX11_night0_4 : decode cX11_night0 4 = .ok (.getfield 211, 3) := by decide +kernel
theorem dX11_night0_7 : decode cX11_night0 7 = .ok (.iconst 1, 1) := by decide +kernel
theorem dX11_night0_8 : decode cX11_night0 8 = .ok (.iadd, 1) := by decide +kernel
theorem dX11_night0_9 : decode cX11_night0 9 = .ok (.putfield 211, 3) := by decide +kernel
theorem dX11_night0_12 : decode cX11_night0 12 = .ok (.iconst 0, 1) := by decide +kernel
theorem dX11_night0_13 : decode cX11_night0 13 = .ok (.istore_n 2, 1) := by decide +kernel
theorem dX11_night0_14 : decode cX11_night0 14 = .ok (.iload_n 2, 1) := by decide +kernel
theorem dX11_night0_15 : decode cX11_night0 15 = .ok (.iconst 5, 1) := by decide +kernel
theorem dX11_night0_16 : decode cX11_night0 16 = .ok (.if_icmp .ge 16, 3) := by decide +kernel
theorem dX11_night0_19 : decode cX11_night0 19 = .ok (.aload_n 0, 1) := by decide +kernel
theorem dX11_night0_20 : decode cX11_night0 20 = .ok (.getfield 58, 3) := by decide +kernel
theorem dX11_night0_23 : decode cX11_night0 23 = .ok (.iload_n 2, 1) := by decide +kernel
theorem dX11_night0_24 : decode cX11_night0 24 = .ok (.iconst 0, 1) := by decide +kernel
theorem dX11_night0_25 : decode cX11_night0 25 = .ok (.iastore, 1) := by decide +kernel
theorem dX11_night0_26 : decode cX11_night0 26 = .ok (.iinc 2 1, 3) := by decide +kernel
theorem dX11_night0_29 : decode cX11_night0 29 = .ok (.goto (-15), 3) := by decide +kernel
theorem dX11_night0_32 : decode cX11_night0 32 = .ok (.iconst 0, 1) := by decide +kernel
theorem dX11_night0_33 : decode cX11_night0 33 = .ok (.istore_n 2, 1) := by decide +kernel
theorem dX11_night0_34 : decode cX11_night0 34 = .ok (.iload_n 2, 1) := by decide +kernel
theorem dX11_night0_35 : decode cX11_night0 35 = .ok (.aload_n 0, 1) := by decide +kernel
theorem dX11_night0_36 : decode cX11_night0 36 = .ok (.getfield 208, 3) := by decide +kernel
theorem dX11_night0_39 : decode cX11_night0 39 = .ok (.if_icmp .ge 139, 3) := by decide +kernel
theorem dX11_night0_42 : decode cX11_night0 42 = .ok (.aload_n 0, 1) := by decide +kernel
theorem dX11_night0_43 : decode cX11_night0 43 = .ok (.getfield 55, 3) := by decide +kernel
theorem dX11_night0_46 : decode cX11_night0 46 = .ok (.iload_n 2, 1) := by decide +kernel
theorem dX11_night0_47 : decode cX11_night0 47 = .ok (.iaload, 1) := by decide +kernel
theorem dX11_night0_48 : decode cX11_night0 48 = .ok (.ifCond .ne 124, 3) := by decide +kernel
theorem dX11_night0_51 : decode cX11_night0 51 = .ok (.aload_n 0, 1) := by decide +kernel
theorem dX11_night0_52 : decode cX11_night0 52 = .ok (.getfield 52, 3) := by decide +kernel
theorem dX11_night0_55 : decode cX11_night0 55 = .ok (.iload_n 2, 1) := by decide +kernel
theorem dX11_night0_56 : decode cX11_night0 56 = .ok (.iaload, 1) := by decide +kernel
theorem dX11_night0_57 : decode cX11_night0 57 = .ok (.aload_n 0, 1) := by decide +kernel
theorem dX11_night0_58 : decode cX11_night0 58 = .ok (.getfield 211, 3) := by decide +kernel
theorem dX11_night0_61 : decode cX11_night0 61 = .ok (.if_icmp .eq 6, 3) := by decide +kernel
theorem dX11_night0_64 : decode cX11_night0 64 = .ok (.goto 108, 3) := by decide +kernel
theorem dX11_night0_67 : decode cX11_night0 67 = .ok (.aload_n 0, 1) := by decide +kernel
theorem dX11_night0_68 : decode cX11_night0 68 = .ok (.getfield 43, 3) := by decide +kernel
theorem dX11_night0_71 : decode cX11_night0 71 = .ok (.iload_n 2, 1) := by decide +kernel
theorem dX11_night0_72 : decode cX11_night0 72 = .ok (.iaload, 1) := by decide +kernel
theorem dX11_night0_73 : decode cX11_night0 73 = .ok (.istore_n 3, 1) := by decide +kernel
theorem dX11_night0_74 : decode cX11_night0 74 = .ok (.aload_n 0, 1) := by decide +kernel
theorem dX11_night0_75 : decode cX11_night0 75 = .ok (.getfield 40, 3) := by decide +kernel
theorem dX11_night0_78 : decode cX11_night0 78 = .ok (.aload_n 0, 1) := by decide +kernel
theorem dX11_night0_79 : decode cX11_night0 79 = .ok (.getfield 46, 3) := by decide +kernel
theorem dX11_night0_82 : decode cX11_night0 82 = .ok (.iload_n 2, 1) := by decide +kernel
theorem dX11_night0_83 : decode cX11_night0 83 = .ok (.iaload, 1) := by decide +kernel
theorem dX11_night0_84 : decode cX11_night0 84 = .ok (.iaload, 1) := by decide +kernel
theorem dX11_night0_85 : decode cX11_night0 85 = .ok (.iload_n 3, 1) := by decide +kernel
theorem dX11_night0_86 : decode cX11_night0 86 = .ok (.if_icmp .ne 36, 3) := by decide +kernel
theorem dX11_night0_89 : decode cX11_night0 89 = .ok (.aload_n 0, 1) := by decide +kernel
theorem dX11_night0_90 : decode cX11_night0 90 = .ok (.getfield 58, 3) := by decide +kernel
theorem dX11_night0_93 : decode cX11_night0 93 = .ok (.iload_n 3, 1) := by decide +kernel
theorem dX11_night0_94 : decode cX11_night0 94 = .ok (.iaload, 1) := by decide +kernel
theorem dX11_night0_95 : decode cX11_night0 95 = .ok (.aload_n 0, 1) := by decide +kernel
theorem dX11_night0_96 : decode cX11_night0 96 = .ok (.getfield 9, 3) := by decide +kernel
theorem dX11_night0_99 : decode cX11_night0 99 = .ok (.iconst 1, 1) := by decide +kernel
theorem dX11_night0_100 : decode cX11_night0 100 = .ok (.iaload, 1) := by decide +kernel
theorem dX11_night0_101 : decode cX11_night0 101 = .ok (.if_icmp .ge 21, 3) := by decide +kernel
theorem dX11_night0_104 : decode cX11_night0 104 = .ok (.aload_n 0, 1) := by decide +kernel
theorem dX11_night0_105 : decode cX11_night0 105 = .ok (.getfield 58, 3) := by decide +kernel
theorem dX11_night0_108 : decode cX11_night0 108 = .ok (.iload_n 3, 1) := by decide +kernel
theorem dX11_night0_109 : decode cX11_night0 109 = .ok (.dup2, 1) := by decide +kernel
theorem dX11_night0_110 : decode cX11_night0 110 = .ok (.iaload, 1) := by decide +kernel
theorem dX11_night0_111 : decode cX11_night0 111 = .ok (.iconst 1, 1) := by decide +kernel
theorem dX11_night0_112 : decode cX11_night0 112 = .ok (.iadd, 1) := by decide +kernel
theorem dX11_night0_113 : decode cX11_night0 113 = .ok (.iastore, 1) := by decide +kernel
theorem dX11_night0_114 : decode cX11_night0 114 = .ok (.aload_n 0, 1) := by decide +kernel
theorem dX11_night0_115 : decode cX11_night0 115 = .ok (.iload_n 2, 1) := by decide +kernel
theorem dX11_night0_116 : decode cX11_night0 116 = .ok (.invokevirtual 229, 3) := by decide +kernel
theorem dX11_night0_119 : decode cX11_night0 119 = .ok (.goto 53, 3) := by decide +kernel
theorem dX11_night0_122 : decode cX11_night0 122 = .ok (.aload_n 0, 1) := by decide +kernel
theorem dX11_night0_123 : decode cX11_night0 123 = .ok (.getfield 34, 3) := by decide +kernel
theorem dX11_night0_126 : decode cX11_night0 126 = .ok (.iload_n 3, 1) := by decide +kernel
theorem dX11_night0_127 : decode cX11_night0 127 = .ok (.iaload, 1) := by decide +kernel
theorem dX11_night0_128 : decode cX11_night0 128 = .ok (.aload_n 0, 1) := by decide +kernel
theorem dX11_night0_129 : decode cX11_night0 129 = .ok (.iload_n 2, 1) := by decide +kernel
theorem dX11_night0_130 : decode cX11_night0 130 = .ok (.invokevirtual 238, 3) := by decide +kernel
theorem dX11_night0_133 : decode cX11_night0 133 = .ok (.if_icmp .lt 29, 3) := by decide +kernel
theorem dX11_night0_136 : decode cX11_night0 136 = .ok (.aload_n 0, 1) := by decide +kernel
theorem dX11_night0_137 : decode cX11_night0 137 = .ok (.iload_n 3, 1) := by decide +kernel
theorem dX11_night0_138 : decode cX11_night0 138 = .ok (.aload_n 0, 1) := by decide +kernel
theorem dX11_night0_139 : decode cX11_night0 139 = .ok (.getfield 49, 3) := by decide +kernel
theorem dX11_night0_142 : decode cX11_night0 142 = .ok (.iload_n 2, 1) := by decide +kernel
theorem dX11_night0_143 : decode cX11_night0 143 = .ok (.iaload, 1) := by decide +kernel
theorem dX11_night0_144 : decode cX11_night0 144 = .ok (.aload_n 0, 1) := by decide +kernel
theorem dX11_night0_145 : decode cX11_night0 145 = .ok (.iload_n 2, 1) := by decide +kernel
theorem dX11_night0_146 : decode cX11_night0 146 = .ok (.invokevirtual 238, 3) := by decide +kernel
theorem dX11_night0_149 : decode cX11_night0 149 = .ok (.invokevirtual 247, 3) := by decide +kernel
theorem dX11_night0_152 : decode cX11_night0 152 = .ok (.aload_n 0, 1) := by decide +kernel
theorem dX11_night0_153 : decode cX11_night0 153 = .ok (.getfield 55, 3) := by decide +kernel
theorem dX11_night0_156 : decode cX11_night0 156 = .ok (.iload_n 2, 1) := by decide +kernel
theorem dX11_night0_157 : decode cX11_night0 157 = .ok (.iconst 2, 1) := by decide +kernel
theorem dX11_night0_158 : decode cX11_night0 158 = .ok (.iastore, 1) := by decide +kernel
theorem dX11_night0_159 : decode cX11_night0 159 = .ok (.goto 13, 3) := by decide +kernel
theorem dX11_night0_162 : decode cX11_night0 162 = .ok (.aload_n 0, 1) := by decide +kernel
theorem dX11_night0_163 : decode cX11_night0 163 = .ok (.getfield 55, 3) := by decide +kernel
theorem dX11_night0_166 : decode cX11_night0 166 = .ok (.iload_n 2, 1) := by decide +kernel
theorem dX11_night0_167 : decode cX11_night0 167 = .ok (.iconst 3, 1) := by decide +kernel
theorem dX11_night0_168 : decode cX11_night0 168 = .ok (.iastore, 1) := by decide +kernel
theorem dX11_night0_169 : decode cX11_night0 169 = .ok (.iinc 1 1, 3) := by decide +kernel
theorem dX11_night0_172 : decode cX11_night0 172 = .ok (.iinc 2 1, 3) := by decide +kernel
theorem dX11_night0_175 : decode cX11_night0 175 = .ok (.goto (-141), 3) := by decide +kernel
theorem dX11_night0_178 : decode cX11_night0 178 = .ok (.iload_n 1, 1) := by decide +kernel
theorem dX11_night0_179 : decode cX11_night0 179 = .ok (.ireturn, 1) := by decide +kernel
theorem dX11_now_0 : decode cX11_now 0 = .ok (.aload_n 0, 1) := by decide +kernel
theorem dX11_now_1 : decode cX11_now 1 = .ok (.invokevirtual 295, 3) := by decide +kernel
theorem dX11_now_4 : decode cX11_now 4 = .ok (.ifCond .eq 15, 3) := by decide +kernel
theorem dX11_now_7 : decode cX11_now 7 = .ok (.iload_n 1, 1) := by decide +kernel
theorem dX11_now_8 : decode cX11_now 8 = .ok (.i2l, 1) := by decide +kernel
theorem dX11_now_9 : decode cX11_now 9 = .ok (.lconst 0, 1) := by decide +kernel
theorem dX11_now_10 : decode cX11_now 10 = .ok (.ldc2_w 298, 3) := by decide +kernel
theorem dX11_now_13 : decode cX11_now 13 = .ok (.invokestatic 94, 3) := by decide +kernel
theorem dX11_now_16 : decode cX11_now 16 = .ok (.ifCond .ne 6, 3) := by decide +kernel
theorem dX11_now_19 : decode cX11_now 19 = .ok (.bipush (-2), 2) := by decide +kernel
theorem dX11_now_21 : decode cX11_now 21 = .ok (.ireturn, 1) := by decide +kernel
theorem dX11_now_22 : decode cX11_now 22 = .ok (.aload_n 0, 1) := by decide +kernel
theorem dX11_now_23 : decode cX11_now 23 = .ok (.invokevirtual 250, 3) := by decide +kernel
theorem dX11_now_26 : decode cX11_now 26 = .ok (.iload_n 1, 1) := by decide +kernel
theorem dX11_now_27 : decode cX11_now 27 = .ok (.ifCond .ne 8, 3) := by decide +kernel
theorem dX11_now_30 : decode cX11_now 30 = .ok (.aload_n 0, 1) := by decide +kernel
theorem dX11_now_31 : decode cX11_now 31 = .ok (.getfield 211, 3) := by decide +kernel
theorem dX11_now_34 : decode cX11_now 34 = .ok (.ireturn, 1) := by decide +kernel
theorem dX11_now_35 : decode cX11_now 35 = .ok (.iload_n 1, 1) := by decide +kernel
theorem dX11_now_36 : decode cX11_now 36 = .ok (.iconst 1, 1) := by decide +kernel
theorem dX11_now_37 : decode cX11_now 37 = .ok (.if_icmp .ne 8, 3) := by decide +kernel
theorem dX11_now_40 : decode cX11_now 40 = .ok (.aload_n 0, 1) := by decide +kernel
theorem dX11_now_41 : decode cX11_now 41 = .ok (.invokevirtual 289, 3) := by decide +kernel
theorem dX11_now_44 : decode cX11_now 44 = .ok (.ireturn, 1) := by decide +kernel
theorem dX11_now_45 : decode cX11_now 45 = .ok (.iconst 0, 1) := by decide +kernel
theorem dX11_now_46 : decode cX11_now 46 = .ok (.istore_n 2, 1) := by decide +kernel
theorem dX11_now_47 : decode cX11_now 47 = .ok (.iconst 0, 1) := by decide +kernel
theorem dX11_now_48 : decode cX11_now 48 = .ok (.istore_n 3, 1) := by decide +kernel
theorem dX11_now_49 : decode cX11_now 49 = .ok (.iload_n 3, 1) := by decide +kernel
theorem dX11_now_50 : decode cX11_now 50 = .ok (.aload_n 0, 1) := by decide +kernel
theorem dX11_now_51 : decode cX11_now 51 = .ok (.getfield 208, 3) := by decide +kernel
theorem dX11_now_54 : decode cX11_now 54 = .ok (.if_icmp .ge 32, 3) := by decide +kernel
theorem dX11_now_57 : decode cX11_now 57 = .ok (.iload_n 1, 1) := by decide +kernel
theorem dX11_now_58 : decode cX11_now 58 = .ok (.iconst 2, 1) := by decide +kernel
theorem dX11_now_59 : decode cX11_now 59 = .ok (.if_icmp .ne 27, 3) := by decide +kernel
theorem dX11_now_62 : decode cX11_now 62 = .ok (.iload_n 2, 1) := by decide +kernel
theorem dX11_now_63 : decode cX11_now 63 = .ok (.aload_n 0, 1) := by decide +kernel
theorem dX11_now_64 : decode cX11_now 64 = .ok (.getfield 55, 3) := by decide +kernel
theorem dX11_now_67 : decode cX11_now 67 = .ok (.iload_n 3, 1) := by decide +kernel
theorem dX11_now_68 : decode cX11_now 68 = .ok (.iaload, 1) := by decide +kernel
theorem dX11_now_69 : decode cX11_now 69 = .ok (.iconst 3, 1) := by decide +kernel
theorem dX11_now_70 : decode cX11_now 70 = .ok (.if_icmp .ne 7, 3) := by decide +kernel
theorem dX11_now_73 : decode cX11_now 73 = .ok (.iconst 1, 1) := by decide +kernel
theorem dX11_now_74 : decode cX11_now 74 = .ok (.goto 4, 3) := by decide +kernel
theorem dX11_now_77 : decode cX11_now 77 = .ok (.iconst 0, 1) := by decide +kernel
theorem dX11_now_78 : decode cX11_now 78 = .ok (.iadd, 1) := by decide +kernel
theorem dX11_now_79 : decode cX11_now 79 = .ok (.istore_n 2, 1) := by decide +kernel
theorem dX11_now_80 : decode cX11_now 80 = .ok (.iinc 3 1, 3) := by decide +kernel
theorem dX11_now_83 : decode cX11_now 83 = .ok (.goto (-34), 3) := by decide +kernel
theorem dX11_now_86 : decode cX11_now 86 = .ok (.iconst 0, 1) := by decide +kernel
theorem dX11_now_87 : decode cX11_now 87 = .ok (.istore_n 3, 1) := by decide +kernel
theorem dX11_now_88 : decode cX11_now 88 = .ok (.iload_n 3, 1) := by decide +kernel
theorem dX11_now_89 : decode cX11_now 89 = .ok (.aload_n 0, 1) := by decide +kernel
theorem dX11_now_90 : decode cX11_now 90 = .ok (.getfield 9, 3) := by decide +kernel
theorem dX11_now_93 : decode cX11_now 93 = .ok (.iconst 3, 1) := by decide +kernel
theorem dX11_now_94 : decode cX11_now 94 = .ok (.iaload, 1) := by decide +kernel
theorem dX11_now_95 : decode cX11_now 95 = .ok (.if_icmp .ge 23, 3) := by decide +kernel
theorem dX11_now_98 : decode cX11_now 98 = .ok (.iload_n 1, 1) := by decide +kernel
theorem dX11_now_99 : decode cX11_now 99 = .ok (.iconst 3, 1) := by decide +kernel
theorem dX11_now_100 : decode cX11_now 100 = .ok (.if_icmp .ne 18, 3) := by decide +kernel
theorem dX11_now_103 : decode cX11_now 103 = .ok (.iload_n 2, 1) := by decide +kernel
theorem dX11_now_104 : decode cX11_now 104 = .ok (.aload_n 0, 1) := by decide +kernel
theorem dX11_now_105 : decode cX11_now 105 = .ok (.getfield 34, 3) := by decide +kernel
theorem dX11_now_108 : decode cX11_now 108 = .ok (.iload_n 3, 1) := by decide +kernel
theorem dX11_now_109 : decode cX11_now 109 = .ok (.iaload, 1) := by decide +kernel
theorem dX11_now_110 : decode cX11_now 110 = .ok (.iadd, 1) := by decide +kernel
theorem dX11_now_111 : decode cX11_now 111 = .ok (.istore_n 2, 1) := by decide +kernel
theorem dX11_now_112 : decode cX11_now 112 = .ok (.iinc 3 1, 3) := by decide +kernel
theorem dX11_now_115 : decode cX11_now 115 = .ok (.goto (-27), 3) := by decide +kernel
theorem dX11_now_118 : decode cX11_now 118 = .ok (.iload_n 2, 1) := by decide +kernel
theorem dX11_now_119 : decode cX11_now 119 = .ok (.ireturn, 1) := by decide +kernel
theorem dX11_number_0 : decode cX11_number 0 = .ok (.aload_n 0, 1) := by decide +kernel
theorem dX11_number_1 : decode cX11_number 1 = .ok (.invokevirtual 144, 3) := by decide +kernel
theorem dX11_number_4 : decode cX11_number 4 = .ok (.ifCond .eq 16, 3) := by decide +kernel
theorem dX11_number_7 : decode cX11_number 7 = .ok (.aload_n 0, 1) := by decide +kernel
theorem dX11_number_8 : decode cX11_number 8 = .ok (.getfield 121, 3) := by decide +kernel
theorem dX11_number_11 : decode cX11_number 11 = .ok (.iconst 2, 1) := by decide +kernel
theorem dX11_number_12 : decode cX11_number 12 = .ok (.if_icmp .eq 8, 3) := by decide +kernel
theorem dX11_number_15 : decode cX11_number 15 = .ok (.aload_n 0, 1) := by decide +kernel
theorem dX11_number_16 : decode cX11_number 16 = .ok (.iconst 1, 1) := by decide +kernel
theorem dX11_number_17 : decode cX11_number 17 = .ok (.invokevirtual 168, 3) := by decide +kernel
theorem dX11_number_20 : decode cX11_number 20 = .ok (.aload_n 0, 1) := by decide +kernel
theorem dX11_number_21 : decode cX11_number 21 = .ok (.invokevirtual 144, 3) := by decide +kernel
theorem dX11_number_24 : decode cX11_number 24 = .ok (.ifCond .eq 23, 3) := by decide +kernel
theorem dX11_number_27 : decode cX11_number 27 = .ok (.aload_n 0, 1) := by decide +kernel
theorem dX11_number_28 : decode cX11_number 28 = .ok (.getfield 132, 3) := by decide +kernel
theorem dX11_number_31 : decode cX11_number 31 = .ok (.i2l, 1) := by decide +kernel
theorem dX11_number_32 : decode cX11_number 32 = .ok (.iload_n 1, 1) := by decide +kernel
theorem dX11_number_33 : decode cX11_number 33 = .ok (.i2l, 1) := by decide +kernel
theorem dX11_number_34 : decode cX11_number 34 = .ok (.iload_n 2, 1) := by decide +kernel
theorem dX11_number_35 : decode cX11_number 35 = .ok (.i2l, 1) := by decide +kernel
theorem dX11_number_36 : decode cX11_number 36 = .ok (.invokestatic 94, 3) := by decide +kernel
theorem dX11_number_39 : decode cX11_number 39 = .ok (.ifCond .ne 8, 3) := by decide +kernel
theorem dX11_number_42 : decode cX11_number 42 = .ok (.aload_n 0, 1) := by decide +kernel
theorem dX11_number_43 : decode cX11_number 43 = .ok (.iconst 2, 1) := by decide +kernel
theorem dX11_number_44 : decode cX11_number 44 = .ok (.invokevirtual 168, 3) := by decide +kernel
theorem dX11_number_47 : decode cX11_number 47 = .ok (.aload_n 0, 1) := by decide +kernel
theorem dX11_number_48 : decode cX11_number 48 = .ok (.invokevirtual 144, 3) := by decide +kernel
theorem dX11_number_51 : decode cX11_number 51 = .ok (.ifCond .ne 5, 3) := by decide +kernel
theorem dX11_number_54 : decode cX11_number 54 = .ok (.iconst 0, 1) := by decide +kernel
theorem dX11_number_55 : decode cX11_number 55 = .ok (.ireturn, 1) := by decide +kernel
theorem dX11_number_56 : decode cX11_number 56 = .ok (.aload_n 0, 1) := by decide +kernel
theorem dX11_number_57 : decode cX11_number 57 = .ok (.getfield 132, 3) := by decide +kernel
theorem dX11_number_60 : decode cX11_number 60 = .ok (.istore_n 3, 1) := by decide +kernel
theorem dX11_number_61 : decode cX11_number 61 = .ok (.aload_n 0, 1) := by decide +kernel
theorem dX11_number_62 : decode cX11_number 62 = .ok (.invokevirtual 162, 3) := by decide +kernel
theorem dX11_number_65 : decode cX11_number 65 = .ok (.iload_n 3, 1) := by decide +kernel
theorem dX11_number_66 : decode cX11_number 66 = .ok (.ireturn, 1) := by decide +kernel
theorem dX11_numberAt_0 : decode cX11_numberAt 0 = .ok (.aload_n 0, 1) := by decide +kernel
theorem dX11_numberAt_1 : decode cX11_numberAt 1 = .ok (.getfield 82, 3) := by decide +kernel
theorem dX11_numberAt_4 : decode cX11_numberAt 4 = .ok (.bipush 60, 2) := by decide +kernel
theorem dX11_numberAt_6 : decode cX11_numberAt 6 = .ok (.iload_n 1, 1) := by decide +kernel
theorem dX11_numberAt_7 : decode cX11_numberAt 7 = .ok (.imul, 1) := by decide +kernel
theorem dX11_numberAt_8 : decode cX11_numberAt 8 = .ok (.iload_n 2, 1) := by decide +kernel
theorem dX11_numberAt_9 : decode cX11_numberAt 9 = .ok (.iadd, 1) := by decide +kernel
theorem dX11_numberAt_10 : decode cX11_numberAt 10 = .ok (.laload, 1) := by decide +kernel
theorem dX11_numberAt_11 : decode cX11_numberAt 11 = .ok (.lreturn, 1) := by decide +kernel
theorem dX11_openSet_0 : decode cX11_openSet 0 = .ok (.iconst 0, 1) := by decide +kernel
theorem dX11_openSet_1 : decode cX11_openSet 1 = .ok (.istore_n 1, 1) := by decide +kernel
theorem dX11_openSet_2 : decode cX11_openSet 2 = .ok (.iconst 0, 1) := by decide +kernel
theorem dX11_openSet_3 : decode cX11_openSet 3 = .ok (.istore_n 2, 1) := by decide +kernel
theorem dX11_openSet_4 : decode cX11_openSet 4 = .ok (.iload_n 2, 1) := by decide +kernel
theorem dX11_openSet_5 : decode cX11_openSet 5 = .ok (.aload_n 0, 1) := by decide +kernel
theorem dX11_openSet_6 : decode cX11_openSet 6 = .ok (.getfield 208, 3) := by decide +kernel
theorem dX11_openSet_9 : decode cX11_openSet 9 = .ok (.if_icmp .ge 27, 3) := by decide +kernel
theorem dX11_openSet_12 : decode cX11_openSet 12 = .ok (.iload_n 1, 1) := by decide +kernel
theorem dX11_openSet_13 : decode cX11_openSet 13 = .ok (.aload_n 0, 1) := by decide +kernel
theorem dX11_openSet_14 : decode cX11_openSet 14 = .ok (.iload_n 2, 1) := by decide +kernel
theorem dX11_openSet_15 : decode cX11_openSet 15 = .ok (.invokevirtual 253, 3) := by decide +kernel
theorem dX11_openSet_18 : decode cX11_openSet 18 = .ok (.ifCond .eq 9, 3) := by decide +kernel
theorem dX11_openSet_21 : decode cX11_openSet 21 = .ok (.iconst 1, 1) := by decide +kernel
theorem dX11_openSet_22 : decode cX11_openSet 22 = .ok (.iload_n 2, 1) := by decide +kernel
theorem dX11_openSet_23 : decode cX11_openSet 23 = .ok (.ishl, 1) := by decide +kernel
theorem dX11_openSet_24 : decode cX11_openSet 24 = .ok (.goto 4, 3) := by decide +kernel
theorem dX11_openSet_27 : decode cX11_openSet 27 = .ok (.iconst 0, 1) := by decide +kernel
theorem dX11_openSet_28 : decode cX11_openSet 28 = .ok (.ior, 1) := by decide +kernel
theorem dX11_openSet_29 : decode cX11_openSet 29 = .ok (.istore_n 1, 1) := by decide +kernel
theorem dX11_openSet_30 : decode cX11_openSet 30 = .ok (.iinc 2 1, 3) := by decide +kernel
theorem dX11_openSet_33 : decode cX11_openSet 33 = .ok (.goto (-29), 3) := by decide +kernel
theorem dX11_openSet_36 : decode cX11_openSet 36 = .ok (.iload_n 1, 1) := by decide +kernel
theorem dX11_openSet_37 : decode cX11_openSet 37 = .ok (.ireturn, 1) := by decide +kernel
theorem dX11_owner_0 : decode cX11_owner 0 = .ok (.aload_n 0, 1) := by decide +kernel
theorem dX11_owner_1 : decode cX11_owner 1 = .ok (.iload_n 1, 1) := by decide +kernel
theorem dX11_owner_2 : decode cX11_owner 2 = .ok (.i2l, 1) := by decide +kernel
theorem dX11_owner_3 : decode cX11_owner 3 = .ok (.invokevirtual 266, 3) := by decide +kernel
theorem dX11_owner_6 : decode cX11_owner 6 = .ok (.ifCond .ne 6, 3) := by decide +kernel
theorem dX11_owner_9 : decode cX11_owner 9 = .ok (.bipush (-2), 2) := by decide +kernel
theorem dX11_owner_11 : decode cX11_owner 11 = .ok (.ireturn, 1) := by decide +kernel
theorem dX11_owner_12 : decode cX11_owner 12 = .ok (.aload_n 0, 1) := by decide +kernel
theorem dX11_owner_13 : decode cX11_owner 13 = .ok (.invokevirtual 250, 3) := by decide +kernel
theorem dX11_owner_16 : decode cX11_owner 16 = .ok (.aload_n 0, 1) := by decide +kernel
theorem dX11_owner_17 : decode cX11_owner 17 = .ok (.iload_n 1, 1) := by decide +kernel
theorem dX11_owner_18 : decode cX11_owner 18 = .ok (.invokevirtual 309, 3) := by decide +kernel
theorem dX11_owner_21 : decode cX11_owner 21 = .ok (.ireturn, 1) := by decide +kernel
theorem dX11_owns_0 : decode cX11_owns 0 = .ok (.aload_n 0, 1) := by decide +kernel
theorem dX11_owns_1 : decode cX11_owns 1 = .ok (.iload_n 1, 1) := by decide +kernel
theorem dX11_owns_2 : decode cX11_owns 2 = .ok (.i2l, 1) := by decide +kernel
theorem dX11_owns_3 : decode cX11_owns 3 = .ok (.invokevirtual 257, 3) := by decide +kernel
theorem dX11_owns_6 : decode cX11_owns 6 = .ok (.ifCond .ne 6, 3) := by decide +kernel
theorem dX11_owns_9 : decode cX11_owns 9 = .ok (.bipush (-2), 2) := by decide +kernel
theorem dX11_owns_11 : decode cX11_owns 11 = .ok (.ireturn, 1) := by decide +kernel
theorem dX11_owns_12 : decode cX11_owns 12 = .ok (.aload_n 0, 1) := by decide +kernel
theorem dX11_owns_13 : decode cX11_owns 13 = .ok (.invokevirtual 250, 3) := by decide +kernel
theorem dX11_owns_16 : decode cX11_owns 16 = .ok (.iconst 0, 1) := by decide +kernel
theorem dX11_owns_17 : decode cX11_owns 17 = .ok (.istore_n 2, 1) := by decide +kernel
theorem dX11_owns_18 : decode cX11_owns 18 = .ok (.iconst 0, 1) := by decide +kernel
theorem dX11_owns_19 : decode cX11_owns 19 = .ok (.istore_n 3, 1) := by decide +kernel
theorem dX11_owns_20 : decode cX11_owns 20 = .ok (.iload_n 3, 1) := by decide +kernel
theorem dX11_owns_21 : decode cX11_owns 21 = .ok (.aload_n 0, 1) := by decide +kernel
theorem dX11_owns_22 : decode cX11_owns 22 = .ok (.getfield 9, 3) := by decide +kernel
theorem dX11_owns_25 : decode cX11_owns 25 = .ok (.iconst 4, 1) := by decide +kernel
theorem dX11_owns_26 : decode cX11_owns 26 = .ok (.iaload, 1) := by decide +kernel
theorem dX11_owns_27 : decode cX11_owns 27 = .ok (.if_icmp .ge 28, 3) := by decide +kernel
theorem dX11_owns_30 : decode cX11_owns 30 = .ok (.iload_n 2, 1) := by decide +kernel
theorem dX11_owns_31 : decode cX11_owns 31 = .ok (.aload_n 0, 1) := by decide +kernel
theorem dX11_owns_32 : decode cX11_owns 32 = .ok (.iload_n 3, 1) := by decide +kernel
theorem dX11_owns_33 : decode cX11_owns 33 = .ok (.invokevirtual 309, 3) := by decide +kernel
theorem dX11_owns_36 : decode cX11_owns 36 = .ok (.iload_n 1, 1) := by decide +kernel
theorem dX11_owns_37 : decode cX11_owns 37 = .ok (.if_icmp .ne 9, 3) := by decide +kernel
theorem dX11_owns_40 : decode cX11_owns 40 = .ok (.iconst 1, 1) := by decide +kernel
theorem dX11_owns_41 : decode cX11_owns 41 = .ok (.iload_n 3, 1) := by decide +kernel
theorem dX11_owns_42 : decode cX11_owns 42 = .ok (.ishl, 1) := by decide +kernel
theorem dX11_owns_43 : decode cX11_owns 43 = .ok (.goto 4, 3) := by decide +kernel
theorem dX11_owns_46 : decode cX11_owns 46 = .ok (.iconst 0, 1) := by decide +kernel
theorem dX11_owns_47 : decode cX11_owns 47 = .ok (.ior, 1) := by decide +kernel
theorem dX11_owns_48 : decode cX11_owns 48 = .ok (.istore_n 2, 1) := by decide +kernel
theorem dX11_owns_49 : decode cX11_owns 49 = .ok (.iinc 3 1, 3) := by decide +kernel
theorem dX11_owns_52 : decode cX11_owns 52 = .ok (.goto (-32), 3) := by decide +kernel
theorem dX11_owns_55 : decode cX11_owns 55 = .ok (.iload_n 2, 1) := by decide +kernel
theorem dX11_owns_56 : decode cX11_owns 56 = .ok (.ireturn, 1) := by decide +kernel
theorem dX11_paper_0 : decode cX11_paper 0 = .ok (.aload_n 0, 1) := by decide +kernel
theorem dX11_paper_1 : decode cX11_paper 1 = .ok (.iload_n 1, 1) := by decide +kernel
theorem dX11_paper_2 : decode cX11_paper 2 = .ok (.invokevirtual 272, 3) := by decide +kernel
theorem dX11_paper_5 : decode cX11_paper 5 = .ok (.ifCond .eq 15, 3) := by decide +kernel
theorem dX11_paper_8 : decode cX11_paper 8 = .ok (.iload_n 2, 1) := by decide +kernel
theorem dX11_paper_9 : decode cX11_paper 9 = .ok (.i2l, 1) := by decide +kernel
theorem dX11_paper_10 : decode cX11_paper 10 = .ok (.lconst 0, 1) := by decide +kernel
theorem dX11_paper_11 : decode cX11_paper 11 = .ok (.ldc2_w 261, 3) := by decide +kernel
theorem dX11_paper_14 : decode cX11_paper 14 = .ok (.invokestatic 94, 3) := by decide +kernel
theorem dX11_paper_17 : decode cX11_paper 17 = .ok (.ifCond .ne 6, 3) := by decide +kernel
theorem dX11_paper_20 : decode cX11_paper 20 = .ok (.bipush (-2), 2) := by decide +kernel
theorem dX11_paper_22 : decode cX11_paper 22 = .ok (.ireturn, 1) := by decide +kernel
theorem dX11_paper_23 : decode cX11_paper 23 = .ok (.iload_n 2, 1) := by decide +kernel
theorem dX11_paper_24 : decode cX11_paper 24 = .ok (.ifCond .ne 12, 3) := by decide +kernel
theorem dX11_paper_27 : decode cX11_paper 27 = .ok (.aload_n 0, 1) := by decide +kernel
theorem dX11_paper_28 : decode cX11_paper 28 = .ok (.getfield 43, 3) := by decide +kernel
theorem dX11_paper_31 : decode cX11_paper 31 = .ok (.iload_n 1, 1) := by decide +kernel
theorem dX11_paper_32 : decode cX11_paper 32 = .ok (.iaload, 1) := by decide +kernel
theorem dX11_paper_33 : decode cX11_paper 33 = .ok (.goto 51, 3) := by decide +kernel
theorem dX11_paper_36 : decode cX11_paper 36 = .ok (.iload_n 2, 1) := by decide +kernel
theorem dX11_paper_37 : decode cX11_paper 37 = .ok (.iconst 1, 1) := by decide +kernel
theorem dX11_paper_38 : decode cX11_paper 38 = .ok (.if_icmp .ne 12, 3) := by decide +kernel
theorem dX11_paper_41 : decode cX11_paper 41 = .ok (.aload_n 0, 1) := by decide +kernel
theorem dX11_paper_42 : decode cX11_paper 42 = .ok (.getfield 46, 3) := by decide +kernel
theorem dX11_paper_45 : decode cX11_paper 45 = .ok (.iload_n 1, 1) := by decide +kernel
theorem dX11_paper_46 : decode cX11_paper 46 = .ok (.iaload, 1) := by decide +kernel
theorem dX11_paper_47 : decode cX11_paper 47 = .ok (.goto 37, 3) := by decide +kernel
theorem dX11_paper_50 : decode cX11_paper 50 = .ok (.iload_n 2, 1) := by decide +kernel
theorem dX11_paper_51 : decode cX11_paper 51 = .ok (.iconst 2, 1) := by decide +kernel
theorem dX11_paper_52 : decode cX11_paper 52 = .ok (.if_icmp .ne 12, 3) := by decide +kernel
theorem dX11_paper_55 : decode cX11_paper 55 = .ok (.aload_n 0, 1) := by decide +kernel
theorem dX11_paper_56 : decode cX11_paper 56 = .ok (.getfield 49, 3) := by decide +kernel
theorem dX11_paper_59 : decode cX11_paper 59 = .ok (.iload_n 1, 1) := by decide +kernel
theorem dX11_paper_60 : decode cX11_paper 60 = .ok (.iaload, 1) := by decide +kernel
theorem dX11_paper_61 : decode cX11_paper 61 = .ok (.goto 23, 3) := by decide +kernel
theorem dX11_paper_64 : decode cX11_paper 64 = .ok (.iload_n 2, 1) := by decide +kernel
theorem dX11_paper_65 : decode cX11_paper 65 = .ok (.iconst 3, 1) := by decide +kernel
theorem dX11_paper_66 : decode cX11_paper 66 = .ok (.if_icmp .ne 12, 3) := by decide +kernel
theorem dX11_paper_69 : decode cX11_paper 69 = .ok (.aload_n 0, 1) := by decide +kernel
theorem dX11_paper_70 : decode cX11_paper 70 = .ok (.getfield 52, 3) := by decide +kernel
theorem dX11_paper_73 : decode cX11_paper 73 = .ok (.iload_n 1, 1) := by decide +kernel
theorem dX11_paper_74 : decode cX11_paper 74 = .ok (.iaload, 1) := by decide +kernel
theorem dX11_paper_75 : decode cX11_paper 75 = .ok (.goto 9, 3) := by decide +kernel
theorem dX11_paper_78 : decode cX11_paper 78 = .ok (.aload_n 0, 1) := by decide +kernel
theorem dX11_paper_79 : decode cX11_paper 79 = .ok (.getfield 55, 3) := by decide +kernel
theorem dX11_paper_82 : decode cX11_paper 82 = .ok (.iload_n 1, 1) := by decide +kernel
theorem dX11_paper_83 : decode cX11_paper 83 = .ok (.iaload, 1) := by decide +kernel
theorem dX11_paper_84 : decode cX11_paper 84 = .ok (.ireturn, 1) := by decide +kernel
theorem dX11_paste_0 : decode cX11_paste 0 = .ok (.iload_n 1, 1) := by decide +kernel
theorem dX11_paste_1 : decode cX11_paste 1 = .ok (.invokestatic 397, 3) := by decide +kernel
theorem dX11_paste_4 : decode cX11_paste 4 = .ok (.ifCond .eq 10, 3) := by decide +kernel
theorem dX11_paste_7 : decode cX11_paste 7 = .ok (.iload_n 3, 1) := by decide +kernel
theorem dX11_paste_8 : decode cX11_paste 8 = .ok (.invokestatic 397, 3) := by decide +kernel
theorem dX11_paste_11 : decode cX11_paste 11 = .ok (.ifCond .ne 6, 3) := by decide +kernel
theorem dX11_paste_14 : decode cX11_paste 14 = .ok (.bipush (-2), 2) := by decide +kernel
theorem dX11_paste_16 : decode cX11_paste 16 = .ok (.ireturn, 1) := by decide +kernel
theorem dX11_paste_17 : decode cX11_paste 17 = .ok (.aload_n 0, 1) := by decide +kernel
theorem dX11_paste_18 : decode cX11_paste 18 = .ok (.getfield 76, 3) := by decide +kernel
theorem dX11_paste_21 : decode cX11_paste 21 = .ok (.iload_n 1, 1) := by decide +kernel
theorem dX11_paste_22 : decode cX11_paste 22 = .ok (.iaload, 1) := by decide +kernel
theorem dX11_paste_23 : decode cX11_paste 23 = .ok (.iconst (-1), 1) := by decide +kernel
theorem dX11_paste_24 : decode cX11_paste 24 = .ok (.if_icmp .eq 13, 3) := by decide +kernel
theorem dX11_paste_27 : decode cX11_paste 27 = .ok (.aload_n 0, 1) := by decide +kernel
theorem dX11_paste_28 : decode cX11_paste 28 = .ok (.getfield 76, 3) := by decide +kernel
theorem dX11_paste_31 : decode cX11_paste 31 = .ok (.iload_n 3, 1) := by decide +kernel
theorem dX11_paste_32 : decode cX11_paste 32 = .ok (.iaload, 1) := by decide +kernel
theorem dX11_paste_33 : decode cX11_paste 33 = .ok (.iconst (-1), 1) := by decide +kernel
theorem dX11_paste_34 : decode cX11_paste 34 = .ok (.if_icmp .ne 6, 3) := by decide +kernel
theorem dX11_paste_37 : decode cX11_paste 37 = .ok (.bipush (-6), 2) := by decide +kernel
theorem dX11_paste_39 : decode cX11_paste 39 = .ok (.ireturn, 1) := by decide +kernel
theorem dX11_paste_40 : decode cX11_paste 40 = .ok (.aload_n 0, 1) := by decide +kernel
theorem dX11_paste_41 : decode cX11_paste 41 = .ok (.getfield 79, 3) := by decide +kernel
theorem dX11_paste_44 : decode cX11_paste 44 = .ok (.iload_n 1, 1) := by decide +kernel
theorem dX11_paste_45 : decode cX11_paste 45 = .ok (.iaload, 1) := by decide +kernel
theorem dX11_paste_46 : decode cX11_paste 46 = .ok (.aload_n 0, 1) := by decide +kernel
theorem dX11_paste_47 : decode cX11_paste 47 = .ok (.getfield 79, 3) := by decide +kernel
theorem dX11_paste_50 : decode cX11_paste 50 = .ok (.iload_n 3, 1) := by decide +kernel
theorem dX11_paste_51 : decode cX11_paste 51 = .ok (.iaload, 1) := by decide +kernel
theorem dX11_paste_52 : decode cX11_paste 52 = .ok (.if_icmp .eq 6, 3) := by decide +kernel
theorem dX11_paste_55 : decode cX11_paste 55 = .ok (.bipush (-8), 2) := by decide +kernel
theorem dX11_paste_57 : decode cX11_paste 57 = .ok (.ireturn, 1) := by decide +kernel
theorem dX11_paste_58 : decode cX11_paste 58 = .ok (.iload_n 2, 1) := by decide +kernel
theorem dX11_paste_59 : decode cX11_paste 59 = .ok (.ifCond .lt 48, 3) := by decide +kernel
theorem dX11_paste_62 : decode cX11_paste 62 = .ok (.iload 4, 2) := by decide +kernel
theorem dX11_paste_64 : decode cX11_paste 64 = .ok (.ifCond .lt 43, 3) := by decide +kernel
theorem dX11_paste_67 : decode cX11_paste 67 = .ok (.iload 5, 2) := by decide +kernel
theorem dX11_paste_69 : decode cX11_paste 69 = .ok (.ifCond .lt 38, 3) := by decide +kernel
theorem dX11_paste_72 : decode cX11_paste 72 = .ok (.iload_n 2, 1) := by decide +kernel
theorem dX11_paste_73 : decode cX11_paste 73 = .ok (.i2l, 1) := by decide +kernel
theorem dX11_paste_74 : decode cX11_paste 74 = .ok (.iload 5, 2) := by decide +kernel
theorem dX11_paste_76 : decode cX11_paste 76 = .ok (.i2l, 1) := by decide +kernel
theorem dX11_paste_77 : decode cX11_paste 77 = .ok (.ladd, 1) := by decide +kernel
theorem dX11_paste_78 : decode cX11_paste 78 = .ok (.aload_n 0, 1) := by decide +kernel
theorem dX11_paste_79 : decode cX11_paste 79 = .ok (.getfield 76, 3) := by decide +kernel
theorem dX11_paste_82 : decode cX11_paste 82 = .ok (.iload_n 1, 1) := by decide +kernel
theorem dX11_paste_83 : decode cX11_paste 83 = .ok (.iaload, 1) := by decide +kernel
theorem dX11_paste_84 : decode cX11_paste 84 = .ok (.i2l, 1) := by decide +kernel
theorem dX11_paste_85 : decode cX11_paste 85 = .ok (.lcmp, 1) := by decide +kernel
theorem dX11_paste_86 : decode cX11_paste 86 = .ok (.ifCond .gt 21, 3) := by decide +kernel
theorem dX11_paste_89 : decode cX11_paste 89 = .ok (.iload 4, 2) := by decide +kernel
theorem dX11_paste_91 : decode cX11_paste 91 = .ok (.i2l, 1) := by decide +kernel
theorem dX11_paste_92 : decode cX11_paste 92 = .ok (.iload 5, 2) := by decide +kernel
theorem dX11_paste_94 : decode cX11_paste 94 = .ok (.i2l, 1) := by decide +kernel
theorem dX11_paste_95 : decode cX11_paste 95 = .ok (.ladd, 1) := by decide +kernel
theorem dX11_paste_96 : decode cX11_paste 96 = .ok (.aload_n 0, 1) := by decide +kernel
theorem dX11_paste_97 : decode cX11_paste 97 = .ok (.getfield 76, 3) := by decide +kernel
theorem dX11_paste_100 : decode cX11_paste 100 = .ok (.iload_n 3, 1) := by decide +kernel
theorem dX11_paste_101 : decode cX11_paste 101 = .ok (.iaload, 1) := by decide +kernel
theorem dX11_paste_102 : decode cX11_paste 102 = .ok (.i2l, 1) := by decide +kernel
theorem dX11_paste_103 : decode cX11_paste 103 = .ok (.lcmp, 1) := by decide +kernel
theorem dX11_paste_104 : decode cX11_paste 104 = .ok (.ifCond .le 6, 3) := by decide +kernel
theorem dX11_paste_107 : decode cX11_paste 107 = .ok (.bipush (-7), 2) := by decide +kernel
theorem dX11_paste_109 : decode cX11_paste 109 = .ok (.ireturn, 1) := by decide +kernel
theorem dX11_paste_110 : decode cX11_paste 110 = .ok (.iconst 0, 1) := by decide +kernel
theorem dX11_paste_111 : decode cX11_paste 111 = .ok (.istore 6, 2) := by decide +kernel
theorem dX11_paste_113 : decode cX11_paste 113 = .ok (.iload 6, 2) := by decide +kernel
theorem dX11_paste_115 : decode cX11_paste 115 = .ok (.iload 5, 2) := by decide +kernel
theorem dX11_paste_117 : decode cX11_paste 117 = .ok (.if_icmp .ge 30, 3) := by decide +kernel
theorem dX11_paste_120 : decode cX11_paste 120 = .ok (.aload_n 0, 1) := by decide +kernel
theorem dX11_paste_121 : decode cX11_paste 121 = .ok (.getfield 86, 3) := by decide +kernel
theorem dX11_paste_124 : decode cX11_paste 124 = .ok (.iload 6, 2) := by decide +kernel
theorem dX11_paste_126 : decode cX11_paste 126 = .ok (.aload_n 0, 1) := by decide +kernel
theorem dX11_paste_127 : decode cX11_paste 127 = .ok (.getfield 82, 3) := by decide +kernel
theorem dX11_paste_130 : decode cX11_paste 130 = .ok (.bipush 60, 2) := by decide +kernel
theorem dX11_paste_132 : decode cX11_paste 132 = .ok (.iload_n 1, 1) := by decide +kernel
theorem dX11_paste_133 : decode cX11_paste 133 = .ok (.imul, 1) := by decide +kernel
theorem dX11_paste_134 : decode cX11_paste 134 = .ok (.iload_n 2, 1) := by decide +kernel
theorem dX11_paste_135 : decode cX11_paste 135 = .ok (.iadd, 1) := by decide +kernel
theorem dX11_paste_136 : decode cX11_paste 136 = .ok (.iload 6, 2) := by decide +kernel
theorem dX11_paste_138 : decode cX11_paste 138 = .ok (.iadd, 1) := by decide +kernel
theorem dX11_paste_139 : decode cX11_paste 139 = .ok (.laload, 1) := by decide +kernel
theorem dX11_paste_140 : decode cX11_paste 140 = .ok (.lastore, 1) := by decide +kernel
theorem dX11_paste_141 : decode cX11_paste 141 = .ok (.iinc 6 1, 3) := by decide +kernel
theorem dX11_paste_144 : decode cX11_paste 144 = .ok (.goto (-31), 3) := by decide +kernel
theorem dX11_paste_147 : decode cX11_paste 147 = .ok (.iconst 0, 1) := by decide +kernel
theorem dX11_paste_148 : decode cX11_paste 148 = .ok (.istore 6, 2) := by decide +kernel
theorem dX11_paste_150 : decode cX11_paste 150 = .ok (.iload 6, 2) := by decide +kernel
theorem dX11_paste_152 : decode cX11_paste 152 = .ok (.iload 5, 2) := by decide +kernel
theorem dX11_paste_154 : decode cX11_paste 154 = .ok (.if_icmp .ge 31, 3) := by decide +kernel
theorem dX11_paste_157 : decode cX11_paste 157 = .ok (.aload_n 0, 1) := by decide +kernel
theorem dX11_paste_158 : decode cX11_paste 158 = .ok (.getfield 82, 3) := by decide +kernel
theorem dX11_paste_161 : decode cX11_paste 161 = .ok (.bipush 60, 2) := by decide +kernel
theorem dX11_paste_163 : decode cX11_paste 163 = .ok (.iload_n 3, 1) := by decide +kernel
theorem dX11_paste_164 : decode cX11_paste 164 = .ok (.imul, 1) := by decide +kernel
theorem dX11_paste_165 : decode cX11_paste 165 = .ok (.iload 4, 2) := by decide +kernel
theorem dX11_paste_167 : decode cX11_paste 167 = .ok (.iadd, 1) := by decide +kernel
theorem dX11_paste_168 : decode cX11_paste 168 = .ok (.iload 6, 2) := by decide +kernel
theorem dX11_paste_170 : decode cX11_paste 170 = .ok (.iadd, 1) := by decide +kernel
theorem dX11_paste_171 : decode cX11_paste 171 = .ok (.aload_n 0, 1) := by decide +kernel
theorem dX11_paste_172 : decode cX11_paste 172 = .ok (.getfield 86, 3) := by decide +kernel
theorem dX11_paste_175 : decode cX11_paste 175 = .ok (.iload 6, 2) := by decide +kernel
theorem dX11_paste_177 : decode cX11_paste 177 = .ok (.laload, 1) := by decide +kernel
theorem dX11_paste_178 : decode cX11_paste 178 = .ok (.lastore, 1) := by decide +kernel
theorem dX11_paste_179 : decode cX11_paste 179 = .ok (.iinc 6 1, 3) := by decide +kernel
theorem dX11_paste_182 : decode cX11_paste 182 = .ok (.goto (-32), 3) := by decide +kernel
theorem dX11_paste_185 : decode cX11_paste 185 = .ok (.iconst 0, 1) := by decide +kernel
theorem dX11_paste_186 : decode cX11_paste 186 = .ok (.ireturn, 1) := by decide +kernel
theorem dX11_pay_0 : decode cX11_pay 0 = .ok (.aload_n 0, 1) := by decide +kernel
theorem dX11_pay_1 : decode cX11_pay 1 = .ok (.getfield 34, 3) := by decide +kernel
theorem dX11_pay_4 : decode cX11_pay 4 = .ok (.iload_n 1, 1) := by decide +kernel
theorem dX11_pay_5 : decode cX11_pay 5 = .ok (.dup2, 1) := by decide +kernel
theorem dX11_pay_6 : decode cX11_pay 6 = .ok (.iaload, 1) := by decide +kernel
theorem dX11_pay_7 : decode cX11_pay 7 = .ok (.iload_n 3, 1) := by decide +kernel
theorem dX11_pay_8 : decode cX11_pay 8 = .ok (.isub, 1) := by decide +kernel
theorem dX11_pay_9 : decode cX11_pay 9 = .ok (.iastore, 1) := by decide +kernel
theorem dX11_pay_10 : decode cX11_pay 10 = .ok (.iload_n 1, 1) := by decide +kernel
theorem dX11_pay_11 : decode cX11_pay 11 = .ok (.aload_n 0, 1) := by decide +kernel
theorem dX11_pay_12 : decode cX11_pay 12 = .ok (.getfield 214, 3) := by decide +kernel
theorem dX11_pay_15 : decode cX11_pay 15 = .ok (.if_icmp .ne 20, 3) := by decide +kernel
theorem dX11_pay_18 : decode cX11_pay 18 = .ok (.aload_n 0, 1) := by decide +kernel
theorem dX11_pay_19 : decode cX11_pay 19 = .ok (.aload_n 0, 1) := by decide +kernel
theorem dX11_pay_20 : decode cX11_pay 20 = .ok (.getfield 241, 3) := by decide +kernel
theorem dX11_pay_23 : decode cX11_pay 23 = .ok (.aload_n 0, 1) := by decide +kernel
theorem dX11_pay_24 : decode cX11_pay 24 = .ok (.getfield 34, 3) := by decide +kernel
theorem dX11_pay_27 : decode cX11_pay 27 = .ok (.iload_n 1, 1) := by decide +kernel
theorem dX11_pay_28 : decode cX11_pay 28 = .ok (.iaload, 1) := by decide +kernel
theorem dX11_pay_29 : decode cX11_pay 29 = .ok (.invokestatic 136, 3) := by decide +kernel
theorem dX11_pay_32 : decode cX11_pay 32 = .ok (.putfield 241, 3) := by decide +kernel
theorem dX11_pay_35 : decode cX11_pay 35 = .ok (.aload_n 0, 1) := by decide +kernel
theorem dX11_pay_36 : decode cX11_pay 36 = .ok (.getfield 34, 3) := by decide +kernel
theorem dX11_pay_39 : decode cX11_pay 39 = .ok (.iload_n 2, 1) := by decide +kernel
theorem dX11_pay_40 : decode cX11_pay 40 = .ok (.dup2, 1) := by decide +kernel
theorem dX11_pay_41 : decode cX11_pay 41 = .ok (.iaload, 1) := by decide +kernel
theorem dX11_pay_42 : decode cX11_pay 42 = .ok (.iload_n 3, 1) := by decide +kernel
theorem dX11_pay_43 : decode cX11_pay 43 = .ok (.iadd, 1) := by decide +kernel
theorem dX11_pay_44 : decode cX11_pay 44 = .ok (.iastore, 1) := by decide +kernel
theorem dX11_pay_45 : decode cX11_pay 45 = .ok (.return_, 1) := by decide +kernel
theorem dX11_plan_0 : decode cX11_plan 0 = .ok (.aload_n 0, 1) := by decide +kernel
theorem dX11_plan_1 : decode cX11_plan 1 = .ok (.iload_n 1, 1) := by decide +kernel
theorem dX11_plan_2 : decode cX11_plan 2 = .ok (.i2l, 1) := by decide +kernel
theorem dX11_plan_3 : decode cX11_plan 3 = .ok (.invokevirtual 257, 3) := by decide +kernel
theorem dX11_plan_6 : decode cX11_plan 6 = .ok (.ifCond .eq 10, 3) := by decide +kernel
theorem dX11_plan_9 : decode cX11_plan 9 = .ok (.iload_n 2, 1) := by decide +kernel
theorem dX11_plan_10 : decode cX11_plan 10 = .ok (.invokestatic 353, 3) := by decide +kernel
theorem dX11_plan_13 : decode cX11_plan 13 = .ok (.ifCond .ne 6, 3) := by decide +kernel
theorem dX11_plan_16 : decode cX11_plan 16 = .ok (.bipush (-2), 2) := by decide +kernel
theorem dX11_plan_18 : decode cX11_plan 18 = .ok (.ireturn, 1) := by decide +kernel
theorem dX11_plan_19 : decode cX11_plan 19 = .ok (.aload_n 0, 1) := by decide +kernel
theorem dX11_plan_20 : decode cX11_plan 20 = .ok (.invokevirtual 250, 3) := by decide +kernel
theorem dX11_plan_23 : decode cX11_plan 23 = .ok (.aload_n 0, 1) := by decide +kernel
theorem dX11_plan_24 : decode cX11_plan 24 = .ok (.aload_n 0, 1) := by decide +kernel
theorem dX11_plan_25 : decode cX11_plan 25 = .ok (.iload_n 1, 1) := by decide +kernel
theorem dX11_plan_26 : decode cX11_plan 26 = .ok (.invokevirtual 328, 3) := by decide +kernel
theorem dX11_plan_29 : decode cX11_plan 29 = .ok (.putfield 356, 3) := by decide +kernel
theorem dX11_plan_32 : decode cX11_plan 32 = .ok (.iconst 0, 1) := by decide +kernel
theorem dX11_plan_33 : decode cX11_plan 33 = .ok (.istore_n 3, 1) := by decide +kernel
theorem dX11_plan_34 : decode cX11_plan 34 = .ok (.iconst 0, 1) := by decide +kernel
theorem dX11_plan_35 : decode cX11_plan 35 = .ok (.istore 4, 2) := by decide +kernel
theorem dX11_plan_37 : decode cX11_plan 37 = .ok (.iload 4, 2) := by decide +kernel
theorem dX11_plan_39 : decode cX11_plan 39 = .ok (.iload_n 2, 1) := by decide +kernel
theorem dX11_plan_40 : decode cX11_plan 40 = .ok (.if_icmp .ge 53, 3) := by decide +kernel
theorem dX11_plan_43 : decode cX11_plan 43 = .ok (.aload_n 0, 1) := by decide +kernel
theorem dX11_plan_44 : decode cX11_plan 44 = .ok (.iload_n 1, 1) := by decide +kernel
theorem dX11_plan_45 : decode cX11_plan 45 = .ok (.aload_n 0, 1) := by decide +kernel
theorem dX11_plan_46 : decode cX11_plan 46 = .ok (.getfield 356, 3) := by decide +kernel
theorem dX11_plan_49 : decode cX11_plan 49 = .ok (.invokevirtual 359, 3) := by decide +kernel
theorem dX11_plan_52 : decode cX11_plan 52 = .ok (.istore 5, 2) := by decide +kernel
theorem dX11_plan_54 : decode cX11_plan 54 = .ok (.iload 5, 2) := by decide +kernel
theorem dX11_plan_56 : decode cX11_plan 56 = .ok (.iconst (-1), 1) := by decide +kernel
theorem dX11_plan_57 : decode cX11_plan 57 = .ok (.if_icmp .ne 5, 3) := by decide +kernel
theorem dX11_plan_60 : decode cX11_plan 60 = .ok (.iload_n 3, 1) := by decide +kernel
theorem dX11_plan_61 : decode cX11_plan 61 = .ok (.ireturn, 1) := by decide +kernel
theorem dX11_plan_62 : decode cX11_plan 62 = .ok (.aload_n 0, 1) := by decide +kernel
theorem dX11_plan_63 : decode cX11_plan 63 = .ok (.dup, 1) := by decide +kernel
theorem dX11_plan_64 : decode cX11_plan 64 = .ok (.getfield 356, 3) := by decide +kernel
theorem dX11_plan_67 : decode cX11_plan 67 = .ok (.iconst 1, 1) := by decide +kernel
theorem dX11_plan_68 : decode cX11_plan 68 = .ok (.iload 5, 2) := by decide +kernel
theorem dX11_plan_70 : decode cX11_plan 70 = .ok (.ishl, 1) := by decide +kernel
theorem dX11_plan_71 : decode cX11_plan 71 = .ok (.iconst (-1), 1) := by decide +kernel
theorem dX11_plan_72 : decode cX11_plan 72 = .ok (.ixor, 1) := by decide +kernel
theorem dX11_plan_73 : decode cX11_plan 73 = .ok (.iand, 1) := by decide +kernel
theorem dX11_plan_74 : decode cX11_plan 74 = .ok (.putfield 356, 3) := by decide +kernel
theorem dX11_plan_77 : decode cX11_plan 77 = .ok (.iload_n 3, 1) := by decide +kernel
theorem dX11_plan_78 : decode cX11_plan 78 = .ok (.aload_n 0, 1) := by decide +kernel
theorem dX11_plan_79 : decode cX11_plan 79 = .ok (.iload_n 1, 1) := by decide +kernel
theorem dX11_plan_80 : decode cX11_plan 80 = .ok (.iload 5, 2) := by decide +kernel
theorem dX11_plan_82 : decode cX11_plan 82 = .ok (.invokevirtual 102, 3) := by decide +kernel
theorem dX11_plan_85 : decode cX11_plan 85 = .ok (.iadd, 1) := by decide +kernel
theorem dX11_plan_86 : decode cX11_plan 86 = .ok (.istore_n 3, 1) := by decide +kernel
theorem dX11_plan_87 : decode cX11_plan 87 = .ok (.iinc 4 1, 3) := by decide +kernel
theorem dX11_plan_90 : decode cX11_plan 90 = .ok (.goto (-53), 3) := by decide +kernel
theorem dX11_plan_93 : decode cX11_plan 93 = .ok (.iload_n 3, 1) := by decide +kernel
theorem dX11_plan_94 : decode cX11_plan 94 = .ok (.ireturn, 1) := by decide +kernel
theorem dX11_plans_0 : decode cX11_plans 0 = .ok (.aload_n 0, 1) := by decide +kernel
theorem dX11_plans_1 : decode cX11_plans 1 = .ok (.iload_n 1, 1) := by decide +kernel
theorem dX11_plans_2 : decode cX11_plans 2 = .ok (.i2l, 1) := by decide +kernel
theorem dX11_plans_3 : decode cX11_plans 3 = .ok (.invokevirtual 257, 3) := by decide +kernel
theorem dX11_plans_6 : decode cX11_plans 6 = .ok (.ifCond .eq 10, 3) := by decide +kernel
theorem dX11_plans_9 : decode cX11_plans 9 = .ok (.iload_n 2, 1) := by decide +kernel
theorem dX11_plans_10 : decode cX11_plans 10 = .ok (.invokestatic 353, 3) := by decide +kernel
theorem dX11_plans_13 : decode cX11_plans 13 = .ok (.ifCond .ne 6, 3) := by decide +kernel
theorem dX11_plans_16 : decode cX11_plans 16 = .ok (.bipush (-2), 2) := by decide +kernel
theorem dX11_plans_18 : decode cX11_plans 18 = .ok (.ireturn, 1) := by decide +kernel
theorem dX11_plans_19 : decode cX11_plans 19 = .ok (.iload_n 3, 1) := by decide +kernel
theorem dX11_plans_20 : decode cX11_plans 20 = .ok (.i2l, 1) := by decide +kernel
theorem dX11_plans_21 : decode cX11_plans 21 = .ok (.lconst 0, 1) := by decide +kernel
theorem dX11_plans_22 : decode cX11_plans 22 = .ok (.iload_n 2, 1) := by decide +kernel
theorem dX11_plans_23 : decode cX11_plans 23 = .ok (.iconst 1, 1) := by decide +kernel
theorem dX11_plans_24 : decode cX11_plans 24 = .ok (.isub, 1) := by decide +kernel
theorem dX11_plans_25 : decode cX11_plans 25 = .ok (.i2l, 1) := by decide +kernel
theorem dX11_plans_26 : decode cX11_plans 26 = .ok (.invokestatic 94, 3) := by decide +kernel
theorem dX11_plans_29 : decode cX11_plans 29 = .ok (.ifCond .ne 5, 3) := by decide +kernel
theorem dX11_plans_32 : decode cX11_plans 32 = .ok (.iconst (-1), 1) := by decide +kernel
theorem dX11_plans_33 : decode cX11_plans 33 = .ok (.ireturn, 1) := by decide +kernel
theorem dX11_plans_34 : decode cX11_plans 34 = .ok (.aload_n 0, 1) := by decide +kernel
theorem dX11_plans_35 : decode cX11_plans 35 = .ok (.invokevirtual 250, 3) := by decide +kernel
theorem dX11_plans_38 : decode cX11_plans 38 = .ok (.aload_n 0, 1) := by decide +kernel
theorem dX11_plans_39 : decode cX11_plans 39 = .ok (.aload_n 0, 1) := by decide +kernel
theorem dX11_plans_40 : decode cX11_plans 40 = .ok (.iload_n 1, 1) := by decide +kernel
theorem dX11_plans_41 : decode cX11_plans 41 = .ok (.invokevirtual 328, 3) := by decide +kernel
theorem dX11_plans_44 : decode cX11_plans 44 = .ok (.putfield 356, 3) := by decide +kernel
theorem dX11_plans_47 : decode cX11_plans 47 = .ok (.iconst 0, 1) := by decide +kernel
theorem dX11_plans_48 : decode cX11_plans 48 = .ok (.istore 4, 2) := by decide +kernel
theorem dX11_plans_50 : decode cX11_plans 50 = .ok (.iload 4, 2) := by decide +kernel
theorem dX11_plans_52 : decode cX11_plans 52 = .ok (.iload_n 3, 1) := by decide +kernel
theorem dX11_plans_53 : decode cX11_plans 53 = .ok (.if_icmp .ge 43, 3) := by decide +kernel
theorem dX11_plans_56 : decode cX11_plans 56 = .ok (.aload_n 0, 1) := by decide +kernel
theorem dX11_plans_57 : decode cX11_plans 57 = .ok (.iload_n 1, 1) := by decide +kernel
theorem dX11_plans_58 : decode cX11_plans 58 = .ok (.aload_n 0, 1) := by decide +kernel
theorem dX11_plans_59 : decode cX11_plans 59 = .ok (.getfield 356, 3) := by decide +kernel
theorem dX11_plans_62 : decode cX11_plans 62 = .ok (.invokevirtual 359, 3) := by decide +kernel
theorem dX11_plans_65 : decode cX11_plans 65 = .ok (.istore 5, 2) := by decide +kernel
theorem dX11_plans_67 : decode cX11_plans 67 = .ok (.iload 5, 2) := by decide +kernel
theorem dX11_plans_69 : decode cX11_plans 69 = .ok (.iconst (-1), 1) := by decide +kernel
theorem dX11_plans_70 : decode cX11_plans 70 = .ok (.if_icmp .ne 5, 3) := by decide +kernel
theorem dX11_plans_73 : decode cX11_plans 73 = .ok (.iconst (-1), 1) := by decide +kernel
theorem dX11_plans_74 : decode cX11_plans 74 = .ok (.ireturn, 1) := by decide +kernel
theorem dX11_plans_75 : decode cX11_plans 75 = .ok (.aload_n 0, 1) := by decide +kernel
theorem dX11_plans_76 : decode cX11_plans 76 = .ok (.dup, 1) := by decide +kernel
theorem dX11_plans_77 : decode cX11_plans 77 = .ok (.getfield 356, 3) := by decide +kernel
theorem dX11_plans_80 : decode cX11_plans 80 = .ok (.iconst 1, 1) := by decide +kernel
theorem dX11_plans_81 : decode cX11_plans 81 = .ok (.iload 5, 2) := by decide +kernel
theorem dX11_plans_83 : decode cX11_plans 83 = .ok (.ishl, 1) := by decide +kernel
theorem dX11_plans_84 : decode cX11_plans 84 = .ok (.iconst (-1), 1) := by decide +kernel
theorem dX11_plans_85 : decode cX11_plans 85 = .ok (.ixor, 1) := by decide +kernel
theorem dX11_plans_86 : decode cX11_plans 86 = .ok (.iand, 1) := by decide +kernel
theorem dX11_plans_87 : decode cX11_plans 87 = .ok (.putfield 356, 3) := by decide +kernel
theorem dX11_plans_90 : decode cX11_plans 90 = .ok (.iinc 4 1, 3) := by decide +kernel
theorem dX11_plans_93 : decode cX11_plans 93 = .ok (.goto (-43), 3) := by decide +kernel
theorem dX11_plans_96 : decode cX11_plans 96 = .ok (.aload_n 0, 1) := by decide +kernel
theorem dX11_plans_97 : decode cX11_plans 97 = .ok (.iload_n 1, 1) := by decide +kernel
theorem dX11_plans_98 : decode cX11_plans 98 = .ok (.aload_n 0, 1) := by decide +kernel
theorem dX11_plans_99 : decode cX11_plans 99 = .ok (.getfield 356, 3) := by decide +kernel
theorem dX11_plans_102 : decode cX11_plans 102 = .ok (.invokevirtual 359, 3) := by decide +kernel
theorem dX11_plans_105 : decode cX11_plans 105 = .ok (.ireturn, 1) := by decide +kernel
theorem dX11_poorest_0 : decode cX11_poorest 0 = .ok (.aload_n 0, 1) := by decide +kernel
theorem dX11_poorest_1 : decode cX11_poorest 1 = .ok (.invokevirtual 295, 3) := by decide +kernel
theorem dX11_poorest_4 : decode cX11_poorest 4 = .ok (.ifCond .ne 6, 3) := by decide +kernel
theorem dX11_poorest_7 : decode cX11_poorest 7 = .ok (.bipush (-2), 2) := by decide +kernel
theorem dX11_poorest_9 : decode cX11_poorest 9 = .ok (.ireturn, 1) := by decide +kernel
theorem dX11_poorest_10 : decode cX11_poorest 10 = .ok (.aload_n 0, 1) := by decide +kernel
theorem dX11_poorest_11 : decode cX11_poorest 11 = .ok (.invokevirtual 250, 3) := by decide +kernel
theorem dX11_poorest_14 : decode cX11_poorest 14 = .ok (.iconst (-1), 1) := by decide +kernel
theorem dX11_poorest_15 : decode cX11_poorest 15 = .ok (.istore_n 1, 1) := by decide +kernel
theorem dX11_poorest_16 : decode cX11_poorest 16 = .ok (.iconst 0, 1) := by decide +kernel
theorem dX11_poorest_17 : decode cX11_poorest 17 = .ok (.istore_n 2, 1) := by decide +kernel
theorem dX11_poorest_18 : decode cX11_poorest 18 = .ok (.iload_n 2, 1) := by decide +kernel
theorem dX11_poorest_19 : decode cX11_poorest 19 = .ok (.aload_n 0, 1) := by decide +kernel
theorem dX11_poorest_20 : decode cX11_poorest 20 = .ok (.getfield 9, 3) := by decide +kernel
theorem dX11_poorest_23 : decode cX11_poorest 23 = .ok (.iconst 3, 1) := by decide +kernel
theorem dX11_poorest_24 : decode cX11_poorest 24 = .ok (.iaload, 1) := by decide +kernel
theorem dX11_poorest_25 : decode cX11_poorest 25 = .ok (.if_icmp .ge 33, 3) := by decide +kernel
theorem dX11_poorest_28 : decode cX11_poorest 28 = .ok (.iload_n 1, 1) := by decide +kernel
theorem dX11_poorest_29 : decode cX11_poorest 29 = .ok (.iconst (-1), 1) := by decide +kernel
theorem dX11_poorest_30 : decode cX11_poorest 30 = .ok (.if_icmp .eq 16, 3) := by decide +kernel
theorem dX11_poorest_33 : decode cX11_poorest 33 = .ok (.aload_n 0, 1) := by decide +kernel
theorem dX11_poorest_34 : decode cX11_poorest 34 = .ok (.iload_n 2, 1) := by decide +kernel
theorem dX11_poorest_35 : decode cX11_poorest 35 = .ok (.invokevirtual 276, 3) := by decide +kernel
theorem dX11_poorest_38 : decode cX11_poorest 38 = .ok (.aload_n 0, 1) := by decide +kernel
theorem dX11_poorest_39 : decode cX11_poorest 39 = .ok (.iload_n 1, 1) := by decide +kernel
theorem dX11_poorest_40 : decode cX11_poorest 40 = .ok (.invokevirtual 276, 3) := by decide +kernel
theorem dX11_poorest_43 : decode cX11_poorest 43 = .ok (.if_icmp .ge 7, 3) := by decide +kernel
theorem dX11_poorest_46 : decode cX11_poorest 46 = .ok (.iload_n 2, 1) := by decide +kernel
theorem dX11_poorest_47 : decode cX11_poorest 47 = .ok (.goto 4, 3) := by decide +kernel
theorem dX11_poorest_50 : decode cX11_poorest 50 = .ok (.iload_n 1, 1) := by decide +kernel
theorem dX11_poorest_51 : decode cX11_poorest 51 = .ok (.istore_n 1, 1) := by decide +kernel
theorem dX11_poorest_52 : decode cX11_poorest 52 = .ok (.iinc 2 1, 3) := by decide +kernel
theorem dX11_poorest_55 : decode cX11_poorest 55 = .ok (.goto (-37), 3) := by decide +kernel
theorem dX11_poorest_58 : decode cX11_poorest 58 = .ok (.iload_n 1, 1) := by decide +kernel
theorem dX11_poorest_59 : decode cX11_poorest 59 = .ok (.ireturn, 1) := by decide +kernel
theorem dX11_price_0 : decode cX11_price 0 = .ok (.aload_n 0, 1) := by decide +kernel
theorem dX11_price_1 : decode cX11_price 1 = .ok (.iload_n 1, 1) := by decide +kernel
theorem dX11_price_2 : decode cX11_price 2 = .ok (.invokevirtual 272, 3) := by decide +kernel
theorem dX11_price_5 : decode cX11_price 5 = .ok (.ifCond .ne 6, 3) := by decide +kernel
theorem dX11_price_8 : decode cX11_price 8 = .ok (.bipush (-2), 2) := by decide +kernel
theorem dX11_price_10 : decode cX11_price 10 = .ok (.ireturn, 1) := by decide +kernel
theorem dX11_price_11 : decode cX11_price 11 = .ok (.aload_n 0, 1) := by decide +kernel
theorem dX11_price_12 : decode cX11_price 12 = .ok (.iload_n 1, 1) := by decide +kernel
theorem dX11_price_13 : decode cX11_price 13 = .ok (.invokevirtual 253, 3) := by decide +kernel
theorem dX11_price_16 : decode cX11_price 16 = .ok (.ifCond .eq 11, 3) := by decide +kernel
theorem dX11_price_19 : decode cX11_price 19 = .ok (.aload_n 0, 1) := by decide +kernel
theorem dX11_price_20 : decode cX11_price 20 = .ok (.iload_n 1, 1) := by decide +kernel
theorem dX11_price_21 : decode cX11_price 21 = .ok (.invokevirtual 244, 3) := by decide +kernel
theorem dX11_price_24 : decode cX11_price 24 = .ok (.goto 4, 3) := by decide +kernel
theorem dX11_price_27 : decode cX11_price 27 = .ok (.iconst (-1), 1) := by decide +kernel
theorem dX11_price_28 : decode cX11_price 28 = .ok (.ireturn, 1) := by decide +kernel
theorem dX11_priceOf_0 : decode cX11_priceOf 0 = .ok (.aload_n 0, 1) := by decide +kernel
theorem dX11_priceOf_1 : decode cX11_priceOf 1 = .ok (.iload_n 1, 1) := by decide +kernel
theorem dX11_priceOf_2 : decode cX11_priceOf 2 = .ok (.invokevirtual 238, 3) := by decide +kernel
theorem dX11_priceOf_5 : decode cX11_priceOf 5 = .ok (.istore_n 2, 1) := by decide +kernel
theorem dX11_priceOf_6 : decode cX11_priceOf 6 = .ok (.aload_n 0, 1) := by decide +kernel
theorem dX11_priceOf_7 : decode cX11_priceOf 7 = .ok (.getfield 211, 3) := by decide +kernel
theorem dX11_priceOf_10 : decode cX11_priceOf 10 = .ok (.istore_n 3, 1) := by decide +kernel
theorem dX11_priceOf_11 : decode cX11_priceOf 11 = .ok (.iload_n 3, 1) := by decide +kernel
theorem dX11_priceOf_12 : decode cX11_priceOf 12 = .ok (.aload_n 0, 1) := by decide +kernel
theorem dX11_priceOf_13 : decode cX11_priceOf 13 = .ok (.getfield 52, 3) := by decide +kernel
theorem dX11_priceOf_16 : decode cX11_priceOf 16 = .ok (.iload_n 1, 1) := by decide +kernel
theorem dX11_priceOf_17 : decode cX11_priceOf 17 = .ok (.iaload, 1) := by decide +kernel
theorem dX11_priceOf_18 : decode cX11_priceOf 18 = .ok (.if_icmp .ge 24, 3) := by decide +kernel
theorem dX11_priceOf_21 : decode cX11_priceOf 21 = .ok (.iload_n 2, 1) := by decide +kernel
theorem dX11_priceOf_22 : decode cX11_priceOf 22 = .ok (.bipush 100, 2) := by decide +kernel
theorem dX11_priceOf_24 : decode cX11_priceOf 24 = .ok (.aload_n 0, 1) := by decide +kernel
theorem dX11_priceOf_25 : decode cX11_priceOf 25 = .ok (.getfield 9, 3) := by decide +kernel
theorem dX11_priceOf_28 : decode cX11_priceOf 28 = .ok (.iconst 0, 1) := by decide +kernel
theorem dX11_priceOf_29 : decode cX11_priceOf 29 = .ok (.iaload, 1) := by decide +kernel
theorem dX11_priceOf_30 : decode cX11_priceOf 30 = .ok (.isub, 1) := by decide +kernel
theorem dX11_priceOf_31 : decode cX11_priceOf 31 = .ok (.imul, 1) := by decide +kernel
theorem dX11_priceOf_32 : decode cX11_priceOf 32 = .ok (.bipush 100, 2) := by decide +kernel
theorem dX11_priceOf_34 : decode cX11_priceOf 34 = .ok (.idiv, 1) := by decide +kernel
theorem dX11_priceOf_35 : decode cX11_priceOf 35 = .ok (.istore_n 2, 1) := by decide +kernel
theorem dX11_priceOf_36 : decode cX11_priceOf 36 = .ok (.iinc 3 1, 3) := by decide +kernel
theorem dX11_priceOf_39 : decode cX11_priceOf 39 = .ok (.goto (-28), 3) := by decide +kernel
theorem dX11_priceOf_42 : decode cX11_priceOf 42 = .ok (.iload_n 2, 1) := by decide +kernel
theorem dX11_priceOf_43 : decode cX11_priceOf 43 = .ok (.ireturn, 1) := by decide +kernel
theorem dX11_purse_0 : decode cX11_purse 0 = .ok (.aload_n 0, 1) := by decide +kernel
theorem dX11_purse_1 : decode cX11_purse 1 = .ok (.iload_n 1, 1) := by decide +kernel
theorem dX11_purse_2 : decode cX11_purse 2 = .ok (.i2l, 1) := by decide +kernel
theorem dX11_purse_3 : decode cX11_purse 3 = .ok (.invokevirtual 257, 3) := by decide +kernel
theorem dX11_purse_6 : decode cX11_purse 6 = .ok (.ifCond .eq 10, 3) := by decide +kernel
theorem dX11_purse_9 : decode cX11_purse 9 = .ok (.iload_n 2, 1) := by decide +kernel
theorem dX11_purse_10 : decode cX11_purse 10 = .ok (.invokestatic 338, 3) := by decide +kernel
theorem dX11_purse_13 : decode cX11_purse 13 = .ok (.ifCond .ne 6, 3) := by decide +kernel
theorem dX11_purse_16 : decode cX11_purse 16 = .ok (.bipush (-2), 2) := by decide +kernel
theorem dX11_purse_18 : decode cX11_purse 18 = .ok (.ireturn, 1) := by decide +kernel
theorem dX11_purse_19 : decode cX11_purse 19 = .ok (.aload_n 0, 1) := by decide +kernel
theorem dX11_purse_20 : decode cX11_purse 20 = .ok (.iload_n 2, 1) := by decide +kernel
theorem dX11_purse_21 : decode cX11_purse 21 = .ok (.invokevirtual 341, 3) := by decide +kernel
theorem dX11_purse_24 : decode cX11_purse 24 = .ok (.pop, 1) := by decide +kernel
theorem dX11_purse_25 : decode cX11_purse 25 = .ok (.aload_n 0, 1) := by decide +kernel
theorem dX11_purse_26 : decode cX11_purse 26 = .ok (.getfield 34, 3) := by decide +kernel
theorem dX11_purse_29 : decode cX11_purse 29 = .ok (.iload_n 1, 1) := by decide +kernel
theorem dX11_purse_30 : decode cX11_purse 30 = .ok (.iaload, 1) := by decide +kernel
theorem dX11_purse_31 : decode cX11_purse 31 = .ok (.ireturn, 1) := by decide +kernel
theorem dX11_rate_0 : decode cX11_rate 0 = .ok (.aload_n 0, 1) := by decide +kernel
theorem dX11_rate_1 : decode cX11_rate 1 = .ok (.iload_n 1, 1) := by decide +kernel
theorem dX11_rate_2 : decode cX11_rate 2 = .ok (.i2l, 1) := by decide +kernel
theorem dX11_rate_3 : decode cX11_rate 3 = .ok (.invokevirtual 266, 3) := by decide +kernel
theorem dX11_rate_6 : decode cX11_rate 6 = .ok (.ifCond .eq 31, 3) := by decide +kernel
theorem dX11_rate_9 : decode cX11_rate 9 = .ok (.iload_n 2, 1) := by decide +kernel
theorem dX11_rate_10 : decode cX11_rate 10 = .ok (.i2l, 1) := by decide +kernel
theorem dX11_rate_11 : decode cX11_rate 11 = .ok (.lconst 1, 1) := by decide +kernel
theorem dX11_rate_12 : decode cX11_rate 12 = .ok (.ldc2_w 383, 3) := by decide +kernel
theorem dX11_rate_15 : decode cX11_rate 15 = .ok (.invokestatic 94, 3) := by decide +kernel
theorem dX11_rate_18 : decode cX11_rate 18 = .ok (.ifCond .eq 19, 3) := by decide +kernel
theorem dX11_rate_21 : decode cX11_rate 21 = .ok (.aload_n 0, 1) := by decide +kernel
theorem dX11_rate_22 : decode cX11_rate 22 = .ok (.bipush 17, 2) := by decide +kernel
theorem dX11_rate_24 : decode cX11_rate 24 = .ok (.iconst 2, 1) := by decide +kernel
theorem dX11_rate_25 : decode cX11_rate 25 = .ok (.iload_n 1, 1) := by decide +kernel
theorem dX11_rate_26 : decode cX11_rate 26 = .ok (.imul, 1) := by decide +kernel
theorem dX11_rate_27 : decode cX11_rate 27 = .ok (.iadd, 1) := by decide +kernel
theorem dX11_rate_28 : decode cX11_rate 28 = .ok (.iconst 1, 1) := by decide +kernel
theorem dX11_rate_29 : decode cX11_rate 29 = .ok (.iadd, 1) := by decide +kernel
theorem dX11_rate_30 : decode cX11_rate 30 = .ok (.iload_n 2, 1) := by decide +kernel
theorem dX11_rate_31 : decode cX11_rate 31 = .ok (.invokevirtual 450, 3) := by decide +kernel
theorem dX11_rate_34 : decode cX11_rate 34 = .ok (.goto 5, 3) := by decide +kernel
theorem dX11_rate_37 : decode cX11_rate 37 = .ok (.bipush (-2), 2) := by decide +kernel
theorem dX11_rate_39 : decode cX11_rate 39 = .ok (.ireturn, 1) := by decide +kernel
theorem dX11_readLine_0 : decode cX11_readLine 0 = .ok (.aload_n 0, 1) := by decide +kernel
theorem dX11_readLine_1 : decode cX11_readLine 1 = .ok (.getfield 31, 3) := by decide +kernel
theorem dX11_readLine_4 : decode cX11_readLine 4 = .ok (.iconst 5, 1) := by decide +kernel
theorem dX11_readLine_5 : decode cX11_readLine 5 = .ok (.iaload, 1) := by decide +kernel
theorem dX11_readLine_6 : decode cX11_readLine 6 = .ok (.ifCond .ne 57, 3) := by decide +kernel
theorem dX11_readLine_9 : decode cX11_readLine 9 = .ok (.aload_n 0, 1) := by decide +kernel
theorem dX11_readLine_10 : decode cX11_readLine 10 = .ok (.ldc 194, 2) := by decide +kernel
theorem dX11_readLine_12 : decode cX11_readLine 12 = .ok (.invokevirtual 172, 3) := by decide +kernel
theorem dX11_readLine_15 : decode cX11_readLine 15 = .ok (.aload_n 0, 1) := by decide +kernel
theorem dX11_readLine_16 : decode cX11_readLine 16 = .ok (.getfield 31, 3) := by decide +kernel
theorem dX11_readLine_19 : decode cX11_readLine 19 = .ok (.iconst 0, 1) := by decide +kernel
theorem dX11_readLine_20 : decode cX11_readLine 20 = .ok (.aload_n 0, 1) := by decide +kernel
theorem dX11_readLine_21 : decode cX11_readLine 21 = .ok (.ldc 196, 2) := by decide +kernel
theorem dX11_readLine_23 : decode cX11_readLine 23 = .ok (.iconst 0, 1) := by decide +kernel
theorem dX11_readLine_24 : decode cX11_readLine 24 = .ok (.bipush 50, 2) := by decide +kernel
theorem dX11_readLine_26 : decode cX11_readLine 26 = .ok (.invokevirtual 186, 3) := by decide +kernel
theorem dX11_readLine_29 : decode cX11_readLine 29 = .ok (.iastore, 1) := by decide +kernel
theorem dX11_readLine_30 : decode cX11_readLine 30 = .ok (.aload_n 0, 1) := by decide +kernel
theorem dX11_readLine_31 : decode cX11_readLine 31 = .ok (.getfield 31, 3) := by decide +kernel
theorem dX11_readLine_34 : decode cX11_readLine 34 = .ok (.iconst 1, 1) := by decide +kernel
theorem dX11_readLine_35 : decode cX11_readLine 35 = .ok (.aload_n 0, 1) := by decide +kernel
theorem dX11_readLine_36 : decode cX11_readLine 36 = .ok (.ldc 198, 2) := by decide +kernel
theorem dX11_readLine_38 : decode cX11_readLine 38 = .ok (.iconst 1, 1) := by decide +kernel
theorem dX11_readLine_39 : decode cX11_readLine 39 = .ok (.bipush 6, 2) := by decide +kernel
theorem dX11_readLine_41 : decode cX11_readLine 41 = .ok (.invokevirtual 186, 3) := by decide +kernel
theorem dX11_readLine_44 : decode cX11_readLine 44 = .ok (.iastore, 1) := by decide +kernel
theorem dX11_readLine_45 : decode cX11_readLine 45 = .ok (.aload_n 0, 1) := by decide +kernel
theorem dX11_readLine_46 : decode cX11_readLine 46 = .ok (.getfield 31, 3) := by decide +kernel
theorem dX11_readLine_49 : decode cX11_readLine 49 = .ok (.iconst 2, 1) := by decide +kernel
theorem dX11_readLine_50 : decode cX11_readLine 50 = .ok (.aload_n 0, 1) := by decide +kernel
theorem dX11_readLine_51 : decode cX11_readLine 51 = .ok (.ldc 200, 2) := by decide +kernel
theorem dX11_readLine_53 : decode cX11_readLine 53 = .ok (.iconst 0, 1) := by decide +kernel
theorem dX11_readLine_54 : decode cX11_readLine 54 = .ok (.bipush 100, 2) := by decide +kernel
theorem dX11_readLine_56 : decode cX11_readLine 56 = .ok (.invokevirtual 186, 3) := by decide +kernel
theorem dX11_readLine_59 : decode cX11_readLine 59 = .ok (.iastore, 1) := by decide +kernel
theorem dX11_readLine_60 : decode cX11_readLine 60 = .ok (.goto 7, 3) := by decide +kernel
theorem dX11_readLine_63 : decode cX11_readLine 63 = .ok (.aload_n 0, 1) := by decide +kernel
theorem dX11_readLine_64 : decode cX11_readLine 64 = .ok (.invokevirtual 202, 3) := by decide +kernel
theorem dX11_readLine_67 : decode cX11_readLine 67 = .ok (.aload_n 0, 1) := by decide +kernel
theorem dX11_readLine_68 : decode cX11_readLine 68 = .ok (.invokevirtual 144, 3) := by decide +kernel
theorem dX11_readLine_71 : decode cX11_readLine 71 = .ok (.ifCond .eq 16, 3) := by decide +kernel
theorem dX11_readLine_74 : decode cX11_readLine 74 = .ok (.aload_n 0, 1) := by decide +kernel
theorem dX11_readLine_75 : decode cX11_readLine 75 = .ok (.getfield 121, 3) := by decide +kernel
theorem dX11_readLine_78 : decode cX11_readLine 78 = .ok (.iconst 3, 1) := by decide +kernel
theorem dX11_readLine_79 : decode cX11_readLine 79 = .ok (.if_icmp .eq 8, 3) := by decide +kernel
theorem dX11_readLine_82 : decode cX11_readLine 82 = .ok (.aload_n 0, 1) := by decide +kernel
theorem dX11_readLine_83 : decode cX11_readLine 83 = .ok (.iconst 1, 1) := by decide +kernel
theorem dX11_readLine_84 : decode cX11_readLine 84 = .ok (.invokevirtual 168, 3) := by decide +kernel
theorem dX11_readLine_87 : decode cX11_readLine 87 = .ok (.aload_n 0, 1) := by decide +kernel
theorem dX11_readLine_88 : decode cX11_readLine 88 = .ok (.invokevirtual 144, 3) := by decide +kernel
theorem dX11_readLine_91 : decode cX11_readLine 91 = .ok (.ifCond .eq 7, 3) := by decide +kernel
theorem dX11_readLine_94 : decode cX11_readLine 94 = .ok (.aload_n 0, 1) := by decide +kernel
theorem dX11_readLine_95 : decode cX11_readLine 95 = .ok (.invokevirtual 162, 3) := by decide +kernel
theorem dX11_readLine_98 : decode cX11_readLine 98 = .ok (.aload_n 0, 1) := by decide +kernel
theorem dX11_readLine_99 : decode cX11_readLine 99 = .ok (.getfield 31, 3) := by decide +kernel
theorem dX11_readLine_102 : decode cX11_readLine 102 = .ok (.iconst 5, 1) := by decide +kernel
theorem dX11_readLine_103 : decode cX11_readLine 103 = .ok (.dup2, 1) := by decide +kernel
theorem dX11_readLine_104 : decode cX11_readLine 104 = .ok (.iaload, 1) := by decide +kernel
theorem dX11_readLine_105 : decode cX11_readLine 105 = .ok (.iconst 1, 1) := by decide +kernel
theorem dX11_readLine_106 : decode cX11_readLine 106 = .ok (.iadd, 1) := by decide +kernel
theorem dX11_readLine_107 : decode cX11_readLine 107 = .ok (.iastore, 1) := by decide +kernel
theorem dX11_readLine_108 : decode cX11_readLine 108 = .ok (.return_, 1) := by decide +kernel
theorem dX11_readNext_0 : decode cX11_readNext 0 = .ok (.aload_n 0, 1) := by decide +kernel
theorem dX11_readNext_1 : decode cX11_readNext 1 = .ok (.ldc 179, 2) := by decide +kernel
theorem dX11_readNext_3 : decode cX11_readNext 3 = .ok (.invokevirtual 158, 3) := by decide +kernel
theorem dX11_readNext_6 : decode cX11_readNext 6 = .ok (.ifCond .ne 26, 3) := by decide +kernel
theorem dX11_readNext_9 : decode cX11_readNext 9 = .ok (.aload_n 0, 1) := by decide +kernel
theorem dX11_readNext_10 : decode cX11_readNext 10 = .ok (.ldc 181, 2) := by decide +kernel
theorem dX11_readNext_12 : decode cX11_readNext 12 = .ok (.invokevirtual 158, 3) := by decide +kernel
theorem dX11_readNext_15 : decode cX11_readNext 15 = .ok (.ifCond .ne 17, 3) := by decide +kernel
theorem dX11_readNext_18 : decode cX11_readNext 18 = .ok (.aload_n 0, 1) := by decide +kernel
theorem dX11_readNext_19 : decode cX11_readNext 19 = .ok (.ldc 183, 2) := by decide +kernel
theorem dX11_readNext_21 : decode cX11_readNext 21 = .ok (.invokevirtual 158, 3) := by decide +kernel
theorem dX11_readNext_24 : decode cX11_readNext 24 = .ok (.ifCond .ne 8, 3) := by decide +kernel
theorem dX11_readNext_27 : decode cX11_readNext 27 = .ok (.aload_n 0, 1) := by decide +kernel
theorem dX11_readNext_28 : decode cX11_readNext 28 = .ok (.iconst 1, 1) := by decide +kernel
theorem dX11_readNext_29 : decode cX11_readNext 29 = .ok (.invokevirtual 168, 3) := by decide +kernel
theorem dX11_readNext_32 : decode cX11_readNext 32 = .ok (.aload_n 0, 1) := by decide +kernel
theorem dX11_readNext_33 : decode cX11_readNext 33 = .ok (.ldc 179, 2) := by decide +kernel
theorem dX11_readNext_35 : decode cX11_readNext 35 = .ok (.invokevirtual 158, 3) := by decide +kernel
theorem dX11_readNext_38 : decode cX11_readNext 38 = .ok (.ifCond .eq 13, 3) := by decide +kernel
theorem dX11_readNext_41 : decode cX11_readNext 41 = .ok (.aload_n 0, 1) := by decide +kernel
theorem dX11_readNext_42 : decode cX11_readNext 42 = .ok (.getfield 31, 3) := by decide +kernel
theorem dX11_readNext_45 : decode cX11_readNext 45 = .ok (.iconst 3, 1) := by decide +kernel
theorem dX11_readNext_46 : decode cX11_readNext 46 = .ok (.iaload, 1) := by decide +kernel
theorem dX11_readNext_47 : decode cX11_readNext 47 = .ok (.iconst 5, 1) := by decide +kernel
theorem dX11_readNext_48 : decode cX11_readNext 48 = .ok (.if_icmp .eq 23, 3) := by decide +kernel
theorem dX11_readNext_51 : decode cX11_readNext 51 = .ok (.aload_n 0, 1) := by decide +kernel
theorem dX11_readNext_52 : decode cX11_readNext 52 = .ok (.ldc 181, 2) := by decide +kernel
theorem dX11_readNext_54 : decode cX11_readNext 54 = .ok (.invokevirtual 158, 3) := by decide +kernel
theorem dX11_readNext_57 : decode cX11_readNext 57 = .ok (.ifCond .eq 19, 3) := by decide +kernel
theorem dX11_readNext_60 : decode cX11_readNext 60 = .ok (.aload_n 0, 1) := by decide +kernel
theorem dX11_readNext_61 : decode cX11_readNext 61 = .ok (.getfield 31, 3) := by decide +kernel
theorem dX11_readNext_64 : decode cX11_readNext 64 = .ok (.iconst 4, 1) := by decide +kernel
theorem dX11_readNext_65 : decode cX11_readNext 65 = .ok (.iaload, 1) := by decide +kernel
theorem dX11_readNext_66 : decode cX11_readNext 66 = .ok (.bipush 6, 2) := by decide +kernel
theorem dX11_readNext_68 : decode cX11_readNext 68 = .ok (.if_icmp .ne 8, 3) := by decide +kernel
theorem dX11_readNext_71 : decode cX11_readNext 71 = .ok (.aload_n 0, 1) := by decide +kernel
theorem dX11_readNext_72 : decode cX11_readNext 72 = .ok (.iconst 3, 1) := by decide +kernel
theorem dX11_readNext_73 : decode cX11_readNext 73 = .ok (.invokevirtual 168, 3) := by decide +kernel
theorem dX11_readNext_76 : decode cX11_readNext 76 = .ok (.aload_n 0, 1) := by decide +kernel
theorem dX11_readNext_77 : decode cX11_readNext 77 = .ok (.invokevirtual 144, 3) := by decide +kernel
theorem dX11_readNext_80 : decode cX11_readNext 80 = .ok (.ifCond .ne 4, 3) := by decide +kernel
theorem dX11_readNext_83 : decode cX11_readNext 83 = .ok (.return_, 1) := by decide +kernel
theorem dX11_readNext_84 : decode cX11_readNext 84 = .ok (.aload_n 0, 1) := by decide +kernel
theorem dX11_readNext_85 : decode cX11_readNext 85 = .ok (.ldc 179, 2) := by decide +kernel
theorem dX11_readNext_87 : decode cX11_readNext 87 = .ok (.invokevirtual 165, 3) := by decide +kernel
theorem dX11_readNext_90 : decode cX11_readNext 90 = .ok (.ifCond .eq 66, 3) := by decide +kernel
theorem dX11_readNext_93 : decode cX11_readNext 93 = .ok (.bipush 7, 2) := by decide +kernel
theorem dX11_readNext_95 : decode cX11_readNext 95 = .ok (.iconst 2, 1) := by decide +kernel
theorem dX11_readNext_96 : decode cX11_readNext 96 = .ok (.aload_n 0, 1) := by decide +kernel
theorem dX11_readNext_97 : decode cX11_readNext 97 = .ok (.getfield 31, 3) := by decide +kernel
theorem dX11_readNext_100 : decode cX11_readNext 100 = .ok (.iconst 3, 1) := by decide +kernel
theorem dX11_readNext_101 : decode cX11_readNext 101 = .ok (.iaload, 1) := by decide +kernel
theorem dX11_readNext_102 : decode cX11_readNext 102 = .ok (.imul, 1) := by decide +kernel
theorem dX11_readNext_103 : decode cX11_readNext 103 = .ok (.iadd, 1) := by decide +kernel
theorem dX11_readNext_104 : decode cX11_readNext 104 = .ok (.istore_n 1, 1) := by decide +kernel
theorem dX11_readNext_105 : decode cX11_readNext 105 = .ok (.aload_n 0, 1) := by decide +kernel
theorem dX11_readNext_106 : decode cX11_readNext 106 = .ok (.getfield 31, 3) := by decide +kernel
theorem dX11_readNext_109 : decode cX11_readNext 109 = .ok (.iload_n 1, 1) := by decide +kernel
theorem dX11_readNext_110 : decode cX11_readNext 110 = .ok (.aload_n 0, 1) := by decide +kernel
theorem dX11_readNext_111 : decode cX11_readNext 111 = .ok (.ldc 185, 2) := by decide +kernel
theorem dX11_readNext_113 : decode cX11_readNext 113 = .ok (.iconst 0, 1) := by decide +kernel
theorem dX11_readNext_114 : decode cX11_readNext 114 = .ok (.sipush 9999, 3) := by decide +kernel
theorem dX11_readNext_117 : decode cX11_readNext 117 = .ok (.invokevirtual 186, 3) := by decide +kernel
theorem dX11_readNext_120 : decode cX11_readNext 120 = .ok (.iastore, 1) := by decide +kernel
theorem dX11_readNext_121 : decode cX11_readNext 121 = .ok (.aload_n 0, 1) := by decide +kernel
theorem dX11_readNext_122 : decode cX11_readNext 122 = .ok (.getfield 31, 3) := by decide +kernel
theorem dX11_readNext_125 : decode cX11_readNext 125 = .ok (.iload_n 1, 1) := by decide +kernel
theorem dX11_readNext_126 : decode cX11_readNext 126 = .ok (.iconst 1, 1) := by decide +kernel
theorem dX11_readNext_127 : decode cX11_readNext 127 = .ok (.iadd, 1) := by decide +kernel
theorem dX11_readNext_128 : decode cX11_readNext 128 = .ok (.aload_n 0, 1) := by decide +kernel
theorem dX11_readNext_129 : decode cX11_readNext 129 = .ok (.ldc 190, 2) := by decide +kernel
theorem dX11_readNext_131 : decode cX11_readNext 131 = .ok (.invokevirtual 165, 3) := by decide +kernel
theorem dX11_readNext_134 : decode cX11_readNext 134 = .ok (.ifCond .eq 7, 3) := by decide +kernel
theorem dX11_readNext_137 : decode cX11_readNext 137 = .ok (.iconst 1, 1) := by decide +kernel
theorem dX11_readNext_138 : decode cX11_readNext 138 = .ok (.goto 4, 3) := by decide +kernel
theorem dX11_readNext_141 : decode cX11_readNext 141 = .ok (.iconst 0, 1) := by decide +kernel
theorem dX11_readNext_142 : decode cX11_readNext 142 = .ok (.iastore, 1) := by decide +kernel
theorem dX11_readNext_143 : decode cX11_readNext 143 = .ok (.aload_n 0, 1) := by decide +kernel
theorem dX11_readNext_144 : decode cX11_readNext 144 = .ok (.getfield 31, 3) := by decide +kernel
theorem dX11_readNext_147 : decode cX11_readNext 147 = .ok (.iconst 3, 1) := by decide +kernel
theorem dX11_readNext_148 : decode cX11_readNext 148 = .ok (.dup2, 1) := by decide +kernel
theorem dX11_readNext_149 : decode cX11_readNext 149 = .ok (.iaload, 1) := by decide +kernel
theorem dX11_readNext_150 : decode cX11_readNext 150 = .ok (.iconst 1, 1) := by decide +kernel
theorem dX11_readNext_151 : decode cX11_readNext 151 = .ok (.iadd, 1) := by decide +kernel
theorem dX11_readNext_152 : decode cX11_readNext 152 = .ok (.iastore, 1) := by decide +kernel
theorem dX11_readNext_153 : decode cX11_readNext 153 = .ok (.goto 139, 3) := by decide +kernel
theorem dX11_readNext_156 : decode cX11_readNext 156 = .ok (.aload_n 0, 1) := by decide +kernel
theorem dX11_readNext_157 : decode cX11_readNext 157 = .ok (.ldc 181, 2) := by decide +kernel
theorem dX11_readNext_159 : decode cX11_readNext 159 = .ok (.invokevirtual 165, 3) := by decide +kernel
theorem dX11_readNext_162 : decode cX11_readNext 162 = .ok (.ifCond .eq 67, 3) := by decide +kernel
theorem dX11_readNext_165 : decode cX11_readNext 165 = .ok (.bipush 17, 2) := by decide +kernel
theorem dX11_readNext_167 : decode cX11_readNext 167 = .ok (.iconst 2, 1) := by decide +kernel
theorem dX11_readNext_168 : decode cX11_readNext 168 = .ok (.aload_n 0, 1) := by decide +kernel
theorem dX11_readNext_169 : decode cX11_readNext 169 = .ok (.getfield 31, 3) := by decide +kernel
theorem dX11_readNext_172 : decode cX11_readNext 172 = .ok (.iconst 4, 1) := by decide +kernel
theorem dX11_readNext_173 : decode cX11_readNext 173 = .ok (.iaload, 1) := by decide +kernel
theorem dX11_readNext_174 : decode cX11_readNext 174 = .ok (.imul, 1) := by decide +kernel
theorem dX11_readNext_175 : decode cX11_readNext 175 = .ok (.iadd, 1) := by decide +kernel
theorem dX11_readNext_176 : decode cX11_readNext 176 = .ok (.istore_n 1, 1) := by decide +kernel
theorem dX11_readNext_177 : decode cX11_readNext 177 = .ok (.aload_n 0, 1) := by decide +kernel
theorem dX11_readNext_178 : decode cX11_readNext 178 = .ok (.getfield 31, 3) := by decide +kernel
theorem dX11_readNext_181 : decode cX11_readNext 181 = .ok (.iload_n 1, 1) := by decide +kernel
theorem dX11_readNext_182 : decode cX11_readNext 182 = .ok (.aload_n 0, 1) := by decide +kernel
theorem dX11_readNext_183 : decode cX11_readNext 183 = .ok (.ldc 191, 2) := by decide +kernel
theorem dX11_readNext_185 : decode cX11_readNext 185 = .ok (.iconst 0, 1) := by decide +kernel
theorem dX11_readNext_186 : decode cX11_readNext 186 = .ok (.aload_n 0, 1) := by decide +kernel
theorem dX11_readNext_187 : decode cX11_readNext 187 = .ok (.getfield 31, 3) := by decide +kernel
theorem dX11_readNext_190 : decode cX11_readNext 190 = .ok (.iconst 3, 1) := by decide +kernel
theorem dX11_readNext_191 : decode cX11_readNext 191 = .ok (.iaload, 1) := by decide +kernel
theorem dX11_readNext_192 : decode cX11_readNext 192 = .ok (.iconst 1, 1) := by decide +kernel
theorem dX11_readNext_193 : decode cX11_readNext 193 = .ok (.isub, 1) := by decide +kernel
theorem dX11_readNext_194 : decode cX11_readNext 194 = .ok (.invokevirtual 186, 3) := by decide +kernel
theorem dX11_readNext_197 : decode cX11_readNext 197 = .ok (.iastore, 1) := by decide +kernel
theorem dX11_readNext_198 : decode cX11_readNext 198 = .ok (.aload_n 0, 1) := by decide +kernel
theorem dX11_readNext_199 : decode cX11_readNext 199 = .ok (.getfield 31, 3) := by decide +kernel
theorem dX11_readNext_202 : decode cX11_readNext 202 = .ok (.iload_n 1, 1) := by decide +kernel
theorem dX11_readNext_203 : decode cX11_readNext 203 = .ok (.iconst 1, 1) := by decide +kernel
theorem dX11_readNext_204 : decode cX11_readNext 204 = .ok (.iadd, 1) := by decide +kernel
theorem dX11_readNext_205 : decode cX11_readNext 205 = .ok (.aload_n 0, 1) := by decide +kernel
theorem dX11_readNext_206 : decode cX11_readNext 206 = .ok (.ldc 192, 2) := by decide +kernel
theorem dX11_readNext_208 : decode cX11_readNext 208 = .ok (.iconst 1, 1) := by decide +kernel
theorem dX11_readNext_209 : decode cX11_readNext 209 = .ok (.sipush 999, 3) := by decide +kernel
theorem dX11_readNext_212 : decode cX11_readNext 212 = .ok (.invokevirtual 186, 3) := by decide +kernel
theorem dX11_readNext_215 : decode cX11_readNext 215 = .ok (.iastore, 1) := by decide +kernel
theorem dX11_readNext_216 : decode cX11_readNext 216 = .ok (.aload_n 0, 1) := by decide +kernel
theorem dX11_readNext_217 : decode cX11_readNext 217 = .ok (.getfield 31, 3) := by decide +kernel
theorem dX11_readNext_220 : decode cX11_readNext 220 = .ok (.iconst 4, 1) := by decide +kernel
theorem dX11_readNext_221 : decode cX11_readNext 221 = .ok (.dup2, 1) := by decide +kernel
theorem dX11_readNext_222 : decode cX11_readNext 222 = .ok (.iaload, 1) := by decide +kernel
theorem dX11_readNext_223 : decode cX11_readNext 223 = .ok (.iconst 1, 1) := by decide +kernel
theorem dX11_readNext_224 : decode cX11_readNext 224 = .ok (.iadd, 1) := by decide +kernel
theorem dX11_readNext_225 : decode cX11_readNext 225 = .ok (.iastore, 1) := by decide +kernel
theorem dX11_readNext_226 : decode cX11_readNext 226 = .ok (.goto 66, 3) := by decide +kernel
theorem dX11_readNext_229 : decode cX11_readNext 229 = .ok (.aload_n 0, 1) := by decide +kernel
theorem dX11_readNext_230 : decode cX11_readNext 230 = .ok (.invokevirtual 162, 3) := by decide +kernel
theorem dX11_readNext_233 : decode cX11_readNext 233 = .ok (.aload_n 0, 1) := by decide +kernel
theorem dX11_readNext_234 : decode cX11_readNext 234 = .ok (.iconst 0, 1) := by decide +kernel
theorem dX11_readNext_235 : decode cX11_readNext 235 = .ok (.aload_n 0, 1) := by decide +kernel
theorem dX11_readNext_236 : decode cX11_readNext 236 = .ok (.getfield 31, 3) := by decide +kernel
theorem dX11_readNext_239 : decode cX11_readNext 239 = .ok (.iconst 3, 1) := by decide +kernel
theorem dX11_readNext_240 : decode cX11_readNext 240 = .ok (.iaload, 1) := by decide +kernel
theorem dX11_readNext_241 : decode cX11_readNext 241 = .ok (.iconst 1, 1) := by decide +kernel
theorem dX11_readNext_242 : decode cX11_readNext 242 = .ok (.isub, 1) := by decide +kernel
theorem dX11_readNext_243 : decode cX11_readNext 243 = .ok (.invokevirtual 176, 3) := by decide +kernel
theorem dX11_readNext_246 : decode cX11_readNext 246 = .ok (.istore_n 1, 1) := by decide +kernel
theorem dX11_readNext_247 : decode cX11_readNext 247 = .ok (.aload_n 0, 1) := by decide +kernel
theorem dX11_readNext_248 : decode cX11_readNext 248 = .ok (.iconst 0, 1) := by decide +kernel
theorem dX11_readNext_249 : decode cX11_readNext 249 = .ok (.aload_n 0, 1) := by decide +kernel
theorem dX11_readNext_250 : decode cX11_readNext 250 = .ok (.getfield 31, 3) := by decide +kernel
theorem dX11_readNext_253 : decode cX11_readNext 253 = .ok (.iconst 4, 1) := by decide +kernel
theorem dX11_readNext_254 : decode cX11_readNext 254 = .ok (.iaload, 1) := by decide +kernel
theorem dX11_readNext_255 : decode cX11_readNext 255 = .ok (.iconst 1, 1) := by decide +kernel
theorem dX11_readNext_256 : decode cX11_readNext 256 = .ok (.isub, 1) := by decide +kernel
theorem dX11_readNext_257 : decode cX11_readNext 257 = .ok (.invokevirtual 176, 3) := by decide +kernel
theorem dX11_readNext_260 : decode cX11_readNext 260 = .ok (.istore_n 2, 1) := by decide +kernel
theorem dX11_readNext_261 : decode cX11_readNext 261 = .ok (.aload_n 0, 1) := by decide +kernel
theorem dX11_readNext_262 : decode cX11_readNext 262 = .ok (.iconst 1, 1) := by decide +kernel
theorem dX11_readNext_263 : decode cX11_readNext 263 = .ok (.sipush 500, 3) := by decide +kernel
theorem dX11_readNext_266 : decode cX11_readNext 266 = .ok (.invokevirtual 176, 3) := by decide +kernel
theorem dX11_readNext_269 : decode cX11_readNext 269 = .ok (.istore_n 3, 1) := by decide +kernel
theorem dX11_readNext_270 : decode cX11_readNext 270 = .ok (.aload_n 0, 1) := by decide +kernel
theorem dX11_readNext_271 : decode cX11_readNext 271 = .ok (.invokevirtual 144, 3) := by decide +kernel
theorem dX11_readNext_274 : decode cX11_readNext 274 = .ok (.ifCond .eq 18, 3) := by decide +kernel
theorem dX11_readNext_277 : decode cX11_readNext 277 = .ok (.aload_n 0, 1) := by decide +kernel
theorem dX11_readNext_278 : decode cX11_readNext 278 = .ok (.getfield 31, 3) := by decide +kernel
theorem dX11_readNext_281 : decode cX11_readNext 281 = .ok (.bipush 29, 2) := by decide +kernel
theorem dX11_readNext_283 : decode cX11_readNext 283 = .ok (.bipush 6, 2) := by decide +kernel
theorem dX11_readNext_285 : decode cX11_readNext 285 = .ok (.iload_n 1, 1) := by decide +kernel
theorem dX11_readNext_286 : decode cX11_readNext 286 = .ok (.imul, 1) := by decide +kernel
theorem dX11_readNext_287 : decode cX11_readNext 287 = .ok (.iadd, 1) := by decide +kernel
theorem dX11_readNext_288 : decode cX11_readNext 288 = .ok (.iload_n 2, 1) := by decide +kernel
theorem dX11_readNext_289 : decode cX11_readNext 289 = .ok (.iadd, 1) := by decide +kernel
theorem dX11_readNext_290 : decode cX11_readNext 290 = .ok (.iload_n 3, 1) := by decide +kernel
theorem dX11_readNext_291 : decode cX11_readNext 291 = .ok (.iastore, 1) := by decide +kernel
theorem dX11_readNext_292 : decode cX11_readNext 292 = .ok (.return_, 1) := by decide +kernel
theorem dX11_rest_0 : decode cX11_rest 0 = .ok (.aload_n 0, 1) := by decide +kernel
theorem dX11_rest_1 : decode cX11_rest 1 = .ok (.iload_n 1, 1) := by decide +kernel
theorem dX11_rest_2 : decode cX11_rest 2 = .ok (.invokevirtual 385, 3) := by decide +kernel
theorem dX11_rest_5 : decode cX11_rest 5 = .ok (.ifCond .ne 6, 3) := by decide +kernel
theorem dX11_rest_8 : decode cX11_rest 8 = .ok (.bipush (-2), 2) := by decide +kernel
theorem dX11_rest_10 : decode cX11_rest 10 = .ok (.ireturn, 1) := by decide +kernel
theorem dX11_rest_11 : decode cX11_rest 11 = .ok (.iconst 0, 1) := by decide +kernel
theorem dX11_rest_12 : decode cX11_rest 12 = .ok (.istore_n 2, 1) := by decide +kernel
theorem dX11_rest_13 : decode cX11_rest 13 = .ok (.iload_n 2, 1) := by decide +kernel
theorem dX11_rest_14 : decode cX11_rest 14 = .ok (.iconst 1, 1) := by decide +kernel
theorem dX11_rest_15 : decode cX11_rest 15 = .ok (.aload_n 0, 1) := by decide +kernel
theorem dX11_rest_16 : decode cX11_rest 16 = .ok (.getfield 9, 3) := by decide +kernel
theorem dX11_rest_19 : decode cX11_rest 19 = .ok (.iconst 3, 1) := by decide +kernel
theorem dX11_rest_20 : decode cX11_rest 20 = .ok (.iaload, 1) := by decide +kernel
theorem dX11_rest_21 : decode cX11_rest 21 = .ok (.ishl, 1) := by decide +kernel
theorem dX11_rest_22 : decode cX11_rest 22 = .ok (.if_icmp .ge 20, 3) := by decide +kernel
theorem dX11_rest_25 : decode cX11_rest 25 = .ok (.aload_n 0, 1) := by decide +kernel
theorem dX11_rest_26 : decode cX11_rest 26 = .ok (.iload_n 2, 1) := by decide +kernel
theorem dX11_rest_27 : decode cX11_rest 27 = .ok (.iload_n 1, 1) := by decide +kernel
theorem dX11_rest_28 : decode cX11_rest 28 = .ok (.invokevirtual 388, 3) := by decide +kernel
theorem dX11_rest_31 : decode cX11_rest 31 = .ok (.ifCond .eq 5, 3) := by decide +kernel
theorem dX11_rest_34 : decode cX11_rest 34 = .ok (.iload_n 2, 1) := by decide +kernel
theorem dX11_rest_35 : decode cX11_rest 35 = .ok (.ireturn, 1) := by decide +kernel
theorem dX11_rest_36 : decode cX11_rest 36 = .ok (.iinc 2 1, 3) := by decide +kernel
theorem dX11_rest_39 : decode cX11_rest 39 = .ok (.goto (-26), 3) := by decide +kernel
theorem dX11_rest_42 : decode cX11_rest 42 = .ok (.iconst (-1), 1) := by decide +kernel
theorem dX11_rest_43 : decode cX11_rest 43 = .ok (.ireturn, 1) := by decide +kernel
theorem dX11_rests_0 : decode cX11_rests 0 = .ok (.aload_n 0, 1) := by decide +kernel
theorem dX11_rests_1 : decode cX11_rests 1 = .ok (.iload_n 1, 1) := by decide +kernel
theorem dX11_rests_2 : decode cX11_rests 2 = .ok (.invokevirtual 385, 3) := by decide +kernel
theorem dX11_rests_5 : decode cX11_rests 5 = .ok (.ifCond .ne 6, 3) := by decide +kernel
theorem dX11_rests_8 : decode cX11_rests 8 = .ok (.bipush (-2), 2) := by decide +kernel
theorem dX11_rests_10 : decode cX11_rests 10 = .ok (.ireturn, 1) := by decide +kernel
theorem dX11_rests_11 : decode cX11_rests 11 = .ok (.iconst 0, 1) := by decide +kernel
theorem dX11_rests_12 : decode cX11_rests 12 = .ok (.istore_n 2, 1) := by decide +kernel
theorem dX11_rests_13 : decode cX11_rests 13 = .ok (.iconst 0, 1) := by decide +kernel
theorem dX11_rests_14 : decode cX11_rests 14 = .ok (.istore_n 3, 1) := by decide +kernel
theorem dX11_rests_15 : decode cX11_rests 15 = .ok (.iload_n 3, 1) := by decide +kernel
theorem dX11_rests_16 : decode cX11_rests 16 = .ok (.iconst 1, 1) := by decide +kernel
theorem dX11_rests_17 : decode cX11_rests 17 = .ok (.aload_n 0, 1) := by decide +kernel
theorem dX11_rests_18 : decode cX11_rests 18 = .ok (.getfield 9, 3) := by decide +kernel
theorem dX11_rests_21 : decode cX11_rests 21 = .ok (.iconst 3, 1) := by decide +kernel
theorem dX11_rests_22 : decode cX11_rests 22 = .ok (.iaload, 1) := by decide +kernel
theorem dX11_rests_23 : decode cX11_rests 23 = .ok (.ishl, 1) := by decide +kernel
theorem dX11_rests_24 : decode cX11_rests 24 = .ok (.if_icmp .ge 26, 3) := by decide +kernel
theorem dX11_rests_27 : decode cX11_rests 27 = .ok (.iload_n 2, 1) := by decide +kernel
theorem dX11_rests_28 : decode cX11_rests 28 = .ok (.aload_n 0, 1) := by decide +kernel
theorem dX11_rests_29 : decode cX11_rests 29 = .ok (.iload_n 3, 1) := by decide +kernel
theorem dX11_rests_30 : decode cX11_rests 30 = .ok (.iload_n 1, 1) := by decide +kernel
theorem dX11_rests_31 : decode cX11_rests 31 = .ok (.invokevirtual 388, 3) := by decide +kernel
theorem dX11_rests_34 : decode cX11_rests 34 = .ok (.ifCond .eq 7, 3) := by decide +kernel
theorem dX11_rests_37 : decode cX11_rests 37 = .ok (.iconst 1, 1) := by decide +kernel
theorem dX11_rests_38 : decode cX11_rests 38 = .ok (.goto 4, 3) := by decide +kernel
theorem dX11_rests_41 : decode cX11_rests 41 = .ok (.iconst 0, 1) := by decide +kernel
theorem dX11_rests_42 : decode cX11_rests 42 = .ok (.iadd, 1) := by decide +kernel
theorem dX11_rests_43 : decode cX11_rests 43 = .ok (.istore_n 2, 1) := by decide +kernel
theorem dX11_rests_44 : decode cX11_rests 44 = .ok (.iinc 3 1, 3) := by decide +kernel
theorem dX11_rests_47 : decode cX11_rests 47 = .ok (.goto (-32), 3) := by decide +kernel
theorem dX11_rests_50 : decode cX11_rests 50 = .ok (.iload_n 2, 1) := by decide +kernel
theorem dX11_rests_51 : decode cX11_rests 51 = .ok (.ireturn, 1) := by decide +kernel
theorem dX11_rings_0 : decode cX11_rings 0 = .ok (.aload_n 0, 1) := by decide +kernel
theorem dX11_rings_1 : decode cX11_rings 1 = .ok (.invokevirtual 295, 3) := by decide +kernel
theorem dX11_rings_4 : decode cX11_rings 4 = .ok (.ifCond .ne 6, 3) := by decide +kernel
theorem dX11_rings_7 : decode cX11_rings 7 = .ok (.bipush (-2), 2) := by decide +kernel
theorem dX11_rings_9 : decode cX11_rings 9 = .ok (.ireturn, 1) := by decide +kernel
theorem dX11_rings_10 : decode cX11_rings 10 = .ok (.aload_n 0, 1) := by decide +kernel
theorem dX11_rings_11 : decode cX11_rings 11 = .ok (.invokevirtual 250, 3) := by decide +kernel
theorem dX11_rings_14 : decode cX11_rings 14 = .ok (.iconst 0, 1) := by decide +kernel
theorem dX11_rings_15 : decode cX11_rings 15 = .ok (.istore_n 1, 1) := by decide +kernel
theorem dX11_rings_16 : decode cX11_rings 16 = .ok (.iconst 0, 1) := by decide +kernel
theorem dX11_rings_17 : decode cX11_rings 17 = .ok (.istore_n 2, 1) := by decide +kernel
theorem dX11_rings_18 : decode cX11_rings 18 = .ok (.iload_n 2, 1) := by decide +kernel
theorem dX11_rings_19 : decode cX11_rings 19 = .ok (.aload_n 0, 1) := by decide +kernel
theorem dX11_rings_20 : decode cX11_rings 20 = .ok (.getfield 9, 3) := by decide +kernel
theorem dX11_rings_23 : decode cX11_rings 23 = .ok (.iconst 4, 1) := by decide +kernel
theorem dX11_rings_24 : decode cX11_rings 24 = .ok (.iaload, 1) := by decide +kernel
theorem dX11_rings_25 : decode cX11_rings 25 = .ok (.if_icmp .ge 28, 3) := by decide +kernel
theorem dX11_rings_28 : decode cX11_rings 28 = .ok (.iload_n 1, 1) := by decide +kernel
theorem dX11_rings_29 : decode cX11_rings 29 = .ok (.aload_n 0, 1) := by decide +kernel
theorem dX11_rings_30 : decode cX11_rings 30 = .ok (.iload_n 2, 1) := by decide +kernel
theorem dX11_rings_31 : decode cX11_rings 31 = .ok (.invokevirtual 309, 3) := by decide +kernel
theorem dX11_rings_34 : decode cX11_rings 34 = .ok (.iconst (-1), 1) := by decide +kernel
theorem dX11_rings_35 : decode cX11_rings 35 = .ok (.if_icmp .ne 9, 3) := by decide +kernel
theorem dX11_rings_38 : decode cX11_rings 38 = .ok (.iconst 1, 1) := by decide +kernel
theorem dX11_rings_39 : decode cX11_rings 39 = .ok (.iload_n 2, 1) := by decide +kernel
theorem dX11_rings_40 : decode cX11_rings 40 = .ok (.ishl, 1) := by decide +kernel
theorem dX11_rings_41 : decode cX11_rings 41 = .ok (.goto 4, 3) := by decide +kernel
theorem dX11_rings_44 : decode cX11_rings 44 = .ok (.iconst 0, 1) := by decide +kernel
theorem dX11_rings_45 : decode cX11_rings 45 = .ok (.ior, 1) := by decide +kernel
theorem dX11_rings_46 : decode cX11_rings 46 = .ok (.istore_n 1, 1) := by decide +kernel
theorem dX11_rings_47 : decode cX11_rings 47 = .ok (.iinc 2 1, 3) := by decide +kernel
theorem dX11_rings_50 : decode cX11_rings 50 = .ok (.goto (-32), 3) := by decide +kernel
theorem dX11_rings_53 : decode cX11_rings 53 = .ok (.iload_n 1, 1) := by decide +kernel
theorem dX11_rings_54 : decode cX11_rings 54 = .ok (.ireturn, 1) := by decide +kernel
theorem dX11_row_0 : decode cX11_row 0 = .ok (.iload_n 1, 1) := by decide +kernel
theorem dX11_row_1 : decode cX11_row 1 = .ok (.invokestatic 397, 3) := by decide +kernel
theorem dX11_row_4 : decode cX11_row 4 = .ok (.ifCond .eq 21, 3) := by decide +kernel
theorem dX11_row_7 : decode cX11_row 7 = .ok (.iload_n 2, 1) := by decide +kernel
theorem dX11_row_8 : decode cX11_row 8 = .ok (.i2l, 1) := by decide +kernel
theorem dX11_row_9 : decode cX11_row 9 = .ok (.lconst 0, 1) := by decide +kernel
theorem dX11_row_10 : decode cX11_row 10 = .ok (.ldc2_w 298, 3) := by decide +kernel
theorem dX11_row_13 : decode cX11_row 13 = .ok (.invokestatic 94, 3) := by decide +kernel
theorem dX11_row_16 : decode cX11_row 16 = .ok (.ifCond .eq 9, 3) := by decide +kernel
theorem dX11_row_19 : decode cX11_row 19 = .ok (.iload_n 3, 1) := by decide +kernel
theorem dX11_row_20 : decode cX11_row 20 = .ok (.bipush 60, 2) := by decide +kernel
theorem dX11_row_22 : decode cX11_row 22 = .ok (.if_icmp .le 6, 3) := by decide +kernel
theorem dX11_row_25 : decode cX11_row 25 = .ok (.bipush (-2), 2) := by decide +kernel
theorem dX11_row_27 : decode cX11_row 27 = .ok (.ireturn, 1) := by decide +kernel
theorem dX11_row_28 : decode cX11_row 28 = .ok (.iload_n 3, 1) := by decide +kernel
theorem dX11_row_29 : decode cX11_row 29 = .ok (.ifCond .ge 6, 3) := by decide +kernel
theorem dX11_row_32 : decode cX11_row 32 = .ok (.bipush (-3), 2) := by decide +kernel
theorem dX11_row_34 : decode cX11_row 34 = .ok (.ireturn, 1) := by decide +kernel
theorem dX11_row_35 : decode cX11_row 35 = .ok (.aload_n 0, 1) := by decide +kernel
theorem dX11_row_36 : decode cX11_row 36 = .ok (.getfield 76, 3) := by decide +kernel
theorem dX11_row_39 : decode cX11_row 39 = .ok (.iload_n 1, 1) := by decide +kernel
theorem dX11_row_40 : decode cX11_row 40 = .ok (.iload_n 3, 1) := by decide +kernel
theorem dX11_row_41 : decode cX11_row 41 = .ok (.iastore, 1) := by decide +kernel
theorem dX11_row_42 : decode cX11_row 42 = .ok (.aload_n 0, 1) := by decide +kernel
theorem dX11_row_43 : decode cX11_row 43 = .ok (.getfield 79, 3) := by decide +kernel
theorem dX11_row_46 : decode cX11_row 46 = .ok (.iload_n 1, 1) := by decide +kernel
theorem dX11_row_47 : decode cX11_row 47 = .ok (.iload_n 2, 1) := by decide +kernel
theorem dX11_row_48 : decode cX11_row 48 = .ok (.iastore, 1) := by decide +kernel
theorem dX11_row_49 : decode cX11_row 49 = .ok (.iconst 0, 1) := by decide +kernel
theorem dX11_row_50 : decode cX11_row 50 = .ok (.istore 4, 2) := by decide +kernel
theorem dX11_row_52 : decode cX11_row 52 = .ok (.iload 4, 2) := by decide +kernel
theorem dX11_row_54 : decode cX11_row 54 = .ok (.bipush 60, 2) := by decide +kernel
theorem dX11_row_56 : decode cX11_row 56 = .ok (.if_icmp .ge 22, 3) := by decide +kernel
theorem dX11_row_59 : decode cX11_row 59 = .ok (.aload_n 0, 1) := by decide +kernel
theorem dX11_row_60 : decode cX11_row 60 = .ok (.getfield 82, 3) := by decide +kernel
theorem dX11_row_63 : decode cX11_row 63 = .ok (.bipush 60, 2) := by decide +kernel
theorem dX11_row_65 : decode cX11_row 65 = .ok (.iload_n 1, 1) := by decide +kernel
theorem dX11_row_66 : decode cX11_row 66 = .ok (.imul, 1) := by decide +kernel
theorem dX11_row_67 : decode cX11_row 67 = .ok (.iload 4, 2) := by decide +kernel
theorem dX11_row_69 : decode cX11_row 69 = .ok (.iadd, 1) := by decide +kernel
theorem dX11_row_70 : decode cX11_row 70 = .ok (.lconst 0, 1) := by decide +kernel
theorem dX11_row_71 : decode cX11_row 71 = .ok (.lastore, 1) := by decide +kernel
theorem dX11_row_72 : decode cX11_row 72 = .ok (.iinc 4 1, 3) := by decide +kernel
theorem dX11_row_75 : decode cX11_row 75 = .ok (.goto (-23), 3) := by decide +kernel
theorem dX11_row_78 : decode cX11_row 78 = .ok (.iconst 0, 1) := by decide +kernel
theorem dX11_row_79 : decode cX11_row 79 = .ok (.ireturn, 1) := by decide +kernel
theorem dX11_run_0 : decode cX11_run 0 = .ok (.aload_n 0, 1) := by decide +kernel
theorem dX11_run_1 : decode cX11_run 1 = .ok (.invokevirtual 295, 3) := by decide +kernel
theorem dX11_run_4 : decode cX11_run 4 = .ok (.ifCond .ne 6, 3) := by decide +kernel
theorem dX11_run_7 : decode cX11_run 7 = .ok (.bipush (-2), 2) := by decide +kernel
theorem dX11_run_9 : decode cX11_run 9 = .ok (.ireturn, 1) := by decide +kernel
theorem dX11_run_10 : decode cX11_run 10 = .ok (.aload_n 0, 1) := by decide +kernel
theorem dX11_run_11 : decode cX11_run 11 = .ok (.invokevirtual 250, 3) := by decide +kernel
theorem dX11_run_14 : decode cX11_run 14 = .ok (.aload_n 0, 1) := by decide +kernel
theorem dX11_run_15 : decode cX11_run 15 = .ok (.invokevirtual 335, 3) := by decide +kernel
theorem dX11_run_18 : decode cX11_run 18 = .ok (.istore_n 1, 1) := by decide +kernel
theorem dX11_run_19 : decode cX11_run 19 = .ok (.iconst 0, 1) := by decide +kernel
theorem dX11_run_20 : decode cX11_run 20 = .ok (.istore_n 2, 1) := by decide +kernel
theorem dX11_run_21 : decode cX11_run 21 = .ok (.iload_n 2, 1) := by decide +kernel
theorem dX11_run_22 : decode cX11_run 22 = .ok (.aload_n 0, 1) := by decide +kernel
theorem dX11_run_23 : decode cX11_run 23 = .ok (.getfield 208, 3) := by decide +kernel
theorem dX11_run_26 : decode cX11_run 26 = .ok (.if_icmp .ge 29, 3) := by decide +kernel
theorem dX11_run_29 : decode cX11_run 29 = .ok (.aload_n 0, 1) := by decide +kernel
theorem dX11_run_30 : decode cX11_run 30 = .ok (.iload_n 2, 1) := by decide +kernel
theorem dX11_run_31 : decode cX11_run 31 = .ok (.invokevirtual 253, 3) := by decide +kernel
theorem dX11_run_34 : decode cX11_run 34 = .ok (.ifCond .eq 15, 3) := by decide +kernel
theorem dX11_run_37 : decode cX11_run 37 = .ok (.aload_n 0, 1) := by decide +kernel
theorem dX11_run_38 : decode cX11_run 38 = .ok (.getfield 52, 3) := by decide +kernel
theorem dX11_run_41 : decode cX11_run 41 = .ok (.iload_n 2, 1) := by decide +kernel
theorem dX11_run_42 : decode cX11_run 42 = .ok (.aload_n 0, 1) := by decide +kernel
theorem dX11_run_43 : decode cX11_run 43 = .ok (.getfield 211, 3) := by decide +kernel
theorem dX11_run_46 : decode cX11_run 46 = .ok (.iconst 1, 1) := by decide +kernel
theorem dX11_run_47 : decode cX11_run 47 = .ok (.iadd, 1) := by decide +kernel
theorem dX11_run_48 : decode cX11_run 48 = .ok (.iastore, 1) := by decide +kernel
theorem dX11_run_49 : decode cX11_run 49 = .ok (.iinc 2 1, 3) := by decide +kernel
theorem dX11_run_52 : decode cX11_run 52 = .ok (.goto (-31), 3) := by decide +kernel
theorem dX11_run_55 : decode cX11_run 55 = .ok (.aload_n 0, 1) := by decide +kernel
theorem dX11_run_56 : decode cX11_run 56 = .ok (.invokevirtual 232, 3) := by decide +kernel
theorem dX11_run_59 : decode cX11_run 59 = .ok (.pop, 1) := by decide +kernel
theorem dX11_run_60 : decode cX11_run 60 = .ok (.iconst 0, 1) := by decide +kernel
theorem dX11_run_61 : decode cX11_run 61 = .ok (.istore_n 2, 1) := by decide +kernel
theorem dX11_run_62 : decode cX11_run 62 = .ok (.iconst 0, 1) := by decide +kernel
theorem dX11_run_63 : decode cX11_run 63 = .ok (.istore_n 3, 1) := by decide +kernel
theorem dX11_run_64 : decode cX11_run 64 = .ok (.iload_n 3, 1) := by decide +kernel
theorem dX11_run_65 : decode cX11_run 65 = .ok (.aload_n 0, 1) := by decide +kernel
theorem dX11_run_66 : decode cX11_run 66 = .ok (.getfield 208, 3) := by decide +kernel
theorem dX11_run_69 : decode cX11_run 69 = .ok (.if_icmp .ge 31, 3) := by decide +kernel
theorem dX11_run_72 : decode cX11_run 72 = .ok (.iload_n 2, 1) := by decide +kernel
theorem dX11_run_73 : decode cX11_run 73 = .ok (.aload_n 0, 1) := by decide +kernel
theorem dX11_run_74 : decode cX11_run 74 = .ok (.invokevirtual 335, 3) := by decide +kernel
theorem dX11_run_77 : decode cX11_run 77 = .ok (.iload_n 1, 1) := by decide +kernel
theorem dX11_run_78 : decode cX11_run 78 = .ok (.iconst (-1), 1) := by decide +kernel
theorem dX11_run_79 : decode cX11_run 79 = .ok (.ixor, 1) := by decide +kernel
theorem dX11_run_80 : decode cX11_run 80 = .ok (.iand, 1) := by decide +kernel
theorem dX11_run_81 : decode cX11_run 81 = .ok (.iload_n 3, 1) := by decide +kernel
theorem dX11_run_82 : decode cX11_run 82 = .ok (.invokestatic 344, 3) := by decide +kernel
theorem dX11_run_85 : decode cX11_run 85 = .ok (.aload_n 0, 1) := by decide +kernel
theorem dX11_run_86 : decode cX11_run 86 = .ok (.getfield 43, 3) := by decide +kernel
theorem dX11_run_89 : decode cX11_run 89 = .ok (.iload_n 3, 1) := by decide +kernel
theorem dX11_run_90 : decode cX11_run 90 = .ok (.iaload, 1) := by decide +kernel
theorem dX11_run_91 : decode cX11_run 91 = .ok (.ishl, 1) := by decide +kernel
theorem dX11_run_92 : decode cX11_run 92 = .ok (.ior, 1) := by decide +kernel
theorem dX11_run_93 : decode cX11_run 93 = .ok (.istore_n 2, 1) := by decide +kernel
theorem dX11_run_94 : decode cX11_run 94 = .ok (.iinc 3 1, 3) := by decide +kernel
theorem dX11_run_97 : decode cX11_run 97 = .ok (.goto (-33), 3) := by decide +kernel
theorem dX11_run_100 : decode cX11_run 100 = .ok (.iload_n 2, 1) := by decide +kernel
theorem dX11_run_101 : decode cX11_run 101 = .ok (.ireturn, 1) := by decide +kernel
theorem dX11_see_0 : decode cX11_see 0 = .ok (.iload_n 1, 1) := by decide +kernel
theorem dX11_see_1 : decode cX11_see 1 = .ok (.aload_n 0, 1) := by decide +kernel
theorem dX11_see_2 : decode cX11_see 2 = .ok (.getfield 109, 3) := by decide +kernel
theorem dX11_see_5 : decode cX11_see 5 = .ok (.if_icmp .ge 16, 3) := by decide +kernel
theorem dX11_see_8 : decode cX11_see 8 = .ok (.aload_n 0, 1) := by decide +kernel
theorem dX11_see_9 : decode cX11_see 9 = .ok (.getfield 20, 3) := by decide +kernel
theorem dX11_see_12 : decode cX11_see 12 = .ok (.iload_n 1, 1) := by decide +kernel
theorem dX11_see_13 : decode cX11_see 13 = .ok (.baload, 1) := by decide +kernel
theorem dX11_see_14 : decode cX11_see 14 = .ok (.sipush 255, 3) := by decide +kernel
theorem dX11_see_17 : decode cX11_see 17 = .ok (.iand, 1) := by decide +kernel
theorem dX11_see_18 : decode cX11_see 18 = .ok (.goto 4, 3) := by decide +kernel
theorem dX11_see_21 : decode cX11_see 21 = .ok (.iconst (-1), 1) := by decide +kernel
theorem dX11_see_22 : decode cX11_see 22 = .ok (.ireturn, 1) := by decide +kernel
theorem dX11_sell_0 : decode cX11_sell 0 = .ok (.aload_n 0, 1) := by decide +kernel
theorem dX11_sell_1 : decode cX11_sell 1 = .ok (.iload_n 1, 1) := by decide +kernel
theorem dX11_sell_2 : decode cX11_sell 2 = .ok (.invokevirtual 272, 3) := by decide +kernel
theorem dX11_sell_5 : decode cX11_sell 5 = .ok (.ifCond .eq 12, 3) := by decide +kernel
theorem dX11_sell_8 : decode cX11_sell 8 = .ok (.aload_n 0, 1) := by decide +kernel
theorem dX11_sell_9 : decode cX11_sell 9 = .ok (.iload_n 2, 1) := by decide +kernel
theorem dX11_sell_10 : decode cX11_sell 10 = .ok (.i2l, 1) := by decide +kernel
theorem dX11_sell_11 : decode cX11_sell 11 = .ok (.invokevirtual 257, 3) := by decide +kernel
theorem dX11_sell_14 : decode cX11_sell 14 = .ok (.ifCond .ne 6, 3) := by decide +kernel
theorem dX11_sell_17 : decode cX11_sell 17 = .ok (.bipush (-2), 2) := by decide +kernel
theorem dX11_sell_19 : decode cX11_sell 19 = .ok (.ireturn, 1) := by decide +kernel
theorem dX11_sell_20 : decode cX11_sell 20 = .ok (.aload_n 0, 1) := by decide +kernel
theorem dX11_sell_21 : decode cX11_sell 21 = .ok (.iload_n 1, 1) := by decide +kernel
theorem dX11_sell_22 : decode cX11_sell 22 = .ok (.invokevirtual 253, 3) := by decide +kernel
theorem dX11_sell_25 : decode cX11_sell 25 = .ok (.ifCond .eq 46, 3) := by decide +kernel
theorem dX11_sell_28 : decode cX11_sell 28 = .ok (.aload_n 0, 1) := by decide +kernel
theorem dX11_sell_29 : decode cX11_sell 29 = .ok (.getfield 49, 3) := by decide +kernel
theorem dX11_sell_32 : decode cX11_sell 32 = .ok (.iload_n 1, 1) := by decide +kernel
theorem dX11_sell_33 : decode cX11_sell 33 = .ok (.iaload, 1) := by decide +kernel
theorem dX11_sell_34 : decode cX11_sell 34 = .ok (.iload_n 2, 1) := by decide +kernel
theorem dX11_sell_35 : decode cX11_sell 35 = .ok (.if_icmp .eq 36, 3) := by decide +kernel
theorem dX11_sell_38 : decode cX11_sell 38 = .ok (.aload_n 0, 1) := by decide +kernel
theorem dX11_sell_39 : decode cX11_sell 39 = .ok (.getfield 34, 3) := by decide +kernel
theorem dX11_sell_42 : decode cX11_sell 42 = .ok (.iload_n 2, 1) := by decide +kernel
theorem dX11_sell_43 : decode cX11_sell 43 = .ok (.iaload, 1) := by decide +kernel
theorem dX11_sell_44 : decode cX11_sell 44 = .ok (.aload_n 0, 1) := by decide +kernel
theorem dX11_sell_45 : decode cX11_sell 45 = .ok (.iload_n 1, 1) := by decide +kernel
theorem dX11_sell_46 : decode cX11_sell 46 = .ok (.invokevirtual 244, 3) := by decide +kernel
theorem dX11_sell_49 : decode cX11_sell 49 = .ok (.if_icmp .lt 22, 3) := by decide +kernel
theorem dX11_sell_52 : decode cX11_sell 52 = .ok (.aload_n 0, 1) := by decide +kernel
theorem dX11_sell_53 : decode cX11_sell 53 = .ok (.iconst 1, 1) := by decide +kernel
theorem dX11_sell_54 : decode cX11_sell 54 = .ok (.iload_n 1, 1) := by decide +kernel
theorem dX11_sell_55 : decode cX11_sell 55 = .ok (.iload_n 2, 1) := by decide +kernel
theorem dX11_sell_56 : decode cX11_sell 56 = .ok (.iconst 0, 1) := by decide +kernel
theorem dX11_sell_57 : decode cX11_sell 57 = .ok (.invokevirtual 285, 3) := by decide +kernel
theorem dX11_sell_60 : decode cX11_sell 60 = .ok (.ifCond .eq 11, 3) := by decide +kernel
theorem dX11_sell_63 : decode cX11_sell 63 = .ok (.aload_n 0, 1) := by decide +kernel
theorem dX11_sell_64 : decode cX11_sell 64 = .ok (.iload_n 1, 1) := by decide +kernel
theorem dX11_sell_65 : decode cX11_sell 65 = .ok (.invokevirtual 244, 3) := by decide +kernel
theorem dX11_sell_68 : decode cX11_sell 68 = .ok (.goto 5, 3) := by decide +kernel
theorem dX11_sell_71 : decode cX11_sell 71 = .ok (.bipush (-5), 2) := by decide +kernel
theorem dX11_sell_73 : decode cX11_sell 73 = .ok (.ireturn, 1) := by decide +kernel
theorem dX11_sell0_0 : decode cX11_sell0 0 = .ok (.aload_n 0, 1) := by decide +kernel
theorem dX11_sell0_1 : decode cX11_sell0 1 = .ok (.iload_n 2, 1) := by decide +kernel
theorem dX11_sell0_2 : decode cX11_sell0 2 = .ok (.aload_n 0, 1) := by decide +kernel
theorem dX11_sell0_3 : decode cX11_sell0 3 = .ok (.getfield 49, 3) := by decide +kernel
theorem dX11_sell0_6 : decode cX11_sell0 6 = .ok (.iload_n 1, 1) := by decide +kernel
theorem dX11_sell0_7 : decode cX11_sell0 7 = .ok (.iaload, 1) := by decide +kernel
theorem dX11_sell0_8 : decode cX11_sell0 8 = .ok (.aload_n 0, 1) := by decide +kernel
theorem dX11_sell0_9 : decode cX11_sell0 9 = .ok (.iload_n 1, 1) := by decide +kernel
theorem dX11_sell0_10 : decode cX11_sell0 10 = .ok (.invokevirtual 244, 3) := by decide +kernel
theorem dX11_sell0_13 : decode cX11_sell0 13 = .ok (.invokevirtual 247, 3) := by decide +kernel
theorem dX11_sell0_16 : decode cX11_sell0 16 = .ok (.aload_n 0, 1) := by decide +kernel
theorem dX11_sell0_17 : decode cX11_sell0 17 = .ok (.getfield 49, 3) := by decide +kernel
theorem dX11_sell0_20 : decode cX11_sell0 20 = .ok (.iload_n 1, 1) := by decide +kernel
theorem dX11_sell0_21 : decode cX11_sell0 21 = .ok (.iload_n 2, 1) := by decide +kernel
theorem dX11_sell0_22 : decode cX11_sell0 22 = .ok (.iastore, 1) := by decide +kernel
theorem dX11_sell0_23 : decode cX11_sell0 23 = .ok (.return_, 1) := by decide +kernel
theorem dX11_staying_0 : decode cX11_staying 0 = .ok (.iconst 0, 1) := by decide +kernel
theorem dX11_staying_1 : decode cX11_staying 1 = .ok (.istore_n 2, 1) := by decide +kernel
theorem dX11_staying_2 : decode cX11_staying 2 = .ok (.iconst 1, 1) := by decide +kernel
theorem dX11_staying_3 : decode cX11_staying 3 = .ok (.istore_n 3, 1) := by decide +kernel
theorem dX11_staying_4 : decode cX11_staying 4 = .ok (.aload_n 0, 1) := by decide +kernel
theorem dX11_staying_5 : decode cX11_staying 5 = .ok (.getfield 9, 3) := by decide +kernel
theorem dX11_staying_8 : decode cX11_staying 8 = .ok (.iconst 3, 1) := by decide +kernel
theorem dX11_staying_9 : decode cX11_staying 9 = .ok (.iaload, 1) := by decide +kernel
theorem dX11_staying_10 : decode cX11_staying 10 = .ok (.istore 4, 2) := by decide +kernel
theorem dX11_staying_12 : decode cX11_staying 12 = .ok (.iconst 0, 1) := by decide +kernel
theorem dX11_staying_13 : decode cX11_staying 13 = .ok (.istore 5, 2) := by decide +kernel
theorem dX11_staying_15 : decode cX11_staying 15 = .ok (.iload 5, 2) := by decide +kernel
theorem dX11_staying_17 : decode cX11_staying 17 = .ok (.iload 4, 2) := by decide +kernel
theorem dX11_staying_19 : decode cX11_staying 19 = .ok (.if_icmp .ge 16, 3) := by decide +kernel
theorem dX11_staying_22 : decode cX11_staying 22 = .ok (.iload_n 3, 1) := by decide +kernel
theorem dX11_staying_23 : decode cX11_staying 23 = .ok (.iload 4, 2) := by decide +kernel
theorem dX11_staying_25 : decode cX11_staying 25 = .ok (.iconst 1, 1) := by decide +kernel
theorem dX11_staying_26 : decode cX11_staying 26 = .ok (.iadd, 1) := by decide +kernel
theorem dX11_staying_27 : decode cX11_staying 27 = .ok (.imul, 1) := by decide +kernel
theorem dX11_staying_28 : decode cX11_staying 28 = .ok (.istore_n 3, 1) := by decide +kernel
theorem dX11_staying_29 : decode cX11_staying 29 = .ok (.iinc 5 1, 3) := by decide +kernel
theorem dX11_staying_32 : decode cX11_staying 32 = .ok (.goto (-17), 3) := by decide +kernel
theorem dX11_staying_35 : decode cX11_staying 35 = .ok (.iconst 0, 1) := by decide +kernel
theorem dX11_staying_36 : decode cX11_staying 36 = .ok (.istore 5, 2) := by decide +kernel
theorem dX11_staying_38 : decode cX11_staying 38 = .ok (.iload 5, 2) := by decide +kernel
theorem dX11_staying_40 : decode cX11_staying 40 = .ok (.iload_n 3, 1) := by decide +kernel
theorem dX11_staying_41 : decode cX11_staying 41 = .ok (.if_icmp .ge 184, 3) := by decide +kernel
theorem dX11_staying_44 : decode cX11_staying 44 = .ok (.iload 5, 2) := by decide +kernel
theorem dX11_staying_46 : decode cX11_staying 46 = .ok (.istore 6, 2) := by decide +kernel
theorem dX11_staying_48 : decode cX11_staying 48 = .ok (.iconst 0, 1) := by decide +kernel
theorem dX11_staying_49 : decode cX11_staying 49 = .ok (.istore 7, 2) := by decide +kernel
theorem dX11_staying_51 : decode cX11_staying 51 = .ok (.iconst 1, 1) := by decide +kernel
theorem dX11_staying_52 : decode cX11_staying 52 = .ok (.istore 8, 2) := by decide +kernel
theorem dX11_staying_54 : decode cX11_staying 54 = .ok (.iconst 0, 1) := by decide +kernel
theorem dX11_staying_55 : decode cX11_staying 55 = .ok (.istore 9, 2) := by decide +kernel
theorem dX11_staying_57 : decode cX11_staying 57 = .ok (.iload 9, 2) := by decide +kernel
theorem dX11_staying_59 : decode cX11_staying 59 = .ok (.iload 4, 2) := by decide +kernel
theorem dX11_staying_61 : decode cX11_staying 61 = .ok (.if_icmp .ge 113, 3) := by decide +kernel
theorem dX11_staying_64 : decode cX11_staying 64 = .ok (.iload 6, 2) := by decide +kernel
theorem dX11_staying_66 : decode cX11_staying 66 = .ok (.iload 4, 2) := by decide +kernel
theorem dX11_staying_68 : decode cX11_staying 68 = .ok (.iconst 1, 1) := by decide +kernel
theorem dX11_staying_69 : decode cX11_staying 69 = .ok (.iadd, 1) := by decide +kernel
theorem dX11_staying_70 : decode cX11_staying 70 = .ok (.irem, 1) := by decide +kernel
theorem dX11_staying_71 : decode cX11_staying 71 = .ok (.istore 10, 2) := by decide +kernel
theorem dX11_staying_73 : decode cX11_staying 73 = .ok (.iload 6, 2) := by decide +kernel
theorem dX11_staying_75 : decode cX11_staying 75 = .ok (.iload 4, 2) := by decide +kernel
theorem dX11_staying_77 : decode cX11_staying 77 = .ok (.iconst 1, 1) := by decide +kernel
theorem dX11_staying_78 : decode cX11_staying 78 = .ok (.iadd, 1) := by decide +kernel
theorem dX11_staying_79 : decode cX11_staying 79 = .ok (.idiv, 1) := by decide +kernel
theorem dX11_staying_80 : decode cX11_staying 80 = .ok (.istore 6, 2) := by decide +kernel
theorem dX11_staying_82 : decode cX11_staying 82 = .ok (.aload_n 0, 1) := by decide +kernel
theorem dX11_staying_83 : decode cX11_staying 83 = .ok (.getfield 70, 3) := by decide +kernel
theorem dX11_staying_86 : decode cX11_staying 86 = .ok (.iload 9, 2) := by decide +kernel
theorem dX11_staying_88 : decode cX11_staying 88 = .ok (.iload 10, 2) := by decide +kernel
theorem dX11_staying_90 : decode cX11_staying 90 = .ok (.iload 4, 2) := by decide +kernel
theorem dX11_staying_92 : decode cX11_staying 92 = .ok (.if_icmp .ne 7, 3) := by decide +kernel
theorem dX11_staying_95 : decode cX11_staying 95 = .ok (.iconst (-1), 1) := by decide +kernel
theorem dX11_staying_96 : decode cX11_staying 96 = .ok (.goto 12, 3) := by decide +kernel
theorem dX11_staying_99 : decode cX11_staying 99 = .ok (.aload_n 0, 1) := by decide +kernel
theorem dX11_staying_100 : decode cX11_staying 100 = .ok (.iload 9, 2) := by decide +kernel
theorem dX11_staying_102 : decode cX11_staying 102 = .ok (.iload 10, 2) := by decide +kernel
theorem dX11_staying_104 : decode cX11_staying 104 = .ok (.iload_n 1, 1) := by decide +kernel
theorem dX11_staying_105 : decode cX11_staying 105 = .ok (.invokevirtual 315, 3) := by decide +kernel
theorem dX11_staying_108 : decode cX11_staying 108 = .ok (.iastore, 1) := by decide +kernel
theorem dX11_staying_109 : decode cX11_staying 109 = .ok (.iload 8, 2) := by decide +kernel
theorem dX11_staying_111 : decode cX11_staying 111 = .ok (.ifCond .eq 25, 3) := by decide +kernel
theorem dX11_staying_114 : decode cX11_staying 114 = .ok (.iload 10, 2) := by decide +kernel
theorem dX11_staying_116 : decode cX11_staying 116 = .ok (.iload 4, 2) := by decide +kernel
theorem dX11_staying_118 : decode cX11_staying 118 = .ok (.if_icmp .eq 14, 3) := by decide +kernel
theorem dX11_staying_121 : decode cX11_staying 121 = .ok (.aload_n 0, 1) := by decide +kernel
theorem dX11_staying_122 : decode cX11_staying 122 = .ok (.getfield 70, 3) := by decide +kernel
theorem dX11_staying_125 : decode cX11_staying 125 = .ok (.iload 9, 2) := by decide +kernel
theorem dX11_staying_127 : decode cX11_staying 127 = .ok (.iaload, 1) := by decide +kernel
theorem dX11_staying_128 : decode cX11_staying 128 = .ok (.iconst (-1), 1) := by decide +kernel
theorem dX11_staying_129 : decode cX11_staying 129 = .ok (.if_icmp .eq 7, 3) := by decide +kernel
theorem dX11_staying_132 : decode cX11_staying 132 = .ok (.iconst 1, 1) := by decide +kernel
theorem dX11_staying_133 : decode cX11_staying 133 = .ok (.goto 4, 3) := by decide +kernel
theorem dX11_staying_136 : decode cX11_staying 136 = .ok (.iconst 0, 1) := by decide +kernel
theorem dX11_staying_137 : decode cX11_staying 137 = .ok (.istore 8, 2) := by decide +kernel
theorem dX11_staying_139 : decode cX11_staying 139 = .ok (.iload 7, 2) := by decide +kernel
theorem dX11_staying_141 : decode cX11_staying 141 = .ok (.aload_n 0, 1) := by decide +kernel
theorem dX11_staying_142 : decode cX11_staying 142 = .ok (.getfield 70, 3) := by decide +kernel
theorem dX11_staying_145 : decode cX11_staying 145 = .ok (.iload 9, 2) := by decide +kernel
theorem dX11_staying_147 : decode cX11_staying 147 = .ok (.iaload, 1) := by decide +kernel
theorem dX11_staying_148 : decode cX11_staying 148 = .ok (.iconst (-1), 1) := by decide +kernel
theorem dX11_staying_149 : decode cX11_staying 149 = .ok (.if_icmp .ne 7, 3) := by decide +kernel
theorem dX11_staying_152 : decode cX11_staying 152 = .ok (.iconst 0, 1) := by decide +kernel
theorem dX11_staying_153 : decode cX11_staying 153 = .ok (.goto 12, 3) := by decide +kernel
theorem dX11_staying_156 : decode cX11_staying 156 = .ok (.iconst 1, 1) := by decide +kernel
theorem dX11_staying_157 : decode cX11_staying 157 = .ok (.aload_n 0, 1) := by decide +kernel
theorem dX11_staying_158 : decode cX11_staying 158 = .ok (.getfield 70, 3) := by decide +kernel
theorem dX11_staying_161 : decode cX11_staying 161 = .ok (.iload 9, 2) := by decide +kernel
theorem dX11_staying_163 : decode cX11_staying 163 = .ok (.iaload, 1) := by decide +kernel
theorem dX11_staying_164 : decode cX11_staying 164 = .ok (.ishl, 1) := by decide +kernel
theorem dX11_staying_165 : decode cX11_staying 165 = .ok (.ior, 1) := by decide +kernel
theorem dX11_staying_166 : decode cX11_staying 166 = .ok (.istore 7, 2) := by decide +kernel
theorem dX11_staying_168 : decode cX11_staying 168 = .ok (.iinc 9 1, 3) := by decide +kernel
theorem dX11_staying_171 : decode cX11_staying 171 = .ok (.goto (-114), 3) := by decide +kernel
theorem dX11_staying_174 : decode cX11_staying 174 = .ok (.iload 8, 2) := by decide +kernel
theorem dX11_staying_176 : decode cX11_staying 176 = .ok (.ifCond .eq 43, 3) := by decide +kernel
theorem dX11_staying_179 : decode cX11_staying 179 = .ok (.iload 7, 2) := by decide +kernel
theorem dX11_staying_181 : decode cX11_staying 181 = .ok (.invokestatic 292, 3) := by decide +kernel
theorem dX11_staying_184 : decode cX11_staying 184 = .ok (.iload_n 2, 1) := by decide +kernel
theorem dX11_staying_185 : decode cX11_staying 185 = .ok (.invokestatic 292, 3) := by decide +kernel
theorem dX11_staying_188 : decode cX11_staying 188 = .ok (.if_icmp .gt 21, 3) := by decide +kernel
theorem dX11_staying_191 : decode cX11_staying 191 = .ok (.iload 7, 2) := by decide +kernel
theorem dX11_staying_193 : decode cX11_staying 193 = .ok (.invokestatic 292, 3) := by decide +kernel
theorem dX11_staying_196 : decode cX11_staying 196 = .ok (.iload_n 2, 1) := by decide +kernel
theorem dX11_staying_197 : decode cX11_staying 197 = .ok (.invokestatic 292, 3) := by decide +kernel
theorem dX11_staying_200 : decode cX11_staying 200 = .ok (.if_icmp .ne 19, 3) := by decide +kernel
theorem dX11_staying_203 : decode cX11_staying 203 = .ok (.iload 7, 2) := by decide +kernel
theorem dX11_staying_205 : decode cX11_staying 205 = .ok (.iload_n 2, 1) := by decide +kernel
theorem dX11_staying_206 : decode cX11_staying 206 = .ok (.if_icmp .le 13, 3) := by decide +kernel
theorem dX11_staying_209 : decode cX11_staying 209 = .ok (.aload_n 0, 1) := by decide +kernel
theorem dX11_staying_210 : decode cX11_staying 210 = .ok (.invokevirtual 319, 3) := by decide +kernel
theorem dX11_staying_213 : decode cX11_staying 213 = .ok (.ifCond .ne 6, 3) := by decide +kernel
theorem dX11_staying_216 : decode cX11_staying 216 = .ok (.iload 7, 2) := by decide +kernel
theorem dX11_staying_218 : decode cX11_staying 218 = .ok (.istore_n 2, 1) := by decide +kernel
theorem dX11_staying_219 : decode cX11_staying 219 = .ok (.iinc 5 1, 3) := by decide +kernel
theorem dX11_staying_222 : decode cX11_staying 222 = .ok (.goto (-184), 3) := by decide +kernel
theorem dX11_staying_225 : decode cX11_staying 225 = .ok (.iload_n 2, 1) := by decide +kernel
theorem dX11_staying_226 : decode cX11_staying 226 = .ok (.ireturn, 1) := by decide +kernel
theorem dX11_steal_0 : decode cX11_steal 0 = .ok (.aload_n 0, 1) := by decide +kernel
theorem dX11_steal_1 : decode cX11_steal 1 = .ok (.iload_n 1, 1) := by decide +kernel
theorem dX11_steal_2 : decode cX11_steal 2 = .ok (.i2l, 1) := by decide +kernel
theorem dX11_steal_3 : decode cX11_steal 3 = .ok (.invokevirtual 257, 3) := by decide +kernel
theorem dX11_steal_6 : decode cX11_steal 6 = .ok (.ifCond .eq 24, 3) := by decide +kernel
theorem dX11_steal_9 : decode cX11_steal 9 = .ok (.aload_n 0, 1) := by decide +kernel
theorem dX11_steal_10 : decode cX11_steal 10 = .ok (.iload_n 2, 1) := by decide +kernel
theorem dX11_steal_11 : decode cX11_steal 11 = .ok (.i2l, 1) := by decide +kernel
theorem dX11_steal_12 : decode cX11_steal 12 = .ok (.invokevirtual 266, 3) := by decide +kernel
theorem dX11_steal_15 : decode cX11_steal 15 = .ok (.ifCond .eq 15, 3) := by decide +kernel
theorem dX11_steal_18 : decode cX11_steal 18 = .ok (.iload_n 3, 1) := by decide +kernel
theorem dX11_steal_19 : decode cX11_steal 19 = .ok (.i2l, 1) := by decide +kernel
theorem dX11_steal_20 : decode cX11_steal 20 = .ok (.lconst 1, 1) := by decide +kernel
theorem dX11_steal_21 : decode cX11_steal 21 = .ok (.ldc2_w 279, 3) := by decide +kernel
theorem dX11_steal_24 : decode cX11_steal 24 = .ok (.invokestatic 94, 3) := by decide +kernel
theorem dX11_steal_27 : decode cX11_steal 27 = .ok (.ifCond .ne 6, 3) := by decide +kernel
theorem dX11_steal_30 : decode cX11_steal 30 = .ok (.bipush (-2), 2) := by decide +kernel
theorem dX11_steal_32 : decode cX11_steal 32 = .ok (.ireturn, 1) := by decide +kernel
theorem dX11_steal_33 : decode cX11_steal 33 = .ok (.aload_n 0, 1) := by decide +kernel
theorem dX11_steal_34 : decode cX11_steal 34 = .ok (.invokevirtual 250, 3) := by decide +kernel
theorem dX11_steal_37 : decode cX11_steal 37 = .ok (.aload_n 0, 1) := by decide +kernel
theorem dX11_steal_38 : decode cX11_steal 38 = .ok (.iload_n 1, 1) := by decide +kernel
theorem dX11_steal_39 : decode cX11_steal 39 = .ok (.iload_n 2, 1) := by decide +kernel
theorem dX11_steal_40 : decode cX11_steal 40 = .ok (.invokevirtual 281, 3) := by decide +kernel
theorem dX11_steal_43 : decode cX11_steal 43 = .ok (.ifCond .eq 29, 3) := by decide +kernel
theorem dX11_steal_46 : decode cX11_steal 46 = .ok (.iload_n 3, 1) := by decide +kernel
theorem dX11_steal_47 : decode cX11_steal 47 = .ok (.aload_n 0, 1) := by decide +kernel
theorem dX11_steal_48 : decode cX11_steal 48 = .ok (.getfield 211, 3) := by decide +kernel
theorem dX11_steal_51 : decode cX11_steal 51 = .ok (.if_icmp .le 21, 3) := by decide +kernel
theorem dX11_steal_54 : decode cX11_steal 54 = .ok (.aload_n 0, 1) := by decide +kernel
theorem dX11_steal_55 : decode cX11_steal 55 = .ok (.iconst 0, 1) := by decide +kernel
theorem dX11_steal_56 : decode cX11_steal 56 = .ok (.iload_n 1, 1) := by decide +kernel
theorem dX11_steal_57 : decode cX11_steal 57 = .ok (.iload_n 2, 1) := by decide +kernel
theorem dX11_steal_58 : decode cX11_steal 58 = .ok (.iload_n 3, 1) := by decide +kernel
theorem dX11_steal_59 : decode cX11_steal 59 = .ok (.invokevirtual 285, 3) := by decide +kernel
theorem dX11_steal_62 : decode cX11_steal 62 = .ok (.ifCond .eq 10, 3) := by decide +kernel
theorem dX11_steal_65 : decode cX11_steal 65 = .ok (.aload_n 0, 1) := by decide +kernel
theorem dX11_steal_66 : decode cX11_steal 66 = .ok (.getfield 208, 3) := by decide +kernel
theorem dX11_steal_69 : decode cX11_steal 69 = .ok (.goto 5, 3) := by decide +kernel
theorem dX11_steal_72 : decode cX11_steal 72 = .ok (.bipush (-5), 2) := by decide +kernel
theorem dX11_steal_74 : decode cX11_steal 74 = .ok (.ireturn, 1) := by decide +kernel
theorem dX11_steal0_0 : decode cX11_steal0 0 = .ok (.aload_n 0, 1) := by decide +kernel
theorem dX11_steal0_1 : decode cX11_steal0 1 = .ok (.getfield 43, 3) := by decide +kernel
theorem dX11_steal0_4 : decode cX11_steal0 4 = .ok (.aload_n 0, 1) := by decide +kernel
theorem dX11_steal0_5 : decode cX11_steal0 5 = .ok (.getfield 208, 3) := by decide +kernel
theorem dX11_steal0_8 : decode cX11_steal0 8 = .ok (.iload_n 1, 1) := by decide +kernel
theorem dX11_steal0_9 : decode cX11_steal0 9 = .ok (.iastore, 1) := by decide +kernel
theorem dX11_steal0_10 : decode cX11_steal0 10 = .ok (.aload_n 0, 1) := by decide +kernel
theorem dX11_steal0_11 : decode cX11_steal0 11 = .ok (.getfield 46, 3) := by decide +kernel
theorem dX11_steal0_14 : decode cX11_steal0 14 = .ok (.aload_n 0, 1) := by decide +kernel
theorem dX11_steal0_15 : decode cX11_steal0 15 = .ok (.getfield 208, 3) := by decide +kernel
theorem dX11_steal0_18 : decode cX11_steal0 18 = .ok (.iload_n 2, 1) := by decide +kernel
theorem dX11_steal0_19 : decode cX11_steal0 19 = .ok (.iastore, 1) := by decide +kernel
theorem dX11_steal0_20 : decode cX11_steal0 20 = .ok (.aload_n 0, 1) := by decide +kernel
theorem dX11_steal0_21 : decode cX11_steal0 21 = .ok (.getfield 49, 3) := by decide +kernel
theorem dX11_steal0_24 : decode cX11_steal0 24 = .ok (.aload_n 0, 1) := by decide +kernel
theorem dX11_steal0_25 : decode cX11_steal0 25 = .ok (.getfield 208, 3) := by decide +kernel
theorem dX11_steal0_28 : decode cX11_steal0 28 = .ok (.aload_n 0, 1) := by decide +kernel
theorem dX11_steal0_29 : decode cX11_steal0 29 = .ok (.getfield 40, 3) := by decide +kernel
theorem dX11_steal0_32 : decode cX11_steal0 32 = .ok (.iload_n 2, 1) := by decide +kernel
theorem dX11_steal0_33 : decode cX11_steal0 33 = .ok (.iaload, 1) := by decide +kernel
theorem dX11_steal0_34 : decode cX11_steal0 34 = .ok (.iastore, 1) := by decide +kernel
theorem dX11_steal0_35 : decode cX11_steal0 35 = .ok (.aload_n 0, 1) := by decide +kernel
theorem dX11_steal0_36 : decode cX11_steal0 36 = .ok (.getfield 52, 3) := by decide +kernel
theorem dX11_steal0_39 : decode cX11_steal0 39 = .ok (.aload_n 0, 1) := by decide +kernel
theorem dX11_steal0_40 : decode cX11_steal0 40 = .ok (.getfield 208, 3) := by decide +kernel
theorem dX11_steal0_43 : decode cX11_steal0 43 = .ok (.iload_n 3, 1) := by decide +kernel
theorem dX11_steal0_44 : decode cX11_steal0 44 = .ok (.iastore, 1) := by decide +kernel
theorem dX11_steal0_45 : decode cX11_steal0 45 = .ok (.aload_n 0, 1) := by decide +kernel
theorem dX11_steal0_46 : decode cX11_steal0 46 = .ok (.getfield 55, 3) := by decide +kernel
theorem dX11_steal0_49 : decode cX11_steal0 49 = .ok (.aload_n 0, 1) := by decide +kernel
theorem dX11_steal0_50 : decode cX11_steal0 50 = .ok (.getfield 208, 3) := by decide +kernel
theorem dX11_steal0_53 : decode cX11_steal0 53 = .ok (.iconst 0, 1) := by decide +kernel
theorem dX11_steal0_54 : decode cX11_steal0 54 = .ok (.iastore, 1) := by decide +kernel
theorem dX11_steal0_55 : decode cX11_steal0 55 = .ok (.aload_n 0, 1) := by decide +kernel
theorem dX11_steal0_56 : decode cX11_steal0 56 = .ok (.dup, 1) := by decide +kernel
theorem dX11_steal0_57 : decode cX11_steal0 57 = .ok (.getfield 208, 3) := by decide +kernel
theorem dX11_steal0_60 : decode cX11_steal0 60 = .ok (.iconst 1, 1) := by decide +kernel
theorem dX11_steal0_61 : decode cX11_steal0 61 = .ok (.iadd, 1) := by decide +kernel
theorem dX11_steal0_62 : decode cX11_steal0 62 = .ok (.putfield 208, 3) := by decide +kernel
theorem dX11_steal0_65 : decode cX11_steal0 65 = .ok (.aload_n 0, 1) := by decide +kernel
theorem dX11_steal0_66 : decode cX11_steal0 66 = .ok (.iload_n 2, 1) := by decide +kernel
theorem dX11_steal0_67 : decode cX11_steal0 67 = .ok (.iload_n 1, 1) := by decide +kernel
theorem dX11_steal0_68 : decode cX11_steal0 68 = .ok (.invokevirtual 235, 3) := by decide +kernel
theorem dX11_steal0_71 : decode cX11_steal0 71 = .ok (.return_, 1) := by decide +kernel
theorem dX11_strike_0 : decode cX11_strike 0 = .ok (.aload_n 0, 1) := by decide +kernel
theorem dX11_strike_1 : decode cX11_strike 1 = .ok (.iload_n 1, 1) := by decide +kernel
theorem dX11_strike_2 : decode cX11_strike 2 = .ok (.invokevirtual 272, 3) := by decide +kernel
theorem dX11_strike_5 : decode cX11_strike 5 = .ok (.ifCond .ne 6, 3) := by decide +kernel
theorem dX11_strike_8 : decode cX11_strike 8 = .ok (.bipush (-2), 2) := by decide +kernel
theorem dX11_strike_10 : decode cX11_strike 10 = .ok (.ireturn, 1) := by decide +kernel
theorem dX11_strike_11 : decode cX11_strike 11 = .ok (.aload_n 0, 1) := by decide +kernel
theorem dX11_strike_12 : decode cX11_strike 12 = .ok (.iload_n 1, 1) := by decide +kernel
theorem dX11_strike_13 : decode cX11_strike 13 = .ok (.invokevirtual 253, 3) := by decide +kernel
theorem dX11_strike_16 : decode cX11_strike 16 = .ok (.ifCond .eq 26, 3) := by decide +kernel
theorem dX11_strike_19 : decode cX11_strike 19 = .ok (.aload_n 0, 1) := by decide +kernel
theorem dX11_strike_20 : decode cX11_strike 20 = .ok (.iconst 3, 1) := by decide +kernel
theorem dX11_strike_21 : decode cX11_strike 21 = .ok (.iload_n 1, 1) := by decide +kernel
theorem dX11_strike_22 : decode cX11_strike 22 = .ok (.iconst 0, 1) := by decide +kernel
theorem dX11_strike_23 : decode cX11_strike 23 = .ok (.iconst 0, 1) := by decide +kernel
theorem dX11_strike_24 : decode cX11_strike 24 = .ok (.invokevirtual 285, 3) := by decide +kernel
theorem dX11_strike_27 : decode cX11_strike 27 = .ok (.ifCond .eq 15, 3) := by decide +kernel
theorem dX11_strike_30 : decode cX11_strike 30 = .ok (.aload_n 0, 1) := by decide +kernel
theorem dX11_strike_31 : decode cX11_strike 31 = .ok (.invokevirtual 289, 3) := by decide +kernel
theorem dX11_strike_34 : decode cX11_strike 34 = .ok (.invokestatic 292, 3) := by decide +kernel
theorem dX11_strike_37 : decode cX11_strike 37 = .ok (.iconst 1, 1) := by decide +kernel
theorem dX11_strike_38 : decode cX11_strike 38 = .ok (.isub, 1) := by decide +kernel
theorem dX11_strike_39 : decode cX11_strike 39 = .ok (.goto 5, 3) := by decide +kernel
theorem dX11_strike_42 : decode cX11_strike 42 = .ok (.bipush (-5), 2) := by decide +kernel
theorem dX11_strike_44 : decode cX11_strike 44 = .ok (.ireturn, 1) := by decide +kernel
theorem dX11_strikes_0 : decode cX11_strikes 0 = .ok (.aload_n 0, 1) := by decide +kernel
theorem dX11_strikes_1 : decode cX11_strikes 1 = .ok (.invokevirtual 295, 3) := by decide +kernel
theorem dX11_strikes_4 : decode cX11_strikes 4 = .ok (.ifCond .eq 13, 3) := by decide +kernel
theorem dX11_strikes_7 : decode cX11_strikes 7 = .ok (.aload_n 0, 1) := by decide +kernel
theorem dX11_strikes_8 : decode cX11_strikes 8 = .ok (.invokevirtual 325, 3) := by decide +kernel
theorem dX11_strikes_11 : decode cX11_strikes 11 = .ok (.invokestatic 292, 3) := by decide +kernel
theorem dX11_strikes_14 : decode cX11_strikes 14 = .ok (.goto 5, 3) := by decide +kernel
theorem dX11_strikes_17 : decode cX11_strikes 17 = .ok (.bipush (-2), 2) := by decide +kernel
theorem dX11_strikes_19 : decode cX11_strikes 19 = .ok (.ireturn, 1) := by decide +kernel
theorem dX11_struck_0 : decode cX11_struck 0 = .ok (.aload_n 0, 1) := by decide +kernel
theorem dX11_struck_1 : decode cX11_struck 1 = .ok (.invokevirtual 295, 3) := by decide +kernel
theorem dX11_struck_4 : decode cX11_struck 4 = .ok (.ifCond .eq 10, 3) := by decide +kernel
theorem dX11_struck_7 : decode cX11_struck 7 = .ok (.aload_n 0, 1) := by decide +kernel
theorem dX11_struck_8 : decode cX11_struck 8 = .ok (.invokevirtual 325, 3) := by decide +kernel
theorem dX11_struck_11 : decode cX11_struck 11 = .ok (.goto 5, 3) := by decide +kernel
theorem dX11_struck_14 : decode cX11_struck 14 = .ok (.bipush (-2), 2) := by decide +kernel
theorem dX11_struck_16 : decode cX11_struck 16 = .ok (.ireturn, 1) := by decide +kernel
theorem dX11_struckOf_0 : decode cX11_struckOf 0 = .ok (.aload_n 0, 1) := by decide +kernel
theorem dX11_struckOf_1 : decode cX11_struckOf 1 = .ok (.invokevirtual 250, 3) := by decide +kernel
theorem dX11_struckOf_4 : decode cX11_struckOf 4 = .ok (.iconst 0, 1) := by decide +kernel
theorem dX11_struckOf_5 : decode cX11_struckOf 5 = .ok (.istore_n 1, 1) := by decide +kernel
theorem dX11_struckOf_6 : decode cX11_struckOf 6 = .ok (.iconst 0, 1) := by decide +kernel
theorem dX11_struckOf_7 : decode cX11_struckOf 7 = .ok (.istore_n 2, 1) := by decide +kernel
theorem dX11_struckOf_8 : decode cX11_struckOf 8 = .ok (.iload_n 2, 1) := by decide +kernel
theorem dX11_struckOf_9 : decode cX11_struckOf 9 = .ok (.aload_n 0, 1) := by decide +kernel
theorem dX11_struckOf_10 : decode cX11_struckOf 10 = .ok (.getfield 9, 3) := by decide +kernel
theorem dX11_struckOf_13 : decode cX11_struckOf 13 = .ok (.iconst 4, 1) := by decide +kernel
theorem dX11_struckOf_14 : decode cX11_struckOf 14 = .ok (.iaload, 1) := by decide +kernel
theorem dX11_struckOf_15 : decode cX11_struckOf 15 = .ok (.if_icmp .ge 66, 3) := by decide +kernel
theorem dX11_struckOf_18 : decode cX11_struckOf 18 = .ok (.iconst 0, 1) := by decide +kernel
theorem dX11_struckOf_19 : decode cX11_struckOf 19 = .ok (.istore_n 3, 1) := by decide +kernel
theorem dX11_struckOf_20 : decode cX11_struckOf 20 = .ok (.iconst 0, 1) := by decide +kernel
theorem dX11_struckOf_21 : decode cX11_struckOf 21 = .ok (.istore 4, 2) := by decide +kernel
theorem dX11_struckOf_23 : decode cX11_struckOf 23 = .ok (.iload 4, 2) := by decide +kernel
theorem dX11_struckOf_25 : decode cX11_struckOf 25 = .ok (.aload_n 0, 1) := by decide +kernel
theorem dX11_struckOf_26 : decode cX11_struckOf 26 = .ok (.getfield 208, 3) := by decide +kernel
theorem dX11_struckOf_29 : decode cX11_struckOf 29 = .ok (.if_icmp .ge 30, 3) := by decide +kernel
theorem dX11_struckOf_32 : decode cX11_struckOf 32 = .ok (.iload_n 3, 1) := by decide +kernel
theorem dX11_struckOf_33 : decode cX11_struckOf 33 = .ok (.aload_n 0, 1) := by decide +kernel
theorem dX11_struckOf_34 : decode cX11_struckOf 34 = .ok (.iload 4, 2) := by decide +kernel
theorem dX11_struckOf_36 : decode cX11_struckOf 36 = .ok (.iload_n 2, 1) := by decide +kernel
theorem dX11_struckOf_37 : decode cX11_struckOf 37 = .ok (.invokevirtual 312, 3) := by decide +kernel
theorem dX11_struckOf_40 : decode cX11_struckOf 40 = .ok (.ifCond .eq 10, 3) := by decide +kernel
theorem dX11_struckOf_43 : decode cX11_struckOf 43 = .ok (.iconst 1, 1) := by decide +kernel
theorem dX11_struckOf_44 : decode cX11_struckOf 44 = .ok (.iload 4, 2) := by decide +kernel
theorem dX11_struckOf_46 : decode cX11_struckOf 46 = .ok (.ishl, 1) := by decide +kernel
theorem dX11_struckOf_47 : decode cX11_struckOf 47 = .ok (.goto 4, 3) := by decide +kernel
theorem dX11_struckOf_50 : decode cX11_struckOf 50 = .ok (.iconst 0, 1) := by decide +kernel
theorem dX11_struckOf_51 : decode cX11_struckOf 51 = .ok (.ior, 1) := by decide +kernel
theorem dX11_struckOf_52 : decode cX11_struckOf 52 = .ok (.istore_n 3, 1) := by decide +kernel
theorem dX11_struckOf_53 : decode cX11_struckOf 53 = .ok (.iinc 4 1, 3) := by decide +kernel
theorem dX11_struckOf_56 : decode cX11_struckOf 56 = .ok (.goto (-33), 3) := by decide +kernel
theorem dX11_struckOf_59 : decode cX11_struckOf 59 = .ok (.iload_n 3, 1) := by decide +kernel
theorem dX11_struckOf_60 : decode cX11_struckOf 60 = .ok (.ifCond .eq 15, 3) := by decide +kernel
theorem dX11_struckOf_63 : decode cX11_struckOf 63 = .ok (.iload_n 1, 1) := by decide +kernel
theorem dX11_struckOf_64 : decode cX11_struckOf 64 = .ok (.iload_n 3, 1) := by decide +kernel
theorem dX11_struckOf_65 : decode cX11_struckOf 65 = .ok (.aload_n 0, 1) := by decide +kernel
theorem dX11_struckOf_66 : decode cX11_struckOf 66 = .ok (.iload_n 2, 1) := by decide +kernel
theorem dX11_struckOf_67 : decode cX11_struckOf 67 = .ok (.invokevirtual 322, 3) := by decide +kernel
theorem dX11_struckOf_70 : decode cX11_struckOf 70 = .ok (.iconst (-1), 1) := by decide +kernel
theorem dX11_struckOf_71 : decode cX11_struckOf 71 = .ok (.ixor, 1) := by decide +kernel
theorem dX11_struckOf_72 : decode cX11_struckOf 72 = .ok (.iand, 1) := by decide +kernel
theorem dX11_struckOf_73 : decode cX11_struckOf 73 = .ok (.ior, 1) := by decide +kernel
theorem dX11_struckOf_74 : decode cX11_struckOf 74 = .ok (.istore_n 1, 1) := by decide +kernel
theorem dX11_struckOf_75 : decode cX11_struckOf 75 = .ok (.iinc 2 1, 3) := by decide +kernel
theorem dX11_struckOf_78 : decode cX11_struckOf 78 = .ok (.goto (-70), 3) := by decide +kernel
theorem dX11_struckOf_81 : decode cX11_struckOf 81 = .ok (.iload_n 1, 1) := by decide +kernel
theorem dX11_struckOf_82 : decode cX11_struckOf 82 = .ok (.ireturn, 1) := by decide +kernel
theorem dX11_takes_0 : decode cX11_takes 0 = .ok (.aload_n 0, 1) := by decide +kernel
theorem dX11_takes_1 : decode cX11_takes 1 = .ok (.aload_n 1, 1) := by decide +kernel
theorem dX11_takes_2 : decode cX11_takes 2 = .ok (.invokevirtual 158, 3) := by decide +kernel
theorem dX11_takes_5 : decode cX11_takes 5 = .ok (.istore_n 2, 1) := by decide +kernel
theorem dX11_takes_6 : decode cX11_takes 6 = .ok (.iload_n 2, 1) := by decide +kernel
theorem dX11_takes_7 : decode cX11_takes 7 = .ok (.ifCond .eq 7, 3) := by decide +kernel
theorem dX11_takes_10 : decode cX11_takes 10 = .ok (.aload_n 0, 1) := by decide +kernel
theorem dX11_takes_11 : decode cX11_takes 11 = .ok (.invokevirtual 162, 3) := by decide +kernel
theorem dX11_takes_14 : decode cX11_takes 14 = .ok (.iload_n 2, 1) := by decide +kernel
theorem dX11_takes_15 : decode cX11_takes 15 = .ok (.ireturn, 1) := by decide +kernel
theorem dX11_tell_0 : decode cX11_tell 0 = .ok (.aload_n 0, 1) := by decide +kernel
theorem dX11_tell_1 : decode cX11_tell 1 = .ok (.getfield 9, 3) := by decide +kernel
theorem dX11_tell_4 : decode cX11_tell 4 = .ok (.bipush 6, 2) := by decide +kernel
theorem dX11_tell_6 : decode cX11_tell 6 = .ok (.iaload, 1) := by decide +kernel
theorem dX11_tell_7 : decode cX11_tell 7 = .ok (.ifCond .le 6, 3) := by decide +kernel
theorem dX11_tell_10 : decode cX11_tell 10 = .ok (.bipush (-5), 2) := by decide +kernel
theorem dX11_tell_12 : decode cX11_tell 12 = .ok (.ireturn, 1) := by decide +kernel
theorem dX11_tell_13 : decode cX11_tell 13 = .ok (.aload_n 0, 1) := by decide +kernel
theorem dX11_tell_14 : decode cX11_tell 14 = .ok (.getfield 9, 3) := by decide +kernel
theorem dX11_tell_17 : decode cX11_tell 17 = .ok (.iload_n 1, 1) := by decide +kernel
theorem dX11_tell_18 : decode cX11_tell 18 = .ok (.iaload, 1) := by decide +kernel
theorem dX11_tell_19 : decode cX11_tell 19 = .ok (.istore_n 3, 1) := by decide +kernel
theorem dX11_tell_20 : decode cX11_tell 20 = .ok (.aload_n 0, 1) := by decide +kernel
theorem dX11_tell_21 : decode cX11_tell 21 = .ok (.getfield 9, 3) := by decide +kernel
theorem dX11_tell_24 : decode cX11_tell 24 = .ok (.iload_n 1, 1) := by decide +kernel
theorem dX11_tell_25 : decode cX11_tell 25 = .ok (.iload_n 2, 1) := by decide +kernel
theorem dX11_tell_26 : decode cX11_tell 26 = .ok (.iastore, 1) := by decide +kernel
theorem dX11_tell_27 : decode cX11_tell 27 = .ok (.iload_n 3, 1) := by decide +kernel
theorem dX11_tell_28 : decode cX11_tell 28 = .ok (.ireturn, 1) := by decide +kernel
theorem dX11_thing_0 : decode cX11_thing 0 = .ok (.aload_n 0, 1) := by decide +kernel
theorem dX11_thing_1 : decode cX11_thing 1 = .ok (.iload_n 1, 1) := by decide +kernel
theorem dX11_thing_2 : decode cX11_thing 2 = .ok (.i2l, 1) := by decide +kernel
theorem dX11_thing_3 : decode cX11_thing 3 = .ok (.invokevirtual 266, 3) := by decide +kernel
theorem dX11_thing_6 : decode cX11_thing 6 = .ok (.ifCond .eq 15, 3) := by decide +kernel
theorem dX11_thing_9 : decode cX11_thing 9 = .ok (.iload_n 2, 1) := by decide +kernel
theorem dX11_thing_10 : decode cX11_thing 10 = .ok (.i2l, 1) := by decide +kernel
theorem dX11_thing_11 : decode cX11_thing 11 = .ok (.lconst 0, 1) := by decide +kernel
theorem dX11_thing_12 : decode cX11_thing 12 = .ok (.ldc2_w 92, 3) := by decide +kernel
theorem dX11_thing_15 : decode cX11_thing 15 = .ok (.invokestatic 94, 3) := by decide +kernel
theorem dX11_thing_18 : decode cX11_thing 18 = .ok (.ifCond .ne 6, 3) := by decide +kernel
theorem dX11_thing_21 : decode cX11_thing 21 = .ok (.bipush (-2), 2) := by decide +kernel
theorem dX11_thing_23 : decode cX11_thing 23 = .ok (.ireturn, 1) := by decide +kernel
theorem dX11_thing_24 : decode cX11_thing 24 = .ok (.aload_n 0, 1) := by decide +kernel
theorem dX11_thing_25 : decode cX11_thing 25 = .ok (.invokevirtual 250, 3) := by decide +kernel
theorem dX11_thing_28 : decode cX11_thing 28 = .ok (.iload_n 2, 1) := by decide +kernel
theorem dX11_thing_29 : decode cX11_thing 29 = .ok (.ifCond .ne 11, 3) := by decide +kernel
theorem dX11_thing_32 : decode cX11_thing 32 = .ok (.aload_n 0, 1) := by decide +kernel
theorem dX11_thing_33 : decode cX11_thing 33 = .ok (.iload_n 1, 1) := by decide +kernel
theorem dX11_thing_34 : decode cX11_thing 34 = .ok (.invokevirtual 98, 3) := by decide +kernel
theorem dX11_thing_37 : decode cX11_thing 37 = .ok (.goto 28, 3) := by decide +kernel
theorem dX11_thing_40 : decode cX11_thing 40 = .ok (.iload_n 2, 1) := by decide +kernel
theorem dX11_thing_41 : decode cX11_thing 41 = .ok (.iconst 1, 1) := by decide +kernel
theorem dX11_thing_42 : decode cX11_thing 42 = .ok (.if_icmp .ne 12, 3) := by decide +kernel
theorem dX11_thing_45 : decode cX11_thing 45 = .ok (.aload_n 0, 1) := by decide +kernel
theorem dX11_thing_46 : decode cX11_thing 46 = .ok (.getfield 40, 3) := by decide +kernel
theorem dX11_thing_49 : decode cX11_thing 49 = .ok (.iload_n 1, 1) := by decide +kernel
theorem dX11_thing_50 : decode cX11_thing 50 = .ok (.iaload, 1) := by decide +kernel
theorem dX11_thing_51 : decode cX11_thing 51 = .ok (.goto 14, 3) := by decide +kernel
theorem dX11_thing_54 : decode cX11_thing 54 = .ok (.aload_n 0, 1) := by decide +kernel
theorem dX11_thing_55 : decode cX11_thing 55 = .ok (.getfield 9, 3) := by decide +kernel
theorem dX11_thing_58 : decode cX11_thing 58 = .ok (.bipush 17, 2) := by decide +kernel
theorem dX11_thing_60 : decode cX11_thing 60 = .ok (.iconst 2, 1) := by decide +kernel
theorem dX11_thing_61 : decode cX11_thing 61 = .ok (.iload_n 1, 1) := by decide +kernel
theorem dX11_thing_62 : decode cX11_thing 62 = .ok (.imul, 1) := by decide +kernel
theorem dX11_thing_63 : decode cX11_thing 63 = .ok (.iadd, 1) := by decide +kernel
theorem dX11_thing_64 : decode cX11_thing 64 = .ok (.iaload, 1) := by decide +kernel
theorem dX11_thing_65 : decode cX11_thing 65 = .ok (.ireturn, 1) := by decide +kernel
theorem dX11_thingsIn_0 : decode cX11_thingsIn 0 = .ok (.iconst 0, 1) := by decide +kernel
theorem dX11_thingsIn_1 : decode cX11_thingsIn 1 = .ok (.istore_n 2, 1) := by decide +kernel
theorem dX11_thingsIn_2 : decode cX11_thingsIn 2 = .ok (.iconst 0, 1) := by decide +kernel
theorem dX11_thingsIn_3 : decode cX11_thingsIn 3 = .ok (.istore_n 3, 1) := by decide +kernel
theorem dX11_thingsIn_4 : decode cX11_thingsIn 4 = .ok (.iload_n 3, 1) := by decide +kernel
theorem dX11_thingsIn_5 : decode cX11_thingsIn 5 = .ok (.aload_n 0, 1) := by decide +kernel
theorem dX11_thingsIn_6 : decode cX11_thingsIn 6 = .ok (.getfield 9, 3) := by decide +kernel
theorem dX11_thingsIn_9 : decode cX11_thingsIn 9 = .ok (.iconst 4, 1) := by decide +kernel
theorem dX11_thingsIn_10 : decode cX11_thingsIn 10 = .ok (.iaload, 1) := by decide +kernel
theorem dX11_thingsIn_11 : decode cX11_thingsIn 11 = .ok (.if_icmp .ge 29, 3) := by decide +kernel
theorem dX11_thingsIn_14 : decode cX11_thingsIn 14 = .ok (.iload_n 2, 1) := by decide +kernel
theorem dX11_thingsIn_15 : decode cX11_thingsIn 15 = .ok (.aload_n 0, 1) := by decide +kernel
theorem dX11_thingsIn_16 : decode cX11_thingsIn 16 = .ok (.getfield 40, 3) := by decide +kernel
theorem dX11_thingsIn_19 : decode cX11_thingsIn 19 = .ok (.iload_n 3, 1) := by decide +kernel
theorem dX11_thingsIn_20 : decode cX11_thingsIn 20 = .ok (.iaload, 1) := by decide +kernel
theorem dX11_thingsIn_21 : decode cX11_thingsIn 21 = .ok (.iload_n 1, 1) := by decide +kernel
theorem dX11_thingsIn_22 : decode cX11_thingsIn 22 = .ok (.if_icmp .ne 9, 3) := by decide +kernel
theorem dX11_thingsIn_25 : decode cX11_thingsIn 25 = .ok (.iconst 1, 1) := by decide +kernel
theorem dX11_thingsIn_26 : decode cX11_thingsIn 26 = .ok (.iload_n 3, 1) := by decide +kernel
theorem dX11_thingsIn_27 : decode cX11_thingsIn 27 = .ok (.ishl, 1) := by decide +kernel
theorem dX11_thingsIn_28 : decode cX11_thingsIn 28 = .ok (.goto 4, 3) := by decide +kernel
theorem dX11_thingsIn_31 : decode cX11_thingsIn 31 = .ok (.iconst 0, 1) := by decide +kernel
theorem dX11_thingsIn_32 : decode cX11_thingsIn 32 = .ok (.ior, 1) := by decide +kernel
theorem dX11_thingsIn_33 : decode cX11_thingsIn 33 = .ok (.istore_n 2, 1) := by decide +kernel
theorem dX11_thingsIn_34 : decode cX11_thingsIn 34 = .ok (.iinc 3 1, 3) := by decide +kernel
theorem dX11_thingsIn_37 : decode cX11_thingsIn 37 = .ok (.goto (-33), 3) := by decide +kernel
theorem dX11_thingsIn_40 : decode cX11_thingsIn 40 = .ok (.iload_n 2, 1) := by decide +kernel
theorem dX11_thingsIn_41 : decode cX11_thingsIn 41 = .ok (.ireturn, 1) := by decide +kernel
theorem dX11_told_0 : decode cX11_told 0 = .ok (.aload_n 0, 1) := by decide +kernel
theorem dX11_told_1 : decode cX11_told 1 = .ok (.aload_n 1, 1) := by decide +kernel
theorem dX11_told_2 : decode cX11_told 2 = .ok (.invokevirtual 172, 3) := by decide +kernel
theorem dX11_told_5 : decode cX11_told 5 = .ok (.aload_n 0, 1) := by decide +kernel
theorem dX11_told_6 : decode cX11_told 6 = .ok (.iload_n 2, 1) := by decide +kernel
theorem dX11_told_7 : decode cX11_told 7 = .ok (.iload_n 3, 1) := by decide +kernel
theorem dX11_told_8 : decode cX11_told 8 = .ok (.invokevirtual 176, 3) := by decide +kernel
theorem dX11_told_11 : decode cX11_told 11 = .ok (.ireturn, 1) := by decide +kernel
theorem dX11_trail_0 : decode cX11_trail 0 = .ok (.aload_n 0, 1) := by decide +kernel
theorem dX11_trail_1 : decode cX11_trail 1 = .ok (.iload_n 1, 1) := by decide +kernel
theorem dX11_trail_2 : decode cX11_trail 2 = .ok (.i2l, 1) := by decide +kernel
theorem dX11_trail_3 : decode cX11_trail 3 = .ok (.invokevirtual 266, 3) := by decide +kernel
theorem dX11_trail_6 : decode cX11_trail 6 = .ok (.ifCond .ne 6, 3) := by decide +kernel
theorem dX11_trail_9 : decode cX11_trail 9 = .ok (.bipush (-2), 2) := by decide +kernel
theorem dX11_trail_11 : decode cX11_trail 11 = .ok (.ireturn, 1) := by decide +kernel
theorem dX11_trail_12 : decode cX11_trail 12 = .ok (.aload_n 0, 1) := by decide +kernel
theorem dX11_trail_13 : decode cX11_trail 13 = .ok (.invokevirtual 250, 3) := by decide +kernel
theorem dX11_trail_16 : decode cX11_trail 16 = .ok (.iload_n 2, 1) := by decide +kernel
theorem dX11_trail_17 : decode cX11_trail 17 = .ok (.i2l, 1) := by decide +kernel
theorem dX11_trail_18 : decode cX11_trail 18 = .ok (.lconst 0, 1) := by decide +kernel
theorem dX11_trail_19 : decode cX11_trail 19 = .ok (.aload_n 0, 1) := by decide +kernel
theorem dX11_trail_20 : decode cX11_trail 20 = .ok (.getfield 64, 3) := by decide +kernel
theorem dX11_trail_23 : decode cX11_trail 23 = .ok (.iload_n 1, 1) := by decide +kernel
theorem dX11_trail_24 : decode cX11_trail 24 = .ok (.iaload, 1) := by decide +kernel
theorem dX11_trail_25 : decode cX11_trail 25 = .ok (.iconst 1, 1) := by decide +kernel
theorem dX11_trail_26 : decode cX11_trail 26 = .ok (.isub, 1) := by decide +kernel
theorem dX11_trail_27 : decode cX11_trail 27 = .ok (.i2l, 1) := by decide +kernel
theorem dX11_trail_28 : decode cX11_trail 28 = .ok (.invokestatic 94, 3) := by decide +kernel
theorem dX11_trail_31 : decode cX11_trail 31 = .ok (.ifCond .eq 18, 3) := by decide +kernel
theorem dX11_trail_34 : decode cX11_trail 34 = .ok (.aload_n 0, 1) := by decide +kernel
theorem dX11_trail_35 : decode cX11_trail 35 = .ok (.getfield 61, 3) := by decide +kernel
theorem dX11_trail_38 : decode cX11_trail 38 = .ok (.sipush 146, 3) := by decide +kernel
theorem dX11_trail_41 : decode cX11_trail 41 = .ok (.iload_n 1, 1) := by decide +kernel
theorem dX11_trail_42 : decode cX11_trail 42 = .ok (.imul, 1) := by decide +kernel
theorem dX11_trail_43 : decode cX11_trail 43 = .ok (.iload_n 2, 1) := by decide +kernel
theorem dX11_trail_44 : decode cX11_trail 44 = .ok (.iadd, 1) := by decide +kernel
theorem dX11_trail_45 : decode cX11_trail 45 = .ok (.iaload, 1) := by decide +kernel
theorem dX11_trail_46 : decode cX11_trail 46 = .ok (.goto 4, 3) := by decide +kernel
theorem dX11_trail_49 : decode cX11_trail 49 = .ok (.iconst (-1), 1) := by decide +kernel
theorem dX11_trail_50 : decode cX11_trail 50 = .ok (.ireturn, 1) := by decide +kernel
theorem dX11_twice_0 : decode cX11_twice 0 = .ok (.aload_n 0, 1) := by decide +kernel
theorem dX11_twice_1 : decode cX11_twice 1 = .ok (.invokevirtual 295, 3) := by decide +kernel
theorem dX11_twice_4 : decode cX11_twice 4 = .ok (.ifCond .ne 6, 3) := by decide +kernel
theorem dX11_twice_7 : decode cX11_twice 7 = .ok (.bipush (-2), 2) := by decide +kernel
theorem dX11_twice_9 : decode cX11_twice 9 = .ok (.ireturn, 1) := by decide +kernel
theorem dX11_twice_10 : decode cX11_twice 10 = .ok (.aload_n 0, 1) := by decide +kernel
theorem dX11_twice_11 : decode cX11_twice 11 = .ok (.invokevirtual 250, 3) := by decide +kernel
theorem dX11_twice_14 : decode cX11_twice 14 = .ok (.iconst 0, 1) := by decide +kernel
theorem dX11_twice_15 : decode cX11_twice 15 = .ok (.istore_n 1, 1) := by decide +kernel
theorem dX11_twice_16 : decode cX11_twice 16 = .ok (.iconst 0, 1) := by decide +kernel
theorem dX11_twice_17 : decode cX11_twice 17 = .ok (.istore_n 2, 1) := by decide +kernel
theorem dX11_twice_18 : decode cX11_twice 18 = .ok (.iload_n 2, 1) := by decide +kernel
theorem dX11_twice_19 : decode cX11_twice 19 = .ok (.aload_n 0, 1) := by decide +kernel
theorem dX11_twice_20 : decode cX11_twice 20 = .ok (.getfield 208, 3) := by decide +kernel
theorem dX11_twice_23 : decode cX11_twice 23 = .ok (.if_icmp .ge 68, 3) := by decide +kernel
theorem dX11_twice_26 : decode cX11_twice 26 = .ok (.iconst 0, 1) := by decide +kernel
theorem dX11_twice_27 : decode cX11_twice 27 = .ok (.istore_n 3, 1) := by decide +kernel
theorem dX11_twice_28 : decode cX11_twice 28 = .ok (.iload_n 3, 1) := by decide +kernel
theorem dX11_twice_29 : decode cX11_twice 29 = .ok (.iload_n 2, 1) := by decide +kernel
theorem dX11_twice_30 : decode cX11_twice 30 = .ok (.if_icmp .ge 55, 3) := by decide +kernel
theorem dX11_twice_33 : decode cX11_twice 33 = .ok (.aload_n 0, 1) := by decide +kernel
theorem dX11_twice_34 : decode cX11_twice 34 = .ok (.iload_n 2, 1) := by decide +kernel
theorem dX11_twice_35 : decode cX11_twice 35 = .ok (.aload_n 0, 1) := by decide +kernel
theorem dX11_twice_36 : decode cX11_twice 36 = .ok (.getfield 46, 3) := by decide +kernel
theorem dX11_twice_39 : decode cX11_twice 39 = .ok (.iload_n 2, 1) := by decide +kernel
theorem dX11_twice_40 : decode cX11_twice 40 = .ok (.iaload, 1) := by decide +kernel
theorem dX11_twice_41 : decode cX11_twice 41 = .ok (.invokevirtual 312, 3) := by decide +kernel
theorem dX11_twice_44 : decode cX11_twice 44 = .ok (.ifCond .eq 35, 3) := by decide +kernel
theorem dX11_twice_47 : decode cX11_twice 47 = .ok (.aload_n 0, 1) := by decide +kernel
theorem dX11_twice_48 : decode cX11_twice 48 = .ok (.iload_n 3, 1) := by decide +kernel
theorem dX11_twice_49 : decode cX11_twice 49 = .ok (.aload_n 0, 1) := by decide +kernel
theorem dX11_twice_50 : decode cX11_twice 50 = .ok (.getfield 46, 3) := by decide +kernel
theorem dX11_twice_53 : decode cX11_twice 53 = .ok (.iload_n 2, 1) := by decide +kernel
theorem dX11_twice_54 : decode cX11_twice 54 = .ok (.iaload, 1) := by decide +kernel
theorem dX11_twice_55 : decode cX11_twice 55 = .ok (.invokevirtual 312, 3) := by decide +kernel
theorem dX11_twice_58 : decode cX11_twice 58 = .ok (.ifCond .eq 21, 3) := by decide +kernel
theorem dX11_twice_61 : decode cX11_twice 61 = .ok (.aload_n 0, 1) := by decide +kernel
theorem dX11_twice_62 : decode cX11_twice 62 = .ok (.getfield 43, 3) := by decide +kernel
theorem dX11_twice_65 : decode cX11_twice 65 = .ok (.iload_n 2, 1) := by decide +kernel
theorem dX11_twice_66 : decode cX11_twice 66 = .ok (.iaload, 1) := by decide +kernel
theorem dX11_twice_67 : decode cX11_twice 67 = .ok (.aload_n 0, 1) := by decide +kernel
theorem dX11_twice_68 : decode cX11_twice 68 = .ok (.getfield 43, 3) := by decide +kernel
theorem dX11_twice_71 : decode cX11_twice 71 = .ok (.iload_n 3, 1) := by decide +kernel
theorem dX11_twice_72 : decode cX11_twice 72 = .ok (.iaload, 1) := by decide +kernel
theorem dX11_twice_73 : decode cX11_twice 73 = .ok (.if_icmp .ne 6, 3) := by decide +kernel
theorem dX11_twice_76 : decode cX11_twice 76 = .ok (.iinc 1 1, 3) := by decide +kernel
theorem dX11_twice_79 : decode cX11_twice 79 = .ok (.iinc 3 1, 3) := by decide +kernel
theorem dX11_twice_82 : decode cX11_twice 82 = .ok (.goto (-54), 3) := by decide +kernel
theorem dX11_twice_85 : decode cX11_twice 85 = .ok (.iinc 2 1, 3) := by decide +kernel
theorem dX11_twice_88 : decode cX11_twice 88 = .ok (.goto (-70), 3) := by decide +kernel
theorem dX11_twice_91 : decode cX11_twice 91 = .ok (.iload_n 1, 1) := by decide +kernel
theorem dX11_twice_92 : decode cX11_twice 92 = .ok (.ireturn, 1) := by decide +kernel
theorem dX11_undo_0 : decode cX11_undo 0 = .ok (.aload_n 0, 1) := by decide +kernel
theorem dX11_undo_1 : decode cX11_undo 1 = .ok (.invokevirtual 295, 3) := by decide +kernel
theorem dX11_undo_4 : decode cX11_undo 4 = .ok (.ifCond .ne 6, 3) := by decide +kernel
theorem dX11_undo_7 : decode cX11_undo 7 = .ok (.bipush (-2), 2) := by decide +kernel
theorem dX11_undo_9 : decode cX11_undo 9 = .ok (.ireturn, 1) := by decide +kernel
theorem dX11_undo_10 : decode cX11_undo 10 = .ok (.aload_n 0, 1) := by decide +kernel
theorem dX11_undo_11 : decode cX11_undo 11 = .ok (.getfield 9, 3) := by decide +kernel
theorem dX11_undo_14 : decode cX11_undo 14 = .ok (.bipush 6, 2) := by decide +kernel
theorem dX11_undo_16 : decode cX11_undo 16 = .ok (.iaload, 1) := by decide +kernel
theorem dX11_undo_17 : decode cX11_undo 17 = .ok (.ifCond .ne 6, 3) := by decide +kernel
theorem dX11_undo_20 : decode cX11_undo 20 = .ok (.bipush (-5), 2) := by decide +kernel
theorem dX11_undo_22 : decode cX11_undo 22 = .ok (.ireturn, 1) := by decide +kernel
theorem dX11_undo_23 : decode cX11_undo 23 = .ok (.aload_n 0, 1) := by decide +kernel
theorem dX11_undo_24 : decode cX11_undo 24 = .ok (.getfield 9, 3) := by decide +kernel
theorem dX11_undo_27 : decode cX11_undo 27 = .ok (.bipush 6, 2) := by decide +kernel
theorem dX11_undo_29 : decode cX11_undo 29 = .ok (.dup2, 1) := by decide +kernel
theorem dX11_undo_30 : decode cX11_undo 30 = .ok (.iaload, 1) := by decide +kernel
theorem dX11_undo_31 : decode cX11_undo 31 = .ok (.iconst 1, 1) := by decide +kernel
theorem dX11_undo_32 : decode cX11_undo 32 = .ok (.isub, 1) := by decide +kernel
theorem dX11_undo_33 : decode cX11_undo 33 = .ok (.iastore, 1) := by decide +kernel
theorem dX11_undo_34 : decode cX11_undo 34 = .ok (.aload_n 0, 1) := by decide +kernel
theorem dX11_undo_35 : decode cX11_undo 35 = .ok (.getfield 9, 3) := by decide +kernel
theorem dX11_undo_38 : decode cX11_undo 38 = .ok (.bipush 6, 2) := by decide +kernel
theorem dX11_undo_40 : decode cX11_undo 40 = .ok (.iaload, 1) := by decide +kernel
theorem dX11_undo_41 : decode cX11_undo 41 = .ok (.ireturn, 1) := by decide +kernel
theorem dX11_value_0 : decode cX11_value 0 = .ok (.aload_n 0, 1) := by decide +kernel
theorem dX11_value_1 : decode cX11_value 1 = .ok (.iload_n 1, 1) := by decide +kernel
theorem dX11_value_2 : decode cX11_value 2 = .ok (.i2l, 1) := by decide +kernel
theorem dX11_value_3 : decode cX11_value 3 = .ok (.invokevirtual 257, 3) := by decide +kernel
theorem dX11_value_6 : decode cX11_value 6 = .ok (.ifCond .eq 21, 3) := by decide +kernel
theorem dX11_value_9 : decode cX11_value 9 = .ok (.aload_n 0, 1) := by decide +kernel
theorem dX11_value_10 : decode cX11_value 10 = .ok (.iload_n 2, 1) := by decide +kernel
theorem dX11_value_11 : decode cX11_value 11 = .ok (.i2l, 1) := by decide +kernel
theorem dX11_value_12 : decode cX11_value 12 = .ok (.invokevirtual 266, 3) := by decide +kernel
theorem dX11_value_15 : decode cX11_value 15 = .ok (.ifCond .eq 12, 3) := by decide +kernel
theorem dX11_value_18 : decode cX11_value 18 = .ok (.aload_n 0, 1) := by decide +kernel
theorem dX11_value_19 : decode cX11_value 19 = .ok (.iload_n 1, 1) := by decide +kernel
theorem dX11_value_20 : decode cX11_value 20 = .ok (.iload_n 2, 1) := by decide +kernel
theorem dX11_value_21 : decode cX11_value 21 = .ok (.invokevirtual 269, 3) := by decide +kernel
theorem dX11_value_24 : decode cX11_value 24 = .ok (.goto 5, 3) := by decide +kernel
theorem dX11_value_27 : decode cX11_value 27 = .ok (.bipush (-2), 2) := by decide +kernel
theorem dX11_value_29 : decode cX11_value 29 = .ok (.ireturn, 1) := by decide +kernel
theorem dX11_valueOf_0 : decode cX11_valueOf 0 = .ok (.aload_n 0, 1) := by decide +kernel
theorem dX11_valueOf_1 : decode cX11_valueOf 1 = .ok (.iload_n 2, 1) := by decide +kernel
theorem dX11_valueOf_2 : decode cX11_valueOf 2 = .ok (.invokevirtual 98, 3) := by decide +kernel
theorem dX11_valueOf_5 : decode cX11_valueOf 5 = .ok (.aload_n 0, 1) := by decide +kernel
theorem dX11_valueOf_6 : decode cX11_valueOf 6 = .ok (.iload_n 1, 1) := by decide +kernel
theorem dX11_valueOf_7 : decode cX11_valueOf 7 = .ok (.iload_n 2, 1) := by decide +kernel
theorem dX11_valueOf_8 : decode cX11_valueOf 8 = .ok (.invokevirtual 102, 3) := by decide +kernel
theorem dX11_valueOf_11 : decode cX11_valueOf 11 = .ok (.iadd, 1) := by decide +kernel
theorem dX11_valueOf_12 : decode cX11_valueOf 12 = .ok (.ireturn, 1) := by decide +kernel
theorem dX11_want_0 : decode cX11_want 0 = .ok (.aload_n 0, 1) := by decide +kernel
theorem dX11_want_1 : decode cX11_want 1 = .ok (.iload_n 1, 1) := by decide +kernel
theorem dX11_want_2 : decode cX11_want 2 = .ok (.i2l, 1) := by decide +kernel
theorem dX11_want_3 : decode cX11_want 3 = .ok (.invokevirtual 257, 3) := by decide +kernel
theorem dX11_want_6 : decode cX11_want 6 = .ok (.ifCond .eq 41, 3) := by decide +kernel
theorem dX11_want_9 : decode cX11_want 9 = .ok (.aload_n 0, 1) := by decide +kernel
theorem dX11_want_10 : decode cX11_want 10 = .ok (.iload_n 2, 1) := by decide +kernel
theorem dX11_want_11 : decode cX11_want 11 = .ok (.i2l, 1) := by decide +kernel
theorem dX11_want_12 : decode cX11_want 12 = .ok (.invokevirtual 266, 3) := by decide +kernel
theorem dX11_want_15 : decode cX11_want 15 = .ok (.ifCond .eq 32, 3) := by decide +kernel
theorem dX11_want_18 : decode cX11_want 18 = .ok (.iload_n 3, 1) := by decide +kernel
theorem dX11_want_19 : decode cX11_want 19 = .ok (.i2l, 1) := by decide +kernel
theorem dX11_want_20 : decode cX11_want 20 = .ok (.lconst 0, 1) := by decide +kernel
theorem dX11_want_21 : decode cX11_want 21 = .ok (.ldc2_w 453, 3) := by decide +kernel
theorem dX11_want_24 : decode cX11_want 24 = .ok (.invokestatic 94, 3) := by decide +kernel
theorem dX11_want_27 : decode cX11_want 27 = .ok (.ifCond .eq 20, 3) := by decide +kernel
theorem dX11_want_30 : decode cX11_want 30 = .ok (.aload_n 0, 1) := by decide +kernel
theorem dX11_want_31 : decode cX11_want 31 = .ok (.bipush 29, 2) := by decide +kernel
theorem dX11_want_33 : decode cX11_want 33 = .ok (.bipush 6, 2) := by decide +kernel
theorem dX11_want_35 : decode cX11_want 35 = .ok (.iload_n 1, 1) := by decide +kernel
theorem dX11_want_36 : decode cX11_want 36 = .ok (.imul, 1) := by decide +kernel
theorem dX11_want_37 : decode cX11_want 37 = .ok (.iadd, 1) := by decide +kernel
theorem dX11_want_38 : decode cX11_want 38 = .ok (.iload_n 2, 1) := by decide +kernel
theorem dX11_want_39 : decode cX11_want 39 = .ok (.iadd, 1) := by decide +kernel
theorem dX11_want_40 : decode cX11_want 40 = .ok (.iload_n 3, 1) := by decide +kernel
theorem dX11_want_41 : decode cX11_want 41 = .ok (.invokevirtual 450, 3) := by decide +kernel
theorem dX11_want_44 : decode cX11_want 44 = .ok (.goto 5, 3) := by decide +kernel
theorem dX11_want_47 : decode cX11_want 47 = .ok (.bipush (-2), 2) := by decide +kernel
theorem dX11_want_49 : decode cX11_want 49 = .ok (.ireturn, 1) := by decide +kernel
theorem dX11_wantOf_0 : decode cX11_wantOf 0 = .ok (.aload_n 0, 1) := by decide +kernel
theorem dX11_wantOf_1 : decode cX11_wantOf 1 = .ok (.getfield 9, 3) := by decide +kernel
theorem dX11_wantOf_4 : decode cX11_wantOf 4 = .ok (.bipush 29, 2) := by decide +kernel
theorem dX11_wantOf_6 : decode cX11_wantOf 6 = .ok (.bipush 6, 2) := by decide +kernel
theorem dX11_wantOf_8 : decode cX11_wantOf 8 = .ok (.iload_n 1, 1) := by decide +kernel
theorem dX11_wantOf_9 : decode cX11_wantOf 9 = .ok (.imul, 1) := by decide +kernel
theorem dX11_wantOf_10 : decode cX11_wantOf 10 = .ok (.iadd, 1) := by decide +kernel
theorem dX11_wantOf_11 : decode cX11_wantOf 11 = .ok (.iload_n 2, 1) := by decide +kernel
theorem dX11_wantOf_12 : decode cX11_wantOf 12 = .ok (.iadd, 1) := by decide +kernel
theorem dX11_wantOf_13 : decode cX11_wantOf 13 = .ok (.iaload, 1) := by decide +kernel
theorem dX11_wantOf_14 : decode cX11_wantOf 14 = .ok (.ireturn, 1) := by decide +kernel
theorem dX11_wasInChain_0 : decode cX11_wasInChain 0 = .ok (.iconst 0, 1) := by decide +kernel
theorem dX11_wasInChain_1 : decode cX11_wasInChain 1 = .ok (.istore_n 2, 1) := by decide +kernel
theorem dX11_wasInChain_2 : decode cX11_wasInChain 2 = .ok (.iload_n 2, 1) := by decide +kernel
theorem dX11_wasInChain_3 : decode cX11_wasInChain 3 = .ok (.aload_n 0, 1) := by decide +kernel
theorem dX11_wasInChain_4 : decode cX11_wasInChain 4 = .ok (.getfield 300, 3) := by decide +kernel
theorem dX11_wasInChain_7 : decode cX11_wasInChain 7 = .ok (.if_icmp .ge 21, 3) := by decide +kernel
theorem dX11_wasInChain_10 : decode cX11_wasInChain 10 = .ok (.aload_n 0, 1) := by decide +kernel
theorem dX11_wasInChain_11 : decode cX11_wasInChain 11 = .ok (.getfield 67, 3) := by decide +kernel
theorem dX11_wasInChain_14 : decode cX11_wasInChain 14 = .ok (.iload_n 2, 1) := by decide +kernel
theorem dX11_wasInChain_15 : decode cX11_wasInChain 15 = .ok (.iaload, 1) := by decide +kernel
theorem dX11_wasInChain_16 : decode cX11_wasInChain 16 = .ok (.iload_n 1, 1) := by decide +kernel
theorem dX11_wasInChain_17 : decode cX11_wasInChain 17 = .ok (.if_icmp .ne 5, 3) := by decide +kernel
theorem dX11_wasInChain_20 : decode cX11_wasInChain 20 = .ok (.iconst 1, 1) := by decide +kernel
theorem dX11_wasInChain_21 : decode cX11_wasInChain 21 = .ok (.ireturn, 1) := by decide +kernel
theorem dX11_wasInChain_22 : decode cX11_wasInChain 22 = .ok (.iinc 2 1, 3) := by decide +kernel
theorem dX11_wasInChain_25 : decode cX11_wasInChain 25 = .ok (.goto (-23), 3) := by decide +kernel
theorem dX11_wasInChain_28 : decode cX11_wasInChain 28 = .ok (.iconst 0, 1) := by decide +kernel
theorem dX11_wasInChain_29 : decode cX11_wasInChain 29 = .ok (.ireturn, 1) := by decide +kernel
theorem dX11_went_0 : decode cX11_went 0 = .ok (.aload_n 0, 1) := by decide +kernel
theorem dX11_went_1 : decode cX11_went 1 = .ok (.iload_n 1, 1) := by decide +kernel
theorem dX11_went_2 : decode cX11_went 2 = .ok (.i2l, 1) := by decide +kernel
theorem dX11_went_3 : decode cX11_went 3 = .ok (.invokevirtual 266, 3) := by decide +kernel
theorem dX11_went_6 : decode cX11_went 6 = .ok (.ifCond .ne 6, 3) := by decide +kernel
theorem dX11_went_9 : decode cX11_went 9 = .ok (.bipush (-2), 2) := by decide +kernel
theorem dX11_went_11 : decode cX11_went 11 = .ok (.ireturn, 1) := by decide +kernel
theorem dX11_went_12 : decode cX11_went 12 = .ok (.aload_n 0, 1) := by decide +kernel
theorem dX11_went_13 : decode cX11_went 13 = .ok (.invokevirtual 250, 3) := by decide +kernel
theorem dX11_went_16 : decode cX11_went 16 = .ok (.aload_n 0, 1) := by decide +kernel
theorem dX11_went_17 : decode cX11_went 17 = .ok (.getfield 64, 3) := by decide +kernel
theorem dX11_went_20 : decode cX11_went 20 = .ok (.iload_n 1, 1) := by decide +kernel
theorem dX11_went_21 : decode cX11_went 21 = .ok (.iaload, 1) := by decide +kernel
theorem dX11_went_22 : decode cX11_went 22 = .ok (.iconst 1, 1) := by decide +kernel
theorem dX11_went_23 : decode cX11_went 23 = .ok (.isub, 1) := by decide +kernel
theorem dX11_went_24 : decode cX11_went 24 = .ok (.ireturn, 1) := by decide +kernel
theorem dX11_worthOf_0 : decode cX11_worthOf 0 = .ok (.aload_n 0, 1) := by decide +kernel
theorem dX11_worthOf_1 : decode cX11_worthOf 1 = .ok (.getfield 9, 3) := by decide +kernel
theorem dX11_worthOf_4 : decode cX11_worthOf 4 = .ok (.bipush 17, 2) := by decide +kernel
theorem dX11_worthOf_6 : decode cX11_worthOf 6 = .ok (.iconst 2, 1) := by decide +kernel
theorem dX11_worthOf_7 : decode cX11_worthOf 7 = .ok (.iload_n 1, 1) := by decide +kernel
theorem dX11_worthOf_8 : decode cX11_worthOf 8 = .ok (.imul, 1) := by decide +kernel
theorem dX11_worthOf_9 : decode cX11_worthOf 9 = .ok (.iadd, 1) := by decide +kernel
theorem dX11_worthOf_10 : decode cX11_worthOf 10 = .ok (.iconst 1, 1) := by decide +kernel
theorem dX11_worthOf_11 : decode cX11_worthOf 11 = .ok (.iadd, 1) := by decide +kernel
theorem dX11_worthOf_12 : decode cX11_worthOf 12 = .ok (.iaload, 1) := by decide +kernel
theorem dX11_worthOf_13 : decode cX11_worthOf 13 = .ok (.ireturn, 1) := by decide +kernel
theorem dX11_worthP_0 : decode cX11_worthP 0 = .ok (.aload_n 0, 1) := by decide +kernel
theorem dX11_worthP_1 : decode cX11_worthP 1 = .ok (.aload_n 0, 1) := by decide +kernel
theorem dX11_worthP_2 : decode cX11_worthP 2 = .ok (.getfield 46, 3) := by decide +kernel
theorem dX11_worthP_5 : decode cX11_worthP 5 = .ok (.iload_n 1, 1) := by decide +kernel
theorem dX11_worthP_6 : decode cX11_worthP 6 = .ok (.iaload, 1) := by decide +kernel
theorem dX11_worthP_7 : decode cX11_worthP 7 = .ok (.invokevirtual 98, 3) := by decide +kernel
theorem dX11_worthP_10 : decode cX11_worthP 10 = .ok (.ireturn, 1) := by decide +kernel
theorem dX11_write_0 : decode cX11_write 0 = .ok (.iload_n 1, 1) := by decide +kernel
theorem dX11_write_1 : decode cX11_write 1 = .ok (.invokestatic 397, 3) := by decide +kernel
theorem dX11_write_4 : decode cX11_write 4 = .ok (.ifCond .ne 6, 3) := by decide +kernel
theorem dX11_write_7 : decode cX11_write 7 = .ok (.bipush (-2), 2) := by decide +kernel
theorem dX11_write_9 : decode cX11_write 9 = .ok (.ireturn, 1) := by decide +kernel
theorem dX11_write_10 : decode cX11_write 10 = .ok (.aload_n 0, 1) := by decide +kernel
theorem dX11_write_11 : decode cX11_write 11 = .ok (.getfield 76, 3) := by decide +kernel
theorem dX11_write_14 : decode cX11_write 14 = .ok (.iload_n 1, 1) := by decide +kernel
theorem dX11_write_15 : decode cX11_write 15 = .ok (.iaload, 1) := by decide +kernel
theorem dX11_write_16 : decode cX11_write 16 = .ok (.iconst (-1), 1) := by decide +kernel
theorem dX11_write_17 : decode cX11_write 17 = .ok (.if_icmp .ne 6, 3) := by decide +kernel
theorem dX11_write_20 : decode cX11_write 20 = .ok (.bipush (-6), 2) := by decide +kernel
theorem dX11_write_22 : decode cX11_write 22 = .ok (.ireturn, 1) := by decide +kernel
theorem dX11_write_23 : decode cX11_write 23 = .ok (.iload_n 2, 1) := by decide +kernel
theorem dX11_write_24 : decode cX11_write 24 = .ok (.i2l, 1) := by decide +kernel
theorem dX11_write_25 : decode cX11_write 25 = .ok (.lconst 0, 1) := by decide +kernel
theorem dX11_write_26 : decode cX11_write 26 = .ok (.aload_n 0, 1) := by decide +kernel
theorem dX11_write_27 : decode cX11_write 27 = .ok (.getfield 76, 3) := by decide +kernel
theorem dX11_write_30 : decode cX11_write 30 = .ok (.iload_n 1, 1) := by decide +kernel
theorem dX11_write_31 : decode cX11_write 31 = .ok (.iaload, 1) := by decide +kernel
theorem dX11_write_32 : decode cX11_write 32 = .ok (.iconst 1, 1) := by decide +kernel
theorem dX11_write_33 : decode cX11_write 33 = .ok (.isub, 1) := by decide +kernel
theorem dX11_write_34 : decode cX11_write 34 = .ok (.i2l, 1) := by decide +kernel
theorem dX11_write_35 : decode cX11_write 35 = .ok (.invokestatic 94, 3) := by decide +kernel
theorem dX11_write_38 : decode cX11_write 38 = .ok (.ifCond .ne 6, 3) := by decide +kernel
theorem dX11_write_41 : decode cX11_write 41 = .ok (.bipush (-7), 2) := by decide +kernel
theorem dX11_write_43 : decode cX11_write 43 = .ok (.ireturn, 1) := by decide +kernel
theorem dX11_write_44 : decode cX11_write 44 = .ok (.aload_n 0, 1) := by decide +kernel
theorem dX11_write_45 : decode cX11_write 45 = .ok (.getfield 82, 3) := by decide +kernel
theorem dX11_write_48 : decode cX11_write 48 = .ok (.bipush 60, 2) := by decide +kernel
theorem dX11_write_50 : decode cX11_write 50 = .ok (.iload_n 1, 1) := by decide +kernel
theorem dX11_write_51 : decode cX11_write 51 = .ok (.imul, 1) := by decide +kernel
theorem dX11_write_52 : decode cX11_write 52 = .ok (.iload_n 2, 1) := by decide +kernel
theorem dX11_write_53 : decode cX11_write 53 = .ok (.iadd, 1) := by decide +kernel
theorem dX11_write_54 : decode cX11_write 54 = .ok (.lload_n 3, 1) := by decide +kernel
theorem dX11_write_55 : decode cX11_write 55 = .ok (.aload_n 0, 1) := by decide +kernel
theorem dX11_write_56 : decode cX11_write 56 = .ok (.getfield 79, 3) := by decide +kernel
theorem dX11_write_59 : decode cX11_write 59 = .ok (.iload_n 1, 1) := by decide +kernel
theorem dX11_write_60 : decode cX11_write 60 = .ok (.iaload, 1) := by decide +kernel
theorem dX11_write_61 : decode cX11_write 61 = .ok (.invokestatic 455, 3) := by decide +kernel
theorem dX11_write_64 : decode cX11_write 64 = .ok (.lastore, 1) := by decide +kernel
theorem dX11_write_65 : decode cX11_write 65 = .ok (.iconst 0, 1) := by decide +kernel
theorem dX11_write_66 : decode cX11_write 66 = .ok (.ireturn, 1) := by decide +kernel
theorem dX11_wrong_0 : decode cX11_wrong 0 = .ok (.aload_n 0, 1) := by decide +kernel
theorem dX11_wrong_1 : decode cX11_wrong 1 = .ok (.iload_n 1, 1) := by decide +kernel
theorem dX11_wrong_2 : decode cX11_wrong 2 = .ok (.invokevirtual 416, 3) := by decide +kernel
theorem dX11_wrong_5 : decode cX11_wrong 5 = .ok (.istore_n 2, 1) := by decide +kernel
theorem dX11_wrong_6 : decode cX11_wrong 6 = .ok (.iload_n 2, 1) := by decide +kernel
theorem dX11_wrong_7 : decode cX11_wrong 7 = .ok (.ifCond .ge 5, 3) := by decide +kernel
theorem dX11_wrong_10 : decode cX11_wrong 10 = .ok (.iload_n 2, 1) := by decide +kernel
theorem dX11_wrong_11 : decode cX11_wrong 11 = .ok (.ireturn, 1) := by decide +kernel
theorem dX11_wrong_12 : decode cX11_wrong 12 = .ok (.aload_n 0, 1) := by decide +kernel
theorem dX11_wrong_13 : decode cX11_wrong 13 = .ok (.iload_n 1, 1) := by decide +kernel
theorem dX11_wrong_14 : decode cX11_wrong 14 = .ok (.invokevirtual 419, 3) := by decide +kernel
theorem dX11_wrong_17 : decode cX11_wrong 17 = .ok (.aload_n 0, 1) := by decide +kernel
theorem dX11_wrong_18 : decode cX11_wrong 18 = .ok (.getfield 403, 3) := by decide +kernel
theorem dX11_wrong_21 : decode cX11_wrong 21 = .ok (.ireturn, 1) := by decide +kernel
theorem dX1_alike_0 : decode cX1_alike 0 = .ok (.iconst 0, 1) := by decide +kernel
theorem dX1_alike_1 : decode cX1_alike 1 = .ok (.istore_n 3, 1) := by decide +kernel
theorem dX1_alike_2 : decode cX1_alike 2 = .ok (.iconst 0, 1) := by decide +kernel
theorem dX1_alike_3 : decode cX1_alike 3 = .ok (.istore 4, 2) := by decide +kernel
theorem dX1_alike_5 : decode cX1_alike 5 = .ok (.iload 4, 2) := by decide +kernel
theorem dX1_alike_7 : decode cX1_alike 7 = .ok (.aload_n 2, 1) := by decide +kernel
theorem dX1_alike_8 : decode cX1_alike 8 = .ok (.getfield 60, 3) := by decide +kernel
theorem dX1_alike_11 : decode cX1_alike 11 = .ok (.if_icmp .ge 83, 3) := by decide +kernel
theorem dX1_alike_14 : decode cX1_alike 14 = .ok (.aload_n 2, 1) := by decide +kernel
theorem dX1_alike_15 : decode cX1_alike 15 = .ok (.iload 4, 2) := by decide +kernel
theorem dX1_alike_17 : decode cX1_alike 17 = .ok (.invokevirtual 63, 3) := by decide +kernel
theorem dX1_alike_20 : decode cX1_alike 20 = .ok (.ifCond .eq 68, 3) := by decide +kernel
theorem dX1_alike_23 : decode cX1_alike 23 = .ok (.aload_n 2, 1) := by decide +kernel
theorem dX1_alike_24 : decode cX1_alike 24 = .ok (.getfield 67, 3) := by decide +kernel
theorem dX1_alike_27 : decode cX1_alike 27 = .ok (.iload 4, 2) := by decide +kernel
theorem dX1_alike_29 : decode cX1_alike 29 = .ok (.iaload, 1) := by decide +kernel
theorem dX1_alike_30 : decode cX1_alike 30 = .ok (.i2l, 1) := by decide +kernel
theorem dX1_alike_31 : decode cX1_alike 31 = .ok (.aload_n 0, 1) := by decide +kernel
theorem dX1_alike_32 : decode cX1_alike 32 = .ok (.getfield 17, 3) := by decide +kernel
theorem dX1_alike_35 : decode cX1_alike 35 = .ok (.iload_n 1, 1) := by decide +kernel
theorem dX1_alike_36 : decode cX1_alike 36 = .ok (.laload, 1) := by decide +kernel
theorem dX1_alike_37 : decode cX1_alike 37 = .ok (.lcmp, 1) := by decide +kernel
theorem dX1_alike_38 : decode cX1_alike 38 = .ok (.ifCond .ne 50, 3) := by decide +kernel
theorem dX1_alike_41 : decode cX1_alike 41 = .ok (.aload_n 2, 1) := by decide +kernel
theorem dX1_alike_42 : decode cX1_alike 42 = .ok (.getfield 70, 3) := by decide +kernel
theorem dX1_alike_45 : decode cX1_alike 45 = .ok (.iload 4, 2) := by decide +kernel
theorem dX1_alike_47 : decode cX1_alike 47 = .ok (.iaload, 1) := by decide +kernel
theorem dX1_alike_48 : decode cX1_alike 48 = .ok (.i2l, 1) := by decide +kernel
theorem dX1_alike_49 : decode cX1_alike 49 = .ok (.aload_n 0, 1) := by decide +kernel
theorem dX1_alike_50 : decode cX1_alike 50 = .ok (.getfield 17, 3) := by decide +kernel
theorem dX1_alike_53 : decode cX1_alike 53 = .ok (.iload_n 1, 1) := by decide +kernel
theorem dX1_alike_54 : decode cX1_alike 54 = .ok (.iconst 1, 1) := by decide +kernel
theorem dX1_alike_55 : decode cX1_alike 55 = .ok (.iadd, 1) := by decide +kernel
theorem dX1_alike_56 : decode cX1_alike 56 = .ok (.laload, 1) := by decide +kernel
theorem dX1_alike_57 : decode cX1_alike 57 = .ok (.lcmp, 1) := by decide +kernel
theorem dX1_alike_58 : decode cX1_alike 58 = .ok (.ifCond .ne 30, 3) := by decide +kernel
theorem dX1_alike_61 : decode cX1_alike 61 = .ok (.aload_n 2, 1) := by decide +kernel
theorem dX1_alike_62 : decode cX1_alike 62 = .ok (.getfield 73, 3) := by decide +kernel
theorem dX1_alike_65 : decode cX1_alike 65 = .ok (.iload 4, 2) := by decide +kernel
theorem dX1_alike_67 : decode cX1_alike 67 = .ok (.iaload, 1) := by decide +kernel
theorem dX1_alike_68 : decode cX1_alike 68 = .ok (.i2l, 1) := by decide +kernel
theorem dX1_alike_69 : decode cX1_alike 69 = .ok (.aload_n 0, 1) := by decide +kernel
theorem dX1_alike_70 : decode cX1_alike 70 = .ok (.getfield 17, 3) := by decide +kernel
theorem dX1_alike_73 : decode cX1_alike 73 = .ok (.iload_n 1, 1) := by decide +kernel
theorem dX1_alike_74 : decode cX1_alike 74 = .ok (.iconst 3, 1) := by decide +kernel
theorem dX1_alike_75 : decode cX1_alike 75 = .ok (.iadd, 1) := by decide +kernel
theorem dX1_alike_76 : decode cX1_alike 76 = .ok (.laload, 1) := by decide +kernel
theorem dX1_alike_77 : decode cX1_alike 77 = .ok (.lcmp, 1) := by decide +kernel
theorem dX1_alike_78 : decode cX1_alike 78 = .ok (.ifCond .ne 10, 3) := by decide +kernel
theorem dX1_alike_81 : decode cX1_alike 81 = .ok (.iload_n 3, 1) := by decide +kernel
theorem dX1_alike_82 : decode cX1_alike 82 = .ok (.iconst 1, 1) := by decide +kernel
theorem dX1_alike_83 : decode cX1_alike 83 = .ok (.iload 4, 2) := by decide +kernel
theorem dX1_alike_85 : decode cX1_alike 85 = .ok (.ishl, 1) := by decide +kernel
theorem dX1_alike_86 : decode cX1_alike 86 = .ok (.ior, 1) := by decide +kernel
theorem dX1_alike_87 : decode cX1_alike 87 = .ok (.istore_n 3, 1) := by decide +kernel
theorem dX1_alike_88 : decode cX1_alike 88 = .ok (.iinc 4 1, 3) := by decide +kernel
theorem dX1_alike_91 : decode cX1_alike 91 = .ok (.goto (-86), 3) := by decide +kernel
theorem dX1_alike_94 : decode cX1_alike 94 = .ok (.iload_n 3, 1) := by decide +kernel
theorem dX1_alike_95 : decode cX1_alike 95 = .ok (.ireturn, 1) := by decide +kernel
theorem dX1_compare_0 : decode cX1_compare 0 = .ok (.aload_n 0, 1) := by decide +kernel
theorem dX1_compare_1 : decode cX1_compare 1 = .ok (.iconst 0, 1) := by decide +kernel
theorem dX1_compare_2 : decode cX1_compare 2 = .ok (.putfield 33, 3) := by decide +kernel
theorem dX1_compare_5 : decode cX1_compare 5 = .ok (.aload_n 0, 1) := by decide +kernel
theorem dX1_compare_6 : decode cX1_compare 6 = .ok (.iconst (-1), 1) := by decide +kernel
theorem dX1_compare_7 : decode cX1_compare 7 = .ok (.putfield 36, 3) := by decide +kernel
theorem dX1_compare_10 : decode cX1_compare 10 = .ok (.aload_n 0, 1) := by decide +kernel
theorem dX1_compare_11 : decode cX1_compare 11 = .ok (.iconst 0, 1) := by decide +kernel
theorem dX1_compare_12 : decode cX1_compare 12 = .ok (.putfield 39, 3) := by decide +kernel
theorem dX1_compare_15 : decode cX1_compare 15 = .ok (.aload_n 2, 1) := by decide +kernel
theorem dX1_compare_16 : decode cX1_compare 16 = .ok (.invokevirtual 42, 3) := by decide +kernel
theorem dX1_compare_19 : decode cX1_compare 19 = .ok (.istore_n 3, 1) := by decide +kernel
theorem dX1_compare_20 : decode cX1_compare 20 = .ok (.iconst 0, 1) := by decide +kernel
theorem dX1_compare_21 : decode cX1_compare 21 = .ok (.istore 4, 2) := by decide +kernel
theorem dX1_compare_23 : decode cX1_compare 23 = .ok (.iload 4, 2) := by decide +kernel
theorem dX1_compare_25 : decode cX1_compare 25 = .ok (.iconst 4, 1) := by decide +kernel
theorem dX1_compare_26 : decode cX1_compare 26 = .ok (.iadd, 1) := by decide +kernel
theorem dX1_compare_27 : decode cX1_compare 27 = .ok (.aload_n 1, 1) := by decide +kernel
theorem dX1_compare_28 : decode cX1_compare 28 = .ok (.getfield 9, 3) := by decide +kernel
theorem dX1_compare_31 : decode cX1_compare 31 = .ok (.if_icmp .gt 151, 3) := by decide +kernel
theorem dX1_compare_34 : decode cX1_compare 34 = .ok (.aload_n 1, 1) := by decide +kernel
theorem dX1_compare_35 : decode cX1_compare 35 = .ok (.iload 4, 2) := by decide +kernel
theorem dX1_compare_37 : decode cX1_compare 37 = .ok (.aload_n 2, 1) := by decide +kernel
theorem dX1_compare_38 : decode cX1_compare 38 = .ok (.invokestatic 48, 3) := by decide +kernel
theorem dX1_compare_41 : decode cX1_compare 41 = .ok (.istore 5, 2) := by decide +kernel
theorem dX1_compare_43 : decode cX1_compare 43 = .ok (.aload_n 1, 1) := by decide +kernel
theorem dX1_compare_44 : decode cX1_compare 44 = .ok (.getfield 17, 3) := by decide +kernel
theorem dX1_compare_47 : decode cX1_compare 47 = .ok (.iload 4, 2) := by decide +kernel
theorem dX1_compare_49 : decode cX1_compare 49 = .ok (.iconst 1, 1) := by decide +kernel
theorem dX1_compare_50 : decode cX1_compare 50 = .ok (.iadd, 1) := by decide +kernel
theorem dX1_compare_51 : decode cX1_compare 51 = .ok (.laload, 1) := by decide +kernel
theorem dX1_compare_52 : decode cX1_compare 52 = .ok (.l2i, 1) := by decide +kernel
theorem dX1_compare_53 : decode cX1_compare 53 = .ok (.istore 6, 2) := by decide +kernel
theorem dX1_compare_55 : decode cX1_compare 55 = .ok (.aload_n 1, 1) := by decide +kernel
theorem dX1_compare_56 : decode cX1_compare 56 = .ok (.getfield 17, 3) := by decide +kernel
theorem dX1_compare_59 : decode cX1_compare 59 = .ok (.iload 4, 2) := by decide +kernel
theorem dX1_compare_61 : decode cX1_compare 61 = .ok (.iconst 2, 1) := by decide +kernel
theorem dX1_compare_62 : decode cX1_compare 62 = .ok (.iadd, 1) := by decide +kernel
theorem dX1_compare_63 : decode cX1_compare 63 = .ok (.laload, 1) := by decide +kernel
theorem dX1_compare_64 : decode cX1_compare 64 = .ok (.aload_n 2, 1) := by decide +kernel
theorem dX1_compare_65 : decode cX1_compare 65 = .ok (.getfield 52, 3) := by decide +kernel
theorem dX1_compare_68 : decode cX1_compare 68 = .ok (.getfield 56, 3) := by decide +kernel
theorem dX1_compare_71 : decode cX1_compare 71 = .ok (.iload 6, 2) := by decide +kernel
theorem dX1_compare_73 : decode cX1_compare 73 = .ok (.iaload, 1) := by decide +kernel
theorem dX1_compare_74 : decode cX1_compare 74 = .ok (.i2l, 1) := by decide +kernel
theorem dX1_compare_75 : decode cX1_compare 75 = .ok (.lcmp, 1) := by decide +kernel
theorem dX1_compare_76 : decode cX1_compare 76 = .ok (.ifCond .ne 7, 3) := by decide +kernel
theorem dX1_compare_79 : decode cX1_compare 79 = .ok (.iconst 1, 1) := by decide +kernel
theorem dX1_compare_80 : decode cX1_compare 80 = .ok (.goto 4, 3) := by decide +kernel
theorem dX1_compare_83 : decode cX1_compare 83 = .ok (.iconst 0, 1) := by decide +kernel
theorem dX1_compare_84 : decode cX1_compare 84 = .ok (.istore 7, 2) := by decide +kernel
theorem dX1_compare_86 : decode cX1_compare 86 = .ok (.iload 7, 2) := by decide +kernel
theorem dX1_compare_88 : decode cX1_compare 88 = .ok (.ifCond .eq 10, 3) := by decide +kernel
theorem dX1_compare_91 : decode cX1_compare 91 = .ok (.iload 5, 2) := by decide +kernel
theorem dX1_compare_93 : decode cX1_compare 93 = .ok (.iload_n 3, 1) := by decide +kernel
theorem dX1_compare_94 : decode cX1_compare 94 = .ok (.iand, 1) := by decide +kernel
theorem dX1_compare_95 : decode cX1_compare 95 = .ok (.goto 4, 3) := by decide +kernel
theorem dX1_compare_98 : decode cX1_compare 98 = .ok (.iconst 0, 1) := by decide +kernel
theorem dX1_compare_99 : decode cX1_compare 99 = .ok (.istore 8, 2) := by decide +kernel
theorem dX1_compare_101 : decode cX1_compare 101 = .ok (.iload 8, 2) := by decide +kernel
theorem dX1_compare_103 : decode cX1_compare 103 = .ok (.ifCond .eq 17, 3) := by decide +kernel
theorem dX1_compare_106 : decode cX1_compare 106 = .ok (.iload_n 3, 1) := by decide +kernel
theorem dX1_compare_107 : decode cX1_compare 107 = .ok (.iload 8, 2) := by decide +kernel
theorem dX1_compare_109 : decode cX1_compare 109 = .ok (.iload 8, 2) := by decide +kernel
theorem dX1_compare_111 : decode cX1_compare 111 = .ok (.ineg, 1) := by decide +kernel
theorem dX1_compare_112 : decode cX1_compare 112 = .ok (.iand, 1) := by decide +kernel
theorem dX1_compare_113 : decode cX1_compare 113 = .ok (.iconst (-1), 1) := by decide +kernel
theorem dX1_compare_114 : decode cX1_compare 114 = .ok (.ixor, 1) := by decide +kernel
theorem dX1_compare_115 : decode cX1_compare 115 = .ok (.iand, 1) := by decide +kernel
theorem dX1_compare_116 : decode cX1_compare 116 = .ok (.istore_n 3, 1) := by decide +kernel
theorem dX1_compare_117 : decode cX1_compare 117 = .ok (.goto 59, 3) := by decide +kernel
theorem dX1_compare_120 : decode cX1_compare 120 = .ok (.aload_n 0, 1) := by decide +kernel
theorem dX1_compare_121 : decode cX1_compare 121 = .ok (.aload_n 0, 1) := by decide +kernel
theorem dX1_compare_122 : decode cX1_compare 122 = .ok (.getfield 33, 3) := by decide +kernel
theorem dX1_compare_125 : decode cX1_compare 125 = .ok (.ifCond .ne 10, 3) := by decide +kernel
theorem dX1_compare_128 : decode cX1_compare 128 = .ok (.iload 4, 2) := by decide +kernel
theorem dX1_compare_130 : decode cX1_compare 130 = .ok (.iconst 4, 1) := by decide +kernel
theorem dX1_compare_131 : decode cX1_compare 131 = .ok (.idiv, 1) := by decide +kernel
theorem dX1_compare_132 : decode cX1_compare 132 = .ok (.goto 7, 3) := by decide +kernel
theorem dX1_compare_135 : decode cX1_compare 135 = .ok (.aload_n 0, 1) := by decide +kernel
theorem dX1_compare_136 : decode cX1_compare 136 = .ok (.getfield 36, 3) := by decide +kernel
theorem dX1_compare_139 : decode cX1_compare 139 = .ok (.putfield 36, 3) := by decide +kernel
theorem dX1_compare_142 : decode cX1_compare 142 = .ok (.aload_n 0, 1) := by decide +kernel
theorem dX1_compare_143 : decode cX1_compare 143 = .ok (.dup, 1) := by decide +kernel
theorem dX1_compare_144 : decode cX1_compare 144 = .ok (.getfield 33, 3) := by decide +kernel
theorem dX1_compare_147 : decode cX1_compare 147 = .ok (.iconst 1, 1) := by decide +kernel
theorem dX1_compare_148 : decode cX1_compare 148 = .ok (.iadd, 1) := by decide +kernel
theorem dX1_compare_149 : decode cX1_compare 149 = .ok (.putfield 33, 3) := by decide +kernel
theorem dX1_compare_152 : decode cX1_compare 152 = .ok (.aload_n 0, 1) := by decide +kernel
theorem dX1_compare_153 : decode cX1_compare 153 = .ok (.dup, 1) := by decide +kernel
theorem dX1_compare_154 : decode cX1_compare 154 = .ok (.getfield 39, 3) := by decide +kernel
theorem dX1_compare_157 : decode cX1_compare 157 = .ok (.iload 7, 2) := by decide +kernel
theorem dX1_compare_159 : decode cX1_compare 159 = .ok (.ifCond .ne 12, 3) := by decide +kernel
theorem dX1_compare_162 : decode cX1_compare 162 = .ok (.iload 5, 2) := by decide +kernel
theorem dX1_compare_164 : decode cX1_compare 164 = .ok (.ifCond .eq 7, 3) := by decide +kernel
theorem dX1_compare_167 : decode cX1_compare 167 = .ok (.iconst 1, 1) := by decide +kernel
theorem dX1_compare_168 : decode cX1_compare 168 = .ok (.goto 4, 3) := by decide +kernel
theorem dX1_compare_171 : decode cX1_compare 171 = .ok (.iconst 0, 1) := by decide +kernel
theorem dX1_compare_172 : decode cX1_compare 172 = .ok (.iadd, 1) := by decide +kernel
theorem dX1_compare_173 : decode cX1_compare 173 = .ok (.putfield 39, 3) := by decide +kernel
theorem dX1_compare_176 : decode cX1_compare 176 = .ok (.iinc 4 4, 3) := by decide +kernel
theorem dX1_compare_179 : decode cX1_compare 179 = .ok (.goto (-156), 3) := by decide +kernel
theorem dX1_compare_182 : decode cX1_compare 182 = .ok (.return_, 1) := by decide +kernel
theorem dX1_init_0 : decode cX1_init 0 = .ok (.aload_n 0, 1) := by decide +kernel
theorem dX1_init_1 : decode cX1_init 1 = .ok (.invokespecial 3, 3) := by decide +kernel
theorem dX1_init_4 : decode cX1_init 4 = .ok (.return_, 1) := by decide +kernel
theorem dX1_isSound_0 : decode cX1_isSound 0 = .ok (.aload_n 1, 1) := by decide +kernel
theorem dX1_isSound_1 : decode cX1_isSound 1 = .ok (.getfield 9, 3) := by decide +kernel
theorem dX1_isSound_4 : decode cX1_isSound 4 = .ok (.iconst 4, 1) := by decide +kernel
theorem dX1_isSound_5 : decode cX1_isSound 5 = .ok (.irem, 1) := by decide +kernel
theorem dX1_isSound_6 : decode cX1_isSound 6 = .ok (.ifCond .eq 5, 3) := by decide +kernel
theorem dX1_isSound_9 : decode cX1_isSound 9 = .ok (.iconst 0, 1) := by decide +kernel
theorem dX1_isSound_10 : decode cX1_isSound 10 = .ok (.ireturn, 1) := by decide +kernel
theorem dX1_isSound_11 : decode cX1_isSound 11 = .ok (.iconst 0, 1) := by decide +kernel
theorem dX1_isSound_12 : decode cX1_isSound 12 = .ok (.istore_n 3, 1) := by decide +kernel
theorem dX1_isSound_13 : decode cX1_isSound 13 = .ok (.iload_n 3, 1) := by decide +kernel
theorem dX1_isSound_14 : decode cX1_isSound 14 = .ok (.iconst 4, 1) := by decide +kernel
theorem dX1_isSound_15 : decode cX1_isSound 15 = .ok (.iadd, 1) := by decide +kernel
theorem dX1_isSound_16 : decode cX1_isSound 16 = .ok (.aload_n 1, 1) := by decide +kernel
theorem dX1_isSound_17 : decode cX1_isSound 17 = .ok (.getfield 9, 3) := by decide +kernel
theorem dX1_isSound_20 : decode cX1_isSound 20 = .ok (.if_icmp .gt 86, 3) := by decide +kernel
theorem dX1_isSound_23 : decode cX1_isSound 23 = .ok (.aload_n 1, 1) := by decide +kernel
theorem dX1_isSound_24 : decode cX1_isSound 24 = .ok (.getfield 17, 3) := by decide +kernel
theorem dX1_isSound_27 : decode cX1_isSound 27 = .ok (.iload_n 3, 1) := by decide +kernel
theorem dX1_isSound_28 : decode cX1_isSound 28 = .ok (.laload, 1) := by decide +kernel
theorem dX1_isSound_29 : decode cX1_isSound 29 = .ok (.iconst 0, 1) := by decide +kernel
theorem dX1_isSound_30 : decode cX1_isSound 30 = .ok (.aload_n 2, 1) := by decide +kernel
theorem dX1_isSound_31 : decode cX1_isSound 31 = .ok (.getfield 21, 3) := by decide +kernel
theorem dX1_isSound_34 : decode cX1_isSound 34 = .ok (.iconst 1, 1) := by decide +kernel
theorem dX1_isSound_35 : decode cX1_isSound 35 = .ok (.isub, 1) := by decide +kernel
theorem dX1_isSound_36 : decode cX1_isSound 36 = .ok (.invokestatic 26, 3) := by decide +kernel
theorem dX1_isSound_39 : decode cX1_isSound 39 = .ok (.ifCond .eq 59, 3) := by decide +kernel
theorem dX1_isSound_42 : decode cX1_isSound 42 = .ok (.aload_n 1, 1) := by decide +kernel
theorem dX1_isSound_43 : decode cX1_isSound 43 = .ok (.getfield 17, 3) := by decide +kernel
theorem dX1_isSound_46 : decode cX1_isSound 46 = .ok (.iload_n 3, 1) := by decide +kernel
theorem dX1_isSound_47 : decode cX1_isSound 47 = .ok (.iconst 1, 1) := by decide +kernel
theorem dX1_isSound_48 : decode cX1_isSound 48 = .ok (.iadd, 1) := by decide +kernel
theorem dX1_isSound_49 : decode cX1_isSound 49 = .ok (.laload, 1) := by decide +kernel
theorem dX1_isSound_50 : decode cX1_isSound 50 = .ok (.iconst 0, 1) := by decide +kernel
theorem dX1_isSound_51 : decode cX1_isSound 51 = .ok (.aload_n 2, 1) := by decide +kernel
theorem dX1_isSound_52 : decode cX1_isSound 52 = .ok (.getfield 30, 3) := by decide +kernel
theorem dX1_isSound_55 : decode cX1_isSound 55 = .ok (.iconst 1, 1) := by decide +kernel
theorem dX1_isSound_56 : decode cX1_isSound 56 = .ok (.isub, 1) := by decide +kernel
theorem dX1_isSound_57 : decode cX1_isSound 57 = .ok (.invokestatic 26, 3) := by decide +kernel
theorem dX1_isSound_60 : decode cX1_isSound 60 = .ok (.ifCond .eq 38, 3) := by decide +kernel
theorem dX1_isSound_63 : decode cX1_isSound 63 = .ok (.aload_n 1, 1) := by decide +kernel
theorem dX1_isSound_64 : decode cX1_isSound 64 = .ok (.getfield 17, 3) := by decide +kernel
theorem dX1_isSound_67 : decode cX1_isSound 67 = .ok (.iload_n 3, 1) := by decide +kernel
theorem dX1_isSound_68 : decode cX1_isSound 68 = .ok (.iconst 2, 1) := by decide +kernel
theorem dX1_isSound_69 : decode cX1_isSound 69 = .ok (.iadd, 1) := by decide +kernel
theorem dX1_isSound_70 : decode cX1_isSound 70 = .ok (.laload, 1) := by decide +kernel
theorem dX1_isSound_71 : decode cX1_isSound 71 = .ok (.iconst 0, 1) := by decide +kernel
theorem dX1_isSound_72 : decode cX1_isSound 72 = .ok (.sipush 9999, 3) := by decide +kernel
theorem dX1_isSound_75 : decode cX1_isSound 75 = .ok (.invokestatic 26, 3) := by decide +kernel
theorem dX1_isSound_78 : decode cX1_isSound 78 = .ok (.ifCond .eq 20, 3) := by decide +kernel
theorem dX1_isSound_81 : decode cX1_isSound 81 = .ok (.aload_n 1, 1) := by decide +kernel
theorem dX1_isSound_82 : decode cX1_isSound 82 = .ok (.getfield 17, 3) := by decide +kernel
theorem dX1_isSound_85 : decode cX1_isSound 85 = .ok (.iload_n 3, 1) := by decide +kernel
theorem dX1_isSound_86 : decode cX1_isSound 86 = .ok (.iconst 3, 1) := by decide +kernel
theorem dX1_isSound_87 : decode cX1_isSound 87 = .ok (.iadd, 1) := by decide +kernel
theorem dX1_isSound_88 : decode cX1_isSound 88 = .ok (.laload, 1) := by decide +kernel
theorem dX1_isSound_89 : decode cX1_isSound 89 = .ok (.iconst 1, 1) := by decide +kernel
theorem dX1_isSound_90 : decode cX1_isSound 90 = .ok (.bipush 60, 2) := by decide +kernel
theorem dX1_isSound_92 : decode cX1_isSound 92 = .ok (.invokestatic 26, 3) := by decide +kernel
theorem dX1_isSound_95 : decode cX1_isSound 95 = .ok (.ifCond .ne 5, 3) := by decide +kernel
theorem dX1_isSound_98 : decode cX1_isSound 98 = .ok (.iconst 0, 1) := by decide +kernel
theorem dX1_isSound_99 : decode cX1_isSound 99 = .ok (.ireturn, 1) := by decide +kernel
theorem dX1_isSound_100 : decode cX1_isSound 100 = .ok (.iinc 3 4, 3) := by decide +kernel
theorem dX1_isSound_103 : decode cX1_isSound 103 = .ok (.goto (-90), 3) := by decide +kernel
theorem dX1_isSound_106 : decode cX1_isSound 106 = .ok (.iconst 1, 1) := by decide +kernel
theorem dX1_isSound_107 : decode cX1_isSound 107 = .ok (.ireturn, 1) := by decide +kernel
theorem dX1_isWithin_0 : decode cX1_isWithin 0 = .ok (.lload_n 0, 1) := by decide +kernel
theorem dX1_isWithin_1 : decode cX1_isWithin 1 = .ok (.iload_n 2, 1) := by decide +kernel
theorem dX1_isWithin_2 : decode cX1_isWithin 2 = .ok (.i2l, 1) := by decide +kernel
theorem dX1_isWithin_3 : decode cX1_isWithin 3 = .ok (.lcmp, 1) := by decide +kernel
theorem dX1_isWithin_4 : decode cX1_isWithin 4 = .ok (.ifCond .lt 14, 3) := by decide +kernel
theorem dX1_isWithin_7 : decode cX1_isWithin 7 = .ok (.lload_n 0, 1) := by decide +kernel
theorem dX1_isWithin_8 : decode cX1_isWithin 8 = .ok (.iload_n 3, 1) := by decide +kernel
theorem dX1_isWithin_9 : decode cX1_isWithin 9 = .ok (.i2l, 1) := by decide +kernel
theorem dX1_isWithin_10 : decode cX1_isWithin 10 = .ok (.lcmp, 1) := by decide +kernel
theorem dX1_isWithin_11 : decode cX1_isWithin 11 = .ok (.ifCond .gt 7, 3) := by decide +kernel
theorem dX1_isWithin_14 : decode cX1_isWithin 14 = .ok (.iconst 1, 1) := by decide +kernel
theorem dX1_isWithin_15 : decode cX1_isWithin 15 = .ok (.goto 4, 3) := by decide +kernel
theorem dX1_isWithin_18 : decode cX1_isWithin 18 = .ok (.iconst 0, 1) := by decide +kernel
theorem dX1_isWithin_19 : decode cX1_isWithin 19 = .ok (.ireturn, 1) := by decide +kernel
theorem dX2_clear_0 : decode cX2_clear 0 = .ok (.aload_n 0, 1) := by decide +kernel
theorem dX2_clear_1 : decode cX2_clear 1 = .ok (.iconst 0, 1) := by decide +kernel
theorem dX2_clear_2 : decode cX2_clear 2 = .ok (.putfield 24, 3) := by decide +kernel
theorem dX2_clear_5 : decode cX2_clear 5 = .ok (.aload_n 0, 1) := by decide +kernel
theorem dX2_clear_6 : decode cX2_clear 6 = .ok (.iconst 0, 1) := by decide +kernel
theorem dX2_clear_7 : decode cX2_clear 7 = .ok (.putfield 28, 3) := by decide +kernel
theorem dX2_clear_10 : decode cX2_clear 10 = .ok (.aload_n 0, 1) := by decide +kernel
theorem dX2_clear_11 : decode cX2_clear 11 = .ok (.iconst 0, 1) := by decide +kernel
theorem dX2_clear_12 : decode cX2_clear 12 = .ok (.putfield 31, 3) := by decide +kernel
theorem dX2_clear_15 : decode cX2_clear 15 = .ok (.aload_n 0, 1) := by decide +kernel
theorem dX2_clear_16 : decode cX2_clear 16 = .ok (.iconst 0, 1) := by decide +kernel
theorem dX2_clear_17 : decode cX2_clear 17 = .ok (.putfield 34, 3) := by decide +kernel
theorem dX2_clear_20 : decode cX2_clear 20 = .ok (.aload_n 0, 1) := by decide +kernel
theorem dX2_clear_21 : decode cX2_clear 21 = .ok (.iconst 0, 1) := by decide +kernel
theorem dX2_clear_22 : decode cX2_clear 22 = .ok (.putfield 37, 3) := by decide +kernel
theorem dX2_clear_25 : decode cX2_clear 25 = .ok (.aload_n 0, 1) := by decide +kernel
theorem dX2_clear_26 : decode cX2_clear 26 = .ok (.iconst 0, 1) := by decide +kernel
theorem dX2_clear_27 : decode cX2_clear 27 = .ok (.putfield 40, 3) := by decide +kernel
theorem dX2_clear_30 : decode cX2_clear 30 = .ok (.aload_n 0, 1) := by decide +kernel
theorem dX2_clear_31 : decode cX2_clear 31 = .ok (.iconst 0, 1) := by decide +kernel
theorem dX2_clear_32 : decode cX2_clear 32 = .ok (.putfield 43, 3) := by decide +kernel
theorem dX2_clear_35 : decode cX2_clear 35 = .ok (.aload_n 0, 1) := by decide +kernel
theorem dX2_clear_36 : decode cX2_clear 36 = .ok (.getfield 21, 3) := by decide +kernel
theorem dX2_clear_39 : decode cX2_clear 39 = .ok (.iconst 0, 1) := by decide +kernel
theorem dX2_clear_40 : decode cX2_clear 40 = .ok (.invokestatic 46, 3) := by decide +kernel
theorem dX2_clear_43 : decode cX2_clear 43 = .ok (.return_, 1) := by decide +kernel
theorem dX2_copyFrom_0 : decode cX2_copyFrom 0 = .ok (.aload_n 0, 1) := by decide +kernel
theorem dX2_copyFrom_1 : decode cX2_copyFrom 1 = .ok (.aload_n 1, 1) := by decide +kernel
theorem dX2_copyFrom_2 : decode cX2_copyFrom 2 = .ok (.getfield 24, 3) := by decide +kernel
theorem dX2_copyFrom_5 : decode cX2_copyFrom 5 = .ok (.putfield 24, 3) := by decide +kernel
theorem dX2_copyFrom_8 : decode cX2_copyFrom 8 = .ok (.aload_n 0, 1) := by decide +kernel
theorem dX2_copyFrom_9 : decode cX2_copyFrom 9 = .ok (.aload_n 1, 1) := by decide +kernel
theorem dX2_copyFrom_10 : decode cX2_copyFrom 10 = .ok (.getfield 28, 3) := by decide +kernel
theorem dX2_copyFrom_13 : decode cX2_copyFrom 13 = .ok (.putfield 28, 3) := by decide +kernel
theorem dX2_copyFrom_16 : decode cX2_copyFrom 16 = .ok (.aload_n 0, 1) := by decide +kernel
theorem dX2_copyFrom_17 : decode cX2_copyFrom 17 = .ok (.aload_n 1, 1) := by decide +kernel
theorem dX2_copyFrom_18 : decode cX2_copyFrom 18 = .ok (.getfield 31, 3) := by decide +kernel
theorem dX2_copyFrom_21 : decode cX2_copyFrom 21 = .ok (.putfield 31, 3) := by decide +kernel
theorem dX2_copyFrom_24 : decode cX2_copyFrom 24 = .ok (.aload_n 0, 1) := by decide +kernel
theorem dX2_copyFrom_25 : decode cX2_copyFrom 25 = .ok (.aload_n 1, 1) := by decide +kernel
theorem dX2_copyFrom_26 : decode cX2_copyFrom 26 = .ok (.getfield 34, 3) := by decide +kernel
theorem dX2_copyFrom_29 : decode cX2_copyFrom 29 = .ok (.putfield 34, 3) := by decide +kernel
theorem dX2_copyFrom_32 : decode cX2_copyFrom 32 = .ok (.aload_n 0, 1) := by decide +kernel
theorem dX2_copyFrom_33 : decode cX2_copyFrom 33 = .ok (.aload_n 1, 1) := by decide +kernel
theorem dX2_copyFrom_34 : decode cX2_copyFrom 34 = .ok (.getfield 37, 3) := by decide +kernel
theorem dX2_copyFrom_37 : decode cX2_copyFrom 37 = .ok (.putfield 37, 3) := by decide +kernel
theorem dX2_copyFrom_40 : decode cX2_copyFrom 40 = .ok (.aload_n 0, 1) := by decide +kernel
theorem dX2_copyFrom_41 : decode cX2_copyFrom 41 = .ok (.aload_n 1, 1) := by decide +kernel
theorem dX2_copyFrom_42 : decode cX2_copyFrom 42 = .ok (.getfield 40, 3) := by decide +kernel
theorem dX2_copyFrom_45 : decode cX2_copyFrom 45 = .ok (.putfield 40, 3) := by decide +kernel
theorem dX2_copyFrom_48 : decode cX2_copyFrom 48 = .ok (.aload_n 0, 1) := by decide +kernel
theorem dX2_copyFrom_49 : decode cX2_copyFrom 49 = .ok (.aload_n 1, 1) := by decide +kernel
theorem dX2_copyFrom_50 : decode cX2_copyFrom 50 = .ok (.getfield 43, 3) := by decide +kernel
theorem dX2_copyFrom_53 : decode cX2_copyFrom 53 = .ok (.putfield 43, 3) := by decide +kernel
theorem dX2_copyFrom_56 : decode cX2_copyFrom 56 = .ok (.aload_n 1, 1) := by decide +kernel
theorem dX2_copyFrom_57 : decode cX2_copyFrom 57 = .ok (.getfield 9, 3) := by decide +kernel
theorem dX2_copyFrom_60 : decode cX2_copyFrom 60 = .ok (.iconst 0, 1) := by decide +kernel
theorem dX2_copyFrom_61 : decode cX2_copyFrom 61 = .ok (.aload_n 0, 1) := by decide +kernel
theorem dX2_copyFrom_62 : decode cX2_copyFrom 62 = .ok (.getfield 9, 3) := by decide +kernel
theorem dX2_copyFrom_65 : decode cX2_copyFrom 65 = .ok (.iconst 0, 1) := by decide +kernel
theorem dX2_copyFrom_66 : decode cX2_copyFrom 66 = .ok (.iconst 5, 1) := by decide +kernel
theorem dX2_copyFrom_67 : decode cX2_copyFrom 67 = .ok (.invokestatic 52, 3) := by decide +kernel
theorem dX2_copyFrom_70 : decode cX2_copyFrom 70 = .ok (.aload_n 1, 1) := by decide +kernel
theorem dX2_copyFrom_71 : decode cX2_copyFrom 71 = .ok (.getfield 15, 3) := by decide +kernel
theorem dX2_copyFrom_74 : decode cX2_copyFrom 74 = .ok (.iconst 0, 1) := by decide +kernel
theorem dX2_copyFrom_75 : decode cX2_copyFrom 75 = .ok (.aload_n 0, 1) := by decide +kernel
theorem dX2_copyFrom_76 : decode cX2_copyFrom 76 = .ok (.getfield 15, 3) := by decide +kernel
theorem dX2_copyFrom_79 : decode cX2_copyFrom 79 = .ok (.iconst 0, 1) := by decide +kernel
theorem dX2_copyFrom_80 : decode cX2_copyFrom 80 = .ok (.bipush 6, 2) := by decide +kernel
theorem dX2_copyFrom_82 : decode cX2_copyFrom 82 = .ok (.invokestatic 52, 3) := by decide +kernel
theorem dX2_copyFrom_85 : decode cX2_copyFrom 85 = .ok (.aload_n 1, 1) := by decide +kernel
theorem dX2_copyFrom_86 : decode cX2_copyFrom 86 = .ok (.getfield 18, 3) := by decide +kernel
theorem dX2_copyFrom_89 : decode cX2_copyFrom 89 = .ok (.iconst 0, 1) := by decide +kernel
theorem dX2_copyFrom_90 : decode cX2_copyFrom 90 = .ok (.aload_n 0, 1) := by decide +kernel
theorem dX2_copyFrom_91 : decode cX2_copyFrom 91 = .ok (.getfield 18, 3) := by decide +kernel
theorem dX2_copyFrom_94 : decode cX2_copyFrom 94 = .ok (.iconst 0, 1) := by decide +kernel
theorem dX2_copyFrom_95 : decode cX2_copyFrom 95 = .ok (.bipush 6, 2) := by decide +kernel
theorem dX2_copyFrom_97 : decode cX2_copyFrom 97 = .ok (.invokestatic 52, 3) := by decide +kernel
theorem dX2_copyFrom_100 : decode cX2_copyFrom 100 = .ok (.aload_n 1, 1) := by decide +kernel
theorem dX2_copyFrom_101 : decode cX2_copyFrom 101 = .ok (.getfield 21, 3) := by decide +kernel
theorem dX2_copyFrom_104 : decode cX2_copyFrom 104 = .ok (.iconst 0, 1) := by decide +kernel
theorem dX2_copyFrom_105 : decode cX2_copyFrom 105 = .ok (.aload_n 0, 1) := by decide +kernel
theorem dX2_copyFrom_106 : decode cX2_copyFrom 106 = .ok (.getfield 21, 3) := by decide +kernel
theorem dX2_copyFrom_109 : decode cX2_copyFrom 109 = .ok (.iconst 0, 1) := by decide +kernel
theorem dX2_copyFrom_110 : decode cX2_copyFrom 110 = .ok (.bipush 30, 2) := by decide +kernel
theorem dX2_copyFrom_112 : decode cX2_copyFrom 112 = .ok (.invokestatic 52, 3) := by decide +kernel
theorem dX2_copyFrom_115 : decode cX2_copyFrom 115 = .ok (.return_, 1) := by decide +kernel
theorem dX2_init_0 : decode cX2_init 0 = .ok (.aload_n 0, 1) := by decide +kernel
theorem dX2_init_1 : decode cX2_init 1 = .ok (.invokespecial 3, 3) := by decide +kernel
theorem dX2_init_4 : decode cX2_init 4 = .ok (.aload_n 0, 1) := by decide +kernel
theorem dX2_init_5 : decode cX2_init 5 = .ok (.iconst 5, 1) := by decide +kernel
theorem dX2_init_6 : decode cX2_init 6 = .ok (.newarray .int, 2) := by decide +kernel
theorem dX2_init_8 : decode cX2_init 8 = .ok (.putfield 9, 3) := by decide +kernel
theorem dX2_init_11 : decode cX2_init 11 = .ok (.aload_n 0, 1) := by decide +kernel
theorem dX2_init_12 : decode cX2_init 12 = .ok (.bipush 6, 2) := by decide +kernel
theorem dX2_init_14 : decode cX2_init 14 = .ok (.newarray .int, 2) := by decide +kernel
theorem dX2_init_16 : decode cX2_init 16 = .ok (.putfield 15, 3) := by decide +kernel
theorem dX2_init_19 : decode cX2_init 19 = .ok (.aload_n 0, 1) := by decide +kernel
theorem dX2_init_20 : decode cX2_init 20 = .ok (.bipush 6, 2) := by decide +kernel
theorem dX2_init_22 : decode cX2_init 22 = .ok (.newarray .int, 2) := by decide +kernel
theorem dX2_init_24 : decode cX2_init 24 = .ok (.putfield 18, 3) := by decide +kernel
theorem dX2_init_27 : decode cX2_init 27 = .ok (.aload_n 0, 1) := by decide +kernel
theorem dX2_init_28 : decode cX2_init 28 = .ok (.bipush 30, 2) := by decide +kernel
theorem dX2_init_30 : decode cX2_init 30 = .ok (.newarray .int, 2) := by decide +kernel
theorem dX2_init_32 : decode cX2_init 32 = .ok (.putfield 21, 3) := by decide +kernel
theorem dX2_init_35 : decode cX2_init 35 = .ok (.return_, 1) := by decide +kernel
theorem dX2_moreTo_0 : decode cX2_moreTo 0 = .ok (.aload_n 0, 1) := by decide +kernel
theorem dX2_moreTo_1 : decode cX2_moreTo 1 = .ok (.getfield 21, 3) := by decide +kernel
theorem dX2_moreTo_4 : decode cX2_moreTo 4 = .ok (.iload_n 1, 1) := by decide +kernel
theorem dX2_moreTo_5 : decode cX2_moreTo 5 = .ok (.bipush 6, 2) := by decide +kernel
theorem dX2_moreTo_7 : decode cX2_moreTo 7 = .ok (.imul, 1) := by decide +kernel
theorem dX2_moreTo_8 : decode cX2_moreTo 8 = .ok (.iload_n 2, 1) := by decide +kernel
theorem dX2_moreTo_9 : decode cX2_moreTo 9 = .ok (.iadd, 1) := by decide +kernel
theorem dX2_moreTo_10 : decode cX2_moreTo 10 = .ok (.iaload, 1) := by decide +kernel
theorem dX2_moreTo_11 : decode cX2_moreTo 11 = .ok (.ireturn, 1) := by decide +kernel
theorem dX2_setMore_0 : decode cX2_setMore 0 = .ok (.aload_n 0, 1) := by decide +kernel
theorem dX2_setMore_1 : decode cX2_setMore 1 = .ok (.getfield 21, 3) := by decide +kernel
theorem dX2_setMore_4 : decode cX2_setMore 4 = .ok (.iload_n 1, 1) := by decide +kernel
theorem dX2_setMore_5 : decode cX2_setMore 5 = .ok (.bipush 6, 2) := by decide +kernel
theorem dX2_setMore_7 : decode cX2_setMore 7 = .ok (.imul, 1) := by decide +kernel
theorem dX2_setMore_8 : decode cX2_setMore 8 = .ok (.iload_n 2, 1) := by decide +kernel
theorem dX2_setMore_9 : decode cX2_setMore 9 = .ok (.iadd, 1) := by decide +kernel
theorem dX2_setMore_10 : decode cX2_setMore 10 = .ok (.iload_n 3, 1) := by decide +kernel
theorem dX2_setMore_11 : decode cX2_setMore 11 = .ok (.iastore, 1) := by decide +kernel
theorem dX2_setMore_12 : decode cX2_setMore 12 = .ok (.return_, 1) := by decide +kernel
theorem dX2_valueTo_0 : decode cX2_valueTo 0 = .ok (.aload_n 0, 1) := by decide +kernel
theorem dX2_valueTo_1 : decode cX2_valueTo 1 = .ok (.getfield 18, 3) := by decide +kernel
theorem dX2_valueTo_4 : decode cX2_valueTo 4 = .ok (.iload_n 2, 1) := by decide +kernel
theorem dX2_valueTo_5 : decode cX2_valueTo 5 = .ok (.iaload, 1) := by decide +kernel
theorem dX2_valueTo_6 : decode cX2_valueTo 6 = .ok (.aload_n 0, 1) := by decide +kernel
theorem dX2_valueTo_7 : decode cX2_valueTo 7 = .ok (.iload_n 1, 1) := by decide +kernel
theorem dX2_valueTo_8 : decode cX2_valueTo 8 = .ok (.iload_n 2, 1) := by decide +kernel
theorem dX2_valueTo_9 : decode cX2_valueTo 9 = .ok (.invokevirtual 58, 3) := by decide +kernel
theorem dX2_valueTo_12 : decode cX2_valueTo 12 = .ok (.iadd, 1) := by decide +kernel
theorem dX2_valueTo_13 : decode cX2_valueTo 13 = .ok (.ireturn, 1) := by decide +kernel
theorem dX3_firstFor_0 : decode cX3_firstFor 0 = .ok (.iconst 0, 1) := by decide +kernel
theorem dX3_firstFor_1 : decode cX3_firstFor 1 = .ok (.istore 4, 2) := by decide +kernel
theorem dX3_firstFor_3 : decode cX3_firstFor 3 = .ok (.iload 4, 2) := by decide +kernel
theorem dX3_firstFor_5 : decode cX3_firstFor 5 = .ok (.aload_n 1, 1) := by decide +kernel
theorem dX3_firstFor_6 : decode cX3_firstFor 6 = .ok (.getfield 23, 3) := by decide +kernel
theorem dX3_firstFor_9 : decode cX3_firstFor 9 = .ok (.if_icmp .ge 35, 3) := by decide +kernel
theorem dX3_firstFor_12 : decode cX3_firstFor 12 = .ok (.aload_n 0, 1) := by decide +kernel
theorem dX3_firstFor_13 : decode cX3_firstFor 13 = .ok (.aload_n 1, 1) := by decide +kernel
theorem dX3_firstFor_14 : decode cX3_firstFor 14 = .ok (.iload_n 2, 1) := by decide +kernel
theorem dX3_firstFor_15 : decode cX3_firstFor 15 = .ok (.iload_n 3, 1) := by decide +kernel
theorem dX3_firstFor_16 : decode cX3_firstFor 16 = .ok (.iload 4, 2) := by decide +kernel
theorem dX3_firstFor_18 : decode cX3_firstFor 18 = .ok (.invokevirtual 32, 3) := by decide +kernel
theorem dX3_firstFor_21 : decode cX3_firstFor 21 = .ok (.aload_n 0, 1) := by decide +kernel
theorem dX3_firstFor_22 : decode cX3_firstFor 22 = .ok (.getfield 11, 3) := by decide +kernel
theorem dX3_firstFor_25 : decode cX3_firstFor 25 = .ok (.iload_n 2, 1) := by decide +kernel
theorem dX3_firstFor_26 : decode cX3_firstFor 26 = .ok (.bipush 32, 2) := by decide +kernel
theorem dX3_firstFor_28 : decode cX3_firstFor 28 = .ok (.imul, 1) := by decide +kernel
theorem dX3_firstFor_29 : decode cX3_firstFor 29 = .ok (.iload_n 3, 1) := by decide +kernel
theorem dX3_firstFor_30 : decode cX3_firstFor 30 = .ok (.iadd, 1) := by decide +kernel
theorem dX3_firstFor_31 : decode cX3_firstFor 31 = .ok (.iaload, 1) := by decide +kernel
theorem dX3_firstFor_32 : decode cX3_firstFor 32 = .ok (.if_icmp .ne 6, 3) := by decide +kernel
theorem dX3_firstFor_35 : decode cX3_firstFor 35 = .ok (.iload 4, 2) := by decide +kernel
theorem dX3_firstFor_37 : decode cX3_firstFor 37 = .ok (.ireturn, 1) := by decide +kernel
theorem dX3_firstFor_38 : decode cX3_firstFor 38 = .ok (.iinc 4 1, 3) := by decide +kernel
theorem dX3_firstFor_41 : decode cX3_firstFor 41 = .ok (.goto (-38), 3) := by decide +kernel
theorem dX3_firstFor_44 : decode cX3_firstFor 44 = .ok (.iconst (-1), 1) := by decide +kernel
theorem dX3_firstFor_45 : decode cX3_firstFor 45 = .ok (.ireturn, 1) := by decide +kernel
theorem dX3_greatest_0 : decode cX3_greatest 0 = .ok (.aload_n 0, 1) := by decide +kernel
theorem dX3_greatest_1 : decode cX3_greatest 1 = .ok (.aload_n 1, 1) := by decide +kernel
theorem dX3_greatest_2 : decode cX3_greatest 2 = .ok (.invokevirtual 15, 3) := by decide +kernel
theorem dX3_greatest_5 : decode cX3_greatest 5 = .ok (.aload_n 0, 1) := by decide +kernel
theorem dX3_greatest_6 : decode cX3_greatest 6 = .ok (.getfield 11, 3) := by decide +kernel
theorem dX3_greatest_9 : decode cX3_greatest 9 = .ok (.iconst 0, 1) := by decide +kernel
theorem dX3_greatest_10 : decode cX3_greatest 10 = .ok (.iaload, 1) := by decide +kernel
theorem dX3_greatest_11 : decode cX3_greatest 11 = .ok (.ireturn, 1) := by decide +kernel
theorem dX3_houseOf_0 : decode cX3_houseOf 0 = .ok (.aload_n 0, 1) := by decide +kernel
theorem dX3_houseOf_1 : decode cX3_houseOf 1 = .ok (.aload_n 1, 1) := by decide +kernel
theorem dX3_houseOf_2 : decode cX3_houseOf 2 = .ok (.invokevirtual 15, 3) := by decide +kernel
theorem dX3_houseOf_5 : decode cX3_houseOf 5 = .ok (.iconst 0, 1) := by decide +kernel
theorem dX3_houseOf_6 : decode cX3_houseOf 6 = .ok (.istore_n 3, 1) := by decide +kernel
theorem dX3_houseOf_7 : decode cX3_houseOf 7 = .ok (.iconst (-1), 1) := by decide +kernel
theorem dX3_houseOf_8 : decode cX3_houseOf 8 = .ok (.istore 4, 2) := by decide +kernel
theorem dX3_houseOf_10 : decode cX3_houseOf 10 = .ok (.iconst 0, 1) := by decide +kernel
theorem dX3_houseOf_11 : decode cX3_houseOf 11 = .ok (.istore 5, 2) := by decide +kernel
theorem dX3_houseOf_13 : decode cX3_houseOf 13 = .ok (.iload 5, 2) := by decide +kernel
theorem dX3_houseOf_15 : decode cX3_houseOf 15 = .ok (.iload_n 2, 1) := by decide +kernel
theorem dX3_houseOf_16 : decode cX3_houseOf 16 = .ok (.if_icmp .gt 36, 3) := by decide +kernel
theorem dX3_houseOf_19 : decode cX3_houseOf 19 = .ok (.aload_n 0, 1) := by decide +kernel
theorem dX3_houseOf_20 : decode cX3_houseOf 20 = .ok (.aload_n 1, 1) := by decide +kernel
theorem dX3_houseOf_21 : decode cX3_houseOf 21 = .ok (.iload 5, 2) := by decide +kernel
theorem dX3_houseOf_23 : decode cX3_houseOf 23 = .ok (.iload_n 3, 1) := by decide +kernel
theorem dX3_houseOf_24 : decode cX3_houseOf 24 = .ok (.invokevirtual 19, 3) := by decide +kernel
theorem dX3_houseOf_27 : decode cX3_houseOf 27 = .ok (.istore 4, 2) := by decide +kernel
theorem dX3_houseOf_29 : decode cX3_houseOf 29 = .ok (.iload_n 3, 1) := by decide +kernel
theorem dX3_houseOf_30 : decode cX3_houseOf 30 = .ok (.iload 4, 2) := by decide +kernel
theorem dX3_houseOf_32 : decode cX3_houseOf 32 = .ok (.iconst (-1), 1) := by decide +kernel
theorem dX3_houseOf_33 : decode cX3_houseOf 33 = .ok (.if_icmp .ne 7, 3) := by decide +kernel
theorem dX3_houseOf_36 : decode cX3_houseOf 36 = .ok (.iconst 0, 1) := by decide +kernel
theorem dX3_houseOf_37 : decode cX3_houseOf 37 = .ok (.goto 7, 3) := by decide +kernel
theorem dX3_houseOf_40 : decode cX3_houseOf 40 = .ok (.iconst 1, 1) := by decide +kernel
theorem dX3_houseOf_41 : decode cX3_houseOf 41 = .ok (.iload 4, 2) := by decide +kernel
theorem dX3_houseOf_43 : decode cX3_houseOf 43 = .ok (.ishl, 1) := by decide +kernel
theorem dX3_houseOf_44 : decode cX3_houseOf 44 = .ok (.ior, 1) := by decide +kernel
theorem dX3_houseOf_45 : decode cX3_houseOf 45 = .ok (.istore_n 3, 1) := by decide +kernel
theorem dX3_houseOf_46 : decode cX3_houseOf 46 = .ok (.iinc 5 1, 3) := by decide +kernel
theorem dX3_houseOf_49 : decode cX3_houseOf 49 = .ok (.goto (-36), 3) := by decide +kernel
theorem dX3_houseOf_52 : decode cX3_houseOf 52 = .ok (.iload 4, 2) := by decide +kernel
theorem dX3_houseOf_54 : decode cX3_houseOf 54 = .ok (.ireturn, 1) := by decide +kernel
theorem dX3_init_0 : decode cX3_init 0 = .ok (.aload_n 0, 1) := by decide +kernel
theorem dX3_init_1 : decode cX3_init 1 = .ok (.invokespecial 3, 3) := by decide +kernel
theorem dX3_init_4 : decode cX3_init 4 = .ok (.aload_n 0, 1) := by decide +kernel
theorem dX3_init_5 : decode cX3_init 5 = .ok (.sipush 224, 3) := by decide +kernel
theorem dX3_init_8 : decode cX3_init 8 = .ok (.newarray .int, 2) := by decide +kernel
theorem dX3_init_10 : decode cX3_init 10 = .ok (.putfield 11, 3) := by decide +kernel
theorem dX3_init_13 : decode cX3_init 13 = .ok (.return_, 1) := by decide +kernel
theorem dX3_weigh_0 : decode cX3_weigh 0 = .ok (.iconst 1, 1) := by decide +kernel
theorem dX3_weigh_1 : decode cX3_weigh 1 = .ok (.aload_n 1, 1) := by decide +kernel
theorem dX3_weigh_2 : decode cX3_weigh 2 = .ok (.getfield 23, 3) := by decide +kernel
theorem dX3_weigh_5 : decode cX3_weigh 5 = .ok (.ishl, 1) := by decide +kernel
theorem dX3_weigh_6 : decode cX3_weigh 6 = .ok (.istore_n 2, 1) := by decide +kernel
theorem dX3_weigh_7 : decode cX3_weigh 7 = .ok (.iconst 0, 1) := by decide +kernel
theorem dX3_weigh_8 : decode cX3_weigh 8 = .ok (.istore_n 3, 1) := by decide +kernel
theorem dX3_weigh_9 : decode cX3_weigh 9 = .ok (.iload_n 3, 1) := by decide +kernel
theorem dX3_weigh_10 : decode cX3_weigh 10 = .ok (.iload_n 2, 1) := by decide +kernel
