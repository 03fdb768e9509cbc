theorem dX3_weigh_11 : decode cX3_weigh 11 = .ok (.if_icmp .ge 24, 3) := by decide +kernel
theorem dX3_weigh_14 : decode cX3_weigh 14 = .ok (.aload_n 0, 1) := by decide +kernel
theorem dX3_weigh_15 : decode cX3_weigh 15 = .ok (.getfield 11, 3) := by decide +kernel
theorem dX3_weigh_18 : decode cX3_weigh 18 = .ok (.aload_n 1, 1) := by decide +kernel
theorem dX3_weigh_19 : decode cX3_weigh 19 = .ok (.getfield 29, 3) := by decide +kernel
theorem dX3_weigh_22 : decode cX3_weigh 22 = .ok (.bipush 32, 2) := by decide +kernel
theorem dX3_weigh_24 : decode cX3_weigh 24 = .ok (.imul, 1) := by decide +kernel
theorem dX3_weigh_25 : decode cX3_weigh 25 = .ok (.iload_n 3, 1) := by decide +kernel
theorem dX3_weigh_26 : decode cX3_weigh 26 = .ok (.iadd, 1) := by decide +kernel
theorem dX3_weigh_27 : decode cX3_weigh 27 = .ok (.iconst 0, 1) := by decide +kernel
theorem dX3_weigh_28 : decode cX3_weigh 28 = .ok (.iastore, 1) := by decide +kernel
theorem dX3_weigh_29 : decode cX3_weigh 29 = .ok (.iinc 3 1, 3) := by decide +kernel
theorem dX3_weigh_32 : decode cX3_weigh 32 = .ok (.goto (-23), 3) := by decide +kernel
theorem dX3_weigh_35 : decode cX3_weigh 35 = .ok (.aload_n 1, 1) := by decide +kernel
theorem dX3_weigh_36 : decode cX3_weigh 36 = .ok (.getfield 29, 3) := by decide +kernel
theorem dX3_weigh_39 : decode cX3_weigh 39 = .ok (.iconst 1, 1) := by decide +kernel
theorem dX3_weigh_40 : decode cX3_weigh 40 = .ok (.isub, 1) := by decide +kernel
theorem dX3_weigh_41 : decode cX3_weigh 41 = .ok (.istore_n 3, 1) := by decide +kernel
theorem dX3_weigh_42 : decode cX3_weigh 42 = .ok (.iload_n 3, 1) := by decide +kernel
theorem dX3_weigh_43 : decode cX3_weigh 43 = .ok (.ifCond .lt 89, 3) := by decide +kernel
theorem dX3_weigh_46 : decode cX3_weigh 46 = .ok (.iconst 0, 1) := by decide +kernel
theorem dX3_weigh_47 : decode cX3_weigh 47 = .ok (.istore 4, 2) := by decide +kernel
theorem dX3_weigh_49 : decode cX3_weigh 49 = .ok (.iload 4, 2) := by decide +kernel
theorem dX3_weigh_51 : decode cX3_weigh 51 = .ok (.iload_n 2, 1) := by decide +kernel
theorem dX3_weigh_52 : decode cX3_weigh 52 = .ok (.if_icmp .ge 74, 3) := by decide +kernel
theorem dX3_weigh_55 : decode cX3_weigh 55 = .ok (.aload_n 0, 1) := by decide +kernel
theorem dX3_weigh_56 : decode cX3_weigh 56 = .ok (.getfield 11, 3) := by decide +kernel
theorem dX3_weigh_59 : decode cX3_weigh 59 = .ok (.iload_n 3, 1) := by decide +kernel
theorem dX3_weigh_60 : decode cX3_weigh 60 = .ok (.iconst 1, 1) := by decide +kernel
theorem dX3_weigh_61 : decode cX3_weigh 61 = .ok (.iadd, 1) := by decide +kernel
theorem dX3_weigh_62 : decode cX3_weigh 62 = .ok (.bipush 32, 2) := by decide +kernel
theorem dX3_weigh_64 : decode cX3_weigh 64 = .ok (.imul, 1) := by decide +kernel
theorem dX3_weigh_65 : decode cX3_weigh 65 = .ok (.iload 4, 2) := by decide +kernel
theorem dX3_weigh_67 : decode cX3_weigh 67 = .ok (.iadd, 1) := by decide +kernel
theorem dX3_weigh_68 : decode cX3_weigh 68 = .ok (.iaload, 1) := by decide +kernel
theorem dX3_weigh_69 : decode cX3_weigh 69 = .ok (.istore 5, 2) := by decide +kernel
theorem dX3_weigh_71 : decode cX3_weigh 71 = .ok (.iconst 0, 1) := by decide +kernel
theorem dX3_weigh_72 : decode cX3_weigh 72 = .ok (.istore 6, 2) := by decide +kernel
theorem dX3_weigh_74 : decode cX3_weigh 74 = .ok (.iload 6, 2) := by decide +kernel
theorem dX3_weigh_76 : decode cX3_weigh 76 = .ok (.aload_n 1, 1) := by decide +kernel
theorem dX3_weigh_77 : decode cX3_weigh 77 = .ok (.getfield 23, 3) := by decide +kernel
theorem dX3_weigh_80 : decode cX3_weigh 80 = .ok (.if_icmp .ge 26, 3) := by decide +kernel
theorem dX3_weigh_83 : decode cX3_weigh 83 = .ok (.iload 5, 2) := by decide +kernel
theorem dX3_weigh_85 : decode cX3_weigh 85 = .ok (.aload_n 0, 1) := by decide +kernel
theorem dX3_weigh_86 : decode cX3_weigh 86 = .ok (.aload_n 1, 1) := by decide +kernel
theorem dX3_weigh_87 : decode cX3_weigh 87 = .ok (.iload_n 3, 1) := by decide +kernel
theorem dX3_weigh_88 : decode cX3_weigh 88 = .ok (.iload 4, 2) := by decide +kernel
theorem dX3_weigh_90 : decode cX3_weigh 90 = .ok (.iload 6, 2) := by decide +kernel
theorem dX3_weigh_92 : decode cX3_weigh 92 = .ok (.invokevirtual 32, 3) := by decide +kernel
theorem dX3_weigh_95 : decode cX3_weigh 95 = .ok (.invokestatic 36, 3) := by decide +kernel
theorem dX3_weigh_98 : decode cX3_weigh 98 = .ok (.istore 5, 2) := by decide +kernel
theorem dX3_weigh_100 : decode cX3_weigh 100 = .ok (.iinc 6 1, 3) := by decide +kernel
theorem dX3_weigh_103 : decode cX3_weigh 103 = .ok (.goto (-29), 3) := by decide +kernel
theorem dX3_weigh_106 : decode cX3_weigh 106 = .ok (.aload_n 0, 1) := by decide +kernel
theorem dX3_weigh_107 : decode cX3_weigh 107 = .ok (.getfield 11, 3) := by decide +kernel
theorem dX3_weigh_110 : decode cX3_weigh 110 = .ok (.iload_n 3, 1) := by decide +kernel
theorem dX3_weigh_111 : decode cX3_weigh 111 = .ok (.bipush 32, 2) := by decide +kernel
theorem dX3_weigh_113 : decode cX3_weigh 113 = .ok (.imul, 1) := by decide +kernel
theorem dX3_weigh_114 : decode cX3_weigh 114 = .ok (.iload 4, 2) := by decide +kernel
theorem dX3_weigh_116 : decode cX3_weigh 116 = .ok (.iadd, 1) := by decide +kernel
theorem dX3_weigh_117 : decode cX3_weigh 117 = .ok (.iload 5, 2) := by decide +kernel
theorem dX3_weigh_119 : decode cX3_weigh 119 = .ok (.iastore, 1) := by decide +kernel
theorem dX3_weigh_120 : decode cX3_weigh 120 = .ok (.iinc 4 1, 3) := by decide +kernel
theorem dX3_weigh_123 : decode cX3_weigh 123 = .ok (.goto (-74), 3) := by decide +kernel
theorem dX3_weigh_126 : decode cX3_weigh 126 = .ok (.iinc 3 (-1), 3) := by decide +kernel
theorem dX3_weigh_129 : decode cX3_weigh 129 = .ok (.goto (-87), 3) := by decide +kernel
theorem dX3_weigh_132 : decode cX3_weigh 132 = .ok (.return_, 1) := by decide +kernel
theorem dX3_with_0 : decode cX3_with 0 = .ok (.iconst 1, 1) := by decide +kernel
theorem dX3_with_1 : decode cX3_with 1 = .ok (.iload 4, 2) := by decide +kernel
theorem dX3_with_3 : decode cX3_with 3 = .ok (.ishl, 1) := by decide +kernel
theorem dX3_with_4 : decode cX3_with 4 = .ok (.istore 5, 2) := by decide +kernel
theorem dX3_with_6 : decode cX3_with 6 = .ok (.iload_n 3, 1) := by decide +kernel
theorem dX3_with_7 : decode cX3_with 7 = .ok (.iload 5, 2) := by decide +kernel
theorem dX3_with_9 : decode cX3_with 9 = .ok (.iand, 1) := by decide +kernel
theorem dX3_with_10 : decode cX3_with 10 = .ok (.ifCond .eq 5, 3) := by decide +kernel
theorem dX3_with_13 : decode cX3_with 13 = .ok (.iconst (-1), 1) := by decide +kernel
theorem dX3_with_14 : decode cX3_with 14 = .ok (.ireturn, 1) := by decide +kernel
theorem dX3_with_15 : decode cX3_with 15 = .ok (.aload_n 1, 1) := by decide +kernel
theorem dX3_with_16 : decode cX3_with 16 = .ok (.iload 4, 2) := by decide +kernel
theorem dX3_with_18 : decode cX3_with 18 = .ok (.iload_n 2, 1) := by decide +kernel
theorem dX3_with_19 : decode cX3_with 19 = .ok (.invokevirtual 42, 3) := by decide +kernel
theorem dX3_with_22 : decode cX3_with 22 = .ok (.aload_n 0, 1) := by decide +kernel
theorem dX3_with_23 : decode cX3_with 23 = .ok (.getfield 11, 3) := by decide +kernel
theorem dX3_with_26 : decode cX3_with 26 = .ok (.iload_n 2, 1) := by decide +kernel
theorem dX3_with_27 : decode cX3_with 27 = .ok (.iconst 1, 1) := by decide +kernel
theorem dX3_with_28 : decode cX3_with 28 = .ok (.iadd, 1) := by decide +kernel
theorem dX3_with_29 : decode cX3_with 29 = .ok (.bipush 32, 2) := by decide +kernel
theorem dX3_with_31 : decode cX3_with 31 = .ok (.imul, 1) := by decide +kernel
theorem dX3_with_32 : decode cX3_with 32 = .ok (.iload_n 3, 1) := by decide +kernel
theorem dX3_with_33 : decode cX3_with 33 = .ok (.iload 5, 2) := by decide +kernel
theorem dX3_with_35 : decode cX3_with 35 = .ok (.ior, 1) := by decide +kernel
theorem dX3_with_36 : decode cX3_with 36 = .ok (.iadd, 1) := by decide +kernel
theorem dX3_with_37 : decode cX3_with 37 = .ok (.iaload, 1) := by decide +kernel
theorem dX3_with_38 : decode cX3_with 38 = .ok (.iadd, 1) := by decide +kernel
theorem dX3_with_39 : decode cX3_with 39 = .ok (.ireturn, 1) := by decide +kernel
theorem dX4_begin_0 : decode cX4_begin 0 = .ok (.aload_n 0, 1) := by decide +kernel
theorem dX4_begin_1 : decode cX4_begin 1 = .ok (.iload_n 1, 1) := by decide +kernel
theorem dX4_begin_2 : decode cX4_begin 2 = .ok (.i2l, 1) := by decide +kernel
theorem dX4_begin_3 : decode cX4_begin 3 = .ok (.putfield 7, 3) := by decide +kernel
theorem dX4_begin_6 : decode cX4_begin 6 = .ok (.return_, 1) := by decide +kernel
theorem dX4_draw_0 : decode cX4_draw 0 = .ok (.iload_n 1, 1) := by decide +kernel
theorem dX4_draw_1 : decode cX4_draw 1 = .ok (.iconst 1, 1) := by decide +kernel
theorem dX4_draw_2 : decode cX4_draw 2 = .ok (.if_icmp .ge 5, 3) := by decide +kernel
theorem dX4_draw_5 : decode cX4_draw 5 = .ok (.iconst 0, 1) := by decide +kernel
theorem dX4_draw_6 : decode cX4_draw 6 = .ok (.ireturn, 1) := by decide +kernel
theorem dX4_draw_7 : decode cX4_draw 7 = .ok (.aload_n 0, 1) := by decide +kernel
theorem dX4_draw_8 : decode cX4_draw 8 = .ok (.ldc2_w 13, 3) := by decide +kernel
theorem dX4_draw_11 : decode cX4_draw 11 = .ok (.aload_n 0, 1) := by decide +kernel
theorem dX4_draw_12 : decode cX4_draw 12 = .ok (.getfield 7, 3) := by decide +kernel
theorem dX4_draw_15 : decode cX4_draw 15 = .ok (.lmul, 1) := by decide +kernel
theorem dX4_draw_16 : decode cX4_draw 16 = .ok (.ldc2_w 15, 3) := by decide +kernel
theorem dX4_draw_19 : decode cX4_draw 19 = .ok (.ladd, 1) := by decide +kernel
theorem dX4_draw_20 : decode cX4_draw 20 = .ok (.ldc2_w 17, 3) := by decide +kernel
theorem dX4_draw_23 : decode cX4_draw 23 = .ok (.land, 1) := by decide +kernel
theorem dX4_draw_24 : decode cX4_draw 24 = .ok (.putfield 7, 3) := by decide +kernel
theorem dX4_draw_27 : decode cX4_draw 27 = .ok (.aload_n 0, 1) := by decide +kernel
theorem dX4_draw_28 : decode cX4_draw 28 = .ok (.getfield 7, 3) := by decide +kernel
theorem dX4_draw_31 : decode cX4_draw 31 = .ok (.ldc2_w 19, 3) := by decide +kernel
theorem dX4_draw_34 : decode cX4_draw 34 = .ok (.ldiv, 1) := by decide +kernel
theorem dX4_draw_35 : decode cX4_draw 35 = .ok (.iload_n 1, 1) := by decide +kernel
theorem dX4_draw_36 : decode cX4_draw 36 = .ok (.i2l, 1) := by decide +kernel
theorem dX4_draw_37 : decode cX4_draw 37 = .ok (.lrem, 1) := by decide +kernel
theorem dX4_draw_38 : decode cX4_draw 38 = .ok (.l2i, 1) := by decide +kernel
theorem dX4_draw_39 : decode cX4_draw 39 = .ok (.ireturn, 1) := by decide +kernel
theorem dX4_init_0 : decode cX4_init 0 = .ok (.aload_n 0, 1) := by decide +kernel
theorem dX4_init_1 : decode cX4_init 1 = .ok (.invokespecial 1, 3) := by decide +kernel
theorem dX4_init_4 : decode cX4_init 4 = .ok (.return_, 1) := by decide +kernel
theorem dX5_init_0 : decode cX5_init 0 = .ok (.aload_n 0, 1) := by decide +kernel
theorem dX5_init_1 : decode cX5_init 1 = .ok (.invokespecial 1, 3) := by decide +kernel
theorem dX5_init_4 : decode cX5_init 4 = .ok (.aload_n 0, 1) := by decide +kernel
theorem dX5_init_5 : decode cX5_init 5 = .ok (.new 7, 3) := by decide +kernel
theorem dX5_init_8 : decode cX5_init 8 = .ok (.dup, 1) := by decide +kernel
theorem dX5_init_9 : decode cX5_init 9 = .ok (.invokespecial 9, 3) := by decide +kernel
theorem dX5_init_12 : decode cX5_init 12 = .ok (.putfield 10, 3) := by decide +kernel
theorem dX5_init_15 : decode cX5_init 15 = .ok (.aload_n 0, 1) := by decide +kernel
theorem dX5_init_16 : decode cX5_init 16 = .ok (.new 16, 3) := by decide +kernel
theorem dX5_init_19 : decode cX5_init 19 = .ok (.dup, 1) := by decide +kernel
theorem dX5_init_20 : decode cX5_init 20 = .ok (.invokespecial 18, 3) := by decide +kernel
theorem dX5_init_23 : decode cX5_init 23 = .ok (.putfield 19, 3) := by decide +kernel
theorem dX5_init_26 : decode cX5_init 26 = .ok (.return_, 1) := by decide +kernel
theorem dX6_begin_0 : decode cX6_begin 0 = .ok (.aload_n 0, 1) := by decide +kernel
theorem dX6_begin_1 : decode cX6_begin 1 = .ok (.iload_n 1, 1) := by decide +kernel
theorem dX6_begin_2 : decode cX6_begin 2 = .ok (.putfield 17, 3) := by decide +kernel
theorem dX6_begin_5 : decode cX6_begin 5 = .ok (.aload_n 0, 1) := by decide +kernel
theorem dX6_begin_6 : decode cX6_begin 6 = .ok (.iload_n 2, 1) := by decide +kernel
theorem dX6_begin_7 : decode cX6_begin 7 = .ok (.putfield 9, 3) := by decide +kernel
theorem dX6_begin_10 : decode cX6_begin 10 = .ok (.aload_n 0, 1) := by decide +kernel
theorem dX6_begin_11 : decode cX6_begin 11 = .ok (.getfield 13, 3) := by decide +kernel
theorem dX6_begin_14 : decode cX6_begin 14 = .ok (.lconst 0, 1) := by decide +kernel
theorem dX6_begin_15 : decode cX6_begin 15 = .ok (.invokestatic 20, 3) := by decide +kernel
theorem dX6_begin_18 : decode cX6_begin 18 = .ok (.return_, 1) := by decide +kernel
theorem dX6_init_0 : decode cX6_init 0 = .ok (.aload_n 0, 1) := by decide +kernel
theorem dX6_init_1 : decode cX6_init 1 = .ok (.invokespecial 1, 3) := by decide +kernel
theorem dX6_init_4 : decode cX6_init 4 = .ok (.aload_n 0, 1) := by decide +kernel
theorem dX6_init_5 : decode cX6_init 5 = .ok (.iconst (-1), 1) := by decide +kernel
theorem dX6_init_6 : decode cX6_init 6 = .ok (.putfield 9, 3) := by decide +kernel
theorem dX6_init_9 : decode cX6_init 9 = .ok (.aload_n 0, 1) := by decide +kernel
theorem dX6_init_10 : decode cX6_init 10 = .ok (.bipush 60, 2) := by decide +kernel
theorem dX6_init_12 : decode cX6_init 12 = .ok (.newarray .long, 2) := by decide +kernel
theorem dX6_init_14 : decode cX6_init 14 = .ok (.putfield 13, 3) := by decide +kernel
theorem dX6_init_17 : decode cX6_init 17 = .ok (.return_, 1) := by decide +kernel
theorem dX6_isThere_0 : decode cX6_isThere 0 = .ok (.aload_n 0, 1) := by decide +kernel
theorem dX6_isThere_1 : decode cX6_isThere 1 = .ok (.getfield 9, 3) := by decide +kernel
theorem dX6_isThere_4 : decode cX6_isThere 4 = .ok (.iconst (-1), 1) := by decide +kernel
theorem dX6_isThere_5 : decode cX6_isThere 5 = .ok (.if_icmp .eq 7, 3) := by decide +kernel
theorem dX6_isThere_8 : decode cX6_isThere 8 = .ok (.iconst 1, 1) := by decide +kernel
theorem dX6_isThere_9 : decode cX6_isThere 9 = .ok (.goto 4, 3) := by decide +kernel
theorem dX6_isThere_12 : decode cX6_isThere 12 = .ok (.iconst 0, 1) := by decide +kernel
theorem dX6_isThere_13 : decode cX6_isThere 13 = .ok (.ireturn, 1) := by decide +kernel
theorem dX6_put_0 : decode cX6_put 0 = .ok (.aload_n 0, 1) := by decide +kernel
theorem dX6_put_1 : decode cX6_put 1 = .ok (.getfield 17, 3) := by decide +kernel
theorem dX6_put_4 : decode cX6_put 4 = .ok (.tableswitch 66 0 2 #[28, 41, 54], 28) := by decide +kernel
theorem dX6_put_32 : decode cX6_put 32 = .ok (.aload_n 0, 1) := by decide +kernel
theorem dX6_put_33 : decode cX6_put 33 = .ok (.getfield 13, 3) := by decide +kernel
theorem dX6_put_36 : decode cX6_put 36 = .ok (.iload_n 1, 1) := by decide +kernel
theorem dX6_put_37 : decode cX6_put 37 = .ok (.lload_n 2, 1) := by decide +kernel
theorem dX6_put_38 : decode cX6_put 38 = .ok (.l2i, 1) := by decide +kernel
theorem dX6_put_39 : decode cX6_put 39 = .ok (.i2b, 1) := by decide +kernel
theorem dX6_put_40 : decode cX6_put 40 = .ok (.i2l, 1) := by decide +kernel
theorem dX6_put_41 : decode cX6_put 41 = .ok (.lastore, 1) := by decide +kernel
theorem dX6_put_42 : decode cX6_put 42 = .ok (.goto 35, 3) := by decide +kernel
theorem dX6_put_45 : decode cX6_put 45 = .ok (.aload_n 0, 1) := by decide +kernel
theorem dX6_put_46 : decode cX6_put 46 = .ok (.getfield 13, 3) := by decide +kernel
theorem dX6_put_49 : decode cX6_put 49 = .ok (.iload_n 1, 1) := by decide +kernel
theorem dX6_put_50 : decode cX6_put 50 = .ok (.lload_n 2, 1) := by decide +kernel
theorem dX6_put_51 : decode cX6_put 51 = .ok (.l2i, 1) := by decide +kernel
theorem dX6_put_52 : decode cX6_put 52 = .ok (.i2s, 1) := by decide +kernel
theorem dX6_put_53 : decode cX6_put 53 = .ok (.i2l, 1) := by decide +kernel
theorem dX6_put_54 : decode cX6_put 54 = .ok (.lastore, 1) := by decide +kernel
theorem dX6_put_55 : decode cX6_put 55 = .ok (.goto 22, 3) := by decide +kernel
theorem dX6_put_58 : decode cX6_put 58 = .ok (.aload_n 0, 1) := by decide +kernel
theorem dX6_put_59 : decode cX6_put 59 = .ok (.getfield 13, 3) := by decide +kernel
theorem dX6_put_62 : decode cX6_put 62 = .ok (.iload_n 1, 1) := by decide +kernel
theorem dX6_put_63 : decode cX6_put 63 = .ok (.lload_n 2, 1) := by decide +kernel
theorem dX6_put_64 : decode cX6_put 64 = .ok (.l2i, 1) := by decide +kernel
theorem dX6_put_65 : decode cX6_put 65 = .ok (.i2l, 1) := by decide +kernel
theorem dX6_put_66 : decode cX6_put 66 = .ok (.lastore, 1) := by decide +kernel
theorem dX6_put_67 : decode cX6_put 67 = .ok (.goto 10, 3) := by decide +kernel
theorem dX6_put_70 : decode cX6_put 70 = .ok (.aload_n 0, 1) := by decide +kernel
theorem dX6_put_71 : decode cX6_put 71 = .ok (.getfield 13, 3) := by decide +kernel
theorem dX6_put_74 : decode cX6_put 74 = .ok (.iload_n 1, 1) := by decide +kernel
theorem dX6_put_75 : decode cX6_put 75 = .ok (.lload_n 2, 1) := by decide +kernel
theorem dX6_put_76 : decode cX6_put 76 = .ok (.lastore, 1) := by decide +kernel
theorem dX6_put_77 : decode cX6_put 77 = .ok (.return_, 1) := by decide +kernel
theorem dX6_spans_0 : decode cX6_spans 0 = .ok (.iload_n 1, 1) := by decide +kernel
theorem dX6_spans_1 : decode cX6_spans 1 = .ok (.ifCond .lt 29, 3) := by decide +kernel
theorem dX6_spans_4 : decode cX6_spans 4 = .ok (.iload_n 2, 1) := by decide +kernel
theorem dX6_spans_5 : decode cX6_spans 5 = .ok (.ifCond .lt 25, 3) := by decide +kernel
theorem dX6_spans_8 : decode cX6_spans 8 = .ok (.iload_n 2, 1) := by decide +kernel
theorem dX6_spans_9 : decode cX6_spans 9 = .ok (.aload_n 0, 1) := by decide +kernel
theorem dX6_spans_10 : decode cX6_spans 10 = .ok (.getfield 9, 3) := by decide +kernel
theorem dX6_spans_13 : decode cX6_spans 13 = .ok (.if_icmp .gt 17, 3) := by decide +kernel
theorem dX6_spans_16 : decode cX6_spans 16 = .ok (.iload_n 1, 1) := by decide +kernel
theorem dX6_spans_17 : decode cX6_spans 17 = .ok (.aload_n 0, 1) := by decide +kernel
theorem dX6_spans_18 : decode cX6_spans 18 = .ok (.getfield 9, 3) := by decide +kernel
theorem dX6_spans_21 : decode cX6_spans 21 = .ok (.iload_n 2, 1) := by decide +kernel
theorem dX6_spans_22 : decode cX6_spans 22 = .ok (.isub, 1) := by decide +kernel
theorem dX6_spans_23 : decode cX6_spans 23 = .ok (.if_icmp .gt 7, 3) := by decide +kernel
theorem dX6_spans_26 : decode cX6_spans 26 = .ok (.iconst 1, 1) := by decide +kernel
theorem dX6_spans_27 : decode cX6_spans 27 = .ok (.goto 4, 3) := by decide +kernel
theorem dX6_spans_30 : decode cX6_spans 30 = .ok (.iconst 0, 1) := by decide +kernel
theorem dX6_spans_31 : decode cX6_spans 31 = .ok (.ireturn, 1) := by decide +kernel
theorem dX7_add_0 : decode cX7_add 0 = .ok (.bipush 24, 2) := by decide +kernel
theorem dX7_add_2 : decode cX7_add 2 = .ok (.istore_n 2, 1) := by decide +kernel
theorem dX7_add_3 : decode cX7_add 3 = .ok (.iload_n 2, 1) := by decide +kernel
theorem dX7_add_4 : decode cX7_add 4 = .ok (.ifCond .lt 42, 3) := by decide +kernel
theorem dX7_add_7 : decode cX7_add 7 = .ok (.aload_n 0, 1) := by decide +kernel
theorem dX7_add_8 : decode cX7_add 8 = .ok (.getfield 19, 3) := by decide +kernel
theorem dX7_add_11 : decode cX7_add 11 = .ok (.sipush 800, 3) := by decide +kernel
theorem dX7_add_14 : decode cX7_add 14 = .ok (.if_icmp .ge 32, 3) := by decide +kernel
theorem dX7_add_17 : decode cX7_add 17 = .ok (.aload_n 0, 1) := by decide +kernel
theorem dX7_add_18 : decode cX7_add 18 = .ok (.getfield 11, 3) := by decide +kernel
theorem dX7_add_21 : decode cX7_add 21 = .ok (.aload_n 0, 1) := by decide +kernel
theorem dX7_add_22 : decode cX7_add 22 = .ok (.getfield 19, 3) := by decide +kernel
theorem dX7_add_25 : decode cX7_add 25 = .ok (.iload_n 1, 1) := by decide +kernel
theorem dX7_add_26 : decode cX7_add 26 = .ok (.iload_n 2, 1) := by decide +kernel
theorem dX7_add_27 : decode cX7_add 27 = .ok (.ishr, 1) := by decide +kernel
theorem dX7_add_28 : decode cX7_add 28 = .ok (.i2b, 1) := by decide +kernel
theorem dX7_add_29 : decode cX7_add 29 = .ok (.bastore, 1) := by decide +kernel
theorem dX7_add_30 : decode cX7_add 30 = .ok (.aload_n 0, 1) := by decide +kernel
theorem dX7_add_31 : decode cX7_add 31 = .ok (.dup, 1) := by decide +kernel
theorem dX7_add_32 : decode cX7_add 32 = .ok (.getfield 19, 3) := by decide +kernel
theorem dX7_add_35 : decode cX7_add 35 = .ok (.iconst 1, 1) := by decide +kernel
theorem dX7_add_36 : decode cX7_add 36 = .ok (.iadd, 1) := by decide +kernel
theorem dX7_add_37 : decode cX7_add 37 = .ok (.putfield 19, 3) := by decide +kernel
theorem dX7_add_40 : decode cX7_add 40 = .ok (.iinc 2 (-8), 3) := by decide +kernel
theorem dX7_add_43 : decode cX7_add 43 = .ok (.goto (-40), 3) := by decide +kernel
theorem dX7_add_46 : decode cX7_add 46 = .ok (.return_, 1) := by decide +kernel
theorem dX7_expect_0 : decode cX7_expect 0 = .ok (.iload_n 1, 1) := by decide +kernel
theorem dX7_expect_1 : decode cX7_expect 1 = .ok (.ifCond .eq 10, 3) := by decide +kernel
theorem dX7_expect_4 : decode cX7_expect 4 = .ok (.aload_n 0, 1) := by decide +kernel
theorem dX7_expect_5 : decode cX7_expect 5 = .ok (.invokevirtual 33, 3) := by decide +kernel
theorem dX7_expect_8 : decode cX7_expect 8 = .ok (.goto 8, 3) := by decide +kernel
theorem dX7_expect_11 : decode cX7_expect 11 = .ok (.aload_n 0, 1) := by decide +kernel
theorem dX7_expect_12 : decode cX7_expect 12 = .ok (.iconst 1, 1) := by decide +kernel
theorem dX7_expect_13 : decode cX7_expect 13 = .ok (.invokevirtual 68, 3) := by decide +kernel
theorem dX7_expect_16 : decode cX7_expect 16 = .ok (.return_, 1) := by decide +kernel
theorem dX7_hasRoom_0 : decode cX7_hasRoom 0 = .ok (.aload_n 0, 1) := by decide +kernel
theorem dX7_hasRoom_1 : decode cX7_hasRoom 1 = .ok (.getfield 19, 3) := by decide +kernel
theorem dX7_hasRoom_4 : decode cX7_hasRoom 4 = .ok (.bipush 20, 2) := by decide +kernel
theorem dX7_hasRoom_6 : decode cX7_hasRoom 6 = .ok (.iadd, 1) := by decide +kernel
theorem dX7_hasRoom_7 : decode cX7_hasRoom 7 = .ok (.sipush 800, 3) := by decide +kernel
theorem dX7_hasRoom_10 : decode cX7_hasRoom 10 = .ok (.if_icmp .gt 7, 3) := by decide +kernel
theorem dX7_hasRoom_13 : decode cX7_hasRoom 13 = .ok (.iconst 1, 1) := by decide +kernel
theorem dX7_hasRoom_14 : decode cX7_hasRoom 14 = .ok (.goto 4, 3) := by decide +kernel
theorem dX7_hasRoom_17 : decode cX7_hasRoom 17 = .ok (.iconst 0, 1) := by decide +kernel
theorem dX7_hasRoom_18 : decode cX7_hasRoom 18 = .ok (.ireturn, 1) := by decide +kernel
theorem dX7_init_0 : decode cX7_init 0 = .ok (.aload_n 0, 1) := by decide +kernel
theorem dX7_init_1 : decode cX7_init 1 = .ok (.invokespecial 3, 3) := by decide +kernel
theorem dX7_init_4 : decode cX7_init 4 = .ok (.aload_n 0, 1) := by decide +kernel
theorem dX7_init_5 : decode cX7_init 5 = .ok (.sipush 800, 3) := by decide +kernel
theorem dX7_init_8 : decode cX7_init 8 = .ok (.newarray .byte, 2) := by decide +kernel
theorem dX7_init_10 : decode cX7_init 10 = .ok (.putfield 11, 3) := by decide +kernel
theorem dX7_init_13 : decode cX7_init 13 = .ok (.aload_n 0, 1) := by decide +kernel
theorem dX7_init_14 : decode cX7_init 14 = .ok (.iconst (-1), 1) := by decide +kernel
theorem dX7_init_15 : decode cX7_init 15 = .ok (.putfield 15, 3) := by decide +kernel
theorem dX7_init_18 : decode cX7_init 18 = .ok (.return_, 1) := by decide +kernel
theorem dX7_isBlank_0 : decode cX7_isBlank 0 = .ok (.iload_n 0, 1) := by decide +kernel
theorem dX7_isBlank_1 : decode cX7_isBlank 1 = .ok (.bipush 32, 2) := by decide +kernel
theorem dX7_isBlank_3 : decode cX7_isBlank 3 = .ok (.if_icmp .eq 9, 3) := by decide +kernel
theorem dX7_isBlank_6 : decode cX7_isBlank 6 = .ok (.iload_n 0, 1) := by decide +kernel
theorem dX7_isBlank_7 : decode cX7_isBlank 7 = .ok (.bipush 10, 2) := by decide +kernel
theorem dX7_isBlank_9 : decode cX7_isBlank 9 = .ok (.if_icmp .ne 7, 3) := by decide +kernel
theorem dX7_isBlank_12 : decode cX7_isBlank 12 = .ok (.iconst 1, 1) := by decide +kernel
theorem dX7_isBlank_13 : decode cX7_isBlank 13 = .ok (.goto 4, 3) := by decide +kernel
theorem dX7_isBlank_16 : decode cX7_isBlank 16 = .ok (.iconst 0, 1) := by decide +kernel
theorem dX7_isBlank_17 : decode cX7_isBlank 17 = .ok (.ireturn, 1) := by decide +kernel
theorem dX7_isDigit_0 : decode cX7_isDigit 0 = .ok (.iload_n 0, 1) := by decide +kernel
theorem dX7_isDigit_1 : decode cX7_isDigit 1 = .ok (.bipush 48, 2) := by decide +kernel
theorem dX7_isDigit_3 : decode cX7_isDigit 3 = .ok (.if_icmp .lt 13, 3) := by decide +kernel
theorem dX7_isDigit_6 : decode cX7_isDigit 6 = .ok (.iload_n 0, 1) := by decide +kernel
theorem dX7_isDigit_7 : decode cX7_isDigit 7 = .ok (.bipush 57, 2) := by decide +kernel
theorem dX7_isDigit_9 : decode cX7_isDigit 9 = .ok (.if_icmp .gt 7, 3) := by decide +kernel
theorem dX7_isDigit_12 : decode cX7_isDigit 12 = .ok (.iconst 1, 1) := by decide +kernel
theorem dX7_isDigit_13 : decode cX7_isDigit 13 = .ok (.goto 4, 3) := by decide +kernel
theorem dX7_isDigit_16 : decode cX7_isDigit 16 = .ok (.iconst 0, 1) := by decide +kernel
theorem dX7_isDigit_17 : decode cX7_isDigit 17 = .ok (.ireturn, 1) := by decide +kernel
theorem dX7_isLetter_0 : decode cX7_isLetter 0 = .ok (.iload_n 0, 1) := by decide +kernel
theorem dX7_isLetter_1 : decode cX7_isLetter 1 = .ok (.bipush 97, 2) := by decide +kernel
theorem dX7_isLetter_3 : decode cX7_isLetter 3 = .ok (.if_icmp .lt 13, 3) := by decide +kernel
theorem dX7_isLetter_6 : decode cX7_isLetter 6 = .ok (.iload_n 0, 1) := by decide +kernel
theorem dX7_isLetter_7 : decode cX7_isLetter 7 = .ok (.bipush 122, 2) := by decide +kernel
theorem dX7_isLetter_9 : decode cX7_isLetter 9 = .ok (.if_icmp .gt 7, 3) := by decide +kernel
theorem dX7_isLetter_12 : decode cX7_isLetter 12 = .ok (.iconst 1, 1) := by decide +kernel
theorem dX7_isLetter_13 : decode cX7_isLetter 13 = .ok (.goto 4, 3) := by decide +kernel
theorem dX7_isLetter_16 : decode cX7_isLetter 16 = .ok (.iconst 0, 1) := by decide +kernel
theorem dX7_isLetter_17 : decode cX7_isLetter 17 = .ok (.ireturn, 1) := by decide +kernel
theorem dX7_isWord_0 : decode cX7_isWord 0 = .ok (.aload_n 0, 1) := by decide +kernel
theorem dX7_isWord_1 : decode cX7_isWord 1 = .ok (.getfield 36, 3) := by decide +kernel
theorem dX7_isWord_4 : decode cX7_isWord 4 = .ok (.iconst 1, 1) := by decide +kernel
theorem dX7_isWord_5 : decode cX7_isWord 5 = .ok (.if_icmp .ne 19, 3) := by decide +kernel
theorem dX7_isWord_8 : decode cX7_isWord 8 = .ok (.aload_n 0, 1) := by decide +kernel
theorem dX7_isWord_9 : decode cX7_isWord 9 = .ok (.getfield 30, 3) := by decide +kernel
theorem dX7_isWord_12 : decode cX7_isWord 12 = .ok (.aload_n 0, 1) := by decide +kernel
theorem dX7_isWord_13 : decode cX7_isWord 13 = .ok (.getfield 125, 3) := by decide +kernel
theorem dX7_isWord_16 : decode cX7_isWord 16 = .ok (.isub, 1) := by decide +kernel
theorem dX7_isWord_17 : decode cX7_isWord 17 = .ok (.aload_n 1, 1) := by decide +kernel
theorem dX7_isWord_18 : decode cX7_isWord 18 = .ok (.invokevirtual 139, 3) := by decide +kernel
theorem dX7_isWord_21 : decode cX7_isWord 21 = .ok (.if_icmp .eq 5, 3) := by decide +kernel
theorem dX7_isWord_24 : decode cX7_isWord 24 = .ok (.iconst 0, 1) := by decide +kernel
theorem dX7_isWord_25 : decode cX7_isWord 25 = .ok (.ireturn, 1) := by decide +kernel
theorem dX7_isWord_26 : decode cX7_isWord 26 = .ok (.iconst 0, 1) := by decide +kernel
theorem dX7_isWord_27 : decode cX7_isWord 27 = .ok (.istore_n 2, 1) := by decide +kernel
theorem dX7_isWord_28 : decode cX7_isWord 28 = .ok (.iload_n 2, 1) := by decide +kernel
theorem dX7_isWord_29 : decode cX7_isWord 29 = .ok (.aload_n 1, 1) := by decide +kernel
theorem dX7_isWord_30 : decode cX7_isWord 30 = .ok (.invokevirtual 139, 3) := by decide +kernel
theorem dX7_isWord_33 : decode cX7_isWord 33 = .ok (.if_icmp .ge 30, 3) := by decide +kernel
theorem dX7_isWord_36 : decode cX7_isWord 36 = .ok (.aload_n 0, 1) := by decide +kernel
theorem dX7_isWord_37 : decode cX7_isWord 37 = .ok (.getfield 11, 3) := by decide +kernel
theorem dX7_isWord_40 : decode cX7_isWord 40 = .ok (.aload_n 0, 1) := by decide +kernel
theorem dX7_isWord_41 : decode cX7_isWord 41 = .ok (.getfield 125, 3) := by decide +kernel
theorem dX7_isWord_44 : decode cX7_isWord 44 = .ok (.iload_n 2, 1) := by decide +kernel
theorem dX7_isWord_45 : decode cX7_isWord 45 = .ok (.iadd, 1) := by decide +kernel
theorem dX7_isWord_46 : decode cX7_isWord 46 = .ok (.baload, 1) := by decide +kernel
theorem dX7_isWord_47 : decode cX7_isWord 47 = .ok (.aload_n 1, 1) := by decide +kernel
theorem dX7_isWord_48 : decode cX7_isWord 48 = .ok (.iload_n 2, 1) := by decide +kernel
theorem dX7_isWord_49 : decode cX7_isWord 49 = .ok (.invokevirtual 143, 3) := by decide +kernel
theorem dX7_isWord_52 : decode cX7_isWord 52 = .ok (.if_icmp .eq 5, 3) := by decide +kernel
theorem dX7_isWord_55 : decode cX7_isWord 55 = .ok (.iconst 0, 1) := by decide +kernel
theorem dX7_isWord_56 : decode cX7_isWord 56 = .ok (.ireturn, 1) := by decide +kernel
theorem dX7_isWord_57 : decode cX7_isWord 57 = .ok (.iinc 2 1, 3) := by decide +kernel
theorem dX7_isWord_60 : decode cX7_isWord 60 = .ok (.goto (-32), 3) := by decide +kernel
theorem dX7_isWord_63 : decode cX7_isWord 63 = .ok (.iconst 1, 1) := by decide +kernel
theorem dX7_isWord_64 : decode cX7_isWord 64 = .ok (.ireturn, 1) := by decide +kernel
theorem dX7_number_0 : decode cX7_number 0 = .ok (.aload_n 0, 1) := by decide +kernel
theorem dX7_number_1 : decode cX7_number 1 = .ok (.getfield 36, 3) := by decide +kernel
theorem dX7_number_4 : decode cX7_number 4 = .ok (.iconst 2, 1) := by decide +kernel
theorem dX7_number_5 : decode cX7_number 5 = .ok (.if_icmp .eq 10, 3) := by decide +kernel
theorem dX7_number_8 : decode cX7_number 8 = .ok (.aload_n 0, 1) := by decide +kernel
theorem dX7_number_9 : decode cX7_number 9 = .ok (.iconst 1, 1) := by decide +kernel
theorem dX7_number_10 : decode cX7_number 10 = .ok (.invokevirtual 68, 3) := by decide +kernel
theorem dX7_number_13 : decode cX7_number 13 = .ok (.iconst 0, 1) := by decide +kernel
theorem dX7_number_14 : decode cX7_number 14 = .ok (.ireturn, 1) := by decide +kernel
theorem dX7_number_15 : decode cX7_number 15 = .ok (.aload_n 0, 1) := by decide +kernel
theorem dX7_number_16 : decode cX7_number 16 = .ok (.invokevirtual 121, 3) := by decide +kernel
theorem dX7_number_19 : decode cX7_number 19 = .ok (.istore_n 3, 1) := by decide +kernel
theorem dX7_number_20 : decode cX7_number 20 = .ok (.iload_n 3, 1) := by decide +kernel
theorem dX7_number_21 : decode cX7_number 21 = .ok (.iload_n 1, 1) := by decide +kernel
theorem dX7_number_22 : decode cX7_number 22 = .ok (.if_icmp .lt 8, 3) := by decide +kernel
theorem dX7_number_25 : decode cX7_number 25 = .ok (.iload_n 3, 1) := by decide +kernel
theorem dX7_number_26 : decode cX7_number 26 = .ok (.iload_n 2, 1) := by decide +kernel
theorem dX7_number_27 : decode cX7_number 27 = .ok (.if_icmp .le 10, 3) := by decide +kernel
theorem dX7_number_30 : decode cX7_number 30 = .ok (.aload_n 0, 1) := by decide +kernel
theorem dX7_number_31 : decode cX7_number 31 = .ok (.iconst 2, 1) := by decide +kernel
theorem dX7_number_32 : decode cX7_number 32 = .ok (.invokevirtual 68, 3) := by decide +kernel
theorem dX7_number_35 : decode cX7_number 35 = .ok (.iconst 0, 1) := by decide +kernel
theorem dX7_number_36 : decode cX7_number 36 = .ok (.ireturn, 1) := by decide +kernel
theorem dX7_number_37 : decode cX7_number 37 = .ok (.aload_n 0, 1) := by decide +kernel
theorem dX7_number_38 : decode cX7_number 38 = .ok (.invokevirtual 33, 3) := by decide +kernel
theorem dX7_number_41 : decode cX7_number 41 = .ok (.iload_n 3, 1) := by decide +kernel
theorem dX7_number_42 : decode cX7_number 42 = .ok (.ireturn, 1) := by decide +kernel
theorem dX7_read_0 : decode cX7_read 0 = .ok (.aload_n 1, 1) := by decide +kernel
theorem dX7_read_1 : decode cX7_read 1 = .ok (.invokevirtual 22, 3) := by decide +kernel
theorem dX7_read_4 : decode cX7_read 4 = .ok (.aload_n 0, 1) := by decide +kernel
theorem dX7_read_5 : decode cX7_read 5 = .ok (.iconst 0, 1) := by decide +kernel
theorem dX7_read_6 : decode cX7_read 6 = .ok (.putfield 27, 3) := by decide +kernel
theorem dX7_read_9 : decode cX7_read 9 = .ok (.aload_n 0, 1) := by decide +kernel
theorem dX7_read_10 : decode cX7_read 10 = .ok (.iconst (-1), 1) := by decide +kernel
theorem dX7_read_11 : decode cX7_read 11 = .ok (.putfield 15, 3) := by decide +kernel
theorem dX7_read_14 : decode cX7_read 14 = .ok (.aload_n 0, 1) := by decide +kernel
theorem dX7_read_15 : decode cX7_read 15 = .ok (.iconst 0, 1) := by decide +kernel
theorem dX7_read_16 : decode cX7_read 16 = .ok (.putfield 30, 3) := by decide +kernel
theorem dX7_read_19 : decode cX7_read 19 = .ok (.aload_n 0, 1) := by decide +kernel
theorem dX7_read_20 : decode cX7_read 20 = .ok (.invokevirtual 33, 3) := by decide +kernel
theorem dX7_read_23 : decode cX7_read 23 = .ok (.iconst 0, 1) := by decide +kernel
theorem dX7_read_24 : decode cX7_read 24 = .ok (.istore_n 2, 1) := by decide +kernel
theorem dX7_read_25 : decode cX7_read 25 = .ok (.iload_n 2, 1) := by decide +kernel
theorem dX7_read_26 : decode cX7_read 26 = .ok (.sipush 800, 3) := by decide +kernel
theorem dX7_read_29 : decode cX7_read 29 = .ok (.if_icmp .ge 28, 3) := by decide +kernel
theorem dX7_read_32 : decode cX7_read 32 = .ok (.aload_n 0, 1) := by decide +kernel
theorem dX7_read_33 : decode cX7_read 33 = .ok (.getfield 36, 3) := by decide +kernel
theorem dX7_read_36 : decode cX7_read 36 = .ok (.ifCond .eq 21, 3) := by decide +kernel
theorem dX7_read_39 : decode cX7_read 39 = .ok (.aload_n 0, 1) := by decide +kernel
theorem dX7_read_40 : decode cX7_read 40 = .ok (.getfield 27, 3) := by decide +kernel
theorem dX7_read_43 : decode cX7_read 43 = .ok (.ifCond .ne 14, 3) := by decide +kernel
theorem dX7_read_46 : decode cX7_read 46 = .ok (.aload_n 0, 1) := by decide +kernel
theorem dX7_read_47 : decode cX7_read 47 = .ok (.aload_n 1, 1) := by decide +kernel
theorem dX7_read_48 : decode cX7_read 48 = .ok (.invokevirtual 39, 3) := by decide +kernel
theorem dX7_read_51 : decode cX7_read 51 = .ok (.iinc 2 1, 3) := by decide +kernel
theorem dX7_read_54 : decode cX7_read 54 = .ok (.goto (-29), 3) := by decide +kernel
theorem dX7_read_57 : decode cX7_read 57 = .ok (.aload_n 0, 1) := by decide +kernel
theorem dX7_read_58 : decode cX7_read 58 = .ok (.getfield 27, 3) := by decide +kernel
theorem dX7_read_61 : decode cX7_read 61 = .ok (.ifCond .ne 7, 3) := by decide +kernel
theorem dX7_read_64 : decode cX7_read 64 = .ok (.iconst 1, 1) := by decide +kernel
theorem dX7_read_65 : decode cX7_read 65 = .ok (.goto 4, 3) := by decide +kernel
theorem dX7_read_68 : decode cX7_read 68 = .ok (.iconst 0, 1) := by decide +kernel
theorem dX7_read_69 : decode cX7_read 69 = .ok (.ireturn, 1) := by decide +kernel
theorem dX7_readHead_0 : decode cX7_readHead 0 = .ok (.aload_n 0, 1) := by decide +kernel
theorem dX7_readHead_1 : decode cX7_readHead 1 = .ok (.aload_n 0, 1) := by decide +kernel
theorem dX7_readHead_2 : decode cX7_readHead 2 = .ok (.ldc 76, 2) := by decide +kernel
theorem dX7_readHead_4 : decode cX7_readHead 4 = .ok (.invokevirtual 51, 3) := by decide +kernel
theorem dX7_readHead_7 : decode cX7_readHead 7 = .ok (.invokevirtual 72, 3) := by decide +kernel
theorem dX7_readHead_10 : decode cX7_readHead 10 = .ok (.aload_n 0, 1) := by decide +kernel
theorem dX7_readHead_11 : decode cX7_readHead 11 = .ok (.aload_n 0, 1) := by decide +kernel
theorem dX7_readHead_12 : decode cX7_readHead 12 = .ok (.ldc 78, 2) := by decide +kernel
theorem dX7_readHead_14 : decode cX7_readHead 14 = .ok (.invokevirtual 51, 3) := by decide +kernel
theorem dX7_readHead_17 : decode cX7_readHead 17 = .ok (.invokevirtual 72, 3) := by decide +kernel
theorem dX7_readHead_20 : decode cX7_readHead 20 = .ok (.aload_n 1, 1) := by decide +kernel
theorem dX7_readHead_21 : decode cX7_readHead 21 = .ok (.aload_n 0, 1) := by decide +kernel
theorem dX7_readHead_22 : decode cX7_readHead 22 = .ok (.iconst 0, 1) := by decide +kernel
theorem dX7_readHead_23 : decode cX7_readHead 23 = .ok (.bipush 50, 2) := by decide +kernel
theorem dX7_readHead_25 : decode cX7_readHead 25 = .ok (.invokevirtual 80, 3) := by decide +kernel
theorem dX7_readHead_28 : decode cX7_readHead 28 = .ok (.putfield 84, 3) := by decide +kernel
theorem dX7_readHead_31 : decode cX7_readHead 31 = .ok (.aload_n 0, 1) := by decide +kernel
theorem dX7_readHead_32 : decode cX7_readHead 32 = .ok (.aload_n 0, 1) := by decide +kernel
theorem dX7_readHead_33 : decode cX7_readHead 33 = .ok (.ldc 86, 2) := by decide +kernel
theorem dX7_readHead_35 : decode cX7_readHead 35 = .ok (.invokevirtual 51, 3) := by decide +kernel
theorem dX7_readHead_38 : decode cX7_readHead 38 = .ok (.invokevirtual 72, 3) := by decide +kernel
theorem dX7_readHead_41 : decode cX7_readHead 41 = .ok (.aload_n 1, 1) := by decide +kernel
theorem dX7_readHead_42 : decode cX7_readHead 42 = .ok (.aload_n 0, 1) := by decide +kernel
theorem dX7_readHead_43 : decode cX7_readHead 43 = .ok (.iconst 1, 1) := by decide +kernel
theorem dX7_readHead_44 : decode cX7_readHead 44 = .ok (.bipush 6, 2) := by decide +kernel
theorem dX7_readHead_46 : decode cX7_readHead 46 = .ok (.invokevirtual 80, 3) := by decide +kernel
theorem dX7_readHead_49 : decode cX7_readHead 49 = .ok (.putfield 88, 3) := by decide +kernel
theorem dX7_readHead_52 : decode cX7_readHead 52 = .ok (.aload_n 0, 1) := by decide +kernel
theorem dX7_readHead_53 : decode cX7_readHead 53 = .ok (.aload_n 0, 1) := by decide +kernel
theorem dX7_readHead_54 : decode cX7_readHead 54 = .ok (.ldc 90, 2) := by decide +kernel
theorem dX7_readHead_56 : decode cX7_readHead 56 = .ok (.invokevirtual 51, 3) := by decide +kernel
theorem dX7_readHead_59 : decode cX7_readHead 59 = .ok (.invokevirtual 72, 3) := by decide +kernel
theorem dX7_readHead_62 : decode cX7_readHead 62 = .ok (.aload_n 1, 1) := by decide +kernel
theorem dX7_readHead_63 : decode cX7_readHead 63 = .ok (.aload_n 0, 1) := by decide +kernel
theorem dX7_readHead_64 : decode cX7_readHead 64 = .ok (.iconst 0, 1) := by decide +kernel
theorem dX7_readHead_65 : decode cX7_readHead 65 = .ok (.bipush 100, 2) := by decide +kernel
theorem dX7_readHead_67 : decode cX7_readHead 67 = .ok (.invokevirtual 80, 3) := by decide +kernel
theorem dX7_readHead_70 : decode cX7_readHead 70 = .ok (.putfield 92, 3) := by decide +kernel
theorem dX7_readHead_73 : decode cX7_readHead 73 = .ok (.return_, 1) := by decide +kernel
theorem dX7_readHouse_0 : decode cX7_readHouse 0 = .ok (.aload_n 1, 1) := by decide +kernel
theorem dX7_readHouse_1 : decode cX7_readHouse 1 = .ok (.getfield 94, 3) := by decide +kernel
theorem dX7_readHouse_4 : decode cX7_readHouse 4 = .ok (.istore_n 2, 1) := by decide +kernel
theorem dX7_readHouse_5 : decode cX7_readHouse 5 = .ok (.iload_n 2, 1) := by decide +kernel
theorem dX7_readHouse_6 : decode cX7_readHouse 6 = .ok (.iconst 5, 1) := by decide +kernel
theorem dX7_readHouse_7 : decode cX7_readHouse 7 = .ok (.if_icmp .lt 9, 3) := by decide +kernel
theorem dX7_readHouse_10 : decode cX7_readHouse 10 = .ok (.aload_n 0, 1) := by decide +kernel
theorem dX7_readHouse_11 : decode cX7_readHouse 11 = .ok (.iconst 3, 1) := by decide +kernel
theorem dX7_readHouse_12 : decode cX7_readHouse 12 = .ok (.invokevirtual 68, 3) := by decide +kernel
theorem dX7_readHouse_15 : decode cX7_readHouse 15 = .ok (.return_, 1) := by decide +kernel
theorem dX7_readHouse_16 : decode cX7_readHouse 16 = .ok (.aload_n 0, 1) := by decide +kernel
theorem dX7_readHouse_17 : decode cX7_readHouse 17 = .ok (.invokevirtual 33, 3) := by decide +kernel
theorem dX7_readHouse_20 : decode cX7_readHouse 20 = .ok (.aload_n 0, 1) := by decide +kernel
theorem dX7_readHouse_21 : decode cX7_readHouse 21 = .ok (.aload_n 0, 1) := by decide +kernel
theorem dX7_readHouse_22 : decode cX7_readHouse 22 = .ok (.ldc 97, 2) := by decide +kernel
theorem dX7_readHouse_24 : decode cX7_readHouse 24 = .ok (.invokevirtual 51, 3) := by decide +kernel
theorem dX7_readHouse_27 : decode cX7_readHouse 27 = .ok (.invokevirtual 72, 3) := by decide +kernel
theorem dX7_readHouse_30 : decode cX7_readHouse 30 = .ok (.aload_n 1, 1) := by decide +kernel
theorem dX7_readHouse_31 : decode cX7_readHouse 31 = .ok (.getfield 99, 3) := by decide +kernel
theorem dX7_readHouse_34 : decode cX7_readHouse 34 = .ok (.iload_n 2, 1) := by decide +kernel
theorem dX7_readHouse_35 : decode cX7_readHouse 35 = .ok (.aload_n 0, 1) := by decide +kernel
theorem dX7_readHouse_36 : decode cX7_readHouse 36 = .ok (.iconst 0, 1) := by decide +kernel
theorem dX7_readHouse_37 : decode cX7_readHouse 37 = .ok (.sipush 9999, 3) := by decide +kernel
theorem dX7_readHouse_40 : decode cX7_readHouse 40 = .ok (.invokevirtual 80, 3) := by decide +kernel
theorem dX7_readHouse_43 : decode cX7_readHouse 43 = .ok (.iastore, 1) := by decide +kernel
theorem dX7_readHouse_44 : decode cX7_readHouse 44 = .ok (.aload_n 0, 1) := by decide +kernel
theorem dX7_readHouse_45 : decode cX7_readHouse 45 = .ok (.ldc 102, 2) := by decide +kernel
theorem dX7_readHouse_47 : decode cX7_readHouse 47 = .ok (.invokevirtual 51, 3) := by decide +kernel
theorem dX7_readHouse_50 : decode cX7_readHouse 50 = .ok (.ifCond .eq 19, 3) := by decide +kernel
theorem dX7_readHouse_53 : decode cX7_readHouse 53 = .ok (.aload_n 1, 1) := by decide +kernel
theorem dX7_readHouse_54 : decode cX7_readHouse 54 = .ok (.dup, 1) := by decide +kernel
theorem dX7_readHouse_55 : decode cX7_readHouse 55 = .ok (.getfield 104, 3) := by decide +kernel
theorem dX7_readHouse_58 : decode cX7_readHouse 58 = .ok (.iconst 1, 1) := by decide +kernel
theorem dX7_readHouse_59 : decode cX7_readHouse 59 = .ok (.iload_n 2, 1) := by decide +kernel
theorem dX7_readHouse_60 : decode cX7_readHouse 60 = .ok (.ishl, 1) := by decide +kernel
theorem dX7_readHouse_61 : decode cX7_readHouse 61 = .ok (.ior, 1) := by decide +kernel
theorem dX7_readHouse_62 : decode cX7_readHouse 62 = .ok (.putfield 104, 3) := by decide +kernel
theorem dX7_readHouse_65 : decode cX7_readHouse 65 = .ok (.aload_n 0, 1) := by decide +kernel
theorem dX7_readHouse_66 : decode cX7_readHouse 66 = .ok (.invokevirtual 33, 3) := by decide +kernel
theorem dX7_readHouse_69 : decode cX7_readHouse 69 = .ok (.aload_n 1, 1) := by decide +kernel
theorem dX7_readHouse_70 : decode cX7_readHouse 70 = .ok (.dup, 1) := by decide +kernel
theorem dX7_readHouse_71 : decode cX7_readHouse 71 = .ok (.getfield 94, 3) := by decide +kernel
theorem dX7_readHouse_74 : decode cX7_readHouse 74 = .ok (.iconst 1, 1) := by decide +kernel
theorem dX7_readHouse_75 : decode cX7_readHouse 75 = .ok (.iadd, 1) := by decide +kernel
theorem dX7_readHouse_76 : decode cX7_readHouse 76 = .ok (.putfield 94, 3) := by decide +kernel
theorem dX7_readHouse_79 : decode cX7_readHouse 79 = .ok (.return_, 1) := by decide +kernel
theorem dX7_readLine_0 : decode cX7_readLine 0 = .ok (.aload_n 1, 1) := by decide +kernel
theorem dX7_readLine_1 : decode cX7_readLine 1 = .ok (.getfield 43, 3) := by decide +kernel
theorem dX7_readLine_4 : decode cX7_readLine 4 = .ok (.ifCond .ne 11, 3) := by decide +kernel
theorem dX7_readLine_7 : decode cX7_readLine 7 = .ok (.aload_n 0, 1) := by decide +kernel
theorem dX7_readLine_8 : decode cX7_readLine 8 = .ok (.aload_n 1, 1) := by decide +kernel
theorem dX7_readLine_9 : decode cX7_readLine 9 = .ok (.invokevirtual 46, 3) := by decide +kernel
theorem dX7_readLine_12 : decode cX7_readLine 12 = .ok (.goto 59, 3) := by decide +kernel
theorem dX7_readLine_15 : decode cX7_readLine 15 = .ok (.aload_n 0, 1) := by decide +kernel
theorem dX7_readLine_16 : decode cX7_readLine 16 = .ok (.ldc 49, 2) := by decide +kernel
theorem dX7_readLine_18 : decode cX7_readLine 18 = .ok (.invokevirtual 51, 3) := by decide +kernel
theorem dX7_readLine_21 : decode cX7_readLine 21 = .ok (.ifCond .eq 11, 3) := by decide +kernel
theorem dX7_readLine_24 : decode cX7_readLine 24 = .ok (.aload_n 0, 1) := by decide +kernel
theorem dX7_readLine_25 : decode cX7_readLine 25 = .ok (.aload_n 1, 1) := by decide +kernel
theorem dX7_readLine_26 : decode cX7_readLine 26 = .ok (.invokevirtual 55, 3) := by decide +kernel
theorem dX7_readLine_29 : decode cX7_readLine 29 = .ok (.goto 42, 3) := by decide +kernel
theorem dX7_readLine_32 : decode cX7_readLine 32 = .ok (.aload_n 0, 1) := by decide +kernel
theorem dX7_readLine_33 : decode cX7_readLine 33 = .ok (.ldc 58, 2) := by decide +kernel
theorem dX7_readLine_35 : decode cX7_readLine 35 = .ok (.invokevirtual 51, 3) := by decide +kernel
theorem dX7_readLine_38 : decode cX7_readLine 38 = .ok (.ifCond .eq 11, 3) := by decide +kernel
theorem dX7_readLine_41 : decode cX7_readLine 41 = .ok (.aload_n 0, 1) := by decide +kernel
theorem dX7_readLine_42 : decode cX7_readLine 42 = .ok (.aload_n 1, 1) := by decide +kernel
theorem dX7_readLine_43 : decode cX7_readLine 43 = .ok (.invokevirtual 60, 3) := by decide +kernel
theorem dX7_readLine_46 : decode cX7_readLine 46 = .ok (.goto 25, 3) := by decide +kernel
theorem dX7_readLine_49 : decode cX7_readLine 49 = .ok (.aload_n 0, 1) := by decide +kernel
theorem dX7_readLine_50 : decode cX7_readLine 50 = .ok (.ldc 63, 2) := by decide +kernel
theorem dX7_readLine_52 : decode cX7_readLine 52 = .ok (.invokevirtual 51, 3) := by decide +kernel
theorem dX7_readLine_55 : decode cX7_readLine 55 = .ok (.ifCond .eq 11, 3) := by decide +kernel
theorem dX7_readLine_58 : decode cX7_readLine 58 = .ok (.aload_n 0, 1) := by decide +kernel
theorem dX7_readLine_59 : decode cX7_readLine 59 = .ok (.aload_n 1, 1) := by decide +kernel
theorem dX7_readLine_60 : decode cX7_readLine 60 = .ok (.invokevirtual 65, 3) := by decide +kernel
theorem dX7_readLine_63 : decode cX7_readLine 63 = .ok (.goto 8, 3) := by decide +kernel
theorem dX7_readLine_66 : decode cX7_readLine 66 = .ok (.aload_n 0, 1) := by decide +kernel
theorem dX7_readLine_67 : decode cX7_readLine 67 = .ok (.iconst 1, 1) := by decide +kernel
theorem dX7_readLine_68 : decode cX7_readLine 68 = .ok (.invokevirtual 68, 3) := by decide +kernel
theorem dX7_readLine_71 : decode cX7_readLine 71 = .ok (.aload_n 0, 1) := by decide +kernel
theorem dX7_readLine_72 : decode cX7_readLine 72 = .ok (.aload_n 0, 1) := by decide +kernel
theorem dX7_readLine_73 : decode cX7_readLine 73 = .ok (.getfield 36, 3) := by decide +kernel
theorem dX7_readLine_76 : decode cX7_readLine 76 = .ok (.iconst 3, 1) := by decide +kernel
theorem dX7_readLine_77 : decode cX7_readLine 77 = .ok (.if_icmp .ne 7, 3) := by decide +kernel
theorem dX7_readLine_80 : decode cX7_readLine 80 = .ok (.iconst 1, 1) := by decide +kernel
theorem dX7_readLine_81 : decode cX7_readLine 81 = .ok (.goto 4, 3) := by decide +kernel
theorem dX7_readLine_84 : decode cX7_readLine 84 = .ok (.iconst 0, 1) := by decide +kernel
theorem dX7_readLine_85 : decode cX7_readLine 85 = .ok (.invokevirtual 72, 3) := by decide +kernel
theorem dX7_readLine_88 : decode cX7_readLine 88 = .ok (.aload_n 1, 1) := by decide +kernel
theorem dX7_readLine_89 : decode cX7_readLine 89 = .ok (.dup, 1) := by decide +kernel
theorem dX7_readLine_90 : decode cX7_readLine 90 = .ok (.getfield 43, 3) := by decide +kernel
theorem dX7_readLine_93 : decode cX7_readLine 93 = .ok (.iconst 1, 1) := by decide +kernel
theorem dX7_readLine_94 : decode cX7_readLine 94 = .ok (.iadd, 1) := by decide +kernel
theorem dX7_readLine_95 : decode cX7_readLine 95 = .ok (.putfield 43, 3) := by decide +kernel
theorem dX7_readLine_98 : decode cX7_readLine 98 = .ok (.return_, 1) := by decide +kernel
theorem dX7_readThing_0 : decode cX7_readThing 0 = .ok (.aload_n 1, 1) := by decide +kernel
theorem dX7_readThing_1 : decode cX7_readThing 1 = .ok (.getfield 106, 3) := by decide +kernel
theorem dX7_readThing_4 : decode cX7_readThing 4 = .ok (.istore_n 2, 1) := by decide +kernel
theorem dX7_readThing_5 : decode cX7_readThing 5 = .ok (.iload_n 2, 1) := by decide +kernel
theorem dX7_readThing_6 : decode cX7_readThing 6 = .ok (.bipush 6, 2) := by decide +kernel
theorem dX7_readThing_8 : decode cX7_readThing 8 = .ok (.if_icmp .lt 9, 3) := by decide +kernel
theorem dX7_readThing_11 : decode cX7_readThing 11 = .ok (.aload_n 0, 1) := by decide +kernel
theorem dX7_readThing_12 : decode cX7_readThing 12 = .ok (.iconst 3, 1) := by decide +kernel
theorem dX7_readThing_13 : decode cX7_readThing 13 = .ok (.invokevirtual 68, 3) := by decide +kernel
theorem dX7_readThing_16 : decode cX7_readThing 16 = .ok (.return_, 1) := by decide +kernel
theorem dX7_readThing_17 : decode cX7_readThing 17 = .ok (.aload_n 0, 1) := by decide +kernel
theorem dX7_readThing_18 : decode cX7_readThing 18 = .ok (.invokevirtual 33, 3) := by decide +kernel
theorem dX7_readThing_21 : decode cX7_readThing 21 = .ok (.aload_n 0, 1) := by decide +kernel
theorem dX7_readThing_22 : decode cX7_readThing 22 = .ok (.aload_n 0, 1) := by decide +kernel
theorem dX7_readThing_23 : decode cX7_readThing 23 = .ok (.ldc 109, 2) := by decide +kernel
theorem dX7_readThing_25 : decode cX7_readThing 25 = .ok (.invokevirtual 51, 3) := by decide +kernel
theorem dX7_readThing_28 : decode cX7_readThing 28 = .ok (.invokevirtual 72, 3) := by decide +kernel
theorem dX7_readThing_31 : decode cX7_readThing 31 = .ok (.aload_n 1, 1) := by decide +kernel
theorem dX7_readThing_32 : decode cX7_readThing 32 = .ok (.getfield 111, 3) := by decide +kernel
theorem dX7_readThing_35 : decode cX7_readThing 35 = .ok (.iload_n 2, 1) := by decide +kernel
theorem dX7_readThing_36 : decode cX7_readThing 36 = .ok (.aload_n 0, 1) := by decide +kernel
theorem dX7_readThing_37 : decode cX7_readThing 37 = .ok (.iconst 0, 1) := by decide +kernel
theorem dX7_readThing_38 : decode cX7_readThing 38 = .ok (.aload_n 1, 1) := by decide +kernel
theorem dX7_readThing_39 : decode cX7_readThing 39 = .ok (.getfield 94, 3) := by decide +kernel
theorem dX7_readThing_42 : decode cX7_readThing 42 = .ok (.iconst 1, 1) := by decide +kernel
theorem dX7_readThing_43 : decode cX7_readThing 43 = .ok (.isub, 1) := by decide +kernel
theorem dX7_readThing_44 : decode cX7_readThing 44 = .ok (.invokevirtual 80, 3) := by decide +kernel
theorem dX7_readThing_47 : decode cX7_readThing 47 = .ok (.iastore, 1) := by decide +kernel
theorem dX7_readThing_48 : decode cX7_readThing 48 = .ok (.aload_n 0, 1) := by decide +kernel
theorem dX7_readThing_49 : decode cX7_readThing 49 = .ok (.aload_n 0, 1) := by decide +kernel
theorem dX7_readThing_50 : decode cX7_readThing 50 = .ok (.ldc 113, 2) := by decide +kernel
theorem dX7_readThing_52 : decode cX7_readThing 52 = .ok (.invokevirtual 51, 3) := by decide +kernel
theorem dX7_readThing_55 : decode cX7_readThing 55 = .ok (.invokevirtual 72, 3) := by decide +kernel
theorem dX7_readThing_58 : decode cX7_readThing 58 = .ok (.aload_n 1, 1) := by decide +kernel
theorem dX7_readThing_59 : decode cX7_readThing 59 = .ok (.getfield 115, 3) := by decide +kernel
theorem dX7_readThing_62 : decode cX7_readThing 62 = .ok (.iload_n 2, 1) := by decide +kernel
theorem dX7_readThing_63 : decode cX7_readThing 63 = .ok (.aload_n 0, 1) := by decide +kernel
theorem dX7_readThing_64 : decode cX7_readThing 64 = .ok (.iconst 1, 1) := by decide +kernel
theorem dX7_readThing_65 : decode cX7_readThing 65 = .ok (.sipush 999, 3) := by decide +kernel
theorem dX7_readThing_68 : decode cX7_readThing 68 = .ok (.invokevirtual 80, 3) := by decide +kernel
theorem dX7_readThing_71 : decode cX7_readThing 71 = .ok (.iastore, 1) := by decide +kernel
theorem dX7_readThing_72 : decode cX7_readThing 72 = .ok (.aload_n 1, 1) := by decide +kernel
theorem dX7_readThing_73 : decode cX7_readThing 73 = .ok (.dup, 1) := by decide +kernel
theorem dX7_readThing_74 : decode cX7_readThing 74 = .ok (.getfield 106, 3) := by decide +kernel
theorem dX7_readThing_77 : decode cX7_readThing 77 = .ok (.iconst 1, 1) := by decide +kernel
theorem dX7_readThing_78 : decode cX7_readThing 78 = .ok (.iadd, 1) := by decide +kernel
theorem dX7_readThing_79 : decode cX7_readThing 79 = .ok (.putfield 106, 3) := by decide +kernel
theorem dX7_readThing_82 : decode cX7_readThing 82 = .ok (.return_, 1) := by decide +kernel
theorem dX7_readWant_0 : decode cX7_readWant 0 = .ok (.aload_n 0, 1) := by decide +kernel
theorem dX7_readWant_1 : decode cX7_readWant 1 = .ok (.invokevirtual 33, 3) := by decide +kernel
theorem dX7_readWant_4 : decode cX7_readWant 4 = .ok (.aload_n 0, 1) := by decide +kernel
theorem dX7_readWant_5 : decode cX7_readWant 5 = .ok (.iconst 0, 1) := by decide +kernel
theorem dX7_readWant_6 : decode cX7_readWant 6 = .ok (.aload_n 1, 1) := by decide +kernel
theorem dX7_readWant_7 : decode cX7_readWant 7 = .ok (.getfield 94, 3) := by decide +kernel
theorem dX7_readWant_10 : decode cX7_readWant 10 = .ok (.iconst 1, 1) := by decide +kernel
theorem dX7_readWant_11 : decode cX7_readWant 11 = .ok (.isub, 1) := by decide +kernel
theorem dX7_readWant_12 : decode cX7_readWant 12 = .ok (.invokevirtual 80, 3) := by decide +kernel
theorem dX7_readWant_15 : decode cX7_readWant 15 = .ok (.istore_n 2, 1) := by decide +kernel
theorem dX7_readWant_16 : decode cX7_readWant 16 = .ok (.aload_n 0, 1) := by decide +kernel
theorem dX7_readWant_17 : decode cX7_readWant 17 = .ok (.iconst 0, 1) := by decide +kernel
theorem dX7_readWant_18 : decode cX7_readWant 18 = .ok (.aload_n 1, 1) := by decide +kernel
theorem dX7_readWant_19 : decode cX7_readWant 19 = .ok (.getfield 106, 3) := by decide +kernel
theorem dX7_readWant_22 : decode cX7_readWant 22 = .ok (.iconst 1, 1) := by decide +kernel
theorem dX7_readWant_23 : decode cX7_readWant 23 = .ok (.isub, 1) := by decide +kernel
theorem dX7_readWant_24 : decode cX7_readWant 24 = .ok (.invokevirtual 80, 3) := by decide +kernel
theorem dX7_readWant_27 : decode cX7_readWant 27 = .ok (.istore_n 3, 1) := by decide +kernel
theorem dX7_readWant_28 : decode cX7_readWant 28 = .ok (.aload_n 0, 1) := by decide +kernel
theorem dX7_readWant_29 : decode cX7_readWant 29 = .ok (.iconst 1, 1) := by decide +kernel
theorem dX7_readWant_30 : decode cX7_readWant 30 = .ok (.sipush 500, 3) := by decide +kernel
theorem dX7_readWant_33 : decode cX7_readWant 33 = .ok (.invokevirtual 80, 3) := by decide +kernel
theorem dX7_readWant_36 : decode cX7_readWant 36 = .ok (.istore 4, 2) := by decide +kernel
theorem dX7_readWant_38 : decode cX7_readWant 38 = .ok (.aload_n 0, 1) := by decide +kernel
theorem dX7_readWant_39 : decode cX7_readWant 39 = .ok (.getfield 27, 3) := by decide +kernel
theorem dX7_readWant_42 : decode cX7_readWant 42 = .ok (.ifCond .ne 11, 3) := by decide +kernel
theorem dX7_readWant_45 : decode cX7_readWant 45 = .ok (.aload_n 1, 1) := by decide +kernel
theorem dX7_readWant_46 : decode cX7_readWant 46 = .ok (.iload_n 2, 1) := by decide +kernel
theorem dX7_readWant_47 : decode cX7_readWant 47 = .ok (.iload_n 3, 1) := by decide +kernel
theorem dX7_readWant_48 : decode cX7_readWant 48 = .ok (.iload 4, 2) := by decide +kernel
theorem dX7_readWant_50 : decode cX7_readWant 50 = .ok (.invokevirtual 117, 3) := by decide +kernel
theorem dX7_readWant_53 : decode cX7_readWant 53 = .ok (.return_, 1) := by decide +kernel
theorem dX7_refuse_0 : decode cX7_refuse 0 = .ok (.aload_n 0, 1) := by decide +kernel
theorem dX7_refuse_1 : decode cX7_refuse 1 = .ok (.getfield 27, 3) := by decide +kernel
theorem dX7_refuse_4 : decode cX7_refuse 4 = .ok (.ifCond .ne 16, 3) := by decide +kernel
theorem dX7_refuse_7 : decode cX7_refuse 7 = .ok (.aload_n 0, 1) := by decide +kernel
theorem dX7_refuse_8 : decode cX7_refuse 8 = .ok (.iload_n 1, 1) := by decide +kernel
theorem dX7_refuse_9 : decode cX7_refuse 9 = .ok (.putfield 27, 3) := by decide +kernel
theorem dX7_refuse_12 : decode cX7_refuse 12 = .ok (.aload_n 0, 1) := by decide +kernel
theorem dX7_refuse_13 : decode cX7_refuse 13 = .ok (.aload_n 0, 1) := by decide +kernel
theorem dX7_refuse_14 : decode cX7_refuse 14 = .ok (.getfield 125, 3) := by decide +kernel
theorem dX7_refuse_17 : decode cX7_refuse 17 = .ok (.putfield 15, 3) := by decide +kernel
theorem dX7_refuse_20 : decode cX7_refuse 20 = .ok (.return_, 1) := by decide +kernel
theorem dX7_step_0 : decode cX7_step 0 = .ok (.aload_n 0, 1) := by decide +kernel
theorem dX7_step_1 : decode cX7_step 1 = .ok (.getfield 30, 3) := by decide +kernel
theorem dX7_step_4 : decode cX7_step 4 = .ok (.aload_n 0, 1) := by decide +kernel
theorem dX7_step_5 : decode cX7_step 5 = .ok (.getfield 19, 3) := by decide +kernel
theorem dX7_step_8 : decode cX7_step 8 = .ok (.if_icmp .ge 31, 3) := by decide +kernel
theorem dX7_step_11 : decode cX7_step 11 = .ok (.aload_n 0, 1) := by decide +kernel
theorem dX7_step_12 : decode cX7_step 12 = .ok (.getfield 11, 3) := by decide +kernel
theorem dX7_step_15 : decode cX7_step 15 = .ok (.aload_n 0, 1) := by decide +kernel
theorem dX7_step_16 : decode cX7_step 16 = .ok (.getfield 30, 3) := by decide +kernel
theorem dX7_step_19 : decode cX7_step 19 = .ok (.baload, 1) := by decide +kernel
theorem dX7_step_20 : decode cX7_step 20 = .ok (.invokestatic 129, 3) := by decide +kernel
theorem dX7_step_23 : decode cX7_step 23 = .ok (.ifCond .eq 16, 3) := by decide +kernel
theorem dX7_step_26 : decode cX7_step 26 = .ok (.aload_n 0, 1) := by decide +kernel
theorem dX7_step_27 : decode cX7_step 27 = .ok (.dup, 1) := by decide +kernel
theorem dX7_step_28 : decode cX7_step 28 = .ok (.getfield 30, 3) := by decide +kernel
theorem dX7_step_31 : decode cX7_step 31 = .ok (.iconst 1, 1) := by decide +kernel
theorem dX7_step_32 : decode cX7_step 32 = .ok (.iadd, 1) := by decide +kernel
theorem dX7_step_33 : decode cX7_step 33 = .ok (.putfield 30, 3) := by decide +kernel
theorem dX7_step_36 : decode cX7_step 36 = .ok (.goto (-36), 3) := by decide +kernel
theorem dX7_step_39 : decode cX7_step 39 = .ok (.aload_n 0, 1) := by decide +kernel
theorem dX7_step_40 : decode cX7_step 40 = .ok (.aload_n 0, 1) := by decide +kernel
theorem dX7_step_41 : decode cX7_step 41 = .ok (.getfield 30, 3) := by decide +kernel
theorem dX7_step_44 : decode cX7_step 44 = .ok (.putfield 125, 3) := by decide +kernel
theorem dX7_step_47 : decode cX7_step 47 = .ok (.aload_n 0, 1) := by decide +kernel
theorem dX7_step_48 : decode cX7_step 48 = .ok (.getfield 30, 3) := by decide +kernel
theorem dX7_step_51 : decode cX7_step 51 = .ok (.aload_n 0, 1) := by decide +kernel
theorem dX7_step_52 : decode cX7_step 52 = .ok (.getfield 19, 3) := by decide +kernel
theorem dX7_step_55 : decode cX7_step 55 = .ok (.if_icmp .lt 11, 3) := by decide +kernel
theorem dX7_step_58 : decode cX7_step 58 = .ok (.aload_n 0, 1) := by decide +kernel
theorem dX7_step_59 : decode cX7_step 59 = .ok (.iconst 0, 1) := by decide +kernel
theorem dX7_step_60 : decode cX7_step 60 = .ok (.putfield 36, 3) := by decide +kernel
theorem dX7_step_63 : decode cX7_step 63 = .ok (.goto 154, 3) := by decide +kernel
theorem dX7_step_66 : decode cX7_step 66 = .ok (.aload_n 0, 1) := by decide +kernel
theorem dX7_step_67 : decode cX7_step 67 = .ok (.getfield 11, 3) := by decide +kernel
theorem dX7_step_70 : decode cX7_step 70 = .ok (.aload_n 0, 1) := by decide +kernel
theorem dX7_step_71 : decode cX7_step 71 = .ok (.getfield 30, 3) := by decide +kernel
theorem dX7_step_74 : decode cX7_step 74 = .ok (.baload, 1) := by decide +kernel
theorem dX7_step_75 : decode cX7_step 75 = .ok (.invokestatic 133, 3) := by decide +kernel
theorem dX7_step_78 : decode cX7_step 78 = .ok (.ifCond .eq 47, 3) := by decide +kernel
theorem dX7_step_81 : decode cX7_step 81 = .ok (.aload_n 0, 1) := by decide +kernel
theorem dX7_step_82 : decode cX7_step 82 = .ok (.iconst 1, 1) := by decide +kernel
theorem dX7_step_83 : decode cX7_step 83 = .ok (.putfield 36, 3) := by decide +kernel
theorem dX7_step_86 : decode cX7_step 86 = .ok (.aload_n 0, 1) := by decide +kernel
theorem dX7_step_87 : decode cX7_step 87 = .ok (.getfield 30, 3) := by decide +kernel
theorem dX7_step_90 : decode cX7_step 90 = .ok (.aload_n 0, 1) := by decide +kernel
theorem dX7_step_91 : decode cX7_step 91 = .ok (.getfield 19, 3) := by decide +kernel
theorem dX7_step_94 : decode cX7_step 94 = .ok (.if_icmp .ge 123, 3) := by decide +kernel
theorem dX7_step_97 : decode cX7_step 97 = .ok (.aload_n 0, 1) := by decide +kernel
theorem dX7_step_98 : decode cX7_step 98 = .ok (.getfield 11, 3) := by decide +kernel
theorem dX7_step_101 : decode cX7_step 101 = .ok (.aload_n 0, 1) := by decide +kernel
theorem dX7_step_102 : decode cX7_step 102 = .ok (.getfield 30, 3) := by decide +kernel
theorem dX7_step_105 : decode cX7_step 105 = .ok (.baload, 1) := by decide +kernel
theorem dX7_step_106 : decode cX7_step 106 = .ok (.invokestatic 133, 3) := by decide +kernel
theorem dX7_step_109 : decode cX7_step 109 = .ok (.ifCond .eq 108, 3) := by decide +kernel
theorem dX7_step_112 : decode cX7_step 112 = .ok (.aload_n 0, 1) := by decide +kernel
theorem dX7_step_113 : decode cX7_step 113 = .ok (.dup, 1) := by decide +kernel
theorem dX7_step_114 : decode cX7_step 114 = .ok (.getfield 30, 3) := by decide +kernel
theorem dX7_step_117 : decode cX7_step 117 = .ok (.iconst 1, 1) := by decide +kernel
theorem dX7_step_118 : decode cX7_step 118 = .ok (.iadd, 1) := by decide +kernel
theorem dX7_step_119 : decode cX7_step 119 = .ok (.putfield 30, 3) := by decide +kernel
theorem dX7_step_122 : decode cX7_step 122 = .ok (.goto (-36), 3) := by decide +kernel
theorem dX7_step_125 : decode cX7_step 125 = .ok (.aload_n 0, 1) := by decide +kernel
theorem dX7_step_126 : decode cX7_step 126 = .ok (.getfield 11, 3) := by decide +kernel
theorem dX7_step_129 : decode cX7_step 129 = .ok (.aload_n 0, 1) := by decide +kernel
theorem dX7_step_130 : decode cX7_step 130 = .ok (.getfield 30, 3) := by decide +kernel
theorem dX7_step_133 : decode cX7_step 133 = .ok (.baload, 1) := by decide +kernel
theorem dX7_step_134 : decode cX7_step 134 = .ok (.invokestatic 136, 3) := by decide +kernel
theorem dX7_step_137 : decode cX7_step 137 = .ok (.ifCond .eq 47, 3) := by decide +kernel
theorem dX7_step_140 : decode cX7_step 140 = .ok (.aload_n 0, 1) := by decide +kernel
theorem dX7_step_141 : decode cX7_step 141 = .ok (.iconst 2, 1) := by decide +kernel
theorem dX7_step_142 : decode cX7_step 142 = .ok (.putfield 36, 3) := by decide +kernel
theorem dX7_step_145 : decode cX7_step 145 = .ok (.aload_n 0, 1) := by decide +kernel
theorem dX7_step_146 : decode cX7_step 146 = .ok (.getfield 30, 3) := by decide +kernel
theorem dX7_step_149 : decode cX7_step 149 = .ok (.aload_n 0, 1) := by decide +kernel
theorem dX7_step_150 : decode cX7_step 150 = .ok (.getfield 19, 3) := by decide +kernel
theorem dX7_step_153 : decode cX7_step 153 = .ok (.if_icmp .ge 64, 3) := by decide +kernel
theorem dX7_step_156 : decode cX7_step 156 = .ok (.aload_n 0, 1) := by decide +kernel
theorem dX7_step_157 : decode cX7_step 157 = .ok (.getfield 11, 3) := by decide +kernel
theorem dX7_step_160 : decode cX7_step 160 = .ok (.aload_n 0, 1) := by decide +kernel
theorem dX7_step_161 : decode cX7_step 161 = .ok (.getfield 30, 3) := by decide +kernel
theorem dX7_step_164 : decode cX7_step 164 = .ok (.baload, 1) := by decide +kernel
theorem dX7_step_165 : decode cX7_step 165 = .ok (.invokestatic 136, 3) := by decide +kernel
theorem dX7_step_168 : decode cX7_step 168 = .ok (.ifCond .eq 49, 3) := by decide +kernel
theorem dX7_step_171 : decode cX7_step 171 = .ok (.aload_n 0, 1) := by decide +kernel
theorem dX7_step_172 : decode cX7_step 172 = .ok (.dup, 1) := by decide +kernel
theorem dX7_step_173 : decode cX7_step 173 = .ok (.getfield 30, 3) := by decide +kernel
theorem dX7_step_176 : decode cX7_step 176 = .ok (.iconst 1, 1) := by decide +kernel
theorem dX7_step_177 : decode cX7_step 177 = .ok (.iadd, 1) := by decide +kernel
theorem dX7_step_178 : decode cX7_step 178 = .ok (.putfield 30, 3) := by decide +kernel
theorem dX7_step_181 : decode cX7_step 181 = .ok (.goto (-36), 3) := by decide +kernel
theorem dX7_step_184 : decode cX7_step 184 = .ok (.aload_n 0, 1) := by decide +kernel
theorem dX7_step_185 : decode cX7_step 185 = .ok (.aload_n 0, 1) := by decide +kernel
theorem dX7_step_186 : decode cX7_step 186 = .ok (.getfield 11, 3) := by decide +kernel
theorem dX7_step_189 : decode cX7_step 189 = .ok (.aload_n 0, 1) := by decide +kernel
theorem dX7_step_190 : decode cX7_step 190 = .ok (.getfield 30, 3) := by decide +kernel
theorem dX7_step_193 : decode cX7_step 193 = .ok (.baload, 1) := by decide +kernel
theorem dX7_step_194 : decode cX7_step 194 = .ok (.bipush 59, 2) := by decide +kernel
theorem dX7_step_196 : decode cX7_step 196 = .ok (.if_icmp .ne 7, 3) := by decide +kernel
theorem dX7_step_199 : decode cX7_step 199 = .ok (.iconst 3, 1) := by decide +kernel
theorem dX7_step_200 : decode cX7_step 200 = .ok (.goto 4, 3) := by decide +kernel
theorem dX7_step_203 : decode cX7_step 203 = .ok (.iconst 4, 1) := by decide +kernel
theorem dX7_step_204 : decode cX7_step 204 = .ok (.putfield 36, 3) := by decide +kernel
theorem dX7_step_207 : decode cX7_step 207 = .ok (.aload_n 0, 1) := by decide +kernel
theorem dX7_step_208 : decode cX7_step 208 = .ok (.dup, 1) := by decide +kernel
theorem dX7_step_209 : decode cX7_step 209 = .ok (.getfield 30, 3) := by decide +kernel
theorem dX7_step_212 : decode cX7_step 212 = .ok (.iconst 1, 1) := by decide +kernel
theorem dX7_step_213 : decode cX7_step 213 = .ok (.iadd, 1) := by decide +kernel
theorem dX7_step_214 : decode cX7_step 214 = .ok (.putfield 30, 3) := by decide +kernel
theorem dX7_step_217 : decode cX7_step 217 = .ok (.return_, 1) := by decide +kernel
theorem dX7_told_0 : decode cX7_told 0 = .ok (.iconst 0, 1) := by decide +kernel
theorem dX7_told_1 : decode cX7_told 1 = .ok (.istore_n 1, 1) := by decide +kernel
theorem dX7_told_2 : decode cX7_told 2 = .ok (.aload_n 0, 1) := by decide +kernel
theorem dX7_told_3 : decode cX7_told 3 = .ok (.getfield 125, 3) := by decide +kernel
theorem dX7_told_6 : decode cX7_told 6 = .ok (.istore_n 2, 1) := by decide +kernel
theorem dX7_told_7 : decode cX7_told 7 = .ok (.iload_n 2, 1) := by decide +kernel
theorem dX7_told_8 : decode cX7_told 8 = .ok (.aload_n 0, 1) := by decide +kernel
theorem dX7_told_9 : decode cX7_told 9 = .ok (.getfield 30, 3) := by decide +kernel
theorem dX7_told_12 : decode cX7_told 12 = .ok (.if_icmp .ge 30, 3) := by decide +kernel
theorem dX7_told_15 : decode cX7_told 15 = .ok (.iload_n 1, 1) := by decide +kernel
theorem dX7_told_16 : decode cX7_told 16 = .ok (.ldc 128, 2) := by decide +kernel
theorem dX7_told_18 : decode cX7_told 18 = .ok (.if_icmp .ge 24, 3) := by decide +kernel
theorem dX7_told_21 : decode cX7_told 21 = .ok (.iload_n 1, 1) := by decide +kernel
theorem dX7_told_22 : decode cX7_told 22 = .ok (.bipush 10, 2) := by decide +kernel
theorem dX7_told_24 : decode cX7_told 24 = .ok (.imul, 1) := by decide +kernel
theorem dX7_told_25 : decode cX7_told 25 = .ok (.aload_n 0, 1) := by decide +kernel
theorem dX7_told_26 : decode cX7_told 26 = .ok (.getfield 11, 3) := by decide +kernel
theorem dX7_told_29 : decode cX7_told 29 = .ok (.iload_n 2, 1) := by decide +kernel
theorem dX7_told_30 : decode cX7_told 30 = .ok (.baload, 1) := by decide +kernel
theorem dX7_told_31 : decode cX7_told 31 = .ok (.iadd, 1) := by decide +kernel
theorem dX7_told_32 : decode cX7_told 32 = .ok (.bipush 48, 2) := by decide +kernel
theorem dX7_told_34 : decode cX7_told 34 = .ok (.isub, 1) := by decide +kernel
theorem dX7_told_35 : decode cX7_told 35 = .ok (.istore_n 1, 1) := by decide +kernel
theorem dX7_told_36 : decode cX7_told 36 = .ok (.iinc 2 1, 3) := by decide +kernel
theorem dX7_told_39 : decode cX7_told 39 = .ok (.goto (-32), 3) := by decide +kernel
theorem dX7_told_42 : decode cX7_told 42 = .ok (.iload_n 1, 1) := by decide +kernel
theorem dX7_told_43 : decode cX7_told 43 = .ok (.ireturn, 1) := by decide +kernel
theorem dX8_behind_0 : decode cX8_behind 0 = .ok (.aload_n 0, 1) := by decide +kernel
theorem dX8_behind_1 : decode cX8_behind 1 = .ok (.getfield 38, 3) := by decide +kernel
theorem dX8_behind_4 : decode cX8_behind 4 = .ok (.iconst 1, 1) := by decide +kernel
theorem dX8_behind_5 : decode cX8_behind 5 = .ok (.isub, 1) := by decide +kernel
theorem dX8_behind_6 : decode cX8_behind 6 = .ok (.istore_n 3, 1) := by decide +kernel
theorem dX8_behind_7 : decode cX8_behind 7 = .ok (.iload_n 3, 1) := by decide +kernel
theorem dX8_behind_8 : decode cX8_behind 8 = .ok (.ifCond .lt 44, 3) := by decide +kernel
theorem dX8_behind_11 : decode cX8_behind 11 = .ok (.aload_n 0, 1) := by decide +kernel
theorem dX8_behind_12 : decode cX8_behind 12 = .ok (.getfield 41, 3) := by decide +kernel
theorem dX8_behind_15 : decode cX8_behind 15 = .ok (.iload_n 3, 1) := by decide +kernel
theorem dX8_behind_16 : decode cX8_behind 16 = .ok (.iaload, 1) := by decide +kernel
theorem dX8_behind_17 : decode cX8_behind 17 = .ok (.iload_n 1, 1) := by decide +kernel
theorem dX8_behind_18 : decode cX8_behind 18 = .ok (.if_icmp .ne 28, 3) := by decide +kernel
theorem dX8_behind_21 : decode cX8_behind 21 = .ok (.aload_n 0, 1) := by decide +kernel
theorem dX8_behind_22 : decode cX8_behind 22 = .ok (.getfield 44, 3) := by decide +kernel
theorem dX8_behind_25 : decode cX8_behind 25 = .ok (.iload_n 3, 1) := by decide +kernel
theorem dX8_behind_26 : decode cX8_behind 26 = .ok (.iaload, 1) := by decide +kernel
theorem dX8_behind_27 : decode cX8_behind 27 = .ok (.iload_n 2, 1) := by decide +kernel
theorem dX8_behind_28 : decode cX8_behind 28 = .ok (.if_icmp .ne 18, 3) := by decide +kernel
theorem dX8_behind_31 : decode cX8_behind 31 = .ok (.aload_n 0, 1) := by decide +kernel
theorem dX8_behind_32 : decode cX8_behind 32 = .ok (.iload_n 3, 1) := by decide +kernel
theorem dX8_behind_33 : decode cX8_behind 33 = .ok (.invokevirtual 47, 3) := by decide +kernel
theorem dX8_behind_36 : decode cX8_behind 36 = .ok (.ifCond .eq 10, 3) := by decide +kernel
theorem dX8_behind_39 : decode cX8_behind 39 = .ok (.aload_n 0, 1) := by decide +kernel
theorem dX8_behind_40 : decode cX8_behind 40 = .ok (.getfield 51, 3) := by decide +kernel
theorem dX8_behind_43 : decode cX8_behind 43 = .ok (.iload_n 3, 1) := by decide +kernel
theorem dX8_behind_44 : decode cX8_behind 44 = .ok (.iaload, 1) := by decide +kernel
theorem dX8_behind_45 : decode cX8_behind 45 = .ok (.ireturn, 1) := by decide +kernel
theorem dX8_behind_46 : decode cX8_behind 46 = .ok (.iinc 3 (-1), 3) := by decide +kernel
theorem dX8_behind_49 : decode cX8_behind 49 = .ok (.goto (-42), 3) := by decide +kernel
theorem dX8_behind_52 : decode cX8_behind 52 = .ok (.iconst (-1), 1) := by decide +kernel
theorem dX8_behind_53 : decode cX8_behind 53 = .ok (.ireturn, 1) := by decide +kernel
theorem dX8_contradict_0 : decode cX8_contradict 0 = .ok (.aload_n 0, 1) := by decide +kernel
theorem dX8_contradict_1 : decode cX8_contradict 1 = .ok (.getfield 41, 3) := by decide +kernel
theorem dX8_contradict_4 : decode cX8_contradict 4 = .ok (.iload_n 1, 1) := by decide +kernel
theorem dX8_contradict_5 : decode cX8_contradict 5 = .ok (.iaload, 1) := by decide +kernel
theorem dX8_contradict_6 : decode cX8_contradict 6 = .ok (.aload_n 0, 1) := by decide +kernel
theorem dX8_contradict_7 : decode cX8_contradict 7 = .ok (.getfield 41, 3) := by decide +kernel
theorem dX8_contradict_10 : decode cX8_contradict 10 = .ok (.iload_n 2, 1) := by decide +kernel
theorem dX8_contradict_11 : decode cX8_contradict 11 = .ok (.iaload, 1) := by decide +kernel
theorem dX8_contradict_12 : decode cX8_contradict 12 = .ok (.if_icmp .ne 38, 3) := by decide +kernel
theorem dX8_contradict_15 : decode cX8_contradict 15 = .ok (.aload_n 0, 1) := by decide +kernel
theorem dX8_contradict_16 : decode cX8_contradict 16 = .ok (.getfield 44, 3) := by decide +kernel
theorem dX8_contradict_19 : decode cX8_contradict 19 = .ok (.iload_n 1, 1) := by decide +kernel
theorem dX8_contradict_20 : decode cX8_contradict 20 = .ok (.iaload, 1) := by decide +kernel
theorem dX8_contradict_21 : decode cX8_contradict 21 = .ok (.aload_n 0, 1) := by decide +kernel
theorem dX8_contradict_22 : decode cX8_contradict 22 = .ok (.getfield 44, 3) := by decide +kernel
theorem dX8_contradict_25 : decode cX8_contradict 25 = .ok (.iload_n 2, 1) := by decide +kernel
theorem dX8_contradict_26 : decode cX8_contradict 26 = .ok (.iaload, 1) := by decide +kernel
theorem dX8_contradict_27 : decode cX8_contradict 27 = .ok (.if_icmp .ne 23, 3) := by decide +kernel
theorem dX8_contradict_30 : decode cX8_contradict 30 = .ok (.aload_n 0, 1) := by decide +kernel
theorem dX8_contradict_31 : decode cX8_contradict 31 = .ok (.iload_n 1, 1) := by decide +kernel
theorem dX8_contradict_32 : decode cX8_contradict 32 = .ok (.invokevirtual 47, 3) := by decide +kernel
theorem dX8_contradict_35 : decode cX8_contradict 35 = .ok (.ifCond .eq 15, 3) := by decide +kernel
theorem dX8_contradict_38 : decode cX8_contradict 38 = .ok (.aload_n 0, 1) := by decide +kernel
theorem dX8_contradict_39 : decode cX8_contradict 39 = .ok (.iload_n 2, 1) := by decide +kernel
theorem dX8_contradict_40 : decode cX8_contradict 40 = .ok (.invokevirtual 47, 3) := by decide +kernel
theorem dX8_contradict_43 : decode cX8_contradict 43 = .ok (.ifCond .eq 7, 3) := by decide +kernel
theorem dX8_contradict_46 : decode cX8_contradict 46 = .ok (.iconst 1, 1) := by decide +kernel
theorem dX8_contradict_47 : decode cX8_contradict 47 = .ok (.goto 4, 3) := by decide +kernel
theorem dX8_contradict_50 : decode cX8_contradict 50 = .ok (.iconst 0, 1) := by decide +kernel
theorem dX8_contradict_51 : decode cX8_contradict 51 = .ok (.ireturn, 1) := by decide +kernel
theorem dX8_drawEdges_0 : decode cX8_drawEdges 0 = .ok (.iconst 0, 1) := by decide +kernel
theorem dX8_drawEdges_1 : decode cX8_drawEdges 1 = .ok (.istore_n 3, 1) := by decide +kernel
theorem dX8_drawEdges_2 : decode cX8_drawEdges 2 = .ok (.aload_n 0, 1) := by decide +kernel
theorem dX8_drawEdges_3 : decode cX8_drawEdges 3 = .ok (.getfield 15, 3) := by decide +kernel
theorem dX8_drawEdges_6 : decode cX8_drawEdges 6 = .ok (.iconst (-1), 1) := by decide +kernel
theorem dX8_drawEdges_7 : decode cX8_drawEdges 7 = .ok (.invokestatic 74, 3) := by decide +kernel
theorem dX8_drawEdges_10 : decode cX8_drawEdges 10 = .ok (.iconst 0, 1) := by decide +kernel
theorem dX8_drawEdges_11 : decode cX8_drawEdges 11 = .ok (.istore 4, 2) := by decide +kernel
theorem dX8_drawEdges_13 : decode cX8_drawEdges 13 = .ok (.iload 4, 2) := by decide +kernel
theorem dX8_drawEdges_15 : decode cX8_drawEdges 15 = .ok (.aload_n 1, 1) := by decide +kernel
theorem dX8_drawEdges_16 : decode cX8_drawEdges 16 = .ok (.getfield 38, 3) := by decide +kernel
theorem dX8_drawEdges_19 : decode cX8_drawEdges 19 = .ok (.if_icmp .ge 60, 3) := by decide +kernel
theorem dX8_drawEdges_22 : decode cX8_drawEdges 22 = .ok (.aload_n 1, 1) := by decide +kernel
theorem dX8_drawEdges_23 : decode cX8_drawEdges 23 = .ok (.getfield 44, 3) := by decide +kernel
theorem dX8_drawEdges_26 : decode cX8_drawEdges 26 = .ok (.iload 4, 2) := by decide +kernel
theorem dX8_drawEdges_28 : decode cX8_drawEdges 28 = .ok (.iaload, 1) := by decide +kernel
theorem dX8_drawEdges_29 : decode cX8_drawEdges 29 = .ok (.iload_n 2, 1) := by decide +kernel
theorem dX8_drawEdges_30 : decode cX8_drawEdges 30 = .ok (.if_icmp .ne 43, 3) := by decide +kernel
theorem dX8_drawEdges_33 : decode cX8_drawEdges 33 = .ok (.aload_n 1, 1) := by decide +kernel
theorem dX8_drawEdges_34 : decode cX8_drawEdges 34 = .ok (.iload 4, 2) := by decide +kernel
theorem dX8_drawEdges_36 : decode cX8_drawEdges 36 = .ok (.invokevirtual 47, 3) := by decide +kernel
theorem dX8_drawEdges_39 : decode cX8_drawEdges 39 = .ok (.ifCond .eq 34, 3) := by decide +kernel
theorem dX8_drawEdges_42 : decode cX8_drawEdges 42 = .ok (.aload_n 0, 1) := by decide +kernel
theorem dX8_drawEdges_43 : decode cX8_drawEdges 43 = .ok (.getfield 15, 3) := by decide +kernel
theorem dX8_drawEdges_46 : decode cX8_drawEdges 46 = .ok (.aload_n 1, 1) := by decide +kernel
theorem dX8_drawEdges_47 : decode cX8_drawEdges 47 = .ok (.getfield 41, 3) := by decide +kernel
theorem dX8_drawEdges_50 : decode cX8_drawEdges 50 = .ok (.iload 4, 2) := by decide +kernel
theorem dX8_drawEdges_52 : decode cX8_drawEdges 52 = .ok (.iaload, 1) := by decide +kernel
theorem dX8_drawEdges_53 : decode cX8_drawEdges 53 = .ok (.iconst 5, 1) := by decide +kernel
theorem dX8_drawEdges_54 : decode cX8_drawEdges 54 = .ok (.imul, 1) := by decide +kernel
theorem dX8_drawEdges_55 : decode cX8_drawEdges 55 = .ok (.aload_n 1, 1) := by decide +kernel
theorem dX8_drawEdges_56 : decode cX8_drawEdges 56 = .ok (.getfield 51, 3) := by decide +kernel
theorem dX8_drawEdges_59 : decode cX8_drawEdges 59 = .ok (.iload 4, 2) := by decide +kernel
theorem dX8_drawEdges_61 : decode cX8_drawEdges 61 = .ok (.iaload, 1) := by decide +kernel
theorem dX8_drawEdges_62 : decode cX8_drawEdges 62 = .ok (.iadd, 1) := by decide +kernel
theorem dX8_drawEdges_63 : decode cX8_drawEdges 63 = .ok (.iload 4, 2) := by decide +kernel
theorem dX8_drawEdges_65 : decode cX8_drawEdges 65 = .ok (.iastore, 1) := by decide +kernel
theorem dX8_drawEdges_66 : decode cX8_drawEdges 66 = .ok (.iload_n 3, 1) := by decide +kernel
theorem dX8_drawEdges_67 : decode cX8_drawEdges 67 = .ok (.iconst 1, 1) := by decide +kernel
theorem dX8_drawEdges_68 : decode cX8_drawEdges 68 = .ok (.iload 4, 2) := by decide +kernel
theorem dX8_drawEdges_70 : decode cX8_drawEdges 70 = .ok (.ishl, 1) := by decide +kernel
theorem dX8_drawEdges_71 : decode cX8_drawEdges 71 = .ok (.ior, 1) := by decide +kernel
theorem dX8_drawEdges_72 : decode cX8_drawEdges 72 = .ok (.istore_n 3, 1) := by decide +kernel
theorem dX8_drawEdges_73 : decode cX8_drawEdges 73 = .ok (.iinc 4 1, 3) := by decide +kernel
theorem dX8_drawEdges_76 : decode cX8_drawEdges 76 = .ok (.goto (-63), 3) := by decide +kernel
theorem dX8_drawEdges_79 : decode cX8_drawEdges 79 = .ok (.iload_n 3, 1) := by decide +kernel
theorem dX8_drawEdges_80 : decode cX8_drawEdges 80 = .ok (.ireturn, 1) := by decide +kernel
theorem dX8_follow_0 : decode cX8_follow 0 = .ok (.aload_n 0, 1) := by decide +kernel
theorem dX8_follow_1 : decode cX8_follow 1 = .ok (.iconst 0, 1) := by decide +kernel
theorem dX8_follow_2 : decode cX8_follow 2 = .ok (.putfield 21, 3) := by decide +kernel
theorem dX8_follow_5 : decode cX8_follow 5 = .ok (.aload_n 0, 1) := by decide +kernel
theorem dX8_follow_6 : decode cX8_follow 6 = .ok (.iconst 0, 1) := by decide +kernel
theorem dX8_follow_7 : decode cX8_follow 7 = .ok (.putfield 25, 3) := by decide +kernel
theorem dX8_follow_10 : decode cX8_follow 10 = .ok (.iconst 0, 1) := by decide +kernel
theorem dX8_follow_11 : decode cX8_follow 11 = .ok (.istore_n 3, 1) := by decide +kernel
theorem dX8_follow_12 : decode cX8_follow 12 = .ok (.aload_n 1, 1) := by decide +kernel
theorem dX8_follow_13 : decode cX8_follow 13 = .ok (.getfield 29, 3) := by decide +kernel
theorem dX8_follow_16 : decode cX8_follow 16 = .ok (.iload_n 2, 1) := by decide +kernel
theorem dX8_follow_17 : decode cX8_follow 17 = .ok (.iaload, 1) := by decide +kernel
theorem dX8_follow_18 : decode cX8_follow 18 = .ok (.istore 4, 2) := by decide +kernel
theorem dX8_follow_20 : decode cX8_follow 20 = .ok (.iconst 0, 1) := by decide +kernel
theorem dX8_follow_21 : decode cX8_follow 21 = .ok (.istore 5, 2) := by decide +kernel
theorem dX8_follow_23 : decode cX8_follow 23 = .ok (.iload 5, 2) := by decide +kernel
theorem dX8_follow_25 : decode cX8_follow 25 = .ok (.iconst 5, 1) := by decide +kernel
theorem dX8_follow_26 : decode cX8_follow 26 = .ok (.if_icmp .ge 83, 3) := by decide +kernel
theorem dX8_follow_29 : decode cX8_follow 29 = .ok (.iload 4, 2) := by decide +kernel
theorem dX8_follow_31 : decode cX8_follow 31 = .ok (.iconst (-1), 1) := by decide +kernel
theorem dX8_follow_32 : decode cX8_follow 32 = .ok (.if_icmp .eq 77, 3) := by decide +kernel
theorem dX8_follow_35 : decode cX8_follow 35 = .ok (.aload_n 0, 1) := by decide +kernel
theorem dX8_follow_36 : decode cX8_follow 36 = .ok (.getfield 25, 3) := by decide +kernel
theorem dX8_follow_39 : decode cX8_follow 39 = .ok (.ifCond .ne 70, 3) := by decide +kernel
theorem dX8_follow_42 : decode cX8_follow 42 = .ok (.aload_n 0, 1) := by decide +kernel
theorem dX8_follow_43 : decode cX8_follow 43 = .ok (.getfield 9, 3) := by decide +kernel
theorem dX8_follow_46 : decode cX8_follow 46 = .ok (.aload_n 0, 1) := by decide +kernel
theorem dX8_follow_47 : decode cX8_follow 47 = .ok (.getfield 21, 3) := by decide +kernel
theorem dX8_follow_50 : decode cX8_follow 50 = .ok (.iload 4, 2) := by decide +kernel
theorem dX8_follow_52 : decode cX8_follow 52 = .ok (.iastore, 1) := by decide +kernel
theorem dX8_follow_53 : decode cX8_follow 53 = .ok (.aload_n 0, 1) := by decide +kernel
theorem dX8_follow_54 : decode cX8_follow 54 = .ok (.dup, 1) := by decide +kernel
theorem dX8_follow_55 : decode cX8_follow 55 = .ok (.getfield 21, 3) := by decide +kernel
theorem dX8_follow_58 : decode cX8_follow 58 = .ok (.iconst 1, 1) := by decide +kernel
theorem dX8_follow_59 : decode cX8_follow 59 = .ok (.iadd, 1) := by decide +kernel
theorem dX8_follow_60 : decode cX8_follow 60 = .ok (.putfield 21, 3) := by decide +kernel
theorem dX8_follow_63 : decode cX8_follow 63 = .ok (.iload_n 3, 1) := by decide +kernel
theorem dX8_follow_64 : decode cX8_follow 64 = .ok (.iconst 1, 1) := by decide +kernel
theorem dX8_follow_65 : decode cX8_follow 65 = .ok (.iload 4, 2) := by decide +kernel
theorem dX8_follow_67 : decode cX8_follow 67 = .ok (.ishl, 1) := by decide +kernel
theorem dX8_follow_68 : decode cX8_follow 68 = .ok (.ior, 1) := by decide +kernel
theorem dX8_follow_69 : decode cX8_follow 69 = .ok (.istore_n 3, 1) := by decide +kernel
theorem dX8_follow_70 : decode cX8_follow 70 = .ok (.aload_n 1, 1) := by decide +kernel
theorem dX8_follow_71 : decode cX8_follow 71 = .ok (.iload 4, 2) := by decide +kernel
theorem dX8_follow_73 : decode cX8_follow 73 = .ok (.iload_n 2, 1) := by decide +kernel
theorem dX8_follow_74 : decode cX8_follow 74 = .ok (.invokestatic 34, 3) := by decide +kernel
theorem dX8_follow_77 : decode cX8_follow 77 = .ok (.istore 4, 2) := by decide +kernel
theorem dX8_follow_79 : decode cX8_follow 79 = .ok (.aload_n 0, 1) := by decide +kernel
theorem dX8_follow_80 : decode cX8_follow 80 = .ok (.iload 4, 2) := by decide +kernel
theorem dX8_follow_82 : decode cX8_follow 82 = .ok (.iconst (-1), 1) := by decide +kernel
theorem dX8_follow_83 : decode cX8_follow 83 = .ok (.if_icmp .eq 16, 3) := by decide +kernel
theorem dX8_follow_86 : decode cX8_follow 86 = .ok (.iload_n 3, 1) := by decide +kernel
theorem dX8_follow_87 : decode cX8_follow 87 = .ok (.iload 4, 2) := by decide +kernel
theorem dX8_follow_89 : decode cX8_follow 89 = .ok (.ishr, 1) := by decide +kernel
theorem dX8_follow_90 : decode cX8_follow 90 = .ok (.iconst 1, 1) := by decide +kernel
theorem dX8_follow_91 : decode cX8_follow 91 = .ok (.iand, 1) := by decide +kernel
theorem dX8_follow_92 : decode cX8_follow 92 = .ok (.ifCond .eq 7, 3) := by decide +kernel
theorem dX8_follow_95 : decode cX8_follow 95 = .ok (.iconst 1, 1) := by decide +kernel
theorem dX8_follow_96 : decode cX8_follow 96 = .ok (.goto 4, 3) := by decide +kernel
theorem dX8_follow_99 : decode cX8_follow 99 = .ok (.iconst 0, 1) := by decide +kernel
theorem dX8_follow_100 : decode cX8_follow 100 = .ok (.putfield 25, 3) := by decide +kernel
theorem dX8_follow_103 : decode cX8_follow 103 = .ok (.iinc 5 1, 3) := by decide +kernel
theorem dX8_follow_106 : decode cX8_follow 106 = .ok (.goto (-83), 3) := by decide +kernel
theorem dX8_follow_109 : decode cX8_follow 109 = .ok (.return_, 1) := by decide +kernel
theorem dX8_init_0 : decode cX8_init 0 = .ok (.aload_n 0, 1) := by decide +kernel
theorem dX8_init_1 : decode cX8_init 1 = .ok (.invokespecial 3, 3) := by decide +kernel
theorem dX8_init_4 : decode cX8_init 4 = .ok (.aload_n 0, 1) := by decide +kernel
theorem dX8_init_5 : decode cX8_init 5 = .ok (.iconst 5, 1) := by decide +kernel
theorem dX8_init_6 : decode cX8_init 6 = .ok (.newarray .int, 2) := by decide +kernel
theorem dX8_init_8 : decode cX8_init 8 = .ok (.putfield 9, 3) := by decide +kernel
theorem dX8_init_11 : decode cX8_init 11 = .ok (.aload_n 0, 1) := by decide +kernel
theorem dX8_init_12 : decode cX8_init 12 = .ok (.bipush 25, 2) := by decide +kernel
theorem dX8_init_14 : decode cX8_init 14 = .ok (.newarray .int, 2) := by decide +kernel
theorem dX8_init_16 : decode cX8_init 16 = .ok (.putfield 15, 3) := by decide +kernel
theorem dX8_init_19 : decode cX8_init 19 = .ok (.aload_n 0, 1) := by decide +kernel
theorem dX8_init_20 : decode cX8_init 20 = .ok (.iconst 5, 1) := by decide +kernel
theorem dX8_init_21 : decode cX8_init 21 = .ok (.newarray .int, 2) := by decide +kernel
theorem dX8_init_23 : decode cX8_init 23 = .ok (.putfield 18, 3) := by decide +kernel
theorem dX8_init_26 : decode cX8_init 26 = .ok (.return_, 1) := by decide +kernel
theorem dX8_isBetter_0 : decode cX8_isBetter 0 = .ok (.iload_n 1, 1) := by decide +kernel
theorem dX8_isBetter_1 : decode cX8_isBetter 1 = .ok (.invokestatic 87, 3) := by decide +kernel
theorem dX8_isBetter_4 : decode cX8_isBetter 4 = .ok (.aload_n 0, 1) := by decide +kernel
theorem dX8_isBetter_5 : decode cX8_isBetter 5 = .ok (.getfield 71, 3) := by decide +kernel
theorem dX8_isBetter_8 : decode cX8_isBetter 8 = .ok (.invokestatic 87, 3) := by decide +kernel
theorem dX8_isBetter_11 : decode cX8_isBetter 11 = .ok (.isub, 1) := by decide +kernel
theorem dX8_isBetter_12 : decode cX8_isBetter 12 = .ok (.istore_n 2, 1) := by decide +kernel
theorem dX8_isBetter_13 : decode cX8_isBetter 13 = .ok (.iload_n 2, 1) := by decide +kernel
theorem dX8_isBetter_14 : decode cX8_isBetter 14 = .ok (.ifCond .gt 15, 3) := by decide +kernel
theorem dX8_isBetter_17 : decode cX8_isBetter 17 = .ok (.iload_n 2, 1) := by decide +kernel
theorem dX8_isBetter_18 : decode cX8_isBetter 18 = .ok (.ifCond .ne 15, 3) := by decide +kernel
theorem dX8_isBetter_21 : decode cX8_isBetter 21 = .ok (.iload_n 1, 1) := by decide +kernel
theorem dX8_isBetter_22 : decode cX8_isBetter 22 = .ok (.aload_n 0, 1) := by decide +kernel
theorem dX8_isBetter_23 : decode cX8_isBetter 23 = .ok (.getfield 71, 3) := by decide +kernel
theorem dX8_isBetter_26 : decode cX8_isBetter 26 = .ok (.if_icmp .le 7, 3) := by decide +kernel
theorem dX8_isBetter_29 : decode cX8_isBetter 29 = .ok (.iconst 1, 1) := by decide +kernel
theorem dX8_isBetter_30 : decode cX8_isBetter 30 = .ok (.goto 4, 3) := by decide +kernel
theorem dX8_isBetter_33 : decode cX8_isBetter 33 = .ok (.iconst 0, 1) := by decide +kernel
theorem dX8_isBetter_34 : decode cX8_isBetter 34 = .ok (.ireturn, 1) := by decide +kernel
theorem dX8_keep_0 : decode cX8_keep 0 = .ok (.iload_n 1, 1) := by decide +kernel
theorem dX8_keep_1 : decode cX8_keep 1 = .ok (.iconst 5, 1) := by decide +kernel
theorem dX8_keep_2 : decode cX8_keep 2 = .ok (.if_icmp .lt 17, 3) := by decide +kernel
theorem dX8_keep_5 : decode cX8_keep 5 = .ok (.aload_n 0, 1) := by decide +kernel
theorem dX8_keep_6 : decode cX8_keep 6 = .ok (.iload_n 2, 1) := by decide +kernel
theorem dX8_keep_7 : decode cX8_keep 7 = .ok (.invokevirtual 84, 3) := by decide +kernel
theorem dX8_keep_10 : decode cX8_keep 10 = .ok (.ifCond .eq 8, 3) := by decide +kernel
theorem dX8_keep_13 : decode cX8_keep 13 = .ok (.aload_n 0, 1) := by decide +kernel
theorem dX8_keep_14 : decode cX8_keep 14 = .ok (.iload_n 2, 1) := by decide +kernel
theorem dX8_keep_15 : decode cX8_keep 15 = .ok (.putfield 71, 3) := by decide +kernel
theorem dX8_keep_18 : decode cX8_keep 18 = .ok (.return_, 1) := by decide +kernel
theorem dX8_keep_19 : decode cX8_keep 19 = .ok (.iload_n 2, 1) := by decide +kernel
theorem dX8_keep_20 : decode cX8_keep 20 = .ok (.invokestatic 87, 3) := by decide +kernel
theorem dX8_keep_23 : decode cX8_keep 23 = .ok (.iconst 5, 1) := by decide +kernel
theorem dX8_keep_24 : decode cX8_keep 24 = .ok (.iadd, 1) := by decide +kernel
theorem dX8_keep_25 : decode cX8_keep 25 = .ok (.iload_n 1, 1) := by decide +kernel
theorem dX8_keep_26 : decode cX8_keep 26 = .ok (.isub, 1) := by decide +kernel
theorem dX8_keep_27 : decode cX8_keep 27 = .ok (.aload_n 0, 1) := by decide +kernel
theorem dX8_keep_28 : decode cX8_keep 28 = .ok (.getfield 71, 3) := by decide +kernel
theorem dX8_keep_31 : decode cX8_keep 31 = .ok (.invokestatic 87, 3) := by decide +kernel
theorem dX8_keep_34 : decode cX8_keep 34 = .ok (.if_icmp .ge 4, 3) := by decide +kernel
theorem dX8_keep_37 : decode cX8_keep 37 = .ok (.return_, 1) := by decide +kernel
theorem dX8_keep_38 : decode cX8_keep 38 = .ok (.iconst 0, 1) := by decide +kernel
theorem dX8_keep_39 : decode cX8_keep 39 = .ok (.istore_n 3, 1) := by decide +kernel
theorem dX8_keep_40 : decode cX8_keep 40 = .ok (.iload_n 3, 1) := by decide +kernel
theorem dX8_keep_41 : decode cX8_keep 41 = .ok (.iconst 5, 1) := by decide +kernel
theorem dX8_keep_42 : decode cX8_keep 42 = .ok (.if_icmp .ge 63, 3) := by decide +kernel
theorem dX8_keep_45 : decode cX8_keep 45 = .ok (.aload_n 0, 1) := by decide +kernel
theorem dX8_keep_46 : decode cX8_keep 46 = .ok (.getfield 15, 3) := by decide +kernel
theorem dX8_keep_49 : decode cX8_keep 49 = .ok (.iload_n 1, 1) := by decide +kernel
theorem dX8_keep_50 : decode cX8_keep 50 = .ok (.iconst 5, 1) := by decide +kernel
theorem dX8_keep_51 : decode cX8_keep 51 = .ok (.imul, 1) := by decide +kernel
theorem dX8_keep_52 : decode cX8_keep 52 = .ok (.iload_n 3, 1) := by decide +kernel
theorem dX8_keep_53 : decode cX8_keep 53 = .ok (.iadd, 1) := by decide +kernel
theorem dX8_keep_54 : decode cX8_keep 54 = .ok (.iaload, 1) := by decide +kernel
theorem dX8_keep_55 : decode cX8_keep 55 = .ok (.istore 4, 2) := by decide +kernel
theorem dX8_keep_57 : decode cX8_keep 57 = .ok (.iload 4, 2) := by decide +kernel
theorem dX8_keep_59 : decode cX8_keep 59 = .ok (.iconst (-1), 1) := by decide +kernel
theorem dX8_keep_60 : decode cX8_keep 60 = .ok (.if_icmp .eq 39, 3) := by decide +kernel
theorem dX8_keep_63 : decode cX8_keep 63 = .ok (.aload_n 0, 1) := by decide +kernel
theorem dX8_keep_64 : decode cX8_keep 64 = .ok (.iload_n 3, 1) := by decide +kernel
theorem dX8_keep_65 : decode cX8_keep 65 = .ok (.iload_n 1, 1) := by decide +kernel
theorem dX8_keep_66 : decode cX8_keep 66 = .ok (.invokevirtual 93, 3) := by decide +kernel
theorem dX8_keep_69 : decode cX8_keep 69 = .ok (.ifCond .ne 30, 3) := by decide +kernel
theorem dX8_keep_72 : decode cX8_keep 72 = .ok (.aload_n 0, 1) := by decide +kernel
theorem dX8_keep_73 : decode cX8_keep 73 = .ok (.getfield 18, 3) := by decide +kernel
theorem dX8_keep_76 : decode cX8_keep 76 = .ok (.iload_n 1, 1) := by decide +kernel
theorem dX8_keep_77 : decode cX8_keep 77 = .ok (.iload_n 3, 1) := by decide +kernel
theorem dX8_keep_78 : decode cX8_keep 78 = .ok (.iastore, 1) := by decide +kernel
theorem dX8_keep_79 : decode cX8_keep 79 = .ok (.aload_n 0, 1) := by decide +kernel
theorem dX8_keep_80 : decode cX8_keep 80 = .ok (.iload_n 1, 1) := by decide +kernel
theorem dX8_keep_81 : decode cX8_keep 81 = .ok (.iconst 1, 1) := by decide +kernel
theorem dX8_keep_82 : decode cX8_keep 82 = .ok (.iadd, 1) := by decide +kernel
theorem dX8_keep_83 : decode cX8_keep 83 = .ok (.iload_n 2, 1) := by decide +kernel
theorem dX8_keep_84 : decode cX8_keep 84 = .ok (.iconst 1, 1) := by decide +kernel
theorem dX8_keep_85 : decode cX8_keep 85 = .ok (.iload 4, 2) := by decide +kernel
theorem dX8_keep_87 : decode cX8_keep 87 = .ok (.ishl, 1) := by decide +kernel
theorem dX8_keep_88 : decode cX8_keep 88 = .ok (.ior, 1) := by decide +kernel
theorem dX8_keep_89 : decode cX8_keep 89 = .ok (.invokevirtual 80, 3) := by decide +kernel
theorem dX8_keep_92 : decode cX8_keep 92 = .ok (.aload_n 0, 1) := by decide +kernel
theorem dX8_keep_93 : decode cX8_keep 93 = .ok (.getfield 18, 3) := by decide +kernel
theorem dX8_keep_96 : decode cX8_keep 96 = .ok (.iload_n 1, 1) := by decide +kernel
theorem dX8_keep_97 : decode cX8_keep 97 = .ok (.iconst (-1), 1) := by decide +kernel
theorem dX8_keep_98 : decode cX8_keep 98 = .ok (.iastore, 1) := by decide +kernel
theorem dX8_keep_99 : decode cX8_keep 99 = .ok (.iinc 3 1, 3) := by decide +kernel
theorem dX8_keep_102 : decode cX8_keep 102 = .ok (.goto (-62), 3) := by decide +kernel
theorem dX8_keep_105 : decode cX8_keep 105 = .ok (.aload_n 0, 1) := by decide +kernel
theorem dX8_keep_106 : decode cX8_keep 106 = .ok (.iload_n 1, 1) := by decide +kernel
theorem dX8_keep_107 : decode cX8_keep 107 = .ok (.iconst 1, 1) := by decide +kernel
theorem dX8_keep_108 : decode cX8_keep 108 = .ok (.iadd, 1) := by decide +kernel
theorem dX8_keep_109 : decode cX8_keep 109 = .ok (.iload_n 2, 1) := by decide +kernel
theorem dX8_keep_110 : decode cX8_keep 110 = .ok (.invokevirtual 80, 3) := by decide +kernel
theorem dX8_keep_113 : decode cX8_keep 113 = .ok (.return_, 1) := by decide +kernel
theorem dX8_last_0 : decode cX8_last 0 = .ok (.aload_n 0, 1) := by decide +kernel
theorem dX8_last_1 : decode cX8_last 1 = .ok (.getfield 25, 3) := by decide +kernel
theorem dX8_last_4 : decode cX8_last 4 = .ok (.ifCond .ne 10, 3) := by decide +kernel
theorem dX8_last_7 : decode cX8_last 7 = .ok (.aload_n 0, 1) := by decide +kernel
theorem dX8_last_8 : decode cX8_last 8 = .ok (.getfield 21, 3) := by decide +kernel
theorem dX8_last_11 : decode cX8_last 11 = .ok (.ifCond .ne 7, 3) := by decide +kernel
theorem dX8_last_14 : decode cX8_last 14 = .ok (.iconst (-1), 1) := by decide +kernel
theorem dX8_last_15 : decode cX8_last 15 = .ok (.goto 14, 3) := by decide +kernel
theorem dX8_last_18 : decode cX8_last 18 = .ok (.aload_n 0, 1) := by decide +kernel
theorem dX8_last_19 : decode cX8_last 19 = .ok (.getfield 9, 3) := by decide +kernel
theorem dX8_last_22 : decode cX8_last 22 = .ok (.aload_n 0, 1) := by decide +kernel
theorem dX8_last_23 : decode cX8_last 23 = .ok (.getfield 21, 3) := by decide +kernel
theorem dX8_last_26 : decode cX8_last 26 = .ok (.iconst 1, 1) := by decide +kernel
theorem dX8_last_27 : decode cX8_last 27 = .ok (.isub, 1) := by decide +kernel
theorem dX8_last_28 : decode cX8_last 28 = .ok (.iaload, 1) := by decide +kernel
theorem dX8_last_29 : decode cX8_last 29 = .ok (.ireturn, 1) := by decide +kernel
theorem dX8_leads_0 : decode cX8_leads 0 = .ok (.iload_n 1, 1) := by decide +kernel
theorem dX8_leads_1 : decode cX8_leads 1 = .ok (.istore_n 3, 1) := by decide +kernel
theorem dX8_leads_2 : decode cX8_leads 2 = .ok (.iconst 0, 1) := by decide +kernel
theorem dX8_leads_3 : decode cX8_leads 3 = .ok (.istore 4, 2) := by decide +kernel
theorem dX8_leads_5 : decode cX8_leads 5 = .ok (.iload 4, 2) := by decide +kernel
theorem dX8_leads_7 : decode cX8_leads 7 = .ok (.iconst 5, 1) := by decide +kernel
theorem dX8_leads_8 : decode cX8_leads 8 = .ok (.if_icmp .ge 28, 3) := by decide +kernel
theorem dX8_leads_11 : decode cX8_leads 11 = .ok (.iload_n 3, 1) := by decide +kernel
theorem dX8_leads_12 : decode cX8_leads 12 = .ok (.iconst (-1), 1) := by decide +kernel
theorem dX8_leads_13 : decode cX8_leads 13 = .ok (.if_icmp .eq 23, 3) := by decide +kernel
theorem dX8_leads_16 : decode cX8_leads 16 = .ok (.iload_n 3, 1) := by decide +kernel
theorem dX8_leads_17 : decode cX8_leads 17 = .ok (.iload_n 2, 1) := by decide +kernel
theorem dX8_leads_18 : decode cX8_leads 18 = .ok (.if_icmp .ne 5, 3) := by decide +kernel
theorem dX8_leads_21 : decode cX8_leads 21 = .ok (.iconst 1, 1) := by decide +kernel
theorem dX8_leads_22 : decode cX8_leads 22 = .ok (.ireturn, 1) := by decide +kernel
theorem dX8_leads_23 : decode cX8_leads 23 = .ok (.aload_n 0, 1) := by decide +kernel
theorem dX8_leads_24 : decode cX8_leads 24 = .ok (.getfield 18, 3) := by decide +kernel
theorem dX8_leads_27 : decode cX8_leads 27 = .ok (.iload_n 3, 1) := by decide +kernel
theorem dX8_leads_28 : decode cX8_leads 28 = .ok (.iaload, 1) := by decide +kernel
theorem dX8_leads_29 : decode cX8_leads 29 = .ok (.istore_n 3, 1) := by decide +kernel
theorem dX8_leads_30 : decode cX8_leads 30 = .ok (.iinc 4 1, 3) := by decide +kernel
theorem dX8_leads_33 : decode cX8_leads 33 = .ok (.goto (-28), 3) := by decide +kernel
theorem dX8_leads_36 : decode cX8_leads 36 = .ok (.iconst 0, 1) := by decide +kernel
theorem dX8_leads_37 : decode cX8_leads 37 = .ok (.ireturn, 1) := by decide +kernel
theorem dX8_pairs_0 : decode cX8_pairs 0 = .ok (.iconst 0, 1) := by decide +kernel
theorem dX8_pairs_1 : decode cX8_pairs 1 = .ok (.istore_n 2, 1) := by decide +kernel
theorem dX8_pairs_2 : decode cX8_pairs 2 = .ok (.iconst 0, 1) := by decide +kernel
theorem dX8_pairs_3 : decode cX8_pairs 3 = .ok (.istore_n 3, 1) := by decide +kernel
theorem dX8_pairs_4 : decode cX8_pairs 4 = .ok (.iload_n 3, 1) := by decide +kernel
theorem dX8_pairs_5 : decode cX8_pairs 5 = .ok (.aload_n 1, 1) := by decide +kernel
theorem dX8_pairs_6 : decode cX8_pairs 6 = .ok (.getfield 38, 3) := by decide +kernel
theorem dX8_pairs_9 : decode cX8_pairs 9 = .ok (.if_icmp .ge 42, 3) := by decide +kernel
theorem dX8_pairs_12 : decode cX8_pairs 12 = .ok (.iconst 0, 1) := by decide +kernel
theorem dX8_pairs_13 : decode cX8_pairs 13 = .ok (.istore 4, 2) := by decide +kernel
theorem dX8_pairs_15 : decode cX8_pairs 15 = .ok (.iload 4, 2) := by decide +kernel
theorem dX8_pairs_17 : decode cX8_pairs 17 = .ok (.iload_n 3, 1) := by decide +kernel
theorem dX8_pairs_18 : decode cX8_pairs 18 = .ok (.if_icmp .ge 27, 3) := by decide +kernel
theorem dX8_pairs_21 : decode cX8_pairs 21 = .ok (.iload_n 2, 1) := by decide +kernel
theorem dX8_pairs_22 : decode cX8_pairs 22 = .ok (.aload_n 1, 1) := by decide +kernel
theorem dX8_pairs_23 : decode cX8_pairs 23 = .ok (.iload_n 3, 1) := by decide +kernel
theorem dX8_pairs_24 : decode cX8_pairs 24 = .ok (.iload 4, 2) := by decide +kernel
theorem dX8_pairs_26 : decode cX8_pairs 26 = .ok (.invokestatic 54, 3) := by decide +kernel
theorem dX8_pairs_29 : decode cX8_pairs 29 = .ok (.ifCond .eq 7, 3) := by decide +kernel
theorem dX8_pairs_32 : decode cX8_pairs 32 = .ok (.iconst 1, 1) := by decide +kernel
theorem dX8_pairs_33 : decode cX8_pairs 33 = .ok (.goto 4, 3) := by decide +kernel
theorem dX8_pairs_36 : decode cX8_pairs 36 = .ok (.iconst 0, 1) := by decide +kernel
theorem dX8_pairs_37 : decode cX8_pairs 37 = .ok (.iadd, 1) := by decide +kernel
theorem dX8_pairs_38 : decode cX8_pairs 38 = .ok (.istore_n 2, 1) := by decide +kernel
theorem dX8_pairs_39 : decode cX8_pairs 39 = .ok (.iinc 4 1, 3) := by decide +kernel
theorem dX8_pairs_42 : decode cX8_pairs 42 = .ok (.goto (-27), 3) := by decide +kernel
theorem dX8_pairs_45 : decode cX8_pairs 45 = .ok (.iinc 3 1, 3) := by decide +kernel
theorem dX8_pairs_48 : decode cX8_pairs 48 = .ok (.goto (-44), 3) := by decide +kernel
theorem dX8_pairs_51 : decode cX8_pairs 51 = .ok (.iload_n 2, 1) := by decide +kernel
theorem dX8_pairs_52 : decode cX8_pairs 52 = .ok (.ireturn, 1) := by decide +kernel
theorem dX8_toStrike_0 : decode cX8_toStrike 0 = .ok (.iconst 0, 1) := by decide +kernel
theorem dX8_toStrike_1 : decode cX8_toStrike 1 = .ok (.istore_n 2, 1) := by decide +kernel
theorem dX8_toStrike_2 : decode cX8_toStrike 2 = .ok (.iconst 0, 1) := by decide +kernel
theorem dX8_toStrike_3 : decode cX8_toStrike 3 = .ok (.istore_n 3, 1) := by decide +kernel
theorem dX8_toStrike_4 : decode cX8_toStrike 4 = .ok (.iload_n 3, 1) := by decide +kernel
theorem dX8_toStrike_5 : decode cX8_toStrike 5 = .ok (.aload_n 1, 1) := by decide +kernel
theorem dX8_toStrike_6 : decode cX8_toStrike 6 = .ok (.getfield 58, 3) := by decide +kernel
theorem dX8_toStrike_9 : decode cX8_toStrike 9 = .ok (.getfield 62, 3) := by decide +kernel
theorem dX8_toStrike_12 : decode cX8_toStrike 12 = .ok (.if_icmp .ge 48, 3) := by decide +kernel
theorem dX8_toStrike_15 : decode cX8_toStrike 15 = .ok (.aload_n 0, 1) := by decide +kernel
theorem dX8_toStrike_16 : decode cX8_toStrike 16 = .ok (.aload_n 1, 1) := by decide +kernel
theorem dX8_toStrike_17 : decode cX8_toStrike 17 = .ok (.iload_n 3, 1) := by decide +kernel
theorem dX8_toStrike_18 : decode cX8_toStrike 18 = .ok (.invokevirtual 67, 3) := by decide +kernel
theorem dX8_toStrike_21 : decode cX8_toStrike 21 = .ok (.istore 4, 2) := by decide +kernel
theorem dX8_toStrike_23 : decode cX8_toStrike 23 = .ok (.aload_n 0, 1) := by decide +kernel
theorem dX8_toStrike_24 : decode cX8_toStrike 24 = .ok (.iconst 0, 1) := by decide +kernel
theorem dX8_toStrike_25 : decode cX8_toStrike 25 = .ok (.putfield 71, 3) := by decide +kernel
theorem dX8_toStrike_28 : decode cX8_toStrike 28 = .ok (.aload_n 0, 1) := by decide +kernel
theorem dX8_toStrike_29 : decode cX8_toStrike 29 = .ok (.getfield 18, 3) := by decide +kernel
theorem dX8_toStrike_32 : decode cX8_toStrike 32 = .ok (.iconst (-1), 1) := by decide +kernel
theorem dX8_toStrike_33 : decode cX8_toStrike 33 = .ok (.invokestatic 74, 3) := by decide +kernel
theorem dX8_toStrike_36 : decode cX8_toStrike 36 = .ok (.aload_n 0, 1) := by decide +kernel
theorem dX8_toStrike_37 : decode cX8_toStrike 37 = .ok (.iconst 0, 1) := by decide +kernel
theorem dX8_toStrike_38 : decode cX8_toStrike 38 = .ok (.iconst 0, 1) := by decide +kernel
theorem dX8_toStrike_39 : decode cX8_toStrike 39 = .ok (.invokevirtual 80, 3) := by decide +kernel
theorem dX8_toStrike_42 : decode cX8_toStrike 42 = .ok (.iload_n 2, 1) := by decide +kernel
theorem dX8_toStrike_43 : decode cX8_toStrike 43 = .ok (.iload 4, 2) := by decide +kernel
theorem dX8_toStrike_45 : decode cX8_toStrike 45 = .ok (.aload_n 0, 1) := by decide +kernel
theorem dX8_toStrike_46 : decode cX8_toStrike 46 = .ok (.getfield 71, 3) := by decide +kernel
theorem dX8_toStrike_49 : decode cX8_toStrike 49 = .ok (.iconst (-1), 1) := by decide +kernel
theorem dX8_toStrike_50 : decode cX8_toStrike 50 = .ok (.ixor, 1) := by decide +kernel
theorem dX8_toStrike_51 : decode cX8_toStrike 51 = .ok (.iand, 1) := by decide +kernel
theorem dX8_toStrike_52 : decode cX8_toStrike 52 = .ok (.ior, 1) := by decide +kernel
theorem dX8_toStrike_53 : decode cX8_toStrike 53 = .ok (.istore_n 2, 1) := by decide +kernel
theorem dX8_toStrike_54 : decode cX8_toStrike 54 = .ok (.iinc 3 1, 3) := by decide +kernel
theorem dX8_toStrike_57 : decode cX8_toStrike 57 = .ok (.goto (-53), 3) := by decide +kernel
theorem dX8_toStrike_60 : decode cX8_toStrike 60 = .ok (.iload_n 2, 1) := by decide +kernel
theorem dX8_toStrike_61 : decode cX8_toStrike 61 = .ok (.ireturn, 1) := by decide +kernel
theorem dX9_act_0 : decode cX9_act 0 = .ok (.iload_n 1, 1) := by decide +kernel
theorem dX9_act_1 : decode cX9_act 1 = .ok (.tableswitch 82 0 5 #[39, 48, 55, 61, 67, 74], 39) := by decide +kernel
theorem dX9_act_40 : decode cX9_act 40 = .ok (.aload_n 0, 1) := by decide +kernel
theorem dX9_act_41 : decode cX9_act 41 = .ok (.iload_n 2, 1) := by decide +kernel
theorem dX9_act_42 : decode cX9_act 42 = .ok (.iload_n 3, 1) := by decide +kernel
theorem dX9_act_43 : decode cX9_act 43 = .ok (.iload 4, 2) := by decide +kernel
theorem dX9_act_45 : decode cX9_act 45 = .ok (.invokevirtual 80, 3) := by decide +kernel
theorem dX9_act_48 : decode cX9_act 48 = .ok (.ireturn, 1) := by decide +kernel
theorem dX9_act_49 : decode cX9_act 49 = .ok (.aload_n 0, 1) := by decide +kernel
theorem dX9_act_50 : decode cX9_act 50 = .ok (.iload_n 2, 1) := by decide +kernel
theorem dX9_act_51 : decode cX9_act 51 = .ok (.iload_n 3, 1) := by decide +kernel
theorem dX9_act_52 : decode cX9_act 52 = .ok (.invokevirtual 84, 3) := by decide +kernel
theorem dX9_act_55 : decode cX9_act 55 = .ok (.ireturn, 1) := by decide +kernel
theorem dX9_act_56 : decode cX9_act 56 = .ok (.aload_n 0, 1) := by decide +kernel
theorem dX9_act_57 : decode cX9_act 57 = .ok (.iload_n 2, 1) := by decide +kernel
theorem dX9_act_58 : decode cX9_act 58 = .ok (.invokevirtual 88, 3) := by decide +kernel
theorem dX9_act_61 : decode cX9_act 61 = .ok (.ireturn, 1) := by decide +kernel
theorem dX9_act_62 : decode cX9_act 62 = .ok (.aload_n 0, 1) := by decide +kernel
theorem dX9_act_63 : decode cX9_act 63 = .ok (.iload_n 2, 1) := by decide +kernel
theorem dX9_act_64 : decode cX9_act 64 = .ok (.invokevirtual 92, 3) := by decide +kernel
theorem dX9_act_67 : decode cX9_act 67 = .ok (.ireturn, 1) := by decide +kernel
theorem dX9_act_68 : decode cX9_act 68 = .ok (.aload_n 0, 1) := by decide +kernel
theorem dX9_act_69 : decode cX9_act 69 = .ok (.iload_n 2, 1) := by decide +kernel
theorem dX9_act_70 : decode cX9_act 70 = .ok (.iload_n 3, 1) := by decide +kernel
theorem dX9_act_71 : decode cX9_act 71 = .ok (.invokevirtual 95, 3) := by decide +kernel
theorem dX9_act_74 : decode cX9_act 74 = .ok (.ireturn, 1) := by decide +kernel
theorem dX9_act_75 : decode cX9_act 75 = .ok (.aload_n 0, 1) := by decide +kernel
theorem dX9_act_76 : decode cX9_act 76 = .ok (.invokevirtual 98, 3) := by decide +kernel
theorem dX9_act_79 : decode cX9_act 79 = .ok (.invokestatic 102, 3) := by decide +kernel
theorem dX9_act_82 : decode cX9_act 82 = .ok (.ireturn, 1) := by decide +kernel
theorem dX9_act_83 : decode cX9_act 83 = .ok (.bipush (-2), 2) := by decide +kernel
theorem dX9_act_85 : decode cX9_act 85 = .ok (.ireturn, 1) := by decide +kernel
theorem dX9_allPurses_0 : decode cX9_allPurses 0 = .ok (.iconst 0, 1) := by decide +kernel
theorem dX9_allPurses_1 : decode cX9_allPurses 1 = .ok (.istore_n 1, 1) := by decide +kernel
theorem dX9_allPurses_2 : decode cX9_allPurses 2 = .ok (.iconst 0, 1) := by decide +kernel
theorem dX9_allPurses_3 : decode cX9_allPurses 3 = .ok (.istore_n 2, 1) := by decide +kernel
theorem dX9_allPurses_4 : decode cX9_allPurses 4 = .ok (.iload_n 2, 1) := by decide +kernel
theorem dX9_allPurses_5 : decode cX9_allPurses 5 = .ok (.aload_n 0, 1) := by decide +kernel
theorem dX9_allPurses_6 : decode cX9_allPurses 6 = .ok (.getfield 45, 3) := by decide +kernel
theorem dX9_allPurses_9 : decode cX9_allPurses 9 = .ok (.getfield 162, 3) := by decide +kernel
theorem dX9_allPurses_12 : decode cX9_allPurses 12 = .ok (.if_icmp .ge 18, 3) := by decide +kernel
theorem dX9_allPurses_15 : decode cX9_allPurses 15 = .ok (.iload_n 1, 1) := by decide +kernel
theorem dX9_allPurses_16 : decode cX9_allPurses 16 = .ok (.aload_n 0, 1) := by decide +kernel
theorem dX9_allPurses_17 : decode cX9_allPurses 17 = .ok (.getfield 9, 3) := by decide +kernel
theorem dX9_allPurses_20 : decode cX9_allPurses 20 = .ok (.iload_n 2, 1) := by decide +kernel
theorem dX9_allPurses_21 : decode cX9_allPurses 21 = .ok (.iaload, 1) := by decide +kernel
theorem dX9_allPurses_22 : decode cX9_allPurses 22 = .ok (.iadd, 1) := by decide +kernel
theorem dX9_allPurses_23 : decode cX9_allPurses 23 = .ok (.istore_n 1, 1) := by decide +kernel
theorem dX9_allPurses_24 : decode cX9_allPurses 24 = .ok (.iinc 2 1, 3) := by decide +kernel
theorem dX9_allPurses_27 : decode cX9_allPurses 27 = .ok (.goto (-23), 3) := by decide +kernel
theorem dX9_allPurses_30 : decode cX9_allPurses 30 = .ok (.iload_n 1, 1) := by decide +kernel
theorem dX9_allPurses_31 : decode cX9_allPurses 31 = .ok (.ireturn, 1) := by decide +kernel
theorem dX9_begin_0 : decode cX9_begin 0 = .ok (.aload_n 0, 1) := by decide +kernel
theorem dX9_begin_1 : decode cX9_begin 1 = .ok (.iconst 0, 1) := by decide +kernel
theorem dX9_begin_2 : decode cX9_begin 2 = .ok (.putfield 49, 3) := by decide +kernel
theorem dX9_begin_5 : decode cX9_begin 5 = .ok (.aload_n 0, 1) := by decide +kernel
theorem dX9_begin_6 : decode cX9_begin 6 = .ok (.iconst 0, 1) := by decide +kernel
theorem dX9_begin_7 : decode cX9_begin 7 = .ok (.putfield 53, 3) := by decide +kernel
theorem dX9_begin_10 : decode cX9_begin 10 = .ok (.aload_n 0, 1) := by decide +kernel
theorem dX9_begin_11 : decode cX9_begin 11 = .ok (.aload_n 0, 1) := by decide +kernel
theorem dX9_begin_12 : decode cX9_begin 12 = .ok (.getfield 45, 3) := by decide +kernel
theorem dX9_begin_15 : decode cX9_begin 15 = .ok (.getfield 56, 3) := by decide +kernel
theorem dX9_begin_18 : decode cX9_begin 18 = .ok (.putfield 61, 3) := by decide +kernel
theorem dX9_begin_21 : decode cX9_begin 21 = .ok (.aload_n 0, 1) := by decide +kernel
theorem dX9_begin_22 : decode cX9_begin 22 = .ok (.getfield 45, 3) := by decide +kernel
theorem dX9_begin_25 : decode cX9_begin 25 = .ok (.getfield 62, 3) := by decide +kernel
theorem dX9_begin_28 : decode cX9_begin 28 = .ok (.iconst 0, 1) := by decide +kernel
theorem dX9_begin_29 : decode cX9_begin 29 = .ok (.aload_n 0, 1) := by decide +kernel
theorem dX9_begin_30 : decode cX9_begin 30 = .ok (.getfield 9, 3) := by decide +kernel
theorem dX9_begin_33 : decode cX9_begin 33 = .ok (.iconst 0, 1) := by decide +kernel
theorem dX9_begin_34 : decode cX9_begin 34 = .ok (.iconst 5, 1) := by decide +kernel
theorem dX9_begin_35 : decode cX9_begin 35 = .ok (.invokestatic 65, 3) := by decide +kernel
theorem dX9_begin_38 : decode cX9_begin 38 = .ok (.aload_n 0, 1) := by decide +kernel
theorem dX9_begin_39 : decode cX9_begin 39 = .ok (.getfield 45, 3) := by decide +kernel
theorem dX9_begin_42 : decode cX9_begin 42 = .ok (.getfield 71, 3) := by decide +kernel
theorem dX9_begin_45 : decode cX9_begin 45 = .ok (.iconst 0, 1) := by decide +kernel
theorem dX9_begin_46 : decode cX9_begin 46 = .ok (.aload_n 0, 1) := by decide +kernel
theorem dX9_begin_47 : decode cX9_begin 47 = .ok (.getfield 15, 3) := by decide +kernel
theorem dX9_begin_50 : decode cX9_begin 50 = .ok (.iconst 0, 1) := by decide +kernel
theorem dX9_begin_51 : decode cX9_begin 51 = .ok (.bipush 6, 2) := by decide +kernel
theorem dX9_begin_53 : decode cX9_begin 53 = .ok (.invokestatic 65, 3) := by decide +kernel
theorem dX9_begin_56 : decode cX9_begin 56 = .ok (.aload_n 0, 1) := by decide +kernel
theorem dX9_begin_57 : decode cX9_begin 57 = .ok (.getfield 18, 3) := by decide +kernel
theorem dX9_begin_60 : decode cX9_begin 60 = .ok (.iconst 0, 1) := by decide +kernel
theorem dX9_begin_61 : decode cX9_begin 61 = .ok (.invokestatic 74, 3) := by decide +kernel
theorem dX9_begin_64 : decode cX9_begin 64 = .ok (.iconst 0, 1) := by decide +kernel
theorem dX9_begin_65 : decode cX9_begin 65 = .ok (.istore_n 1, 1) := by decide +kernel
theorem dX9_begin_66 : decode cX9_begin 66 = .ok (.iload_n 1, 1) := by decide +kernel
theorem dX9_begin_67 : decode cX9_begin 67 = .ok (.bipush 6, 2) := by decide +kernel
theorem dX9_begin_69 : decode cX9_begin 69 = .ok (.if_icmp .ge 27, 3) := by decide +kernel
theorem dX9_begin_72 : decode cX9_begin 72 = .ok (.aload_n 0, 1) := by decide +kernel
theorem dX9_begin_73 : decode cX9_begin 73 = .ok (.getfield 36, 3) := by decide +kernel
theorem dX9_begin_76 : decode cX9_begin 76 = .ok (.iload_n 1, 1) := by decide +kernel
theorem dX9_begin_77 : decode cX9_begin 77 = .ok (.bipush 49, 2) := by decide +kernel
theorem dX9_begin_79 : decode cX9_begin 79 = .ok (.imul, 1) := by decide +kernel
theorem dX9_begin_80 : decode cX9_begin 80 = .ok (.aload_n 0, 1) := by decide +kernel
theorem dX9_begin_81 : decode cX9_begin 81 = .ok (.getfield 45, 3) := by decide +kernel
theorem dX9_begin_84 : decode cX9_begin 84 = .ok (.getfield 71, 3) := by decide +kernel
theorem dX9_begin_87 : decode cX9_begin 87 = .ok (.iload_n 1, 1) := by decide +kernel
theorem dX9_begin_88 : decode cX9_begin 88 = .ok (.iaload, 1) := by decide +kernel
theorem dX9_begin_89 : decode cX9_begin 89 = .ok (.iastore, 1) := by decide +kernel
theorem dX9_begin_90 : decode cX9_begin 90 = .ok (.iinc 1 1, 3) := by decide +kernel
theorem dX9_begin_93 : decode cX9_begin 93 = .ok (.goto (-27), 3) := by decide +kernel
theorem dX9_begin_96 : decode cX9_begin 96 = .ok (.return_, 1) := by decide +kernel
theorem dX9_binds_0 : decode cX9_binds 0 = .ok (.aload_n 0, 1) := by decide +kernel
theorem dX9_binds_1 : decode cX9_binds 1 = .ok (.iload_n 1, 1) := by decide +kernel
theorem dX9_binds_2 : decode cX9_binds 2 = .ok (.invokevirtual 125, 3) := by decide +kernel
theorem dX9_binds_5 : decode cX9_binds 5 = .ok (.ifCond .eq 22, 3) := by decide +kernel
theorem dX9_binds_8 : decode cX9_binds 8 = .ok (.aload_n 0, 1) := by decide +kernel
theorem dX9_binds_9 : decode cX9_binds 9 = .ok (.getfield 27, 3) := by decide +kernel
theorem dX9_binds_12 : decode cX9_binds 12 = .ok (.iload_n 1, 1) := by decide +kernel
theorem dX9_binds_13 : decode cX9_binds 13 = .ok (.iaload, 1) := by decide +kernel
theorem dX9_binds_14 : decode cX9_binds 14 = .ok (.aload_n 0, 1) := by decide +kernel
theorem dX9_binds_15 : decode cX9_binds 15 = .ok (.getfield 21, 3) := by decide +kernel
theorem dX9_binds_18 : decode cX9_binds 18 = .ok (.iload_n 1, 1) := by decide +kernel
theorem dX9_binds_19 : decode cX9_binds 19 = .ok (.iaload, 1) := by decide +kernel
theorem dX9_binds_20 : decode cX9_binds 20 = .ok (.if_icmp .eq 7, 3) := by decide +kernel
theorem dX9_binds_23 : decode cX9_binds 23 = .ok (.iconst 1, 1) := by decide +kernel
theorem dX9_binds_24 : decode cX9_binds 24 = .ok (.goto 4, 3) := by decide +kernel
theorem dX9_binds_27 : decode cX9_binds 27 = .ok (.iconst 0, 1) := by decide +kernel
theorem dX9_binds_28 : decode cX9_binds 28 = .ok (.ireturn, 1) := by decide +kernel
theorem dX9_callAllIn_0 : decode cX9_callAllIn 0 = .ok (.iconst 0, 1) := by decide +kernel
theorem dX9_callAllIn_1 : decode cX9_callAllIn 1 = .ok (.istore_n 1, 1) := by decide +kernel
theorem dX9_callAllIn_2 : decode cX9_callAllIn 2 = .ok (.iload_n 1, 1) := by decide +kernel
theorem dX9_callAllIn_3 : decode cX9_callAllIn 3 = .ok (.aload_n 0, 1) := by decide +kernel
theorem dX9_callAllIn_4 : decode cX9_callAllIn 4 = .ok (.getfield 53, 3) := by decide +kernel
theorem dX9_callAllIn_7 : decode cX9_callAllIn 7 = .ok (.if_icmp .ge 29, 3) := by decide +kernel
theorem dX9_callAllIn_10 : decode cX9_callAllIn 10 = .ok (.aload_n 0, 1) := by decide +kernel
theorem dX9_callAllIn_11 : decode cX9_callAllIn 11 = .ok (.iload_n 1, 1) := by decide +kernel
theorem dX9_callAllIn_12 : decode cX9_callAllIn 12 = .ok (.invokevirtual 125, 3) := by decide +kernel
theorem dX9_callAllIn_15 : decode cX9_callAllIn 15 = .ok (.ifCond .eq 15, 3) := by decide +kernel
theorem dX9_callAllIn_18 : decode cX9_callAllIn 18 = .ok (.aload_n 0, 1) := by decide +kernel
theorem dX9_callAllIn_19 : decode cX9_callAllIn 19 = .ok (.getfield 30, 3) := by decide +kernel
theorem dX9_callAllIn_22 : decode cX9_callAllIn 22 = .ok (.iload_n 1, 1) := by decide +kernel
theorem dX9_callAllIn_23 : decode cX9_callAllIn 23 = .ok (.aload_n 0, 1) := by decide +kernel
theorem dX9_callAllIn_24 : decode cX9_callAllIn 24 = .ok (.getfield 49, 3) := by decide +kernel
theorem dX9_callAllIn_27 : decode cX9_callAllIn 27 = .ok (.iconst 1, 1) := by decide +kernel
theorem dX9_callAllIn_28 : decode cX9_callAllIn 28 = .ok (.iadd, 1) := by decide +kernel
theorem dX9_callAllIn_29 : decode cX9_callAllIn 29 = .ok (.iastore, 1) := by decide +kernel
theorem dX9_callAllIn_30 : decode cX9_callAllIn 30 = .ok (.iinc 1 1, 3) := by decide +kernel
theorem dX9_callAllIn_33 : decode cX9_callAllIn 33 = .ok (.goto (-31), 3) := by decide +kernel
theorem dX9_callAllIn_36 : decode cX9_callAllIn 36 = .ok (.return_, 1) := by decide +kernel
theorem dX9_copyFrom_0 : decode cX9_copyFrom 0 = .ok (.aload_n 0, 1) := by decide +kernel
theorem dX9_copyFrom_1 : decode cX9_copyFrom 1 = .ok (.aload_n 1, 1) := by decide +kernel
theorem dX9_copyFrom_2 : decode cX9_copyFrom 2 = .ok (.getfield 49, 3) := by decide +kernel
theorem dX9_copyFrom_5 : decode cX9_copyFrom 5 = .ok (.putfield 49, 3) := by decide +kernel
theorem dX9_copyFrom_8 : decode cX9_copyFrom 8 = .ok (.aload_n 0, 1) := by decide +kernel
theorem dX9_copyFrom_9 : decode cX9_copyFrom 9 = .ok (.aload_n 1, 1) := by decide +kernel
theorem dX9_copyFrom_10 : decode cX9_copyFrom 10 = .ok (.getfield 53, 3) := by decide +kernel
theorem dX9_copyFrom_13 : decode cX9_copyFrom 13 = .ok (.putfield 53, 3) := by decide +kernel
theorem dX9_copyFrom_16 : decode cX9_copyFrom 16 = .ok (.aload_n 0, 1) := by decide +kernel
theorem dX9_copyFrom_17 : decode cX9_copyFrom 17 = .ok (.aload_n 1, 1) := by decide +kernel
theorem dX9_copyFrom_18 : decode cX9_copyFrom 18 = .ok (.getfield 61, 3) := by decide +kernel
theorem dX9_copyFrom_21 : decode cX9_copyFrom 21 = .ok (.putfield 61, 3) := by decide +kernel
theorem dX9_copyFrom_24 : decode cX9_copyFrom 24 = .ok (.aload_n 1, 1) := by decide +kernel
theorem dX9_copyFrom_25 : decode cX9_copyFrom 25 = .ok (.getfield 9, 3) := by decide +kernel
theorem dX9_copyFrom_28 : decode cX9_copyFrom 28 = .ok (.iconst 0, 1) := by decide +kernel
theorem dX9_copyFrom_29 : decode cX9_copyFrom 29 = .ok (.aload_n 0, 1) := by decide +kernel
theorem dX9_copyFrom_30 : decode cX9_copyFrom 30 = .ok (.getfield 9, 3) := by decide +kernel
theorem dX9_copyFrom_33 : decode cX9_copyFrom 33 = .ok (.iconst 0, 1) := by decide +kernel
theorem dX9_copyFrom_34 : decode cX9_copyFrom 34 = .ok (.iconst 5, 1) := by decide +kernel
theorem dX9_copyFrom_35 : decode cX9_copyFrom 35 = .ok (.invokestatic 65, 3) := by decide +kernel
theorem dX9_copyFrom_38 : decode cX9_copyFrom 38 = .ok (.aload_n 1, 1) := by decide +kernel
theorem dX9_copyFrom_39 : decode cX9_copyFrom 39 = .ok (.getfield 15, 3) := by decide +kernel
theorem dX9_copyFrom_42 : decode cX9_copyFrom 42 = .ok (.iconst 0, 1) := by decide +kernel
theorem dX9_copyFrom_43 : decode cX9_copyFrom 43 = .ok (.aload_n 0, 1) := by decide +kernel
theorem dX9_copyFrom_44 : decode cX9_copyFrom 44 = .ok (.getfield 15, 3) := by decide +kernel
theorem dX9_copyFrom_47 : decode cX9_copyFrom 47 = .ok (.iconst 0, 1) := by decide +kernel
theorem dX9_copyFrom_48 : decode cX9_copyFrom 48 = .ok (.bipush 6, 2) := by decide +kernel
theorem dX9_copyFrom_50 : decode cX9_copyFrom 50 = .ok (.invokestatic 65, 3) := by decide +kernel
theorem dX9_copyFrom_53 : decode cX9_copyFrom 53 = .ok (.aload_n 1, 1) := by decide +kernel
theorem dX9_copyFrom_54 : decode cX9_copyFrom 54 = .ok (.getfield 18, 3) := by decide +kernel
theorem dX9_copyFrom_57 : decode cX9_copyFrom 57 = .ok (.iconst 0, 1) := by decide +kernel
theorem dX9_copyFrom_58 : decode cX9_copyFrom 58 = .ok (.aload_n 0, 1) := by decide +kernel
theorem dX9_copyFrom_59 : decode cX9_copyFrom 59 = .ok (.getfield 18, 3) := by decide +kernel
theorem dX9_copyFrom_62 : decode cX9_copyFrom 62 = .ok (.iconst 0, 1) := by decide +kernel
theorem dX9_copyFrom_63 : decode cX9_copyFrom 63 = .ok (.bipush 6, 2) := by decide +kernel
theorem dX9_copyFrom_65 : decode cX9_copyFrom 65 = .ok (.invokestatic 65, 3) := by decide +kernel
theorem dX9_copyFrom_68 : decode cX9_copyFrom 68 = .ok (.aload_n 1, 1) := by decide +kernel
theorem dX9_copyFrom_69 : decode cX9_copyFrom 69 = .ok (.getfield 21, 3) := by decide +kernel
theorem dX9_copyFrom_72 : decode cX9_copyFrom 72 = .ok (.iconst 0, 1) := by decide +kernel
theorem dX9_copyFrom_73 : decode cX9_copyFrom 73 = .ok (.aload_n 0, 1) := by decide +kernel
theorem dX9_copyFrom_74 : decode cX9_copyFrom 74 = .ok (.getfield 21, 3) := by decide +kernel
theorem dX9_copyFrom_77 : decode cX9_copyFrom 77 = .ok (.iconst 0, 1) := by decide +kernel
theorem dX9_copyFrom_78 : decode cX9_copyFrom 78 = .ok (.bipush 24, 2) := by decide +kernel
theorem dX9_copyFrom_80 : decode cX9_copyFrom 80 = .ok (.invokestatic 65, 3) := by decide +kernel
theorem dX9_copyFrom_83 : decode cX9_copyFrom 83 = .ok (.aload_n 1, 1) := by decide +kernel
theorem dX9_copyFrom_84 : decode cX9_copyFrom 84 = .ok (.getfield 24, 3) := by decide +kernel
theorem dX9_copyFrom_87 : decode cX9_copyFrom 87 = .ok (.iconst 0, 1) := by decide +kernel
theorem dX9_copyFrom_88 : decode cX9_copyFrom 88 = .ok (.aload_n 0, 1) := by decide +kernel
theorem dX9_copyFrom_89 : decode cX9_copyFrom 89 = .ok (.getfield 24, 3) := by decide +kernel
theorem dX9_copyFrom_92 : decode cX9_copyFrom 92 = .ok (.iconst 0, 1) := by decide +kernel
theorem dX9_copyFrom_93 : decode cX9_copyFrom 93 = .ok (.bipush 24, 2) := by decide +kernel
theorem dX9_copyFrom_95 : decode cX9_copyFrom 95 = .ok (.invokestatic 65, 3) := by decide +kernel
theorem dX9_copyFrom_98 : decode cX9_copyFrom 98 = .ok (.aload_n 1, 1) := by decide +kernel
theorem dX9_copyFrom_99 : decode cX9_copyFrom 99 = .ok (.getfield 27, 3) := by decide +kernel
theorem dX9_copyFrom_102 : decode cX9_copyFrom 102 = .ok (.iconst 0, 1) := by decide +kernel
theorem dX9_copyFrom_103 : decode cX9_copyFrom 103 = .ok (.aload_n 0, 1) := by decide +kernel
theorem dX9_copyFrom_104 : decode cX9_copyFrom 104 = .ok (.getfield 27, 3) := by decide +kernel
theorem dX9_copyFrom_107 : decode cX9_copyFrom 107 = .ok (.iconst 0, 1) := by decide +kernel
theorem dX9_copyFrom_108 : decode cX9_copyFrom 108 = .ok (.bipush 24, 2) := by decide +kernel
theorem dX9_copyFrom_110 : decode cX9_copyFrom 110 = .ok (.invokestatic 65, 3) := by decide +kernel
theorem dX9_copyFrom_113 : decode cX9_copyFrom 113 = .ok (.aload_n 1, 1) := by decide +kernel
theorem dX9_copyFrom_114 : decode cX9_copyFrom 114 = .ok (.getfield 30, 3) := by decide +kernel
theorem dX9_copyFrom_117 : decode cX9_copyFrom 117 = .ok (.iconst 0, 1) := by decide +kernel
theorem dX9_copyFrom_118 : decode cX9_copyFrom 118 = .ok (.aload_n 0, 1) := by decide +kernel
theorem dX9_copyFrom_119 : decode cX9_copyFrom 119 = .ok (.getfield 30, 3) := by decide +kernel
theorem dX9_copyFrom_122 : decode cX9_copyFrom 122 = .ok (.iconst 0, 1) := by decide +kernel
theorem dX9_copyFrom_123 : decode cX9_copyFrom 123 = .ok (.bipush 24, 2) := by decide +kernel
theorem dX9_copyFrom_125 : decode cX9_copyFrom 125 = .ok (.invokestatic 65, 3) := by decide +kernel
theorem dX9_copyFrom_128 : decode cX9_copyFrom 128 = .ok (.aload_n 1, 1) := by decide +kernel
theorem dX9_copyFrom_129 : decode cX9_copyFrom 129 = .ok (.getfield 33, 3) := by decide +kernel
theorem dX9_copyFrom_132 : decode cX9_copyFrom 132 = .ok (.iconst 0, 1) := by decide +kernel
theorem dX9_copyFrom_133 : decode cX9_copyFrom 133 = .ok (.aload_n 0, 1) := by decide +kernel
theorem dX9_copyFrom_134 : decode cX9_copyFrom 134 = .ok (.getfield 33, 3) := by decide +kernel
theorem dX9_copyFrom_137 : decode cX9_copyFrom 137 = .ok (.iconst 0, 1) := by decide +kernel
theorem dX9_copyFrom_138 : decode cX9_copyFrom 138 = .ok (.bipush 24, 2) := by decide +kernel
theorem dX9_copyFrom_140 : decode cX9_copyFrom 140 = .ok (.invokestatic 65, 3) := by decide +kernel
theorem dX9_copyFrom_143 : decode cX9_copyFrom 143 = .ok (.return_, 1) := by decide +kernel
theorem dX9_cross_0 : decode cX9_cross 0 = .ok (.aload_n 0, 1) := by decide +kernel
theorem dX9_cross_1 : decode cX9_cross 1 = .ok (.getfield 33, 3) := by decide +kernel
theorem dX9_cross_4 : decode cX9_cross 4 = .ok (.iload_n 1, 1) := by decide +kernel
theorem dX9_cross_5 : decode cX9_cross 5 = .ok (.iconst 4, 1) := by decide +kernel
theorem dX9_cross_6 : decode cX9_cross 6 = .ok (.iastore, 1) := by decide +kernel
theorem dX9_cross_7 : decode cX9_cross 7 = .ok (.aload_n 0, 1) := by decide +kernel
theorem dX9_cross_8 : decode cX9_cross 8 = .ok (.invokevirtual 122, 3) := by decide +kernel
theorem dX9_cross_11 : decode cX9_cross 11 = .ok (.invokestatic 102, 3) := by decide +kernel
theorem dX9_cross_14 : decode cX9_cross 14 = .ok (.ireturn, 1) := by decide +kernel
theorem dX9_dueOn_0 : decode cX9_dueOn 0 = .ok (.iconst 0, 1) := by decide +kernel
theorem dX9_dueOn_1 : decode cX9_dueOn 1 = .ok (.istore_n 2, 1) := by decide +kernel
theorem dX9_dueOn_2 : decode cX9_dueOn 2 = .ok (.iconst 0, 1) := by decide +kernel
theorem dX9_dueOn_3 : decode cX9_dueOn 3 = .ok (.istore_n 3, 1) := by decide +kernel
theorem dX9_dueOn_4 : decode cX9_dueOn 4 = .ok (.iload_n 3, 1) := by decide +kernel
theorem dX9_dueOn_5 : decode cX9_dueOn 5 = .ok (.aload_n 0, 1) := by decide +kernel
theorem dX9_dueOn_6 : decode cX9_dueOn 6 = .ok (.getfield 53, 3) := by decide +kernel
theorem dX9_dueOn_9 : decode cX9_dueOn 9 = .ok (.if_icmp .ge 37, 3) := by decide +kernel
theorem dX9_dueOn_12 : decode cX9_dueOn 12 = .ok (.iload_n 2, 1) := by decide +kernel
theorem dX9_dueOn_13 : decode cX9_dueOn 13 = .ok (.aload_n 0, 1) := by decide +kernel
theorem dX9_dueOn_14 : decode cX9_dueOn 14 = .ok (.iload_n 3, 1) := by decide +kernel
theorem dX9_dueOn_15 : decode cX9_dueOn 15 = .ok (.invokevirtual 125, 3) := by decide +kernel
theorem dX9_dueOn_18 : decode cX9_dueOn 18 = .ok (.ifCond .eq 19, 3) := by decide +kernel
theorem dX9_dueOn_21 : decode cX9_dueOn 21 = .ok (.aload_n 0, 1) := by decide +kernel
theorem dX9_dueOn_22 : decode cX9_dueOn 22 = .ok (.getfield 30, 3) := by decide +kernel
theorem dX9_dueOn_25 : decode cX9_dueOn 25 = .ok (.iload_n 3, 1) := by decide +kernel
theorem dX9_dueOn_26 : decode cX9_dueOn 26 = .ok (.iaload, 1) := by decide +kernel
theorem dX9_dueOn_27 : decode cX9_dueOn 27 = .ok (.iload_n 1, 1) := by decide +kernel
theorem dX9_dueOn_28 : decode cX9_dueOn 28 = .ok (.if_icmp .ne 9, 3) := by decide +kernel
theorem dX9_dueOn_31 : decode cX9_dueOn 31 = .ok (.iconst 1, 1) := by decide +kernel
theorem dX9_dueOn_32 : decode cX9_dueOn 32 = .ok (.iload_n 3, 1) := by decide +kernel
theorem dX9_dueOn_33 : decode cX9_dueOn 33 = .ok (.ishl, 1) := by decide +kernel
theorem dX9_dueOn_34 : decode cX9_dueOn 34 = .ok (.goto 4, 3) := by decide +kernel
theorem dX9_dueOn_37 : decode cX9_dueOn 37 = .ok (.iconst 0, 1) := by decide +kernel
theorem dX9_dueOn_38 : decode cX9_dueOn 38 = .ok (.ior, 1) := by decide +kernel
theorem dX9_dueOn_39 : decode cX9_dueOn 39 = .ok (.istore_n 2, 1) := by decide +kernel
theorem dX9_dueOn_40 : decode cX9_dueOn 40 = .ok (.iinc 3 1, 3) := by decide +kernel
theorem dX9_dueOn_43 : decode cX9_dueOn 43 = .ok (.goto (-39), 3) := by decide +kernel
theorem dX9_dueOn_46 : decode cX9_dueOn 46 = .ok (.iload_n 2, 1) := by decide +kernel
theorem dX9_dueOn_47 : decode cX9_dueOn 47 = .ok (.ireturn, 1) := by decide +kernel
theorem dX9_failedSoFar_0 : decode cX9_failedSoFar 0 = .ok (.iconst 0, 1) := by decide +kernel
theorem dX9_failedSoFar_1 : decode cX9_failedSoFar 1 = .ok (.istore_n 1, 1) := by decide +kernel
theorem dX9_failedSoFar_2 : decode cX9_failedSoFar 2 = .ok (.iconst 0, 1) := by decide +kernel
theorem dX9_failedSoFar_3 : decode cX9_failedSoFar 3 = .ok (.istore_n 2, 1) := by decide +kernel
theorem dX9_failedSoFar_4 : decode cX9_failedSoFar 4 = .ok (.iload_n 2, 1) := by decide +kernel
theorem dX9_failedSoFar_5 : decode cX9_failedSoFar 5 = .ok (.aload_n 0, 1) := by decide +kernel
theorem dX9_failedSoFar_6 : decode cX9_failedSoFar 6 = .ok (.getfield 53, 3) := by decide +kernel
theorem dX9_failedSoFar_9 : decode cX9_failedSoFar 9 = .ok (.if_icmp .ge 27, 3) := by decide +kernel
theorem dX9_failedSoFar_12 : decode cX9_failedSoFar 12 = .ok (.iload_n 1, 1) := by decide +kernel
theorem dX9_failedSoFar_13 : decode cX9_failedSoFar 13 = .ok (.aload_n 0, 1) := by decide +kernel
theorem dX9_failedSoFar_14 : decode cX9_failedSoFar 14 = .ok (.getfield 33, 3) := by decide +kernel
theorem dX9_failedSoFar_17 : decode cX9_failedSoFar 17 = .ok (.iload_n 2, 1) := by decide +kernel
theorem dX9_failedSoFar_18 : decode cX9_failedSoFar 18 = .ok (.iaload, 1) := by decide +kernel
theorem dX9_failedSoFar_19 : decode cX9_failedSoFar 19 = .ok (.iconst 3, 1) := by decide +kernel
theorem dX9_failedSoFar_20 : decode cX9_failedSoFar 20 = .ok (.if_icmp .ne 7, 3) := by decide +kernel
theorem dX9_failedSoFar_23 : decode cX9_failedSoFar 23 = .ok (.iconst 1, 1) := by decide +kernel
theorem dX9_failedSoFar_24 : decode cX9_failedSoFar 24 = .ok (.goto 4, 3) := by decide +kernel
theorem dX9_failedSoFar_27 : decode cX9_failedSoFar 27 = .ok (.iconst 0, 1) := by decide +kernel
theorem dX9_failedSoFar_28 : decode cX9_failedSoFar 28 = .ok (.iadd, 1) := by decide +kernel
theorem dX9_failedSoFar_29 : decode cX9_failedSoFar 29 = .ok (.istore_n 1, 1) := by decide +kernel
theorem dX9_failedSoFar_30 : decode cX9_failedSoFar 30 = .ok (.iinc 2 1, 3) := by decide +kernel
theorem dX9_failedSoFar_33 : decode cX9_failedSoFar 33 = .ok (.goto (-29), 3) := by decide +kernel
theorem dX9_failedSoFar_36 : decode cX9_failedSoFar 36 = .ok (.iload_n 1, 1) := by decide +kernel
theorem dX9_failedSoFar_37 : decode cX9_failedSoFar 37 = .ok (.ireturn, 1) := by decide +kernel
theorem dX9_giveBack_0 : decode cX9_giveBack 0 = .ok (.aload_n 0, 1) := by decide +kernel
theorem dX9_giveBack_1 : decode cX9_giveBack 1 = .ok (.getfield 33, 3) := by decide +kernel
theorem dX9_giveBack_4 : decode cX9_giveBack 4 = .ok (.iload_n 1, 1) := by decide +kernel
theorem dX9_giveBack_5 : decode cX9_giveBack 5 = .ok (.iconst 1, 1) := by decide +kernel
theorem dX9_giveBack_6 : decode cX9_giveBack 6 = .ok (.iastore, 1) := by decide +kernel
theorem dX9_giveBack_7 : decode cX9_giveBack 7 = .ok (.aload_n 0, 1) := by decide +kernel
theorem dX9_giveBack_8 : decode cX9_giveBack 8 = .ok (.aload_n 0, 1) := by decide +kernel
theorem dX9_giveBack_9 : decode cX9_giveBack 9 = .ok (.getfield 24, 3) := by decide +kernel
theorem dX9_giveBack_12 : decode cX9_giveBack 12 = .ok (.iload_n 1, 1) := by decide +kernel
theorem dX9_giveBack_13 : decode cX9_giveBack 13 = .ok (.iaload, 1) := by decide +kernel
theorem dX9_giveBack_14 : decode cX9_giveBack 14 = .ok (.aload_n 0, 1) := by decide +kernel
theorem dX9_giveBack_15 : decode cX9_giveBack 15 = .ok (.getfield 27, 3) := by decide +kernel
theorem dX9_giveBack_18 : decode cX9_giveBack 18 = .ok (.iload_n 1, 1) := by decide +kernel
theorem dX9_giveBack_19 : decode cX9_giveBack 19 = .ok (.iaload, 1) := by decide +kernel
theorem dX9_giveBack_20 : decode cX9_giveBack 20 = .ok (.invokevirtual 111, 3) := by decide +kernel
theorem dX9_giveBack_23 : decode cX9_giveBack 23 = .ok (.aload_n 0, 1) := by decide +kernel
theorem dX9_giveBack_24 : decode cX9_giveBack 24 = .ok (.getfield 27, 3) := by decide +kernel
theorem dX9_giveBack_27 : decode cX9_giveBack 27 = .ok (.iload_n 1, 1) := by decide +kernel
theorem dX9_giveBack_28 : decode cX9_giveBack 28 = .ok (.iaload, 1) := by decide +kernel
theorem dX9_giveBack_29 : decode cX9_giveBack 29 = .ok (.ireturn, 1) := by decide +kernel
theorem dX9_handOn_0 : decode cX9_handOn 0 = .ok (.aload_n 0, 1) := by decide +kernel
theorem dX9_handOn_1 : decode cX9_handOn 1 = .ok (.iload_n 1, 1) := by decide +kernel
theorem dX9_handOn_2 : decode cX9_handOn 2 = .ok (.invokevirtual 115, 3) := by decide +kernel
theorem dX9_handOn_5 : decode cX9_handOn 5 = .ok (.istore_n 3, 1) := by decide +kernel
theorem dX9_handOn_6 : decode cX9_handOn 6 = .ok (.aload_n 0, 1) := by decide +kernel
theorem dX9_handOn_7 : decode cX9_handOn 7 = .ok (.iload_n 2, 1) := by decide +kernel
theorem dX9_handOn_8 : decode cX9_handOn 8 = .ok (.aload_n 0, 1) := by decide +kernel
theorem dX9_handOn_9 : decode cX9_handOn 9 = .ok (.getfield 27, 3) := by decide +kernel
theorem dX9_handOn_12 : decode cX9_handOn 12 = .ok (.iload_n 1, 1) := by decide +kernel
theorem dX9_handOn_13 : decode cX9_handOn 13 = .ok (.iaload, 1) := by decide +kernel
theorem dX9_handOn_14 : decode cX9_handOn 14 = .ok (.iload_n 3, 1) := by decide +kernel
theorem dX9_handOn_15 : decode cX9_handOn 15 = .ok (.invokevirtual 118, 3) := by decide +kernel
theorem dX9_handOn_18 : decode cX9_handOn 18 = .ok (.aload_n 0, 1) := by decide +kernel
theorem dX9_handOn_19 : decode cX9_handOn 19 = .ok (.getfield 27, 3) := by decide +kernel
theorem dX9_handOn_22 : decode cX9_handOn 22 = .ok (.iload_n 1, 1) := by decide +kernel
theorem dX9_handOn_23 : decode cX9_handOn 23 = .ok (.iload_n 2, 1) := by decide +kernel
theorem dX9_handOn_24 : decode cX9_handOn 24 = .ok (.iastore, 1) := by decide +kernel
theorem dX9_handOn_25 : decode cX9_handOn 25 = .ok (.iload_n 3, 1) := by decide +kernel
theorem dX9_handOn_26 : decode cX9_handOn 26 = .ok (.ireturn, 1) := by decide +kernel
theorem dX9_heldBy_0 : decode cX9_heldBy 0 = .ok (.iconst 0, 1) := by decide +kernel
theorem dX9_heldBy_1 : decode cX9_heldBy 1 = .ok (.istore_n 2, 1) := by decide +kernel
theorem dX9_heldBy_2 : decode cX9_heldBy 2 = .ok (.iconst 0, 1) := by decide +kernel
theorem dX9_heldBy_3 : decode cX9_heldBy 3 = .ok (.istore_n 3, 1) := by decide +kernel
theorem dX9_heldBy_4 : decode cX9_heldBy 4 = .ok (.iload_n 3, 1) := by decide +kernel
theorem dX9_heldBy_5 : decode cX9_heldBy 5 = .ok (.aload_n 0, 1) := by decide +kernel
theorem dX9_heldBy_6 : decode cX9_heldBy 6 = .ok (.getfield 53, 3) := by decide +kernel
theorem dX9_heldBy_9 : decode cX9_heldBy 9 = .ok (.if_icmp .ge 37, 3) := by decide +kernel
theorem dX9_heldBy_12 : decode cX9_heldBy 12 = .ok (.iload_n 2, 1) := by decide +kernel
theorem dX9_heldBy_13 : decode cX9_heldBy 13 = .ok (.aload_n 0, 1) := by decide +kernel
theorem dX9_heldBy_14 : decode cX9_heldBy 14 = .ok (.iload_n 3, 1) := by decide +kernel
theorem dX9_heldBy_15 : decode cX9_heldBy 15 = .ok (.invokevirtual 125, 3) := by decide +kernel
theorem dX9_heldBy_18 : decode cX9_heldBy 18 = .ok (.ifCond .eq 19, 3) := by decide +kernel
theorem dX9_heldBy_21 : decode cX9_heldBy 21 = .ok (.aload_n 0, 1) := by decide +kernel
theorem dX9_heldBy_22 : decode cX9_heldBy 22 = .ok (.getfield 27, 3) := by decide +kernel
theorem dX9_heldBy_25 : decode cX9_heldBy 25 = .ok (.iload_n 3, 1) := by decide +kernel
theorem dX9_heldBy_26 : decode cX9_heldBy 26 = .ok (.iaload, 1) := by decide +kernel
theorem dX9_heldBy_27 : decode cX9_heldBy 27 = .ok (.iload_n 1, 1) := by decide +kernel
theorem dX9_heldBy_28 : decode cX9_heldBy 28 = .ok (.if_icmp .ne 9, 3) := by decide +kernel
theorem dX9_heldBy_31 : decode cX9_heldBy 31 = .ok (.iconst 1, 1) := by decide +kernel
theorem dX9_heldBy_32 : decode cX9_heldBy 32 = .ok (.iload_n 3, 1) := by decide +kernel
theorem dX9_heldBy_33 : decode cX9_heldBy 33 = .ok (.ishl, 1) := by decide +kernel
theorem dX9_heldBy_34 : decode cX9_heldBy 34 = .ok (.goto 4, 3) := by decide +kernel
theorem dX9_heldBy_37 : decode cX9_heldBy 37 = .ok (.iconst 0, 1) := by decide +kernel
theorem dX9_heldBy_38 : decode cX9_heldBy 38 = .ok (.ior, 1) := by decide +kernel
theorem dX9_heldBy_39 : decode cX9_heldBy 39 = .ok (.istore_n 2, 1) := by decide +kernel
theorem dX9_heldBy_40 : decode cX9_heldBy 40 = .ok (.iinc 3 1, 3) := by decide +kernel
theorem dX9_heldBy_43 : decode cX9_heldBy 43 = .ok (.goto (-39), 3) := by decide +kernel
theorem dX9_heldBy_46 : decode cX9_heldBy 46 = .ok (.iload_n 2, 1) := by decide +kernel
theorem dX9_heldBy_47 : decode cX9_heldBy 47 = .ok (.ireturn, 1) := by decide +kernel
theorem dX9_inReachOf_0 : decode cX9_inReachOf 0 = .ok (.iconst 0, 1) := by decide +kernel
theorem dX9_inReachOf_1 : decode cX9_inReachOf 1 = .ok (.istore_n 2, 1) := by decide +kernel
theorem dX9_inReachOf_2 : decode cX9_inReachOf 2 = .ok (.iconst 0, 1) := by decide +kernel
theorem dX9_inReachOf_3 : decode cX9_inReachOf 3 = .ok (.istore_n 3, 1) := by decide +kernel
theorem dX9_inReachOf_4 : decode cX9_inReachOf 4 = .ok (.iload_n 3, 1) := by decide +kernel
theorem dX9_inReachOf_5 : decode cX9_inReachOf 5 = .ok (.aload_n 0, 1) := by decide +kernel
theorem dX9_inReachOf_6 : decode cX9_inReachOf 6 = .ok (.getfield 45, 3) := by decide +kernel
theorem dX9_inReachOf_9 : decode cX9_inReachOf 9 = .ok (.getfield 153, 3) := by decide +kernel
theorem dX9_inReachOf_12 : decode cX9_inReachOf 12 = .ok (.if_icmp .ge 42, 3) := by decide +kernel
theorem dX9_inReachOf_15 : decode cX9_inReachOf 15 = .ok (.aload_n 0, 1) := by decide +kernel
theorem dX9_inReachOf_16 : decode cX9_inReachOf 16 = .ok (.getfield 15, 3) := by decide +kernel
theorem dX9_inReachOf_19 : decode cX9_inReachOf 19 = .ok (.iload_n 3, 1) := by decide +kernel
theorem dX9_inReachOf_20 : decode cX9_inReachOf 20 = .ok (.iaload, 1) := by decide +kernel
theorem dX9_inReachOf_21 : decode cX9_inReachOf 21 = .ok (.istore 4, 2) := by decide +kernel
theorem dX9_inReachOf_23 : decode cX9_inReachOf 23 = .ok (.iload_n 2, 1) := by decide +kernel
theorem dX9_inReachOf_24 : decode cX9_inReachOf 24 = .ok (.iload 4, 2) := by decide +kernel
theorem dX9_inReachOf_26 : decode cX9_inReachOf 26 = .ok (.iload_n 1, 1) := by decide +kernel
theorem dX9_inReachOf_27 : decode cX9_inReachOf 27 = .ok (.if_icmp .eq 18, 3) := by decide +kernel
theorem dX9_inReachOf_30 : decode cX9_inReachOf 30 = .ok (.aload_n 0, 1) := by decide +kernel
theorem dX9_inReachOf_31 : decode cX9_inReachOf 31 = .ok (.iload 4, 2) := by decide +kernel
theorem dX9_inReachOf_33 : decode cX9_inReachOf 33 = .ok (.invokevirtual 107, 3) := by decide +kernel
theorem dX9_inReachOf_36 : decode cX9_inReachOf 36 = .ok (.ifCond .ne 9, 3) := by decide +kernel
theorem dX9_inReachOf_39 : decode cX9_inReachOf 39 = .ok (.iconst 1, 1) := by decide +kernel
theorem dX9_inReachOf_40 : decode cX9_inReachOf 40 = .ok (.iload_n 3, 1) := by decide +kernel
theorem dX9_inReachOf_41 : decode cX9_inReachOf 41 = .ok (.ishl, 1) := by decide +kernel
theorem dX9_inReachOf_42 : decode cX9_inReachOf 42 = .ok (.goto 4, 3) := by decide +kernel
theorem dX9_inReachOf_45 : decode cX9_inReachOf 45 = .ok (.iconst 0, 1) := by decide +kernel
theorem dX9_inReachOf_46 : decode cX9_inReachOf 46 = .ok (.ior, 1) := by decide +kernel
theorem dX9_inReachOf_47 : decode cX9_inReachOf 47 = .ok (.istore_n 2, 1) := by decide +kernel
theorem dX9_inReachOf_48 : decode cX9_inReachOf 48 = .ok (.iinc 3 1, 3) := by decide +kernel
theorem dX9_inReachOf_51 : decode cX9_inReachOf 51 = .ok (.goto (-47), 3) := by decide +kernel
theorem dX9_inReachOf_54 : decode cX9_inReachOf 54 = .ok (.iload_n 2, 1) := by decide +kernel
theorem dX9_inReachOf_55 : decode cX9_inReachOf 55 = .ok (.ireturn, 1) := by decide +kernel
theorem dX9_init_0 : decode cX9_init 0 = .ok (.aload_n 0, 1) := by decide +kernel
theorem dX9_init_1 : decode cX9_init 1 = .ok (.invokespecial 3, 3) := by decide +kernel
theorem dX9_init_4 : decode cX9_init 4 = .ok (.aload_n 0, 1) := by decide +kernel
theorem dX9_init_5 : decode cX9_init 5 = .ok (.iconst 5, 1) := by decide +kernel
theorem dX9_init_6 : decode cX9_init 6 = .ok (.newarray .int, 2) := by decide +kernel
theorem dX9_init_8 : decode cX9_init 8 = .ok (.putfield 9, 3) := by decide +kernel
theorem dX9_init_11 : decode cX9_init 11 = .ok (.aload_n 0, 1) := by decide +kernel
theorem dX9_init_12 : decode cX9_init 12 = .ok (.bipush 6, 2) := by decide +kernel
theorem dX9_init_14 : decode cX9_init 14 = .ok (.newarray .int, 2) := by decide +kernel
theorem dX9_init_16 : decode cX9_init 16 = .ok (.putfield 15, 3) := by decide +kernel
theorem dX9_init_19 : decode cX9_init 19 = .ok (.aload_n 0, 1) := by decide +kernel
theorem dX9_init_20 : decode cX9_init 20 = .ok (.bipush 6, 2) := by decide +kernel
theorem dX9_init_22 : decode cX9_init 22 = .ok (.newarray .int, 2) := by decide +kernel
theorem dX9_init_24 : decode cX9_init 24 = .ok (.putfield 18, 3) := by decide +kernel
theorem dX9_init_27 : decode cX9_init 27 = .ok (.aload_n 0, 1) := by decide +kernel
theorem dX9_init_28 : decode cX9_init 28 = .ok (.bipush 24, 2) := by decide +kernel
theorem dX9_init_30 : decode cX9_init 30 = .ok (.newarray .int, 2) := by decide +kernel
theorem dX9_init_32 : decode cX9_init 32 = .ok (.putfield 21, 3) := by decide +kernel
theorem dX9_init_35 : decode cX9_init 35 = .ok (.aload_n 0, 1) := by decide +kernel
theorem dX9_init_36 : decode cX9_init 36 = .ok (.bipush 24, 2) := by decide +kernel
theorem dX9_init_38 : decode cX9_init 38 = .ok (.newarray .int, 2) := by decide +kernel
theorem dX9_init_40 : decode cX9_init 40 = .ok (.putfield 24, 3) := by decide +kernel
theorem dX9_init_43 : decode cX9_init 43 = .ok (.aload_n 0, 1) := by decide +kernel
theorem dX9_init_44 : decode cX9_init 44 = .ok (.bipush 24, 2) := by decide +kernel
theorem dX9_init_46 : decode cX9_init 46 = .ok (.newarray .int, 2) := by decide +kernel
theorem dX9_init_48 : decode cX9_init 48 = .ok (.putfield 27, 3) := by decide +kernel
theorem dX9_init_51 : decode cX9_init 51 = .ok (.aload_n 0, 1) := by decide +kernel
theorem dX9_init_52 : decode cX9_init 52 = .ok (.bipush 24, 2) := by decide +kernel
theorem dX9_init_54 : decode cX9_init 54 = .ok (.newarray .int, 2) := by decide +kernel
theorem dX9_init_56 : decode cX9_init 56 = .ok (.putfield 30, 3) := by decide +kernel
theorem dX9_init_59 : decode cX9_init 59 = .ok (.aload_n 0, 1) := by decide +kernel
theorem dX9_init_60 : decode cX9_init 60 = .ok (.bipush 24, 2) := by decide +kernel
theorem dX9_init_62 : decode cX9_init 62 = .ok (.newarray .int, 2) := by decide +kernel
theorem dX9_init_64 : decode cX9_init 64 = .ok (.putfield 33, 3) := by decide +kernel
theorem dX9_init_67 : decode cX9_init 67 = .ok (.aload_n 0, 1) := by decide +kernel
theorem dX9_init_68 : decode cX9_init 68 = .ok (.sipush 294, 3) := by decide +kernel
theorem dX9_init_71 : decode cX9_init 71 = .ok (.newarray .int, 2) := by decide +kernel
theorem dX9_init_73 : decode cX9_init 73 = .ok (.putfield 36, 3) := by decide +kernel
theorem dX9_init_76 : decode cX9_init 76 = .ok (.aload_n 0, 1) := by decide +kernel
theorem dX9_init_77 : decode cX9_init 77 = .ok (.iconst 5, 1) := by decide +kernel
theorem dX9_init_78 : decode cX9_init 78 = .ok (.newarray .int, 2) := by decide +kernel
theorem dX9_init_80 : decode cX9_init 80 = .ok (.putfield 39, 3) := by decide +kernel
theorem dX9_init_83 : decode cX9_init 83 = .ok (.aload_n 0, 1) := by decide +kernel
theorem dX9_init_84 : decode cX9_init 84 = .ok (.iconst 5, 1) := by decide +kernel
theorem dX9_init_85 : decode cX9_init 85 = .ok (.newarray .int, 2) := by decide +kernel
theorem dX9_init_87 : decode cX9_init 87 = .ok (.putfield 42, 3) := by decide +kernel
theorem dX9_init_90 : decode cX9_init 90 = .ok (.aload_n 0, 1) := by decide +kernel
theorem dX9_init_91 : decode cX9_init 91 = .ok (.aload_n 1, 1) := by decide +kernel
theorem dX9_init_92 : decode cX9_init 92 = .ok (.putfield 45, 3) := by decide +kernel
theorem dX9_init_95 : decode cX9_init 95 = .ok (.return_, 1) := by decide +kernel
theorem dX9_isLocked_0 : decode cX9_isLocked 0 = .ok (.aload_n 0, 1) := by decide +kernel
theorem dX9_isLocked_1 : decode cX9_isLocked 1 = .ok (.getfield 61, 3) := by decide +kernel
theorem dX9_isLocked_4 : decode cX9_isLocked 4 = .ok (.iload_n 1, 1) := by decide +kernel
theorem dX9_isLocked_5 : decode cX9_isLocked 5 = .ok (.ishr, 1) := by decide +kernel
theorem dX9_isLocked_6 : decode cX9_isLocked 6 = .ok (.iconst 1, 1) := by decide +kernel
theorem dX9_isLocked_7 : decode cX9_isLocked 7 = .ok (.iand, 1) := by decide +kernel
theorem dX9_isLocked_8 : decode cX9_isLocked 8 = .ok (.ifCond .eq 7, 3) := by decide +kernel
theorem dX9_isLocked_11 : decode cX9_isLocked 11 = .ok (.iconst 1, 1) := by decide +kernel
theorem dX9_isLocked_12 : decode cX9_isLocked 12 = .ok (.goto 4, 3) := by decide +kernel
theorem dX9_isLocked_15 : decode cX9_isLocked 15 = .ok (.iconst 0, 1) := by decide +kernel
theorem dX9_isLocked_16 : decode cX9_isLocked 16 = .ok (.ireturn, 1) := by decide +kernel
theorem dX9_isOpen_0 : decode cX9_isOpen 0 = .ok (.aload_n 0, 1) := by decide +kernel
theorem dX9_isOpen_1 : decode cX9_isOpen 1 = .ok (.getfield 33, 3) := by decide +kernel
theorem dX9_isOpen_4 : decode cX9_isOpen 4 = .ok (.iload_n 1, 1) := by decide +kernel
theorem dX9_isOpen_5 : decode cX9_isOpen 5 = .ok (.iaload, 1) := by decide +kernel
theorem dX9_isOpen_6 : decode cX9_isOpen 6 = .ok (.ifCond .ne 7, 3) := by decide +kernel
theorem dX9_isOpen_9 : decode cX9_isOpen 9 = .ok (.iconst 1, 1) := by decide +kernel
theorem dX9_isOpen_10 : decode cX9_isOpen 10 = .ok (.goto 4, 3) := by decide +kernel
theorem dX9_isOpen_13 : decode cX9_isOpen 13 = .ok (.iconst 0, 1) := by decide +kernel
theorem dX9_isOpen_14 : decode cX9_isOpen 14 = .ok (.ireturn, 1) := by decide +kernel
theorem dX9_leastPurse_0 : decode cX9_leastPurse 0 = .ok (.aload_n 0, 1) := by decide +kernel
theorem dX9_leastPurse_1 : decode cX9_leastPurse 1 = .ok (.getfield 9, 3) := by decide +kernel
theorem dX9_leastPurse_4 : decode cX9_leastPurse 4 = .ok (.iload_n 1, 1) := by decide +kernel
theorem dX9_leastPurse_5 : decode cX9_leastPurse 5 = .ok (.ldc 146, 2) := by decide +kernel
theorem dX9_leastPurse_7 : decode cX9_leastPurse 7 = .ok (.iastore, 1) := by decide +kernel
theorem dX9_leastPurse_8 : decode cX9_leastPurse 8 = .ok (.aload_n 0, 1) := by decide +kernel
theorem dX9_leastPurse_9 : decode cX9_leastPurse 9 = .ok (.getfield 42, 3) := by decide +kernel
theorem dX9_leastPurse_12 : decode cX9_leastPurse 12 = .ok (.iload_n 1, 1) := by decide +kernel
theorem dX9_leastPurse_13 : decode cX9_leastPurse 13 = .ok (.ldc 146, 2) := by decide +kernel
theorem dX9_leastPurse_15 : decode cX9_leastPurse 15 = .ok (.iastore, 1) := by decide +kernel
theorem dX9_leastPurse_16 : decode cX9_leastPurse 16 = .ok (.iconst 0, 1) := by decide +kernel
theorem dX9_leastPurse_17 : decode cX9_leastPurse 17 = .ok (.istore_n 3, 1) := by decide +kernel
theorem dX9_leastPurse_18 : decode cX9_leastPurse 18 = .ok (.iload_n 3, 1) := by decide +kernel
theorem dX9_leastPurse_19 : decode cX9_leastPurse 19 = .ok (.iload_n 2, 1) := by decide +kernel
theorem dX9_leastPurse_20 : decode cX9_leastPurse 20 = .ok (.if_icmp .ge 14, 3) := by decide +kernel
theorem dX9_leastPurse_23 : decode cX9_leastPurse 23 = .ok (.aload_n 0, 1) := by decide +kernel
theorem dX9_leastPurse_24 : decode cX9_leastPurse 24 = .ok (.invokevirtual 98, 3) := by decide +kernel
theorem dX9_leastPurse_27 : decode cX9_leastPurse 27 = .ok (.pop, 1) := by decide +kernel
theorem dX9_leastPurse_28 : decode cX9_leastPurse 28 = .ok (.iinc 3 1, 3) := by decide +kernel
theorem dX9_leastPurse_31 : decode cX9_leastPurse 31 = .ok (.goto (-13), 3) := by decide +kernel
theorem dX9_leastPurse_34 : decode cX9_leastPurse 34 = .ok (.ldc 146, 2) := by decide +kernel
theorem dX9_leastPurse_36 : decode cX9_leastPurse 36 = .ok (.aload_n 0, 1) := by decide +kernel
theorem dX9_leastPurse_37 : decode cX9_leastPurse 37 = .ok (.getfield 42, 3) := by decide +kernel
theorem dX9_leastPurse_40 : decode cX9_leastPurse 40 = .ok (.iload_n 1, 1) := by decide +kernel
theorem dX9_leastPurse_41 : decode cX9_leastPurse 41 = .ok (.iaload, 1) := by decide +kernel
theorem dX9_leastPurse_42 : decode cX9_leastPurse 42 = .ok (.isub, 1) := by decide +kernel
theorem dX9_leastPurse_43 : decode cX9_leastPurse 43 = .ok (.ireturn, 1) := by decide +kernel
theorem dX9_lossOf_0 : decode cX9_lossOf 0 = .ok (.iconst 0, 1) := by decide +kernel
theorem dX9_lossOf_1 : decode cX9_lossOf 1 = .ok (.istore_n 2, 1) := by decide +kernel
theorem dX9_lossOf_2 : decode cX9_lossOf 2 = .ok (.iconst 0, 1) := by decide +kernel
theorem dX9_lossOf_3 : decode cX9_lossOf 3 = .ok (.istore_n 3, 1) := by decide +kernel
theorem dX9_lossOf_4 : decode cX9_lossOf 4 = .ok (.iload_n 3, 1) := by decide +kernel
theorem dX9_lossOf_5 : decode cX9_lossOf 5 = .ok (.aload_n 0, 1) := by decide +kernel
theorem dX9_lossOf_6 : decode cX9_lossOf 6 = .ok (.getfield 45, 3) := by decide +kernel
theorem dX9_lossOf_9 : decode cX9_lossOf 9 = .ok (.getfield 153, 3) := by decide +kernel
theorem dX9_lossOf_12 : decode cX9_lossOf 12 = .ok (.if_icmp .ge 33, 3) := by decide +kernel
theorem dX9_lossOf_15 : decode cX9_lossOf 15 = .ok (.aload_n 0, 1) := by decide +kernel
theorem dX9_lossOf_16 : decode cX9_lossOf 16 = .ok (.getfield 15, 3) := by decide +kernel
theorem dX9_lossOf_19 : decode cX9_lossOf 19 = .ok (.iload_n 3, 1) := by decide +kernel
theorem dX9_lossOf_20 : decode cX9_lossOf 20 = .ok (.iaload, 1) := by decide +kernel
theorem dX9_lossOf_21 : decode cX9_lossOf 21 = .ok (.iload_n 1, 1) := by decide +kernel
theorem dX9_lossOf_22 : decode cX9_lossOf 22 = .ok (.if_icmp .ne 17, 3) := by decide +kernel
theorem dX9_lossOf_25 : decode cX9_lossOf 25 = .ok (.iload_n 2, 1) := by decide +kernel
theorem dX9_lossOf_26 : decode cX9_lossOf 26 = .ok (.aload_n 0, 1) := by decide +kernel
theorem dX9_lossOf_27 : decode cX9_lossOf 27 = .ok (.getfield 45, 3) := by decide +kernel
theorem dX9_lossOf_30 : decode cX9_lossOf 30 = .ok (.iload_n 1, 1) := by decide +kernel
theorem dX9_lossOf_31 : decode cX9_lossOf 31 = .ok (.iload_n 3, 1) := by decide +kernel
theorem dX9_lossOf_32 : decode cX9_lossOf 32 = .ok (.invokevirtual 156, 3) := by decide +kernel
theorem dX9_lossOf_35 : decode cX9_lossOf 35 = .ok (.invokestatic 159, 3) := by decide +kernel
theorem dX9_lossOf_38 : decode cX9_lossOf 38 = .ok (.istore_n 2, 1) := by decide +kernel
theorem dX9_lossOf_39 : decode cX9_lossOf 39 = .ok (.iinc 3 1, 3) := by decide +kernel
theorem dX9_lossOf_42 : decode cX9_lossOf 42 = .ok (.goto (-38), 3) := by decide +kernel
theorem dX9_lossOf_45 : decode cX9_lossOf 45 = .ok (.iload_n 2, 1) := by decide +kernel
theorem dX9_lossOf_46 : decode cX9_lossOf 46 = .ok (.ireturn, 1) := by decide +kernel
theorem dX9_maySteal_0 : decode cX9_maySteal 0 = .ok (.aload_n 0, 1) := by decide +kernel
theorem dX9_maySteal_1 : decode cX9_maySteal 1 = .ok (.getfield 15, 3) := by decide +kernel
theorem dX9_maySteal_4 : decode cX9_maySteal 4 = .ok (.iload_n 2, 1) := by decide +kernel
theorem dX9_maySteal_5 : decode cX9_maySteal 5 = .ok (.iaload, 1) := by decide +kernel
theorem dX9_maySteal_6 : decode cX9_maySteal 6 = .ok (.istore_n 3, 1) := by decide +kernel
theorem dX9_maySteal_7 : decode cX9_maySteal 7 = .ok (.iload_n 3, 1) := by decide +kernel
theorem dX9_maySteal_8 : decode cX9_maySteal 8 = .ok (.iload_n 1, 1) := by decide +kernel
theorem dX9_maySteal_9 : decode cX9_maySteal 9 = .ok (.if_icmp .eq 24, 3) := by decide +kernel
theorem dX9_maySteal_12 : decode cX9_maySteal 12 = .ok (.aload_n 0, 1) := by decide +kernel
theorem dX9_maySteal_13 : decode cX9_maySteal 13 = .ok (.iload_n 3, 1) := by decide +kernel
theorem dX9_maySteal_14 : decode cX9_maySteal 14 = .ok (.invokevirtual 107, 3) := by decide +kernel
theorem dX9_maySteal_17 : decode cX9_maySteal 17 = .ok (.ifCond .ne 16, 3) := by decide +kernel
theorem dX9_maySteal_20 : decode cX9_maySteal 20 = .ok (.aload_n 0, 1) := by decide +kernel
theorem dX9_maySteal_21 : decode cX9_maySteal 21 = .ok (.getfield 53, 3) := by decide +kernel
theorem dX9_maySteal_24 : decode cX9_maySteal 24 = .ok (.bipush 24, 2) := by decide +kernel
theorem dX9_maySteal_26 : decode cX9_maySteal 26 = .ok (.if_icmp .ge 7, 3) := by decide +kernel
theorem dX9_maySteal_29 : decode cX9_maySteal 29 = .ok (.iconst 1, 1) := by decide +kernel
theorem dX9_maySteal_30 : decode cX9_maySteal 30 = .ok (.goto 4, 3) := by decide +kernel
theorem dX9_maySteal_33 : decode cX9_maySteal 33 = .ok (.iconst 0, 1) := by decide +kernel
theorem dX9_maySteal_34 : decode cX9_maySteal 34 = .ok (.ireturn, 1) := by decide +kernel
theorem dX9_move_0 : decode cX9_move 0 = .ok (.aload_n 0, 1) := by decide +kernel
theorem dX9_move_1 : decode cX9_move 1 = .ok (.getfield 15, 3) := by decide +kernel
theorem dX9_move_4 : decode cX9_move 4 = .ok (.iload_n 1, 1) := by decide +kernel
theorem dX9_move_5 : decode cX9_move 5 = .ok (.iaload, 1) := by decide +kernel
theorem dX9_move_6 : decode cX9_move 6 = .ok (.iload_n 2, 1) := by decide +kernel
theorem dX9_move_7 : decode cX9_move 7 = .ok (.if_icmp .eq 14, 3) := by decide +kernel
theorem dX9_move_10 : decode cX9_move 10 = .ok (.aload_n 0, 1) := by decide +kernel
theorem dX9_move_11 : decode cX9_move 11 = .ok (.getfield 18, 3) := by decide +kernel
theorem dX9_move_14 : decode cX9_move 14 = .ok (.iload_n 1, 1) := by decide +kernel
theorem dX9_move_15 : decode cX9_move 15 = .ok (.iaload, 1) := by decide +kernel
theorem dX9_move_16 : decode cX9_move 16 = .ok (.bipush 48, 2) := by decide +kernel
theorem dX9_move_18 : decode cX9_move 18 = .ok (.if_icmp .lt 4, 3) := by decide +kernel
theorem dX9_move_21 : decode cX9_move 21 = .ok (.return_, 1) := by decide +kernel
theorem dX9_move_22 : decode cX9_move 22 = .ok (.aload_n 0, 1) := by decide +kernel
theorem dX9_move_23 : decode cX9_move 23 = .ok (.getfield 15, 3) := by decide +kernel
theorem dX9_move_26 : decode cX9_move 26 = .ok (.iload_n 1, 1) := by decide +kernel
theorem dX9_move_27 : decode cX9_move 27 = .ok (.iload_n 2, 1) := by decide +kernel
theorem dX9_move_28 : decode cX9_move 28 = .ok (.iastore, 1) := by decide +kernel
theorem dX9_move_29 : decode cX9_move 29 = .ok (.aload_n 0, 1) := by decide +kernel
theorem dX9_move_30 : decode cX9_move 30 = .ok (.getfield 18, 3) := by decide +kernel
theorem dX9_move_33 : decode cX9_move 33 = .ok (.iload_n 1, 1) := by decide +kernel
theorem dX9_move_34 : decode cX9_move 34 = .ok (.dup2, 1) := by decide +kernel
theorem dX9_move_35 : decode cX9_move 35 = .ok (.iaload, 1) := by decide +kernel
theorem dX9_move_36 : decode cX9_move 36 = .ok (.iconst 1, 1) := by decide +kernel
theorem dX9_move_37 : decode cX9_move 37 = .ok (.iadd, 1) := by decide +kernel
theorem dX9_move_38 : decode cX9_move 38 = .ok (.iastore, 1) := by decide +kernel
theorem dX9_move_39 : decode cX9_move 39 = .ok (.aload_n 0, 1) := by decide +kernel
theorem dX9_move_40 : decode cX9_move 40 = .ok (.getfield 36, 3) := by decide +kernel
theorem dX9_move_43 : decode cX9_move 43 = .ok (.iload_n 1, 1) := by decide +kernel
theorem dX9_move_44 : decode cX9_move 44 = .ok (.bipush 49, 2) := by decide +kernel
theorem dX9_move_46 : decode cX9_move 46 = .ok (.imul, 1) := by decide +kernel
theorem dX9_move_47 : decode cX9_move 47 = .ok (.aload_n 0, 1) := by decide +kernel
theorem dX9_move_48 : decode cX9_move 48 = .ok (.getfield 18, 3) := by decide +kernel
theorem dX9_move_51 : decode cX9_move 51 = .ok (.iload_n 1, 1) := by decide +kernel
theorem dX9_move_52 : decode cX9_move 52 = .ok (.iaload, 1) := by decide +kernel
theorem dX9_move_53 : decode cX9_move 53 = .ok (.iadd, 1) := by decide +kernel
theorem dX9_move_54 : decode cX9_move 54 = .ok (.iload_n 2, 1) := by decide +kernel
theorem dX9_move_55 : decode cX9_move 55 = .ok (.iastore, 1) := by decide +kernel
theorem dX9_move_56 : decode cX9_move 56 = .ok (.return_, 1) := by decide +kernel
theorem dX9_netOf_0 : decode cX9_netOf 0 = .ok (.aload_n 0, 1) := by decide +kernel
theorem dX9_netOf_1 : decode cX9_netOf 1 = .ok (.getfield 9, 3) := by decide +kernel
theorem dX9_netOf_4 : decode cX9_netOf 4 = .ok (.iload_n 1, 1) := by decide +kernel
theorem dX9_netOf_5 : decode cX9_netOf 5 = .ok (.iaload, 1) := by decide +kernel
theorem dX9_netOf_6 : decode cX9_netOf 6 = .ok (.aload_n 0, 1) := by decide +kernel
theorem dX9_netOf_7 : decode cX9_netOf 7 = .ok (.aload_n 0, 1) := by decide +kernel
theorem dX9_netOf_8 : decode cX9_netOf 8 = .ok (.iload_n 1, 1) := by decide +kernel
theorem dX9_netOf_9 : decode cX9_netOf 9 = .ok (.invokevirtual 165, 3) := by decide +kernel
theorem dX9_netOf_12 : decode cX9_netOf 12 = .ok (.invokevirtual 171, 3) := by decide +kernel
theorem dX9_netOf_15 : decode cX9_netOf 15 = .ok (.iadd, 1) := by decide +kernel
theorem dX9_netOf_16 : decode cX9_netOf 16 = .ok (.aload_n 0, 1) := by decide +kernel
theorem dX9_netOf_17 : decode cX9_netOf 17 = .ok (.aload_n 0, 1) := by decide +kernel
theorem dX9_netOf_18 : decode cX9_netOf 18 = .ok (.iload_n 1, 1) := by decide +kernel
theorem dX9_netOf_19 : decode cX9_netOf 19 = .ok (.invokevirtual 168, 3) := by decide +kernel
theorem dX9_netOf_22 : decode cX9_netOf 22 = .ok (.invokevirtual 171, 3) := by decide +kernel
theorem dX9_netOf_25 : decode cX9_netOf 25 = .ok (.isub, 1) := by decide +kernel
theorem dX9_netOf_26 : decode cX9_netOf 26 = .ok (.istore_n 2, 1) := by decide +kernel
theorem dX9_netOf_27 : decode cX9_netOf 27 = .ok (.iconst 0, 1) := by decide +kernel
theorem dX9_netOf_28 : decode cX9_netOf 28 = .ok (.istore_n 3, 1) := by decide +kernel
theorem dX9_netOf_29 : decode cX9_netOf 29 = .ok (.iload_n 3, 1) := by decide +kernel
theorem dX9_netOf_30 : decode cX9_netOf 30 = .ok (.aload_n 0, 1) := by decide +kernel
theorem dX9_netOf_31 : decode cX9_netOf 31 = .ok (.getfield 45, 3) := by decide +kernel
theorem dX9_netOf_34 : decode cX9_netOf 34 = .ok (.getfield 153, 3) := by decide +kernel
theorem dX9_netOf_37 : decode cX9_netOf 37 = .ok (.if_icmp .ge 35, 3) := by decide +kernel
theorem dX9_netOf_40 : decode cX9_netOf 40 = .ok (.iload_n 2, 1) := by decide +kernel
theorem dX9_netOf_41 : decode cX9_netOf 41 = .ok (.aload_n 0, 1) := by decide +kernel
theorem dX9_netOf_42 : decode cX9_netOf 42 = .ok (.getfield 15, 3) := by decide +kernel
theorem dX9_netOf_45 : decode cX9_netOf 45 = .ok (.iload_n 3, 1) := by decide +kernel
theorem dX9_netOf_46 : decode cX9_netOf 46 = .ok (.iaload, 1) := by decide +kernel
theorem dX9_netOf_47 : decode cX9_netOf 47 = .ok (.iload_n 1, 1) := by decide +kernel
theorem dX9_netOf_48 : decode cX9_netOf 48 = .ok (.if_icmp .ne 15, 3) := by decide +kernel
theorem dX9_netOf_51 : decode cX9_netOf 51 = .ok (.aload_n 0, 1) := by decide +kernel
theorem dX9_netOf_52 : decode cX9_netOf 52 = .ok (.getfield 45, 3) := by decide +kernel
theorem dX9_netOf_55 : decode cX9_netOf 55 = .ok (.iload_n 1, 1) := by decide +kernel
theorem dX9_netOf_56 : decode cX9_netOf 56 = .ok (.iload_n 3, 1) := by decide +kernel
theorem dX9_netOf_57 : decode cX9_netOf 57 = .ok (.invokevirtual 174, 3) := by decide +kernel
theorem dX9_netOf_60 : decode cX9_netOf 60 = .ok (.goto 4, 3) := by decide +kernel
theorem dX9_netOf_63 : decode cX9_netOf 63 = .ok (.iconst 0, 1) := by decide +kernel
theorem dX9_netOf_64 : decode cX9_netOf 64 = .ok (.iadd, 1) := by decide +kernel
theorem dX9_netOf_65 : decode cX9_netOf 65 = .ok (.istore_n 2, 1) := by decide +kernel
theorem dX9_netOf_66 : decode cX9_netOf 66 = .ok (.iinc 3 1, 3) := by decide +kernel
theorem dX9_netOf_69 : decode cX9_netOf 69 = .ok (.goto (-40), 3) := by decide +kernel
theorem dX9_netOf_72 : decode cX9_netOf 72 = .ok (.iload_n 2, 1) := by decide +kernel
theorem dX9_netOf_73 : decode cX9_netOf 73 = .ok (.ireturn, 1) := by decide +kernel
theorem dX9_openPapers_0 : decode cX9_openPapers 0 = .ok (.iconst 0, 1) := by decide +kernel
theorem dX9_openPapers_1 : decode cX9_openPapers 1 = .ok (.istore_n 1, 1) := by decide +kernel
theorem dX9_openPapers_2 : decode cX9_openPapers 2 = .ok (.iconst 0, 1) := by decide +kernel
theorem dX9_openPapers_3 : decode cX9_openPapers 3 = .ok (.istore_n 2, 1) := by decide +kernel
theorem dX9_openPapers_4 : decode cX9_openPapers 4 = .ok (.iload_n 2, 1) := by decide +kernel
theorem dX9_openPapers_5 : decode cX9_openPapers 5 = .ok (.aload_n 0, 1) := by decide +kernel
theorem dX9_openPapers_6 : decode cX9_openPapers 6 = .ok (.getfield 53, 3) := by decide +kernel
theorem dX9_openPapers_9 : decode cX9_openPapers 9 = .ok (.if_icmp .ge 27, 3) := by decide +kernel
theorem dX9_openPapers_12 : decode cX9_openPapers 12 = .ok (.iload_n 1, 1) := by decide +kernel
theorem dX9_openPapers_13 : decode cX9_openPapers 13 = .ok (.aload_n 0, 1) := by decide +kernel
theorem dX9_openPapers_14 : decode cX9_openPapers 14 = .ok (.iload_n 2, 1) := by decide +kernel
theorem dX9_openPapers_15 : decode cX9_openPapers 15 = .ok (.invokevirtual 125, 3) := by decide +kernel
theorem dX9_openPapers_18 : decode cX9_openPapers 18 = .ok (.ifCond .eq 9, 3) := by decide +kernel
theorem dX9_openPapers_21 : decode cX9_openPapers 21 = .ok (.iconst 1, 1) := by decide +kernel
theorem dX9_openPapers_22 : decode cX9_openPapers 22 = .ok (.iload_n 2, 1) := by decide +kernel
theorem dX9_openPapers_23 : decode cX9_openPapers 23 = .ok (.ishl, 1) := by decide +kernel
theorem dX9_openPapers_24 : decode cX9_openPapers 24 = .ok (.goto 4, 3) := by decide +kernel
theorem dX9_openPapers_27 : decode cX9_openPapers 27 = .ok (.iconst 0, 1) := by decide +kernel
theorem dX9_openPapers_28 : decode cX9_openPapers 28 = .ok (.ior, 1) := by decide +kernel
theorem dX9_openPapers_29 : decode cX9_openPapers 29 = .ok (.istore_n 1, 1) := by decide +kernel
theorem dX9_openPapers_30 : decode cX9_openPapers 30 = .ok (.iinc 2 1, 3) := by decide +kernel
theorem dX9_openPapers_33 : decode cX9_openPapers 33 = .ok (.goto (-29), 3) := by decide +kernel
theorem dX9_openPapers_36 : decode cX9_openPapers 36 = .ok (.iload_n 1, 1) := by decide +kernel
theorem dX9_openPapers_37 : decode cX9_openPapers 37 = .ok (.ireturn, 1) := by decide +kernel
theorem dX9_owedBy_0 : decode cX9_owedBy 0 = .ok (.iconst 0, 1) := by decide +kernel
theorem dX9_owedBy_1 : decode cX9_owedBy 1 = .ok (.istore_n 2, 1) := by decide +kernel
theorem dX9_owedBy_2 : decode cX9_owedBy 2 = .ok (.iconst 0, 1) := by decide +kernel
theorem dX9_owedBy_3 : decode cX9_owedBy 3 = .ok (.istore_n 3, 1) := by decide +kernel
theorem dX9_owedBy_4 : decode cX9_owedBy 4 = .ok (.iload_n 3, 1) := by decide +kernel
theorem dX9_owedBy_5 : decode cX9_owedBy 5 = .ok (.aload_n 0, 1) := by decide +kernel
theorem dX9_owedBy_6 : decode cX9_owedBy 6 = .ok (.getfield 53, 3) := by decide +kernel
theorem dX9_owedBy_9 : decode cX9_owedBy 9 = .ok (.if_icmp .ge 37, 3) := by decide +kernel
theorem dX9_owedBy_12 : decode cX9_owedBy 12 = .ok (.iload_n 2, 1) := by decide +kernel
theorem dX9_owedBy_13 : decode cX9_owedBy 13 = .ok (.aload_n 0, 1) := by decide +kernel
theorem dX9_owedBy_14 : decode cX9_owedBy 14 = .ok (.iload_n 3, 1) := by decide +kernel
theorem dX9_owedBy_15 : decode cX9_owedBy 15 = .ok (.invokevirtual 125, 3) := by decide +kernel
theorem dX9_owedBy_18 : decode cX9_owedBy 18 = .ok (.ifCond .eq 19, 3) := by decide +kernel
theorem dX9_owedBy_21 : decode cX9_owedBy 21 = .ok (.aload_n 0, 1) := by decide +kernel
theorem dX9_owedBy_22 : decode cX9_owedBy 22 = .ok (.getfield 21, 3) := by decide +kernel
theorem dX9_owedBy_25 : decode cX9_owedBy 25 = .ok (.iload_n 3, 1) := by decide +kernel
theorem dX9_owedBy_26 : decode cX9_owedBy 26 = .ok (.iaload, 1) := by decide +kernel
theorem dX9_owedBy_27 : decode cX9_owedBy 27 = .ok (.iload_n 1, 1) := by decide +kernel
theorem dX9_owedBy_28 : decode cX9_owedBy 28 = .ok (.if_icmp .ne 9, 3) := by decide +kernel
theorem dX9_owedBy_31 : decode cX9_owedBy 31 = .ok (.iconst 1, 1) := by decide +kernel
theorem dX9_owedBy_32 : decode cX9_owedBy 32 = .ok (.iload_n 3, 1) := by decide +kernel
theorem dX9_owedBy_33 : decode cX9_owedBy 33 = .ok (.ishl, 1) := by decide +kernel
theorem dX9_owedBy_34 : decode cX9_owedBy 34 = .ok (.goto 4, 3) := by decide +kernel
theorem dX9_owedBy_37 : decode cX9_owedBy 37 = .ok (.iconst 0, 1) := by decide +kernel
theorem dX9_owedBy_38 : decode cX9_owedBy 38 = .ok (.ior, 1) := by decide +kernel
theorem dX9_owedBy_39 : decode cX9_owedBy 39 = .ok (.istore_n 2, 1) := by decide +kernel
theorem dX9_owedBy_40 : decode cX9_owedBy 40 = .ok (.iinc 3 1, 3) := by decide +kernel
theorem dX9_owedBy_43 : decode cX9_owedBy 43 = .ok (.goto (-39), 3) := by decide +kernel
theorem dX9_owedBy_46 : decode cX9_owedBy 46 = .ok (.iload_n 2, 1) := by decide +kernel
theorem dX9_owedBy_47 : decode cX9_owedBy 47 = .ok (.ireturn, 1) := by decide +kernel
theorem dX9_owedTo_0 : decode cX9_owedTo 0 = .ok (.iload_n 1, 1) := by decide +kernel
theorem dX9_owedTo_1 : decode cX9_owedTo 1 = .ok (.iload_n 2, 1) := by decide +kernel
theorem dX9_owedTo_2 : decode cX9_owedTo 2 = .ok (.if_icmp .ne 7, 3) := by decide +kernel
theorem dX9_owedTo_5 : decode cX9_owedTo 5 = .ok (.iconst 0, 1) := by decide +kernel
theorem dX9_owedTo_6 : decode cX9_owedTo 6 = .ok (.goto 18, 3) := by decide +kernel
theorem dX9_owedTo_9 : decode cX9_owedTo 9 = .ok (.aload_n 0, 1) := by decide +kernel
theorem dX9_owedTo_10 : decode cX9_owedTo 10 = .ok (.aload_n 0, 1) := by decide +kernel
theorem dX9_owedTo_11 : decode cX9_owedTo 11 = .ok (.iload_n 1, 1) := by decide +kernel
theorem dX9_owedTo_12 : decode cX9_owedTo 12 = .ok (.invokevirtual 165, 3) := by decide +kernel
theorem dX9_owedTo_15 : decode cX9_owedTo 15 = .ok (.aload_n 0, 1) := by decide +kernel
theorem dX9_owedTo_16 : decode cX9_owedTo 16 = .ok (.iload_n 2, 1) := by decide +kernel
theorem dX9_owedTo_17 : decode cX9_owedTo 17 = .ok (.invokevirtual 168, 3) := by decide +kernel
theorem dX9_owedTo_20 : decode cX9_owedTo 20 = .ok (.iand, 1) := by decide +kernel
theorem dX9_owedTo_21 : decode cX9_owedTo 21 = .ok (.invokevirtual 171, 3) := by decide +kernel
theorem dX9_owedTo_24 : decode cX9_owedTo 24 = .ok (.ireturn, 1) := by decide +kernel
theorem dX9_owedWithoutThing_0 : decode cX9_owedWithoutThing 0 = .ok (.iconst 0, 1) := by decide +kernel
theorem dX9_owedWithoutThing_1 : decode cX9_owedWithoutThing 1 = .ok (.istore_n 2, 1) := by decide +kernel
theorem dX9_owedWithoutThing_2 : decode cX9_owedWithoutThing 2 = .ok (.iconst 0, 1) := by decide +kernel
theorem dX9_owedWithoutThing_3 : decode cX9_owedWithoutThing 3 = .ok (.istore_n 3, 1) := by decide +kernel
theorem dX9_owedWithoutThing_4 : decode cX9_owedWithoutThing 4 = .ok (.iload_n 3, 1) := by decide +kernel
theorem dX9_owedWithoutThing_5 : decode cX9_owedWithoutThing 5 = .ok (.aload_n 0, 1) := by decide +kernel
theorem dX9_owedWithoutThing_6 : decode cX9_owedWithoutThing 6 = .ok (.getfield 53, 3) := by decide +kernel
theorem dX9_owedWithoutThing_9 : decode cX9_owedWithoutThing 9 = .ok (.if_icmp .ge 43, 3) := by decide +kernel
theorem dX9_owedWithoutThing_12 : decode cX9_owedWithoutThing 12 = .ok (.aload_n 0, 1) := by decide +kernel
theorem dX9_owedWithoutThing_13 : decode cX9_owedWithoutThing 13 = .ok (.iload_n 3, 1) := by decide +kernel
theorem dX9_owedWithoutThing_14 : decode cX9_owedWithoutThing 14 = .ok (.invokevirtual 125, 3) := by decide +kernel
theorem dX9_owedWithoutThing_17 : decode cX9_owedWithoutThing 17 = .ok (.ifCond .eq 29, 3) := by decide +kernel
theorem dX9_owedWithoutThing_20 : decode cX9_owedWithoutThing 20 = .ok (.aload_n 0, 1) := by decide +kernel
theorem dX9_owedWithoutThing_21 : decode cX9_owedWithoutThing 21 = .ok (.getfield 21, 3) := by decide +kernel
theorem dX9_owedWithoutThing_24 : decode cX9_owedWithoutThing 24 = .ok (.iload_n 3, 1) := by decide +kernel
theorem dX9_owedWithoutThing_25 : decode cX9_owedWithoutThing 25 = .ok (.iaload, 1) := by decide +kernel
theorem dX9_owedWithoutThing_26 : decode cX9_owedWithoutThing 26 = .ok (.iload_n 1, 1) := by decide +kernel
theorem dX9_owedWithoutThing_27 : decode cX9_owedWithoutThing 27 = .ok (.if_icmp .ne 19, 3) := by decide +kernel
theorem dX9_owedWithoutThing_30 : decode cX9_owedWithoutThing 30 = .ok (.aload_n 0, 1) := by decide +kernel
theorem dX9_owedWithoutThing_31 : decode cX9_owedWithoutThing 31 = .ok (.iload_n 3, 1) := by decide +kernel
theorem dX9_owedWithoutThing_32 : decode cX9_owedWithoutThing 32 = .ok (.invokevirtual 135, 3) := by decide +kernel
theorem dX9_owedWithoutThing_35 : decode cX9_owedWithoutThing 35 = .ok (.ifCond .ne 11, 3) := by decide +kernel
theorem dX9_owedWithoutThing_38 : decode cX9_owedWithoutThing 38 = .ok (.iload_n 2, 1) := by decide +kernel
theorem dX9_owedWithoutThing_39 : decode cX9_owedWithoutThing 39 = .ok (.aload_n 0, 1) := by decide +kernel
theorem dX9_owedWithoutThing_40 : decode cX9_owedWithoutThing 40 = .ok (.iload_n 3, 1) := by decide +kernel
theorem dX9_owedWithoutThing_41 : decode cX9_owedWithoutThing 41 = .ok (.invokevirtual 132, 3) := by decide +kernel
theorem dX9_owedWithoutThing_44 : decode cX9_owedWithoutThing 44 = .ok (.iadd, 1) := by decide +kernel
theorem dX9_owedWithoutThing_45 : decode cX9_owedWithoutThing 45 = .ok (.istore_n 2, 1) := by decide +kernel
theorem dX9_owedWithoutThing_46 : decode cX9_owedWithoutThing 46 = .ok (.iinc 3 1, 3) := by decide +kernel
theorem dX9_owedWithoutThing_49 : decode cX9_owedWithoutThing 49 = .ok (.goto (-45), 3) := by decide +kernel
theorem dX9_owedWithoutThing_52 : decode cX9_owedWithoutThing 52 = .ok (.iload_n 2, 1) := by decide +kernel
theorem dX9_owedWithoutThing_53 : decode cX9_owedWithoutThing 53 = .ok (.ireturn, 1) := by decide +kernel
theorem dX9_passNight_0 : decode cX9_passNight 0 = .ok (.aload_n 0, 1) := by decide +kernel
theorem dX9_passNight_1 : decode cX9_passNight 1 = .ok (.dup, 1) := by decide +kernel
theorem dX9_passNight_2 : decode cX9_passNight 2 = .ok (.getfield 49, 3) := by decide +kernel
theorem dX9_passNight_5 : decode cX9_passNight 5 = .ok (.iconst 1, 1) := by decide +kernel
theorem dX9_passNight_6 : decode cX9_passNight 6 = .ok (.iadd, 1) := by decide +kernel
theorem dX9_passNight_7 : decode cX9_passNight 7 = .ok (.putfield 49, 3) := by decide +kernel
theorem dX9_passNight_10 : decode cX9_passNight 10 = .ok (.aload_n 0, 1) := by decide +kernel
theorem dX9_passNight_11 : decode cX9_passNight 11 = .ok (.getfield 39, 3) := by decide +kernel
theorem dX9_passNight_14 : decode cX9_passNight 14 = .ok (.iconst 0, 1) := by decide +kernel
theorem dX9_passNight_15 : decode cX9_passNight 15 = .ok (.invokestatic 74, 3) := by decide +kernel
theorem dX9_passNight_18 : decode cX9_passNight 18 = .ok (.iconst 0, 1) := by decide +kernel
theorem dX9_passNight_19 : decode cX9_passNight 19 = .ok (.istore_n 1, 1) := by decide +kernel
theorem dX9_passNight_20 : decode cX9_passNight 20 = .ok (.iconst 0, 1) := by decide +kernel
theorem dX9_passNight_21 : decode cX9_passNight 21 = .ok (.istore_n 2, 1) := by decide +kernel
theorem dX9_passNight_22 : decode cX9_passNight 22 = .ok (.iload_n 2, 1) := by decide +kernel
theorem dX9_passNight_23 : decode cX9_passNight 23 = .ok (.aload_n 0, 1) := by decide +kernel
theorem dX9_passNight_24 : decode cX9_passNight 24 = .ok (.getfield 53, 3) := by decide +kernel
theorem dX9_passNight_27 : decode cX9_passNight 27 = .ok (.if_icmp .ge 55, 3) := by decide +kernel
theorem dX9_passNight_30 : decode cX9_passNight 30 = .ok (.aload_n 0, 1) := by decide +kernel
theorem dX9_passNight_31 : decode cX9_passNight 31 = .ok (.getfield 30, 3) := by decide +kernel
theorem dX9_passNight_34 : decode cX9_passNight 34 = .ok (.iload_n 2, 1) := by decide +kernel
theorem dX9_passNight_35 : decode cX9_passNight 35 = .ok (.iaload, 1) := by decide +kernel
theorem dX9_passNight_36 : decode cX9_passNight 36 = .ok (.aload_n 0, 1) := by decide +kernel
theorem dX9_passNight_37 : decode cX9_passNight 37 = .ok (.getfield 49, 3) := by decide +kernel
theorem dX9_passNight_40 : decode cX9_passNight 40 = .ok (.if_icmp .ne 36, 3) := by decide +kernel
theorem dX9_passNight_43 : decode cX9_passNight 43 = .ok (.aload_n 0, 1) := by decide +kernel
theorem dX9_passNight_44 : decode cX9_passNight 44 = .ok (.iload_n 2, 1) := by decide +kernel
theorem dX9_passNight_45 : decode cX9_passNight 45 = .ok (.invokevirtual 125, 3) := by decide +kernel
theorem dX9_passNight_48 : decode cX9_passNight 48 = .ok (.ifCond .eq 28, 3) := by decide +kernel
theorem dX9_passNight_51 : decode cX9_passNight 51 = .ok (.aload_n 0, 1) := by decide +kernel
theorem dX9_passNight_52 : decode cX9_passNight 52 = .ok (.iload_n 2, 1) := by decide +kernel
theorem dX9_passNight_53 : decode cX9_passNight 53 = .ok (.invokevirtual 128, 3) := by decide +kernel
theorem dX9_passNight_56 : decode cX9_passNight 56 = .ok (.iload_n 1, 1) := by decide +kernel
theorem dX9_passNight_57 : decode cX9_passNight 57 = .ok (.aload_n 0, 1) := by decide +kernel
theorem dX9_passNight_58 : decode cX9_passNight 58 = .ok (.getfield 33, 3) := by decide +kernel
theorem dX9_passNight_61 : decode cX9_passNight 61 = .ok (.iload_n 2, 1) := by decide +kernel
theorem dX9_passNight_62 : decode cX9_passNight 62 = .ok (.iaload, 1) := by decide +kernel
theorem dX9_passNight_63 : decode cX9_passNight 63 = .ok (.iconst 3, 1) := by decide +kernel
theorem dX9_passNight_64 : decode cX9_passNight 64 = .ok (.if_icmp .ne 9, 3) := by decide +kernel
theorem dX9_passNight_67 : decode cX9_passNight 67 = .ok (.iconst 1, 1) := by decide +kernel
theorem dX9_passNight_68 : decode cX9_passNight 68 = .ok (.iload_n 2, 1) := by decide +kernel
theorem dX9_passNight_69 : decode cX9_passNight 69 = .ok (.ishl, 1) := by decide +kernel
theorem dX9_passNight_70 : decode cX9_passNight 70 = .ok (.goto 4, 3) := by decide +kernel
theorem dX9_passNight_73 : decode cX9_passNight 73 = .ok (.iconst 0, 1) := by decide +kernel
theorem dX9_passNight_74 : decode cX9_passNight 74 = .ok (.ior, 1) := by decide +kernel
theorem dX9_passNight_75 : decode cX9_passNight 75 = .ok (.istore_n 1, 1) := by decide +kernel
theorem dX9_passNight_76 : decode cX9_passNight 76 = .ok (.iinc 2 1, 3) := by decide +kernel
theorem dX9_passNight_79 : decode cX9_passNight 79 = .ok (.goto (-57), 3) := by decide +kernel
theorem dX9_passNight_82 : decode cX9_passNight 82 = .ok (.iload_n 1, 1) := by decide +kernel
theorem dX9_passNight_83 : decode cX9_passNight 83 = .ok (.ireturn, 1) := by decide +kernel
theorem dX9_pay_0 : decode cX9_pay 0 = .ok (.aload_n 0, 1) := by decide +kernel
theorem dX9_pay_1 : decode cX9_pay 1 = .ok (.getfield 9, 3) := by decide +kernel
theorem dX9_pay_4 : decode cX9_pay 4 = .ok (.iload_n 1, 1) := by decide +kernel
theorem dX9_pay_5 : decode cX9_pay 5 = .ok (.dup2, 1) := by decide +kernel
theorem dX9_pay_6 : decode cX9_pay 6 = .ok (.iaload, 1) := by decide +kernel
theorem dX9_pay_7 : decode cX9_pay 7 = .ok (.iload_n 3, 1) := by decide +kernel
theorem dX9_pay_8 : decode cX9_pay 8 = .ok (.isub, 1) := by decide +kernel
theorem dX9_pay_9 : decode cX9_pay 9 = .ok (.iastore, 1) := by decide +kernel
theorem dX9_pay_10 : decode cX9_pay 10 = .ok (.aload_n 0, 1) := by decide +kernel
theorem dX9_pay_11 : decode cX9_pay 11 = .ok (.getfield 9, 3) := by decide +kernel
theorem dX9_pay_14 : decode cX9_pay 14 = .ok (.iload_n 2, 1) := by decide +kernel
theorem dX9_pay_15 : decode cX9_pay 15 = .ok (.dup2, 1) := by decide +kernel
theorem dX9_pay_16 : decode cX9_pay 16 = .ok (.iaload, 1) := by decide +kernel
theorem dX9_pay_17 : decode cX9_pay 17 = .ok (.iload_n 3, 1) := by decide +kernel
theorem dX9_pay_18 : decode cX9_pay 18 = .ok (.iadd, 1) := by decide +kernel
theorem dX9_pay_19 : decode cX9_pay 19 = .ok (.iastore, 1) := by decide +kernel
theorem dX9_pay_20 : decode cX9_pay 20 = .ok (.return_, 1) := by decide +kernel
theorem dX9_priceOf_0 : decode cX9_priceOf 0 = .ok (.aload_n 0, 1) := by decide +kernel
theorem dX9_priceOf_1 : decode cX9_priceOf 1 = .ok (.iload_n 1, 1) := by decide +kernel
theorem dX9_priceOf_2 : decode cX9_priceOf 2 = .ok (.invokevirtual 132, 3) := by decide +kernel
theorem dX9_priceOf_5 : decode cX9_priceOf 5 = .ok (.istore_n 2, 1) := by decide +kernel
theorem dX9_priceOf_6 : decode cX9_priceOf 6 = .ok (.aload_n 0, 1) := by decide +kernel
theorem dX9_priceOf_7 : decode cX9_priceOf 7 = .ok (.getfield 49, 3) := by decide +kernel
theorem dX9_priceOf_10 : decode cX9_priceOf 10 = .ok (.istore_n 3, 1) := by decide +kernel
theorem dX9_priceOf_11 : decode cX9_priceOf 11 = .ok (.iload_n 3, 1) := by decide +kernel
theorem dX9_priceOf_12 : decode cX9_priceOf 12 = .ok (.aload_n 0, 1) := by decide +kernel
theorem dX9_priceOf_13 : decode cX9_priceOf 13 = .ok (.getfield 30, 3) := by decide +kernel
theorem dX9_priceOf_16 : decode cX9_priceOf 16 = .ok (.iload_n 1, 1) := by decide +kernel
theorem dX9_priceOf_17 : decode cX9_priceOf 17 = .ok (.iaload, 1) := by decide +kernel
theorem dX9_priceOf_18 : decode cX9_priceOf 18 = .ok (.if_icmp .ge 25, 3) := by decide +kernel
theorem dX9_priceOf_21 : decode cX9_priceOf 21 = .ok (.iload_n 2, 1) := by decide +kernel
theorem dX9_priceOf_22 : decode cX9_priceOf 22 = .ok (.bipush 100, 2) := by decide +kernel
theorem dX9_priceOf_24 : decode cX9_priceOf 24 = .ok (.aload_n 0, 1) := by decide +kernel
theorem dX9_priceOf_25 : decode cX9_priceOf 25 = .ok (.getfield 45, 3) := by decide +kernel
theorem dX9_priceOf_28 : decode cX9_priceOf 28 = .ok (.getfield 150, 3) := by decide +kernel
theorem dX9_priceOf_31 : decode cX9_priceOf 31 = .ok (.isub, 1) := by decide +kernel
theorem dX9_priceOf_32 : decode cX9_priceOf 32 = .ok (.imul, 1) := by decide +kernel
theorem dX9_priceOf_33 : decode cX9_priceOf 33 = .ok (.bipush 100, 2) := by decide +kernel
theorem dX9_priceOf_35 : decode cX9_priceOf 35 = .ok (.idiv, 1) := by decide +kernel
theorem dX9_priceOf_36 : decode cX9_priceOf 36 = .ok (.istore_n 2, 1) := by decide +kernel
theorem dX9_priceOf_37 : decode cX9_priceOf 37 = .ok (.iinc 3 1, 3) := by decide +kernel
theorem dX9_priceOf_40 : decode cX9_priceOf 40 = .ok (.goto (-29), 3) := by decide +kernel
theorem dX9_priceOf_43 : decode cX9_priceOf 43 = .ok (.iload_n 2, 1) := by decide +kernel
theorem dX9_priceOf_44 : decode cX9_priceOf 44 = .ok (.ireturn, 1) := by decide +kernel
theorem dX9_settle_0 : decode cX9_settle 0 = .ok (.aload_n 0, 1) := by decide +kernel
theorem dX9_settle_1 : decode cX9_settle 1 = .ok (.getfield 21, 3) := by decide +kernel
theorem dX9_settle_4 : decode cX9_settle 4 = .ok (.iload_n 1, 1) := by decide +kernel
theorem dX9_settle_5 : decode cX9_settle 5 = .ok (.iaload, 1) := by decide +kernel
theorem dX9_settle_6 : decode cX9_settle 6 = .ok (.istore_n 2, 1) := by decide +kernel
theorem dX9_settle_7 : decode cX9_settle 7 = .ok (.aload_n 0, 1) := by decide +kernel
theorem dX9_settle_8 : decode cX9_settle 8 = .ok (.getfield 9, 3) := by decide +kernel
theorem dX9_settle_11 : decode cX9_settle 11 = .ok (.iload_n 2, 1) := by decide +kernel
theorem dX9_settle_12 : decode cX9_settle 12 = .ok (.iaload, 1) := by decide +kernel
theorem dX9_settle_13 : decode cX9_settle 13 = .ok (.aload_n 0, 1) := by decide +kernel
theorem dX9_settle_14 : decode cX9_settle 14 = .ok (.iload_n 1, 1) := by decide +kernel
theorem dX9_settle_15 : decode cX9_settle 15 = .ok (.invokevirtual 132, 3) := by decide +kernel
theorem dX9_settle_18 : decode cX9_settle 18 = .ok (.isub, 1) := by decide +kernel
theorem dX9_settle_19 : decode cX9_settle 19 = .ok (.istore_n 3, 1) := by decide +kernel
theorem dX9_settle_20 : decode cX9_settle 20 = .ok (.aload_n 0, 1) := by decide +kernel
theorem dX9_settle_21 : decode cX9_settle 21 = .ok (.iload_n 1, 1) := by decide +kernel
theorem dX9_settle_22 : decode cX9_settle 22 = .ok (.invokevirtual 135, 3) := by decide +kernel
theorem dX9_settle_25 : decode cX9_settle 25 = .ok (.ifCond .eq 38, 3) := by decide +kernel
theorem dX9_settle_28 : decode cX9_settle 28 = .ok (.aload_n 0, 1) := by decide +kernel
theorem dX9_settle_29 : decode cX9_settle 29 = .ok (.getfield 39, 3) := by decide +kernel
theorem dX9_settle_32 : decode cX9_settle 32 = .ok (.iload_n 2, 1) := by decide +kernel
theorem dX9_settle_33 : decode cX9_settle 33 = .ok (.iaload, 1) := by decide +kernel
theorem dX9_settle_34 : decode cX9_settle 34 = .ok (.aload_n 0, 1) := by decide +kernel
theorem dX9_settle_35 : decode cX9_settle 35 = .ok (.getfield 45, 3) := by decide +kernel
theorem dX9_settle_38 : decode cX9_settle 38 = .ok (.getfield 138, 3) := by decide +kernel
theorem dX9_settle_41 : decode cX9_settle 41 = .ok (.if_icmp .ge 22, 3) := by decide +kernel
theorem dX9_settle_44 : decode cX9_settle 44 = .ok (.aload_n 0, 1) := by decide +kernel
theorem dX9_settle_45 : decode cX9_settle 45 = .ok (.getfield 39, 3) := by decide +kernel
theorem dX9_settle_48 : decode cX9_settle 48 = .ok (.iload_n 2, 1) := by decide +kernel
theorem dX9_settle_49 : decode cX9_settle 49 = .ok (.dup2, 1) := by decide +kernel
theorem dX9_settle_50 : decode cX9_settle 50 = .ok (.iaload, 1) := by decide +kernel
theorem dX9_settle_51 : decode cX9_settle 51 = .ok (.iconst 1, 1) := by decide +kernel
theorem dX9_settle_52 : decode cX9_settle 52 = .ok (.iadd, 1) := by decide +kernel
theorem dX9_settle_53 : decode cX9_settle 53 = .ok (.iastore, 1) := by decide +kernel
theorem dX9_settle_54 : decode cX9_settle 54 = .ok (.aload_n 0, 1) := by decide +kernel
theorem dX9_settle_55 : decode cX9_settle 55 = .ok (.iload_n 1, 1) := by decide +kernel
theorem dX9_settle_56 : decode cX9_settle 56 = .ok (.invokevirtual 88, 3) := by decide +kernel
theorem dX9_settle_59 : decode cX9_settle 59 = .ok (.pop, 1) := by decide +kernel
theorem dX9_settle_60 : decode cX9_settle 60 = .ok (.goto 56, 3) := by decide +kernel
theorem dX9_settle_63 : decode cX9_settle 63 = .ok (.iload_n 3, 1) := by decide +kernel
theorem dX9_settle_64 : decode cX9_settle 64 = .ok (.ifCond .lt 45, 3) := by decide +kernel
theorem dX9_settle_67 : decode cX9_settle 67 = .ok (.aload_n 0, 1) := by decide +kernel
theorem dX9_settle_68 : decode cX9_settle 68 = .ok (.getfield 42, 3) := by decide +kernel
theorem dX9_settle_71 : decode cX9_settle 71 = .ok (.iload_n 2, 1) := by decide +kernel
theorem dX9_settle_72 : decode cX9_settle 72 = .ok (.aload_n 0, 1) := by decide +kernel
theorem dX9_settle_73 : decode cX9_settle 73 = .ok (.getfield 42, 3) := by decide +kernel
theorem dX9_settle_76 : decode cX9_settle 76 = .ok (.iload_n 2, 1) := by decide +kernel
theorem dX9_settle_77 : decode cX9_settle 77 = .ok (.iaload, 1) := by decide +kernel
theorem dX9_settle_78 : decode cX9_settle 78 = .ok (.iload_n 3, 1) := by decide +kernel
theorem dX9_settle_79 : decode cX9_settle 79 = .ok (.invokestatic 141, 3) := by decide +kernel
theorem dX9_settle_82 : decode cX9_settle 82 = .ok (.iastore, 1) := by decide +kernel
theorem dX9_settle_83 : decode cX9_settle 83 = .ok (.aload_n 0, 1) := by decide +kernel
theorem dX9_settle_84 : decode cX9_settle 84 = .ok (.iload_n 2, 1) := by decide +kernel
theorem dX9_settle_85 : decode cX9_settle 85 = .ok (.aload_n 0, 1) := by decide +kernel
theorem dX9_settle_86 : decode cX9_settle 86 = .ok (.getfield 27, 3) := by decide +kernel
theorem dX9_settle_89 : decode cX9_settle 89 = .ok (.iload_n 1, 1) := by decide +kernel
theorem dX9_settle_90 : decode cX9_settle 90 = .ok (.iaload, 1) := by decide +kernel
theorem dX9_settle_91 : decode cX9_settle 91 = .ok (.aload_n 0, 1) := by decide +kernel
theorem dX9_settle_92 : decode cX9_settle 92 = .ok (.iload_n 1, 1) := by decide +kernel
theorem dX9_settle_93 : decode cX9_settle 93 = .ok (.invokevirtual 132, 3) := by decide +kernel
theorem dX9_settle_96 : decode cX9_settle 96 = .ok (.invokevirtual 118, 3) := by decide +kernel
theorem dX9_settle_99 : decode cX9_settle 99 = .ok (.aload_n 0, 1) := by decide +kernel
theorem dX9_settle_100 : decode cX9_settle 100 = .ok (.getfield 33, 3) := by decide +kernel
theorem dX9_settle_103 : decode cX9_settle 103 = .ok (.iload_n 1, 1) := by decide +kernel
theorem dX9_settle_104 : decode cX9_settle 104 = .ok (.iconst 2, 1) := by decide +kernel
theorem dX9_settle_105 : decode cX9_settle 105 = .ok (.iastore, 1) := by decide +kernel
theorem dX9_settle_106 : decode cX9_settle 106 = .ok (.goto 10, 3) := by decide +kernel
theorem dX9_settle_109 : decode cX9_settle 109 = .ok (.aload_n 0, 1) := by decide +kernel
theorem dX9_settle_110 : decode cX9_settle 110 = .ok (.getfield 33, 3) := by decide +kernel
theorem dX9_settle_113 : decode cX9_settle 113 = .ok (.iload_n 1, 1) := by decide +kernel
theorem dX9_settle_114 : decode cX9_settle 114 = .ok (.iconst 3, 1) := by decide +kernel
theorem dX9_settle_115 : decode cX9_settle 115 = .ok (.iastore, 1) := by decide +kernel
theorem dX9_settle_116 : decode cX9_settle 116 = .ok (.return_, 1) := by decide +kernel
theorem dX9_stationOf_0 : decode cX9_stationOf 0 = .ok (.aload_n 0, 1) := by decide +kernel
theorem dX9_stationOf_1 : decode cX9_stationOf 1 = .ok (.getfield 36, 3) := by decide +kernel
theorem dX9_stationOf_4 : decode cX9_stationOf 4 = .ok (.iload_n 1, 1) := by decide +kernel
theorem dX9_stationOf_5 : decode cX9_stationOf 5 = .ok (.bipush 49, 2) := by decide +kernel
theorem dX9_stationOf_7 : decode cX9_stationOf 7 = .ok (.imul, 1) := by decide +kernel
theorem dX9_stationOf_8 : decode cX9_stationOf 8 = .ok (.iload_n 2, 1) := by decide +kernel
theorem dX9_stationOf_9 : decode cX9_stationOf 9 = .ok (.iadd, 1) := by decide +kernel
theorem dX9_stationOf_10 : decode cX9_stationOf 10 = .ok (.iaload, 1) := by decide +kernel
theorem dX9_stationOf_11 : decode cX9_stationOf 11 = .ok (.ireturn, 1) := by decide +kernel
theorem dX9_take_0 : decode cX9_take 0 = .ok (.aload_n 0, 1) := by decide +kernel
theorem dX9_take_1 : decode cX9_take 1 = .ok (.getfield 53, 3) := by decide +kernel
theorem dX9_take_4 : decode cX9_take 4 = .ok (.bipush 24, 2) := by decide +kernel
theorem dX9_take_6 : decode cX9_take 6 = .ok (.if_icmp .lt 6, 3) := by decide +kernel
theorem dX9_take_9 : decode cX9_take 9 = .ok (.bipush (-5), 2) := by decide +kernel
theorem dX9_take_11 : decode cX9_take 11 = .ok (.ireturn, 1) := by decide +kernel
theorem dX9_take_12 : decode cX9_take 12 = .ok (.aload_n 0, 1) := by decide +kernel
theorem dX9_take_13 : decode cX9_take 13 = .ok (.getfield 53, 3) := by decide +kernel
theorem dX9_take_16 : decode cX9_take 16 = .ok (.istore 4, 2) := by decide +kernel
theorem dX9_take_18 : decode cX9_take 18 = .ok (.aload_n 0, 1) := by decide +kernel
theorem dX9_take_19 : decode cX9_take 19 = .ok (.getfield 21, 3) := by decide +kernel
theorem dX9_take_22 : decode cX9_take 22 = .ok (.iload 4, 2) := by decide +kernel
theorem dX9_take_24 : decode cX9_take 24 = .ok (.iload_n 1, 1) := by decide +kernel
theorem dX9_take_25 : decode cX9_take 25 = .ok (.iastore, 1) := by decide +kernel
theorem dX9_take_26 : decode cX9_take 26 = .ok (.aload_n 0, 1) := by decide +kernel
theorem dX9_take_27 : decode cX9_take 27 = .ok (.getfield 24, 3) := by decide +kernel
theorem dX9_take_30 : decode cX9_take 30 = .ok (.iload 4, 2) := by decide +kernel
theorem dX9_take_32 : decode cX9_take 32 = .ok (.iload_n 2, 1) := by decide +kernel
theorem dX9_take_33 : decode cX9_take 33 = .ok (.iastore, 1) := by decide +kernel
theorem dX9_take_34 : decode cX9_take 34 = .ok (.aload_n 0, 1) := by decide +kernel
theorem dX9_take_35 : decode cX9_take 35 = .ok (.getfield 27, 3) := by decide +kernel
theorem dX9_take_38 : decode cX9_take 38 = .ok (.iload 4, 2) := by decide +kernel
theorem dX9_take_40 : decode cX9_take 40 = .ok (.aload_n 0, 1) := by decide +kernel
theorem dX9_take_41 : decode cX9_take 41 = .ok (.getfield 15, 3) := by decide +kernel
theorem dX9_take_44 : decode cX9_take 44 = .ok (.iload_n 2, 1) := by decide +kernel
theorem dX9_take_45 : decode cX9_take 45 = .ok (.iaload, 1) := by decide +kernel
theorem dX9_take_46 : decode cX9_take 46 = .ok (.iastore, 1) := by decide +kernel
theorem dX9_take_47 : decode cX9_take 47 = .ok (.aload_n 0, 1) := by decide +kernel
theorem dX9_take_48 : decode cX9_take 48 = .ok (.getfield 30, 3) := by decide +kernel
theorem dX9_take_51 : decode cX9_take 51 = .ok (.iload 4, 2) := by decide +kernel
theorem dX9_take_53 : decode cX9_take 53 = .ok (.iload_n 3, 1) := by decide +kernel
theorem dX9_take_54 : decode cX9_take 54 = .ok (.iastore, 1) := by decide +kernel
theorem dX9_take_55 : decode cX9_take 55 = .ok (.aload_n 0, 1) := by decide +kernel
theorem dX9_take_56 : decode cX9_take 56 = .ok (.getfield 33, 3) := by decide +kernel
theorem dX9_take_59 : decode cX9_take 59 = .ok (.iload 4, 2) := by decide +kernel
theorem dX9_take_61 : decode cX9_take 61 = .ok (.iconst 0, 1) := by decide +kernel
theorem dX9_take_62 : decode cX9_take 62 = .ok (.iastore, 1) := by decide +kernel
theorem dX9_take_63 : decode cX9_take 63 = .ok (.aload_n 0, 1) := by decide +kernel
theorem dX9_take_64 : decode cX9_take 64 = .ok (.dup, 1) := by decide +kernel
theorem dX9_take_65 : decode cX9_take 65 = .ok (.getfield 53, 3) := by decide +kernel
theorem dX9_take_68 : decode cX9_take 68 = .ok (.iconst 1, 1) := by decide +kernel
theorem dX9_take_69 : decode cX9_take 69 = .ok (.iadd, 1) := by decide +kernel
theorem dX9_take_70 : decode cX9_take 70 = .ok (.putfield 53, 3) := by decide +kernel
theorem dX9_take_73 : decode cX9_take 73 = .ok (.aload_n 0, 1) := by decide +kernel
theorem dX9_take_74 : decode cX9_take 74 = .ok (.iload_n 2, 1) := by decide +kernel
theorem dX9_take_75 : decode cX9_take 75 = .ok (.iload_n 1, 1) := by decide +kernel
theorem dX9_take_76 : decode cX9_take 76 = .ok (.invokevirtual 111, 3) := by decide +kernel
theorem dX9_take_79 : decode cX9_take 79 = .ok (.iload 4, 2) := by decide +kernel
theorem dX9_take_81 : decode cX9_take 81 = .ok (.ireturn, 1) := by decide +kernel
theorem dX9_thiefHasIt_0 : decode cX9_thiefHasIt 0 = .ok (.aload_n 0, 1) := by decide +kernel
theorem dX9_thiefHasIt_1 : decode cX9_thiefHasIt 1 = .ok (.getfield 15, 3) := by decide +kernel
theorem dX9_thiefHasIt_4 : decode cX9_thiefHasIt 4 = .ok (.aload_n 0, 1) := by decide +kernel
theorem dX9_thiefHasIt_5 : decode cX9_thiefHasIt 5 = .ok (.getfield 24, 3) := by decide +kernel
theorem dX9_thiefHasIt_8 : decode cX9_thiefHasIt 8 = .ok (.iload_n 1, 1) := by decide +kernel
theorem dX9_thiefHasIt_9 : decode cX9_thiefHasIt 9 = .ok (.iaload, 1) := by decide +kernel
theorem dX9_thiefHasIt_10 : decode cX9_thiefHasIt 10 = .ok (.iaload, 1) := by decide +kernel
theorem dX9_thiefHasIt_11 : decode cX9_thiefHasIt 11 = .ok (.aload_n 0, 1) := by decide +kernel
theorem dX9_thiefHasIt_12 : decode cX9_thiefHasIt 12 = .ok (.getfield 21, 3) := by decide +kernel
theorem dX9_thiefHasIt_15 : decode cX9_thiefHasIt 15 = .ok (.iload_n 1, 1) := by decide +kernel
theorem dX9_thiefHasIt_16 : decode cX9_thiefHasIt 16 = .ok (.iaload, 1) := by decide +kernel
theorem dX9_thiefHasIt_17 : decode cX9_thiefHasIt 17 = .ok (.if_icmp .ne 7, 3) := by decide +kernel
theorem dX9_thiefHasIt_20 : decode cX9_thiefHasIt 20 = .ok (.iconst 1, 1) := by decide +kernel
theorem dX9_thiefHasIt_21 : decode cX9_thiefHasIt 21 = .ok (.goto 4, 3) := by decide +kernel
theorem dX9_thiefHasIt_24 : decode cX9_thiefHasIt 24 = .ok (.iconst 0, 1) := by decide +kernel
theorem dX9_thiefHasIt_25 : decode cX9_thiefHasIt 25 = .ok (.ireturn, 1) := by decide +kernel
theorem dX9_thievesOf_0 : decode cX9_thievesOf 0 = .ok (.iconst 0, 1) := by decide +kernel
theorem dX9_thievesOf_1 : decode cX9_thievesOf 1 = .ok (.istore_n 2, 1) := by decide +kernel
theorem dX9_thievesOf_2 : decode cX9_thievesOf 2 = .ok (.iconst 0, 1) := by decide +kernel
theorem dX9_thievesOf_3 : decode cX9_thievesOf 3 = .ok (.istore_n 3, 1) := by decide +kernel
theorem dX9_thievesOf_4 : decode cX9_thievesOf 4 = .ok (.iload_n 3, 1) := by decide +kernel
theorem dX9_thievesOf_5 : decode cX9_thievesOf 5 = .ok (.aload_n 0, 1) := by decide +kernel
theorem dX9_thievesOf_6 : decode cX9_thievesOf 6 = .ok (.getfield 53, 3) := by decide +kernel
theorem dX9_thievesOf_9 : decode cX9_thievesOf 9 = .ok (.if_icmp .ge 32, 3) := by decide +kernel
theorem dX9_thievesOf_12 : decode cX9_thievesOf 12 = .ok (.iload_n 2, 1) := by decide +kernel
theorem dX9_thievesOf_13 : decode cX9_thievesOf 13 = .ok (.iload_n 1, 1) := by decide +kernel
theorem dX9_thievesOf_14 : decode cX9_thievesOf 14 = .ok (.iload_n 3, 1) := by decide +kernel
theorem dX9_thievesOf_15 : decode cX9_thievesOf 15 = .ok (.ishr, 1) := by decide +kernel
theorem dX9_thievesOf_16 : decode cX9_thievesOf 16 = .ok (.iconst 1, 1) := by decide +kernel
theorem dX9_thievesOf_17 : decode cX9_thievesOf 17 = .ok (.iand, 1) := by decide +kernel
theorem dX9_thievesOf_18 : decode cX9_thievesOf 18 = .ok (.ifCond .eq 14, 3) := by decide +kernel
theorem dX9_thievesOf_21 : decode cX9_thievesOf 21 = .ok (.iconst 1, 1) := by decide +kernel
theorem dX9_thievesOf_22 : decode cX9_thievesOf 22 = .ok (.aload_n 0, 1) := by decide +kernel
theorem dX9_thievesOf_23 : decode cX9_thievesOf 23 = .ok (.getfield 21, 3) := by decide +kernel
theorem dX9_thievesOf_26 : decode cX9_thievesOf 26 = .ok (.iload_n 3, 1) := by decide +kernel
theorem dX9_thievesOf_27 : decode cX9_thievesOf 27 = .ok (.iaload, 1) := by decide +kernel
theorem dX9_thievesOf_28 : decode cX9_thievesOf 28 = .ok (.ishl, 1) := by decide +kernel
theorem dX9_thievesOf_29 : decode cX9_thievesOf 29 = .ok (.goto 4, 3) := by decide +kernel
theorem dX9_thievesOf_32 : decode cX9_thievesOf 32 = .ok (.iconst 0, 1) := by decide +kernel
theorem dX9_thievesOf_33 : decode cX9_thievesOf 33 = .ok (.ior, 1) := by decide +kernel
theorem dX9_thievesOf_34 : decode cX9_thievesOf 34 = .ok (.istore_n 2, 1) := by decide +kernel
theorem dX9_thievesOf_35 : decode cX9_thievesOf 35 = .ok (.iinc 3 1, 3) := by decide +kernel
theorem dX9_thievesOf_38 : decode cX9_thievesOf 38 = .ok (.goto (-34), 3) := by decide +kernel
theorem dX9_thievesOf_41 : decode cX9_thievesOf 41 = .ok (.iload_n 2, 1) := by decide +kernel
theorem dX9_thievesOf_42 : decode cX9_thievesOf 42 = .ok (.ireturn, 1) := by decide +kernel
theorem dX9_thingsIn_0 : decode cX9_thingsIn 0 = .ok (.iconst 0, 1) := by decide +kernel
theorem dX9_thingsIn_1 : decode cX9_thingsIn 1 = .ok (.istore_n 2, 1) := by decide +kernel
theorem dX9_thingsIn_2 : decode cX9_thingsIn 2 = .ok (.iconst 0, 1) := by decide +kernel
theorem dX9_thingsIn_3 : decode cX9_thingsIn 3 = .ok (.istore_n 3, 1) := by decide +kernel
theorem dX9_thingsIn_4 : decode cX9_thingsIn 4 = .ok (.iload_n 3, 1) := by decide +kernel
theorem dX9_thingsIn_5 : decode cX9_thingsIn 5 = .ok (.aload_n 0, 1) := by decide +kernel
theorem dX9_thingsIn_6 : decode cX9_thingsIn 6 = .ok (.getfield 45, 3) := by decide +kernel
theorem dX9_thingsIn_9 : decode cX9_thingsIn 9 = .ok (.getfield 153, 3) := by decide +kernel
theorem dX9_thingsIn_12 : decode cX9_thingsIn 12 = .ok (.if_icmp .ge 29, 3) := by decide +kernel
theorem dX9_thingsIn_15 : decode cX9_thingsIn 15 = .ok (.iload_n 2, 1) := by decide +kernel
theorem dX9_thingsIn_16 : decode cX9_thingsIn 16 = .ok (.aload_n 0, 1) := by decide +kernel
theorem dX9_thingsIn_17 : decode cX9_thingsIn 17 = .ok (.getfield 15, 3) := by decide +kernel
theorem dX9_thingsIn_20 : decode cX9_thingsIn 20 = .ok (.iload_n 3, 1) := by decide +kernel
theorem dX9_thingsIn_21 : decode cX9_thingsIn 21 = .ok (.iaload, 1) := by decide +kernel
theorem dX9_thingsIn_22 : decode cX9_thingsIn 22 = .ok (.iload_n 1, 1) := by decide +kernel
theorem dX9_thingsIn_23 : decode cX9_thingsIn 23 = .ok (.if_icmp .ne 9, 3) := by decide +kernel
theorem dX9_thingsIn_26 : decode cX9_thingsIn 26 = .ok (.iconst 1, 1) := by decide +kernel
theorem dX9_thingsIn_27 : decode cX9_thingsIn 27 = .ok (.iload_n 3, 1) := by decide +kernel
theorem dX9_thingsIn_28 : decode cX9_thingsIn 28 = .ok (.ishl, 1) := by decide +kernel
theorem dX9_thingsIn_29 : decode cX9_thingsIn 29 = .ok (.goto 4, 3) := by decide +kernel
theorem dX9_thingsIn_32 : decode cX9_thingsIn 32 = .ok (.iconst 0, 1) := by decide +kernel
theorem dX9_thingsIn_33 : decode cX9_thingsIn 33 = .ok (.ior, 1) := by decide +kernel
theorem dX9_thingsIn_34 : decode cX9_thingsIn 34 = .ok (.istore_n 2, 1) := by decide +kernel
theorem dX9_thingsIn_35 : decode cX9_thingsIn 35 = .ok (.iinc 3 1, 3) := by decide +kernel
theorem dX9_thingsIn_38 : decode cX9_thingsIn 38 = .ok (.goto (-34), 3) := by decide +kernel
theorem dX9_thingsIn_41 : decode cX9_thingsIn 41 = .ok (.iload_n 2, 1) := by decide +kernel
theorem dX9_thingsIn_42 : decode cX9_thingsIn 42 = .ok (.ireturn, 1) := by decide +kernel
theorem dX9_turnKey_0 : decode cX9_turnKey 0 = .ok (.aload_n 0, 1) := by decide +kernel
theorem dX9_turnKey_1 : decode cX9_turnKey 1 = .ok (.getfield 61, 3) := by decide +kernel
theorem dX9_turnKey_4 : decode cX9_turnKey 4 = .ok (.iload_n 1, 1) := by decide +kernel
theorem dX9_turnKey_5 : decode cX9_turnKey 5 = .ok (.ishr, 1) := by decide +kernel
theorem dX9_turnKey_6 : decode cX9_turnKey 6 = .ok (.iconst 1, 1) := by decide +kernel
theorem dX9_turnKey_7 : decode cX9_turnKey 7 = .ok (.iand, 1) := by decide +kernel
theorem dX9_turnKey_8 : decode cX9_turnKey 8 = .ok (.istore_n 3, 1) := by decide +kernel
theorem dX9_turnKey_9 : decode cX9_turnKey 9 = .ok (.aload_n 0, 1) := by decide +kernel
theorem dX9_turnKey_10 : decode cX9_turnKey 10 = .ok (.aload_n 0, 1) := by decide +kernel
theorem dX9_turnKey_11 : decode cX9_turnKey 11 = .ok (.getfield 61, 3) := by decide +kernel
theorem dX9_turnKey_14 : decode cX9_turnKey 14 = .ok (.iconst 1, 1) := by decide +kernel
theorem dX9_turnKey_15 : decode cX9_turnKey 15 = .ok (.iload_n 1, 1) := by decide +kernel
theorem dX9_turnKey_16 : decode cX9_turnKey 16 = .ok (.ishl, 1) := by decide +kernel
theorem dX9_turnKey_17 : decode cX9_turnKey 17 = .ok (.iconst (-1), 1) := by decide +kernel
theorem dX9_turnKey_18 : decode cX9_turnKey 18 = .ok (.ixor, 1) := by decide +kernel
theorem dX9_turnKey_19 : decode cX9_turnKey 19 = .ok (.iand, 1) := by decide +kernel
theorem dX9_turnKey_20 : decode cX9_turnKey 20 = .ok (.iload_n 2, 1) := by decide +kernel
theorem dX9_turnKey_21 : decode cX9_turnKey 21 = .ok (.iload_n 1, 1) := by decide +kernel
theorem dX9_turnKey_22 : decode cX9_turnKey 22 = .ok (.ishl, 1) := by decide +kernel
theorem dX9_turnKey_23 : decode cX9_turnKey 23 = .ok (.ior, 1) := by decide +kernel
theorem dX9_turnKey_24 : decode cX9_turnKey 24 = .ok (.putfield 61, 3) := by decide +kernel
theorem dX9_turnKey_27 : decode cX9_turnKey 27 = .ok (.iload_n 3, 1) := by decide +kernel
theorem dX9_turnKey_28 : decode cX9_turnKey 28 = .ok (.ireturn, 1) := by decide +kernel
theorem dX9_worthOf_0 : decode cX9_worthOf 0 = .ok (.aload_n 0, 1) := by decide +kernel
theorem dX9_worthOf_1 : decode cX9_worthOf 1 = .ok (.getfield 45, 3) := by decide +kernel
theorem dX9_worthOf_4 : decode cX9_worthOf 4 = .ok (.getfield 147, 3) := by decide +kernel
theorem dX9_worthOf_7 : decode cX9_worthOf 7 = .ok (.aload_n 0, 1) := by decide +kernel
theorem dX9_worthOf_8 : decode cX9_worthOf 8 = .ok (.getfield 24, 3) := by decide +kernel
theorem dX9_worthOf_11 : decode cX9_worthOf 11 = .ok (.iload_n 1, 1) := by decide +kernel
theorem dX9_worthOf_12 : decode cX9_worthOf 12 = .ok (.iaload, 1) := by decide +kernel
theorem dX9_worthOf_13 : decode cX9_worthOf 13 = .ok (.iaload, 1) := by decide +kernel
theorem dX9_worthOf_14 : decode cX9_worthOf 14 = .ok (.ireturn, 1) := by decide +kernel
theorem dX9_worthOfAll_0 : decode cX9_worthOfAll 0 = .ok (.iconst 0, 1) := by decide +kernel
theorem dX9_worthOfAll_1 : decode cX9_worthOfAll 1 = .ok (.istore_n 2, 1) := by decide +kernel
theorem dX9_worthOfAll_2 : decode cX9_worthOfAll 2 = .ok (.iconst 0, 1) := by decide +kernel
theorem dX9_worthOfAll_3 : decode cX9_worthOfAll 3 = .ok (.istore_n 3, 1) := by decide +kernel
theorem dX9_worthOfAll_4 : decode cX9_worthOfAll 4 = .ok (.iload_n 3, 1) := by decide +kernel
theorem dX9_worthOfAll_5 : decode cX9_worthOfAll 5 = .ok (.aload_n 0, 1) := by decide +kernel
theorem dX9_worthOfAll_6 : decode cX9_worthOfAll 6 = .ok (.getfield 53, 3) := by decide +kernel
theorem dX9_worthOfAll_9 : decode cX9_worthOfAll 9 = .ok (.if_icmp .ge 29, 3) := by decide +kernel
theorem dX9_worthOfAll_12 : decode cX9_worthOfAll 12 = .ok (.iload_n 2, 1) := by decide +kernel
theorem dX9_worthOfAll_13 : decode cX9_worthOfAll 13 = .ok (.iload_n 1, 1) := by decide +kernel
theorem dX9_worthOfAll_14 : decode cX9_worthOfAll 14 = .ok (.iload_n 3, 1) := by decide +kernel
theorem dX9_worthOfAll_15 : decode cX9_worthOfAll 15 = .ok (.ishr, 1) := by decide +kernel
theorem dX9_worthOfAll_16 : decode cX9_worthOfAll 16 = .ok (.iconst 1, 1) := by decide +kernel
theorem dX9_worthOfAll_17 : decode cX9_worthOfAll 17 = .ok (.iand, 1) := by decide +kernel
theorem dX9_worthOfAll_18 : decode cX9_worthOfAll 18 = .ok (.ifCond .eq 11, 3) := by decide +kernel
theorem dX9_worthOfAll_21 : decode cX9_worthOfAll 21 = .ok (.aload_n 0, 1) := by decide +kernel
theorem dX9_worthOfAll_22 : decode cX9_worthOfAll 22 = .ok (.iload_n 3, 1) := by decide +kernel
theorem dX9_worthOfAll_23 : decode cX9_worthOfAll 23 = .ok (.invokevirtual 132, 3) := by decide +kernel
theorem dX9_worthOfAll_26 : decode cX9_worthOfAll 26 = .ok (.goto 4, 3) := by decide +kernel
theorem dX9_worthOfAll_29 : decode cX9_worthOfAll 29 = .ok (.iconst 0, 1) := by decide +kernel
theorem dX9_worthOfAll_30 : decode cX9_worthOfAll 30 = .ok (.iadd, 1) := by decide +kernel
theorem dX9_worthOfAll_31 : decode cX9_worthOfAll 31 = .ok (.istore_n 2, 1) := by decide +kernel
theorem dX9_worthOfAll_32 : decode cX9_worthOfAll 32 = .ok (.iinc 3 1, 3) := by decide +kernel
theorem dX9_worthOfAll_35 : decode cX9_worthOfAll 35 = .ok (.goto (-31), 3) := by decide +kernel
theorem dX9_worthOfAll_38 : decode cX9_worthOfAll 38 = .ok (.iload_n 2, 1) := by decide +kernel
theorem dX9_worthOfAll_39 : decode cX9_worthOfAll 39 = .ok (.ireturn, 1) := by decide +kernel
