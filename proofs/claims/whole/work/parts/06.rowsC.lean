theorem dX3_init_0 : decode cX3_init 0 = .ok (.aload_n 0, 1) := by decide +kernel
theorem dX3_init_1 : decode cX3_init 1 = .ok (.invokespecial 1, 3) := by decide +kernel
theorem dX3_init_4 : decode cX3_init 4 = .ok (.aload_n 0, 1) := by decide +kernel
theorem dX3_init_5 : decode cX3_init 5 = .ok (.sipush 1200, 3) := by decide +kernel
theorem dX3_init_8 : decode cX3_init 8 = .ok (.newarray .byte, 2) := by decide +kernel
theorem dX3_init_10 : decode cX3_init 10 = .ok (.putfield 7, 3) := by decide +kernel
theorem dX3_init_13 : decode cX3_init 13 = .ok (.aload_n 0, 1) := by decide +kernel
theorem dX3_init_14 : decode cX3_init 14 = .ok (.sipush 420, 3) := by decide +kernel
theorem dX3_init_17 : decode cX3_init 17 = .ok (.newarray .int, 2) := by decide +kernel
theorem dX3_init_19 : decode cX3_init 19 = .ok (.putfield 13, 3) := by decide +kernel
theorem dX3_init_22 : decode cX3_init 22 = .ok (.return_, 1) := by decide +kernel
theorem dX3_infinite_0 : decode cX3_infinite 0 = .ok (.lload_n 0, 1) := by decide +kernel
theorem dX3_infinite_1 : decode cX3_infinite 1 = .ok (.bipush 52, 2) := by decide +kernel
theorem dX3_infinite_3 : decode cX3_infinite 3 = .ok (.lshr, 1) := by decide +kernel
theorem dX3_infinite_4 : decode cX3_infinite 4 = .ok (.ldc2_w 17, 3) := by decide +kernel
theorem dX3_infinite_7 : decode cX3_infinite 7 = .ok (.land, 1) := by decide +kernel
theorem dX3_infinite_8 : decode cX3_infinite 8 = .ok (.ldc2_w 17, 3) := by decide +kernel
theorem dX3_infinite_11 : decode cX3_infinite 11 = .ok (.lcmp, 1) := by decide +kernel
theorem dX3_infinite_12 : decode cX3_infinite 12 = .ok (.ifCond .ne 17, 3) := by decide +kernel
theorem dX3_infinite_15 : decode cX3_infinite 15 = .ok (.lload_n 0, 1) := by decide +kernel
theorem dX3_infinite_16 : decode cX3_infinite 16 = .ok (.ldc2_w 19, 3) := by decide +kernel
theorem dX3_infinite_19 : decode cX3_infinite 19 = .ok (.land, 1) := by decide +kernel
theorem dX3_infinite_20 : decode cX3_infinite 20 = .ok (.lconst 0, 1) := by decide +kernel
theorem dX3_infinite_21 : decode cX3_infinite 21 = .ok (.lcmp, 1) := by decide +kernel
theorem dX3_infinite_22 : decode cX3_infinite 22 = .ok (.ifCond .ne 7, 3) := by decide +kernel
theorem dX3_infinite_25 : decode cX3_infinite 25 = .ok (.iconst 1, 1) := by decide +kernel
theorem dX3_infinite_26 : decode cX3_infinite 26 = .ok (.goto 4, 3) := by decide +kernel
theorem dX3_infinite_29 : decode cX3_infinite 29 = .ok (.iconst 0, 1) := by decide +kernel
theorem dX3_infinite_30 : decode cX3_infinite 30 = .ok (.ireturn, 1) := by decide +kernel
theorem dX3_none_0 : decode cX3_none 0 = .ok (.lload_n 0, 1) := by decide +kernel
theorem dX3_none_1 : decode cX3_none 1 = .ok (.bipush 52, 2) := by decide +kernel
theorem dX3_none_3 : decode cX3_none 3 = .ok (.lshr, 1) := by decide +kernel
theorem dX3_none_4 : decode cX3_none 4 = .ok (.ldc2_w 17, 3) := by decide +kernel
theorem dX3_none_7 : decode cX3_none 7 = .ok (.land, 1) := by decide +kernel
theorem dX3_none_8 : decode cX3_none 8 = .ok (.ldc2_w 17, 3) := by decide +kernel
theorem dX3_none_11 : decode cX3_none 11 = .ok (.lcmp, 1) := by decide +kernel
theorem dX3_none_12 : decode cX3_none 12 = .ok (.ifCond .ne 17, 3) := by decide +kernel
theorem dX3_none_15 : decode cX3_none 15 = .ok (.lload_n 0, 1) := by decide +kernel
theorem dX3_none_16 : decode cX3_none 16 = .ok (.ldc2_w 19, 3) := by decide +kernel
theorem dX3_none_19 : decode cX3_none 19 = .ok (.land, 1) := by decide +kernel
theorem dX3_none_20 : decode cX3_none 20 = .ok (.lconst 0, 1) := by decide +kernel
theorem dX3_none_21 : decode cX3_none 21 = .ok (.lcmp, 1) := by decide +kernel
theorem dX3_none_22 : decode cX3_none 22 = .ok (.ifCond .eq 7, 3) := by decide +kernel
theorem dX3_none_25 : decode cX3_none 25 = .ok (.iconst 1, 1) := by decide +kernel
theorem dX3_none_26 : decode cX3_none 26 = .ok (.goto 4, 3) := by decide +kernel
theorem dX3_none_29 : decode cX3_none 29 = .ok (.iconst 0, 1) := by decide +kernel
theorem dX3_none_30 : decode cX3_none 30 = .ok (.ireturn, 1) := by decide +kernel
set_option maxRecDepth 20000 in
theorem ggX3_spread_X3_trim : GoodIn wsX3_spread wsX3_trim := goodIn_r _ [13, 4, 6, 8, 22, 23, 24, 25, 26] (by decide +kernel) (by decide +kernel)
set_option maxRecDepth 20000 in
theorem gX3_spread_X3_trim : GoodIn wsX3_spread (wsV RX3 34 RX3 yX3_trim wsX3_trim) := goodIn_app (goodIn_of _ (by decide +kernel)) ggX3_spread_X3_trim
set_option maxRecDepth 20000 in
theorem ggX3_spread_X3_twice : GoodIn wsX3_spread wsX3_twice := goodIn_r _ [17, 4, 6, 8, 9, 10, 11, 12, 13, 22, 23, 24, 25, 26] (by decide +kernel) (by decide +kernel)
set_option maxRecDepth 20000 in
theorem gX3_spread_X3_twice : GoodIn wsX3_spread (wsV RX3 37 RX3 yX3_twice wsX3_twice) := goodIn_app (goodIn_of _ (by decide +kernel)) ggX3_spread_X3_twice
set_option maxRecDepth 20000 in
theorem ggX3_spread_X3_half : GoodIn wsX3_spread wsX3_half := goodIn_r _ [21, 4, 6, 9, 10, 11, 12, 13, 8, 22, 23, 24, 25, 26] (by decide +kernel) (by decide +kernel)
set_option maxRecDepth 20000 in
theorem gX3_spread_X3_half : GoodIn wsX3_spread (wsV RX3 40 RX3 yX3_half wsX3_half) := goodIn_app (goodIn_of _ (by decide +kernel)) ggX3_spread_X3_half
theorem dX3_spread_0 : decode cX3_spread 0 = .ok (.lload_n 1, 1) := by decide +kernel
theorem dX3_spread_1 : decode cX3_spread 1 = .ok (.bipush 52, 2) := by decide +kernel
theorem dX3_spread_3 : decode cX3_spread 3 = .ok (.lshr, 1) := by decide +kernel
theorem dX3_spread_4 : decode cX3_spread 4 = .ok (.ldc2_w 17, 3) := by decide +kernel
theorem dX3_spread_7 : decode cX3_spread 7 = .ok (.land, 1) := by decide +kernel
theorem dX3_spread_8 : decode cX3_spread 8 = .ok (.l2i, 1) := by decide +kernel
theorem dX3_spread_9 : decode cX3_spread 9 = .ok (.istore_n 3, 1) := by decide +kernel
theorem dX3_spread_10 : decode cX3_spread 10 = .ok (.lload_n 1, 1) := by decide +kernel
theorem dX3_spread_11 : decode cX3_spread 11 = .ok (.ldc2_w 19, 3) := by decide +kernel
theorem dX3_spread_14 : decode cX3_spread 14 = .ok (.land, 1) := by decide +kernel
theorem dX3_spread_15 : decode cX3_spread 15 = .ok (.lstore 4, 2) := by decide +kernel
theorem dX3_spread_17 : decode cX3_spread 17 = .ok (.iload_n 3, 1) := by decide +kernel
theorem dX3_spread_18 : decode cX3_spread 18 = .ok (.ifCond .le 11, 3) := by decide +kernel
theorem dX3_spread_21 : decode cX3_spread 21 = .ok (.lload 4, 2) := by decide +kernel
theorem dX3_spread_23 : decode cX3_spread 23 = .ok (.ldc2_w 21, 3) := by decide +kernel
theorem dX3_spread_26 : decode cX3_spread 26 = .ok (.ladd, 1) := by decide +kernel
theorem dX3_spread_27 : decode cX3_spread 27 = .ok (.lstore 4, 2) := by decide +kernel
theorem dX3_spread_29 : decode cX3_spread 29 = .ok (.aload_n 0, 1) := by decide +kernel
theorem dX3_spread_30 : decode cX3_spread 30 = .ok (.iconst 0, 1) := by decide +kernel
theorem dX3_spread_31 : decode cX3_spread 31 = .ok (.putfield 23, 3) := by decide +kernel
theorem dX3_spread_34 : decode cX3_spread 34 = .ok (.ldc2_w 27, 3) := by decide +kernel
theorem dX3_spread_37 : decode cX3_spread 37 = .ok (.lstore 6, 2) := by decide +kernel
theorem dX3_spread_39 : decode cX3_spread 39 = .ok (.lload 6, 2) := by decide +kernel
theorem dX3_spread_41 : decode cX3_spread 41 = .ok (.lconst 0, 1) := by decide +kernel
theorem dX3_spread_42 : decode cX3_spread 42 = .ok (.lcmp, 1) := by decide +kernel
theorem dX3_spread_43 : decode cX3_spread 43 = .ok (.ifCond .le 44, 3) := by decide +kernel
theorem dX3_spread_46 : decode cX3_spread 46 = .ok (.aload_n 0, 1) := by decide +kernel
theorem dX3_spread_47 : decode cX3_spread 47 = .ok (.getfield 7, 3) := by decide +kernel
theorem dX3_spread_50 : decode cX3_spread 50 = .ok (.aload_n 0, 1) := by decide +kernel
theorem dX3_spread_51 : decode cX3_spread 51 = .ok (.getfield 23, 3) := by decide +kernel
theorem dX3_spread_54 : decode cX3_spread 54 = .ok (.lload 4, 2) := by decide +kernel
theorem dX3_spread_56 : decode cX3_spread 56 = .ok (.lload 6, 2) := by decide +kernel
theorem dX3_spread_58 : decode cX3_spread 58 = .ok (.ldiv, 1) := by decide +kernel
theorem dX3_spread_59 : decode cX3_spread 59 = .ok (.ldc2_w 29, 3) := by decide +kernel
theorem dX3_spread_62 : decode cX3_spread 62 = .ok (.lrem, 1) := by decide +kernel
theorem dX3_spread_63 : decode cX3_spread 63 = .ok (.l2i, 1) := by decide +kernel
theorem dX3_spread_64 : decode cX3_spread 64 = .ok (.i2b, 1) := by decide +kernel
theorem dX3_spread_65 : decode cX3_spread 65 = .ok (.bastore, 1) := by decide +kernel
theorem dX3_spread_66 : decode cX3_spread 66 = .ok (.aload_n 0, 1) := by decide +kernel
theorem dX3_spread_67 : decode cX3_spread 67 = .ok (.aload_n 0, 1) := by decide +kernel
theorem dX3_spread_68 : decode cX3_spread 68 = .ok (.getfield 23, 3) := by decide +kernel
theorem dX3_spread_71 : decode cX3_spread 71 = .ok (.iconst 1, 1) := by decide +kernel
theorem dX3_spread_72 : decode cX3_spread 72 = .ok (.iadd, 1) := by decide +kernel
theorem dX3_spread_73 : decode cX3_spread 73 = .ok (.putfield 23, 3) := by decide +kernel
theorem dX3_spread_76 : decode cX3_spread 76 = .ok (.lload 6, 2) := by decide +kernel
theorem dX3_spread_78 : decode cX3_spread 78 = .ok (.ldc2_w 29, 3) := by decide +kernel
theorem dX3_spread_81 : decode cX3_spread 81 = .ok (.ldiv, 1) := by decide +kernel
theorem dX3_spread_82 : decode cX3_spread 82 = .ok (.lstore 6, 2) := by decide +kernel
theorem dX3_spread_84 : decode cX3_spread 84 = .ok (.goto (-45), 3) := by decide +kernel
theorem dX3_spread_87 : decode cX3_spread 87 = .ok (.aload_n 0, 1) := by decide +kernel
theorem dX3_spread_88 : decode cX3_spread 88 = .ok (.aload_n 0, 1) := by decide +kernel
theorem dX3_spread_89 : decode cX3_spread 89 = .ok (.getfield 23, 3) := by decide +kernel
theorem dX3_spread_92 : decode cX3_spread 92 = .ok (.putfield 31, 3) := by decide +kernel
theorem dX3_spread_95 : decode cX3_spread 95 = .ok (.aload_n 0, 1) := by decide +kernel
theorem dX3_spread_96 : decode cX3_spread 96 = .ok (.invokevirtual 34, 3) := by decide +kernel
theorem dX3_spread_99 : decode cX3_spread 99 = .ok (.iload_n 3, 1) := by decide +kernel
theorem dX3_spread_100 : decode cX3_spread 100 = .ok (.ifCond .ne 9, 3) := by decide +kernel
theorem dX3_spread_103 : decode cX3_spread 103 = .ok (.sipush (-1074), 3) := by decide +kernel
theorem dX3_spread_106 : decode cX3_spread 106 = .ok (.goto 8, 3) := by decide +kernel
theorem dX3_spread_109 : decode cX3_spread 109 = .ok (.iload_n 3, 1) := by decide +kernel
theorem dX3_spread_110 : decode cX3_spread 110 = .ok (.sipush 1075, 3) := by decide +kernel
theorem dX3_spread_113 : decode cX3_spread 113 = .ok (.isub, 1) := by decide +kernel
theorem dX3_spread_114 : decode cX3_spread 114 = .ok (.istore 6, 2) := by decide +kernel
theorem dX3_spread_116 : decode cX3_spread 116 = .ok (.iconst 0, 1) := by decide +kernel
theorem dX3_spread_117 : decode cX3_spread 117 = .ok (.istore 7, 2) := by decide +kernel
theorem dX3_spread_119 : decode cX3_spread 119 = .ok (.iload 7, 2) := by decide +kernel
theorem dX3_spread_121 : decode cX3_spread 121 = .ok (.iload 6, 2) := by decide +kernel
theorem dX3_spread_123 : decode cX3_spread 123 = .ok (.if_icmp .ge 13, 3) := by decide +kernel
theorem dX3_spread_126 : decode cX3_spread 126 = .ok (.aload_n 0, 1) := by decide +kernel
theorem dX3_spread_127 : decode cX3_spread 127 = .ok (.invokevirtual 37, 3) := by decide +kernel
theorem dX3_spread_130 : decode cX3_spread 130 = .ok (.iinc 7 1, 3) := by decide +kernel
theorem dX3_spread_133 : decode cX3_spread 133 = .ok (.goto (-14), 3) := by decide +kernel
theorem dX3_spread_136 : decode cX3_spread 136 = .ok (.iconst 0, 1) := by decide +kernel
theorem dX3_spread_137 : decode cX3_spread 137 = .ok (.istore 7, 2) := by decide +kernel
theorem dX3_spread_139 : decode cX3_spread 139 = .ok (.iload 7, 2) := by decide +kernel
theorem dX3_spread_141 : decode cX3_spread 141 = .ok (.iload 6, 2) := by decide +kernel
theorem dX3_spread_143 : decode cX3_spread 143 = .ok (.if_icmp .le 13, 3) := by decide +kernel
theorem dX3_spread_146 : decode cX3_spread 146 = .ok (.aload_n 0, 1) := by decide +kernel
theorem dX3_spread_147 : decode cX3_spread 147 = .ok (.invokevirtual 40, 3) := by decide +kernel
theorem dX3_spread_150 : decode cX3_spread 150 = .ok (.iinc 7 (-1), 3) := by decide +kernel
theorem dX3_spread_153 : decode cX3_spread 153 = .ok (.goto (-14), 3) := by decide +kernel
theorem dX3_spread_156 : decode cX3_spread 156 = .ok (.return_, 1) := by decide +kernel
theorem dX3_trim_0 : decode cX3_trim 0 = .ok (.iconst 0, 1) := by decide +kernel
theorem dX3_trim_1 : decode cX3_trim 1 = .ok (.istore_n 1, 1) := by decide +kernel
theorem dX3_trim_2 : decode cX3_trim 2 = .ok (.iload_n 1, 1) := by decide +kernel
theorem dX3_trim_3 : decode cX3_trim 3 = .ok (.aload_n 0, 1) := by decide +kernel
theorem dX3_trim_4 : decode cX3_trim 4 = .ok (.getfield 23, 3) := by decide +kernel
theorem dX3_trim_7 : decode cX3_trim 7 = .ok (.if_icmp .ge 19, 3) := by decide +kernel
theorem dX3_trim_10 : decode cX3_trim 10 = .ok (.aload_n 0, 1) := by decide +kernel
theorem dX3_trim_11 : decode cX3_trim 11 = .ok (.getfield 7, 3) := by decide +kernel
theorem dX3_trim_14 : decode cX3_trim 14 = .ok (.iload_n 1, 1) := by decide +kernel
theorem dX3_trim_15 : decode cX3_trim 15 = .ok (.baload, 1) := by decide +kernel
theorem dX3_trim_16 : decode cX3_trim 16 = .ok (.ifCond .ne 10, 3) := by decide +kernel
theorem dX3_trim_19 : decode cX3_trim 19 = .ok (.iload_n 1, 1) := by decide +kernel
theorem dX3_trim_20 : decode cX3_trim 20 = .ok (.iconst 1, 1) := by decide +kernel
theorem dX3_trim_21 : decode cX3_trim 21 = .ok (.iadd, 1) := by decide +kernel
theorem dX3_trim_22 : decode cX3_trim 22 = .ok (.istore_n 1, 1) := by decide +kernel
theorem dX3_trim_23 : decode cX3_trim 23 = .ok (.goto (-21), 3) := by decide +kernel
theorem dX3_trim_26 : decode cX3_trim 26 = .ok (.iload_n 1, 1) := by decide +kernel
theorem dX3_trim_27 : decode cX3_trim 27 = .ok (.istore_n 2, 1) := by decide +kernel
theorem dX3_trim_28 : decode cX3_trim 28 = .ok (.iload_n 2, 1) := by decide +kernel
theorem dX3_trim_29 : decode cX3_trim 29 = .ok (.aload_n 0, 1) := by decide +kernel
theorem dX3_trim_30 : decode cX3_trim 30 = .ok (.getfield 23, 3) := by decide +kernel
theorem dX3_trim_33 : decode cX3_trim 33 = .ok (.if_icmp .ge 23, 3) := by decide +kernel
theorem dX3_trim_36 : decode cX3_trim 36 = .ok (.aload_n 0, 1) := by decide +kernel
theorem dX3_trim_37 : decode cX3_trim 37 = .ok (.getfield 7, 3) := by decide +kernel
theorem dX3_trim_40 : decode cX3_trim 40 = .ok (.iload_n 2, 1) := by decide +kernel
theorem dX3_trim_41 : decode cX3_trim 41 = .ok (.iload_n 1, 1) := by decide +kernel
theorem dX3_trim_42 : decode cX3_trim 42 = .ok (.isub, 1) := by decide +kernel
theorem dX3_trim_43 : decode cX3_trim 43 = .ok (.aload_n 0, 1) := by decide +kernel
theorem dX3_trim_44 : decode cX3_trim 44 = .ok (.getfield 7, 3) := by decide +kernel
theorem dX3_trim_47 : decode cX3_trim 47 = .ok (.iload_n 2, 1) := by decide +kernel
theorem dX3_trim_48 : decode cX3_trim 48 = .ok (.baload, 1) := by decide +kernel
theorem dX3_trim_49 : decode cX3_trim 49 = .ok (.bastore, 1) := by decide +kernel
theorem dX3_trim_50 : decode cX3_trim 50 = .ok (.iinc 2 1, 3) := by decide +kernel
theorem dX3_trim_53 : decode cX3_trim 53 = .ok (.goto (-25), 3) := by decide +kernel
theorem dX3_trim_56 : decode cX3_trim 56 = .ok (.aload_n 0, 1) := by decide +kernel
theorem dX3_trim_57 : decode cX3_trim 57 = .ok (.aload_n 0, 1) := by decide +kernel
theorem dX3_trim_58 : decode cX3_trim 58 = .ok (.getfield 23, 3) := by decide +kernel
theorem dX3_trim_61 : decode cX3_trim 61 = .ok (.iload_n 1, 1) := by decide +kernel
theorem dX3_trim_62 : decode cX3_trim 62 = .ok (.isub, 1) := by decide +kernel
theorem dX3_trim_63 : decode cX3_trim 63 = .ok (.putfield 23, 3) := by decide +kernel
theorem dX3_trim_66 : decode cX3_trim 66 = .ok (.aload_n 0, 1) := by decide +kernel
theorem dX3_trim_67 : decode cX3_trim 67 = .ok (.aload_n 0, 1) := by decide +kernel
theorem dX3_trim_68 : decode cX3_trim 68 = .ok (.getfield 31, 3) := by decide +kernel
theorem dX3_trim_71 : decode cX3_trim 71 = .ok (.iload_n 1, 1) := by decide +kernel
theorem dX3_trim_72 : decode cX3_trim 72 = .ok (.isub, 1) := by decide +kernel
theorem dX3_trim_73 : decode cX3_trim 73 = .ok (.putfield 31, 3) := by decide +kernel
theorem dX3_trim_76 : decode cX3_trim 76 = .ok (.aload_n 0, 1) := by decide +kernel
theorem dX3_trim_77 : decode cX3_trim 77 = .ok (.getfield 23, 3) := by decide +kernel
theorem dX3_trim_80 : decode cX3_trim 80 = .ok (.ifCond .le 30, 3) := by decide +kernel
theorem dX3_trim_83 : decode cX3_trim 83 = .ok (.aload_n 0, 1) := by decide +kernel
theorem dX3_trim_84 : decode cX3_trim 84 = .ok (.getfield 7, 3) := by decide +kernel
theorem dX3_trim_87 : decode cX3_trim 87 = .ok (.aload_n 0, 1) := by decide +kernel
theorem dX3_trim_88 : decode cX3_trim 88 = .ok (.getfield 23, 3) := by decide +kernel
theorem dX3_trim_91 : decode cX3_trim 91 = .ok (.iconst 1, 1) := by decide +kernel
theorem dX3_trim_92 : decode cX3_trim 92 = .ok (.isub, 1) := by decide +kernel
theorem dX3_trim_93 : decode cX3_trim 93 = .ok (.baload, 1) := by decide +kernel
theorem dX3_trim_94 : decode cX3_trim 94 = .ok (.ifCond .ne 16, 3) := by decide +kernel
theorem dX3_trim_97 : decode cX3_trim 97 = .ok (.aload_n 0, 1) := by decide +kernel
theorem dX3_trim_98 : decode cX3_trim 98 = .ok (.aload_n 0, 1) := by decide +kernel
theorem dX3_trim_99 : decode cX3_trim 99 = .ok (.getfield 23, 3) := by decide +kernel
theorem dX3_trim_102 : decode cX3_trim 102 = .ok (.iconst 1, 1) := by decide +kernel
theorem dX3_trim_103 : decode cX3_trim 103 = .ok (.isub, 1) := by decide +kernel
theorem dX3_trim_104 : decode cX3_trim 104 = .ok (.putfield 23, 3) := by decide +kernel
theorem dX3_trim_107 : decode cX3_trim 107 = .ok (.goto (-31), 3) := by decide +kernel
theorem dX3_trim_110 : decode cX3_trim 110 = .ok (.aload_n 0, 1) := by decide +kernel
theorem dX3_trim_111 : decode cX3_trim 111 = .ok (.getfield 23, 3) := by decide +kernel
theorem dX3_trim_114 : decode cX3_trim 114 = .ok (.ifCond .ne 8, 3) := by decide +kernel
theorem dX3_trim_117 : decode cX3_trim 117 = .ok (.aload_n 0, 1) := by decide +kernel
theorem dX3_trim_118 : decode cX3_trim 118 = .ok (.iconst 0, 1) := by decide +kernel
theorem dX3_trim_119 : decode cX3_trim 119 = .ok (.putfield 31, 3) := by decide +kernel
theorem dX3_trim_122 : decode cX3_trim 122 = .ok (.return_, 1) := by decide +kernel
set_option maxRecDepth 20000 in
theorem ggX3_twice_X3_trim : GoodIn wsX3_twice wsX3_trim := goodIn_r _ [8, 1, 2, 3, 9, 10, 11, 12, 13] (by decide +kernel) (by decide +kernel)
set_option maxRecDepth 20000 in
theorem gX3_twice_X3_trim : GoodIn wsX3_twice (wsV RX3 34 RX3 yX3_trim wsX3_trim) := goodIn_app (goodIn_of _ (by decide +kernel)) ggX3_twice_X3_trim
theorem dX3_twice_0 : decode cX3_twice 0 = .ok (.iconst 0, 1) := by decide +kernel
theorem dX3_twice_1 : decode cX3_twice 1 = .ok (.istore_n 1, 1) := by decide +kernel
theorem dX3_twice_2 : decode cX3_twice 2 = .ok (.aload_n 0, 1) := by decide +kernel
theorem dX3_twice_3 : decode cX3_twice 3 = .ok (.getfield 23, 3) := by decide +kernel
theorem dX3_twice_6 : decode cX3_twice 6 = .ok (.iconst 1, 1) := by decide +kernel
theorem dX3_twice_7 : decode cX3_twice 7 = .ok (.isub, 1) := by decide +kernel
theorem dX3_twice_8 : decode cX3_twice 8 = .ok (.istore_n 2, 1) := by decide +kernel
theorem dX3_twice_9 : decode cX3_twice 9 = .ok (.iload_n 2, 1) := by decide +kernel
theorem dX3_twice_10 : decode cX3_twice 10 = .ok (.ifCond .lt 36, 3) := by decide +kernel
theorem dX3_twice_13 : decode cX3_twice 13 = .ok (.iconst 2, 1) := by decide +kernel
theorem dX3_twice_14 : decode cX3_twice 14 = .ok (.aload_n 0, 1) := by decide +kernel
theorem dX3_twice_15 : decode cX3_twice 15 = .ok (.getfield 7, 3) := by decide +kernel
theorem dX3_twice_18 : decode cX3_twice 18 = .ok (.iload_n 2, 1) := by decide +kernel
theorem dX3_twice_19 : decode cX3_twice 19 = .ok (.baload, 1) := by decide +kernel
theorem dX3_twice_20 : decode cX3_twice 20 = .ok (.imul, 1) := by decide +kernel
theorem dX3_twice_21 : decode cX3_twice 21 = .ok (.iload_n 1, 1) := by decide +kernel
theorem dX3_twice_22 : decode cX3_twice 22 = .ok (.iadd, 1) := by decide +kernel
theorem dX3_twice_23 : decode cX3_twice 23 = .ok (.istore_n 3, 1) := by decide +kernel
theorem dX3_twice_24 : decode cX3_twice 24 = .ok (.aload_n 0, 1) := by decide +kernel
theorem dX3_twice_25 : decode cX3_twice 25 = .ok (.getfield 7, 3) := by decide +kernel
theorem dX3_twice_28 : decode cX3_twice 28 = .ok (.iload_n 2, 1) := by decide +kernel
theorem dX3_twice_29 : decode cX3_twice 29 = .ok (.iload_n 3, 1) := by decide +kernel
theorem dX3_twice_30 : decode cX3_twice 30 = .ok (.bipush 10, 2) := by decide +kernel
theorem dX3_twice_32 : decode cX3_twice 32 = .ok (.irem, 1) := by decide +kernel
theorem dX3_twice_33 : decode cX3_twice 33 = .ok (.i2b, 1) := by decide +kernel
theorem dX3_twice_34 : decode cX3_twice 34 = .ok (.bastore, 1) := by decide +kernel
theorem dX3_twice_35 : decode cX3_twice 35 = .ok (.iload_n 3, 1) := by decide +kernel
theorem dX3_twice_36 : decode cX3_twice 36 = .ok (.bipush 10, 2) := by decide +kernel
theorem dX3_twice_38 : decode cX3_twice 38 = .ok (.idiv, 1) := by decide +kernel
theorem dX3_twice_39 : decode cX3_twice 39 = .ok (.istore_n 1, 1) := by decide +kernel
theorem dX3_twice_40 : decode cX3_twice 40 = .ok (.iinc 2 (-1), 3) := by decide +kernel
theorem dX3_twice_43 : decode cX3_twice 43 = .ok (.goto (-34), 3) := by decide +kernel
theorem dX3_twice_46 : decode cX3_twice 46 = .ok (.iload_n 1, 1) := by decide +kernel
theorem dX3_twice_47 : decode cX3_twice 47 = .ok (.ifCond .le 60, 3) := by decide +kernel
theorem dX3_twice_50 : decode cX3_twice 50 = .ok (.aload_n 0, 1) := by decide +kernel
theorem dX3_twice_51 : decode cX3_twice 51 = .ok (.getfield 23, 3) := by decide +kernel
theorem dX3_twice_54 : decode cX3_twice 54 = .ok (.istore_n 2, 1) := by decide +kernel
theorem dX3_twice_55 : decode cX3_twice 55 = .ok (.iload_n 2, 1) := by decide +kernel
theorem dX3_twice_56 : decode cX3_twice 56 = .ok (.ifCond .le 23, 3) := by decide +kernel
theorem dX3_twice_59 : decode cX3_twice 59 = .ok (.aload_n 0, 1) := by decide +kernel
theorem dX3_twice_60 : decode cX3_twice 60 = .ok (.getfield 7, 3) := by decide +kernel
theorem dX3_twice_63 : decode cX3_twice 63 = .ok (.iload_n 2, 1) := by decide +kernel
theorem dX3_twice_64 : decode cX3_twice 64 = .ok (.aload_n 0, 1) := by decide +kernel
theorem dX3_twice_65 : decode cX3_twice 65 = .ok (.getfield 7, 3) := by decide +kernel
theorem dX3_twice_68 : decode cX3_twice 68 = .ok (.iload_n 2, 1) := by decide +kernel
theorem dX3_twice_69 : decode cX3_twice 69 = .ok (.iconst 1, 1) := by decide +kernel
theorem dX3_twice_70 : decode cX3_twice 70 = .ok (.isub, 1) := by decide +kernel
theorem dX3_twice_71 : decode cX3_twice 71 = .ok (.baload, 1) := by decide +kernel
theorem dX3_twice_72 : decode cX3_twice 72 = .ok (.bastore, 1) := by decide +kernel
theorem dX3_twice_73 : decode cX3_twice 73 = .ok (.iinc 2 (-1), 3) := by decide +kernel
theorem dX3_twice_76 : decode cX3_twice 76 = .ok (.goto (-21), 3) := by decide +kernel
theorem dX3_twice_79 : decode cX3_twice 79 = .ok (.aload_n 0, 1) := by decide +kernel
theorem dX3_twice_80 : decode cX3_twice 80 = .ok (.getfield 7, 3) := by decide +kernel
theorem dX3_twice_83 : decode cX3_twice 83 = .ok (.iconst 0, 1) := by decide +kernel
theorem dX3_twice_84 : decode cX3_twice 84 = .ok (.iload_n 1, 1) := by decide +kernel
theorem dX3_twice_85 : decode cX3_twice 85 = .ok (.i2b, 1) := by decide +kernel
theorem dX3_twice_86 : decode cX3_twice 86 = .ok (.bastore, 1) := by decide +kernel
theorem dX3_twice_87 : decode cX3_twice 87 = .ok (.aload_n 0, 1) := by decide +kernel
theorem dX3_twice_88 : decode cX3_twice 88 = .ok (.aload_n 0, 1) := by decide +kernel
theorem dX3_twice_89 : decode cX3_twice 89 = .ok (.getfield 23, 3) := by decide +kernel
theorem dX3_twice_92 : decode cX3_twice 92 = .ok (.iconst 1, 1) := by decide +kernel
theorem dX3_twice_93 : decode cX3_twice 93 = .ok (.iadd, 1) := by decide +kernel
theorem dX3_twice_94 : decode cX3_twice 94 = .ok (.putfield 23, 3) := by decide +kernel
theorem dX3_twice_97 : decode cX3_twice 97 = .ok (.aload_n 0, 1) := by decide +kernel
theorem dX3_twice_98 : decode cX3_twice 98 = .ok (.aload_n 0, 1) := by decide +kernel
theorem dX3_twice_99 : decode cX3_twice 99 = .ok (.getfield 31, 3) := by decide +kernel
theorem dX3_twice_102 : decode cX3_twice 102 = .ok (.iconst 1, 1) := by decide +kernel
theorem dX3_twice_103 : decode cX3_twice 103 = .ok (.iadd, 1) := by decide +kernel
theorem dX3_twice_104 : decode cX3_twice 104 = .ok (.putfield 31, 3) := by decide +kernel
theorem dX3_twice_107 : decode cX3_twice 107 = .ok (.aload_n 0, 1) := by decide +kernel
theorem dX3_twice_108 : decode cX3_twice 108 = .ok (.invokevirtual 34, 3) := by decide +kernel
theorem dX3_twice_111 : decode cX3_twice 111 = .ok (.return_, 1) := by decide +kernel
set_option maxRecDepth 20000 in
theorem ggX3_half_X3_trim : GoodIn wsX3_half wsX3_trim := goodIn_r _ [7, 1, 2, 8, 9, 10, 11, 12, 13] (by decide +kernel) (by decide +kernel)
set_option maxRecDepth 20000 in
theorem gX3_half_X3_trim : GoodIn wsX3_half (wsV RX3 34 RX3 yX3_trim wsX3_trim) := goodIn_app (goodIn_of _ (by decide +kernel)) ggX3_half_X3_trim
theorem dX3_half_0 : decode cX3_half 0 = .ok (.iconst 0, 1) := by decide +kernel
theorem dX3_half_1 : decode cX3_half 1 = .ok (.istore_n 1, 1) := by decide +kernel
theorem dX3_half_2 : decode cX3_half 2 = .ok (.iconst 0, 1) := by decide +kernel
theorem dX3_half_3 : decode cX3_half 3 = .ok (.istore_n 2, 1) := by decide +kernel
theorem dX3_half_4 : decode cX3_half 4 = .ok (.iload_n 2, 1) := by decide +kernel
theorem dX3_half_5 : decode cX3_half 5 = .ok (.aload_n 0, 1) := by decide +kernel
theorem dX3_half_6 : decode cX3_half 6 = .ok (.getfield 23, 3) := by decide +kernel
theorem dX3_half_9 : decode cX3_half 9 = .ok (.if_icmp .ge 35, 3) := by decide +kernel
theorem dX3_half_12 : decode cX3_half 12 = .ok (.bipush 10, 2) := by decide +kernel
theorem dX3_half_14 : decode cX3_half 14 = .ok (.iload_n 1, 1) := by decide +kernel
theorem dX3_half_15 : decode cX3_half 15 = .ok (.imul, 1) := by decide +kernel
theorem dX3_half_16 : decode cX3_half 16 = .ok (.aload_n 0, 1) := by decide +kernel
theorem dX3_half_17 : decode cX3_half 17 = .ok (.getfield 7, 3) := by decide +kernel
theorem dX3_half_20 : decode cX3_half 20 = .ok (.iload_n 2, 1) := by decide +kernel
theorem dX3_half_21 : decode cX3_half 21 = .ok (.baload, 1) := by decide +kernel
theorem dX3_half_22 : decode cX3_half 22 = .ok (.iadd, 1) := by decide +kernel
theorem dX3_half_23 : decode cX3_half 23 = .ok (.istore_n 3, 1) := by decide +kernel
theorem dX3_half_24 : decode cX3_half 24 = .ok (.aload_n 0, 1) := by decide +kernel
theorem dX3_half_25 : decode cX3_half 25 = .ok (.getfield 7, 3) := by decide +kernel
theorem dX3_half_28 : decode cX3_half 28 = .ok (.iload_n 2, 1) := by decide +kernel
theorem dX3_half_29 : decode cX3_half 29 = .ok (.iload_n 3, 1) := by decide +kernel
theorem dX3_half_30 : decode cX3_half 30 = .ok (.iconst 2, 1) := by decide +kernel
theorem dX3_half_31 : decode cX3_half 31 = .ok (.idiv, 1) := by decide +kernel
theorem dX3_half_32 : decode cX3_half 32 = .ok (.i2b, 1) := by decide +kernel
theorem dX3_half_33 : decode cX3_half 33 = .ok (.bastore, 1) := by decide +kernel
theorem dX3_half_34 : decode cX3_half 34 = .ok (.iload_n 3, 1) := by decide +kernel
theorem dX3_half_35 : decode cX3_half 35 = .ok (.iconst 2, 1) := by decide +kernel
theorem dX3_half_36 : decode cX3_half 36 = .ok (.irem, 1) := by decide +kernel
theorem dX3_half_37 : decode cX3_half 37 = .ok (.istore_n 1, 1) := by decide +kernel
theorem dX3_half_38 : decode cX3_half 38 = .ok (.iinc 2 1, 3) := by decide +kernel
theorem dX3_half_41 : decode cX3_half 41 = .ok (.goto (-37), 3) := by decide +kernel
theorem dX3_half_44 : decode cX3_half 44 = .ok (.iload_n 1, 1) := by decide +kernel
theorem dX3_half_45 : decode cX3_half 45 = .ok (.ifCond .le 23, 3) := by decide +kernel
theorem dX3_half_48 : decode cX3_half 48 = .ok (.aload_n 0, 1) := by decide +kernel
theorem dX3_half_49 : decode cX3_half 49 = .ok (.getfield 7, 3) := by decide +kernel
theorem dX3_half_52 : decode cX3_half 52 = .ok (.aload_n 0, 1) := by decide +kernel
theorem dX3_half_53 : decode cX3_half 53 = .ok (.getfield 23, 3) := by decide +kernel
theorem dX3_half_56 : decode cX3_half 56 = .ok (.iconst 5, 1) := by decide +kernel
theorem dX3_half_57 : decode cX3_half 57 = .ok (.bastore, 1) := by decide +kernel
theorem dX3_half_58 : decode cX3_half 58 = .ok (.aload_n 0, 1) := by decide +kernel
theorem dX3_half_59 : decode cX3_half 59 = .ok (.aload_n 0, 1) := by decide +kernel
theorem dX3_half_60 : decode cX3_half 60 = .ok (.getfield 23, 3) := by decide +kernel
theorem dX3_half_63 : decode cX3_half 63 = .ok (.iconst 1, 1) := by decide +kernel
theorem dX3_half_64 : decode cX3_half 64 = .ok (.iadd, 1) := by decide +kernel
theorem dX3_half_65 : decode cX3_half 65 = .ok (.putfield 23, 3) := by decide +kernel
theorem dX3_half_68 : decode cX3_half 68 = .ok (.aload_n 0, 1) := by decide +kernel
theorem dX3_half_69 : decode cX3_half 69 = .ok (.invokevirtual 34, 3) := by decide +kernel
theorem dX3_half_72 : decode cX3_half 72 = .ok (.return_, 1) := by decide +kernel
set_option maxRecDepth 20000 in
theorem ggX3_cut_X3_trim : GoodIn wsX3_cut wsX3_trim := goodIn_r _ [8, 1, 3, 2, 9, 10, 11, 12, 13] (by decide +kernel) (by decide +kernel)
set_option maxRecDepth 20000 in
theorem gX3_cut_X3_trim : GoodIn wsX3_cut (wsV RX3 34 RX3 yX3_trim wsX3_trim) := goodIn_app (goodIn_of _ (by decide +kernel)) ggX3_cut_X3_trim
theorem dX3_cut_0 : decode cX3_cut 0 = .ok (.iload_n 1, 1) := by decide +kernel
theorem dX3_cut_1 : decode cX3_cut 1 = .ok (.aload_n 0, 1) := by decide +kernel
theorem dX3_cut_2 : decode cX3_cut 2 = .ok (.getfield 23, 3) := by decide +kernel
theorem dX3_cut_5 : decode cX3_cut 5 = .ok (.if_icmp .lt 4, 3) := by decide +kernel
theorem dX3_cut_8 : decode cX3_cut 8 = .ok (.return_, 1) := by decide +kernel
theorem dX3_cut_9 : decode cX3_cut 9 = .ok (.iload_n 1, 1) := by decide +kernel
theorem dX3_cut_10 : decode cX3_cut 10 = .ok (.ifCond .ge 14, 3) := by decide +kernel
theorem dX3_cut_13 : decode cX3_cut 13 = .ok (.aload_n 0, 1) := by decide +kernel
theorem dX3_cut_14 : decode cX3_cut 14 = .ok (.iconst 0, 1) := by decide +kernel
theorem dX3_cut_15 : decode cX3_cut 15 = .ok (.putfield 23, 3) := by decide +kernel
theorem dX3_cut_18 : decode cX3_cut 18 = .ok (.aload_n 0, 1) := by decide +kernel
theorem dX3_cut_19 : decode cX3_cut 19 = .ok (.iconst 0, 1) := by decide +kernel
theorem dX3_cut_20 : decode cX3_cut 20 = .ok (.putfield 31, 3) := by decide +kernel
theorem dX3_cut_23 : decode cX3_cut 23 = .ok (.return_, 1) := by decide +kernel
theorem dX3_cut_24 : decode cX3_cut 24 = .ok (.aload_n 0, 1) := by decide +kernel
theorem dX3_cut_25 : decode cX3_cut 25 = .ok (.getfield 7, 3) := by decide +kernel
theorem dX3_cut_28 : decode cX3_cut 28 = .ok (.iload_n 1, 1) := by decide +kernel
theorem dX3_cut_29 : decode cX3_cut 29 = .ok (.baload, 1) := by decide +kernel
theorem dX3_cut_30 : decode cX3_cut 30 = .ok (.iconst 5, 1) := by decide +kernel
theorem dX3_cut_31 : decode cX3_cut 31 = .ok (.if_icmp .le 7, 3) := by decide +kernel
theorem dX3_cut_34 : decode cX3_cut 34 = .ok (.iconst 1, 1) := by decide +kernel
theorem dX3_cut_35 : decode cX3_cut 35 = .ok (.goto 4, 3) := by decide +kernel
theorem dX3_cut_38 : decode cX3_cut 38 = .ok (.iconst 0, 1) := by decide +kernel
theorem dX3_cut_39 : decode cX3_cut 39 = .ok (.istore_n 2, 1) := by decide +kernel
theorem dX3_cut_40 : decode cX3_cut 40 = .ok (.aload_n 0, 1) := by decide +kernel
theorem dX3_cut_41 : decode cX3_cut 41 = .ok (.getfield 7, 3) := by decide +kernel
theorem dX3_cut_44 : decode cX3_cut 44 = .ok (.iload_n 1, 1) := by decide +kernel
theorem dX3_cut_45 : decode cX3_cut 45 = .ok (.baload, 1) := by decide +kernel
theorem dX3_cut_46 : decode cX3_cut 46 = .ok (.iconst 5, 1) := by decide +kernel
theorem dX3_cut_47 : decode cX3_cut 47 = .ok (.if_icmp .ne 47, 3) := by decide +kernel
theorem dX3_cut_50 : decode cX3_cut 50 = .ok (.iload_n 1, 1) := by decide +kernel
theorem dX3_cut_51 : decode cX3_cut 51 = .ok (.ifCond .le 21, 3) := by decide +kernel
theorem dX3_cut_54 : decode cX3_cut 54 = .ok (.aload_n 0, 1) := by decide +kernel
theorem dX3_cut_55 : decode cX3_cut 55 = .ok (.getfield 7, 3) := by decide +kernel
theorem dX3_cut_58 : decode cX3_cut 58 = .ok (.iload_n 1, 1) := by decide +kernel
theorem dX3_cut_59 : decode cX3_cut 59 = .ok (.iconst 1, 1) := by decide +kernel
theorem dX3_cut_60 : decode cX3_cut 60 = .ok (.isub, 1) := by decide +kernel
theorem dX3_cut_61 : decode cX3_cut 61 = .ok (.baload, 1) := by decide +kernel
theorem dX3_cut_62 : decode cX3_cut 62 = .ok (.iconst 2, 1) := by decide +kernel
theorem dX3_cut_63 : decode cX3_cut 63 = .ok (.irem, 1) := by decide +kernel
theorem dX3_cut_64 : decode cX3_cut 64 = .ok (.iconst 1, 1) := by decide +kernel
theorem dX3_cut_65 : decode cX3_cut 65 = .ok (.if_icmp .ne 7, 3) := by decide +kernel
theorem dX3_cut_68 : decode cX3_cut 68 = .ok (.iconst 1, 1) := by decide +kernel
theorem dX3_cut_69 : decode cX3_cut 69 = .ok (.goto 4, 3) := by decide +kernel
theorem dX3_cut_72 : decode cX3_cut 72 = .ok (.iconst 0, 1) := by decide +kernel
theorem dX3_cut_73 : decode cX3_cut 73 = .ok (.istore_n 3, 1) := by decide +kernel
theorem dX3_cut_74 : decode cX3_cut 74 = .ok (.iload_n 3, 1) := by decide +kernel
theorem dX3_cut_75 : decode cX3_cut 75 = .ok (.ifCond .ne 13, 3) := by decide +kernel
theorem dX3_cut_78 : decode cX3_cut 78 = .ok (.aload_n 0, 1) := by decide +kernel
theorem dX3_cut_79 : decode cX3_cut 79 = .ok (.getfield 23, 3) := by decide +kernel
theorem dX3_cut_82 : decode cX3_cut 82 = .ok (.iload_n 1, 1) := by decide +kernel
theorem dX3_cut_83 : decode cX3_cut 83 = .ok (.iconst 1, 1) := by decide +kernel
theorem dX3_cut_84 : decode cX3_cut 84 = .ok (.iadd, 1) := by decide +kernel
theorem dX3_cut_85 : decode cX3_cut 85 = .ok (.if_icmp .le 7, 3) := by decide +kernel
theorem dX3_cut_88 : decode cX3_cut 88 = .ok (.iconst 1, 1) := by decide +kernel
theorem dX3_cut_89 : decode cX3_cut 89 = .ok (.goto 4, 3) := by decide +kernel
theorem dX3_cut_92 : decode cX3_cut 92 = .ok (.iconst 0, 1) := by decide +kernel
theorem dX3_cut_93 : decode cX3_cut 93 = .ok (.istore_n 2, 1) := by decide +kernel
theorem dX3_cut_94 : decode cX3_cut 94 = .ok (.aload_n 0, 1) := by decide +kernel
theorem dX3_cut_95 : decode cX3_cut 95 = .ok (.getfield 31, 3) := by decide +kernel
theorem dX3_cut_98 : decode cX3_cut 98 = .ok (.istore_n 3, 1) := by decide +kernel
theorem dX3_cut_99 : decode cX3_cut 99 = .ok (.aload_n 0, 1) := by decide +kernel
theorem dX3_cut_100 : decode cX3_cut 100 = .ok (.iload_n 1, 1) := by decide +kernel
theorem dX3_cut_101 : decode cX3_cut 101 = .ok (.putfield 23, 3) := by decide +kernel
theorem dX3_cut_104 : decode cX3_cut 104 = .ok (.iload_n 2, 1) := by decide +kernel
theorem dX3_cut_105 : decode cX3_cut 105 = .ok (.ifCond .eq 118, 3) := by decide +kernel
theorem dX3_cut_108 : decode cX3_cut 108 = .ok (.iload_n 1, 1) := by decide +kernel
theorem dX3_cut_109 : decode cX3_cut 109 = .ok (.iconst 1, 1) := by decide +kernel
theorem dX3_cut_110 : decode cX3_cut 110 = .ok (.isub, 1) := by decide +kernel
theorem dX3_cut_111 : decode cX3_cut 111 = .ok (.istore 4, 2) := by decide +kernel
theorem dX3_cut_113 : decode cX3_cut 113 = .ok (.iload 4, 2) := by decide +kernel
theorem dX3_cut_115 : decode cX3_cut 115 = .ok (.ifCond .lt 32, 3) := by decide +kernel
theorem dX3_cut_118 : decode cX3_cut 118 = .ok (.aload_n 0, 1) := by decide +kernel
theorem dX3_cut_119 : decode cX3_cut 119 = .ok (.getfield 7, 3) := by decide +kernel
theorem dX3_cut_122 : decode cX3_cut 122 = .ok (.iload 4, 2) := by decide +kernel
theorem dX3_cut_124 : decode cX3_cut 124 = .ok (.baload, 1) := by decide +kernel
theorem dX3_cut_125 : decode cX3_cut 125 = .ok (.bipush 9, 2) := by decide +kernel
theorem dX3_cut_127 : decode cX3_cut 127 = .ok (.if_icmp .ne 20, 3) := by decide +kernel
theorem dX3_cut_130 : decode cX3_cut 130 = .ok (.aload_n 0, 1) := by decide +kernel
theorem dX3_cut_131 : decode cX3_cut 131 = .ok (.getfield 7, 3) := by decide +kernel
theorem dX3_cut_134 : decode cX3_cut 134 = .ok (.iload 4, 2) := by decide +kernel
theorem dX3_cut_136 : decode cX3_cut 136 = .ok (.iconst 0, 1) := by decide +kernel
theorem dX3_cut_137 : decode cX3_cut 137 = .ok (.bastore, 1) := by decide +kernel
theorem dX3_cut_138 : decode cX3_cut 138 = .ok (.iload 4, 2) := by decide +kernel
theorem dX3_cut_140 : decode cX3_cut 140 = .ok (.iconst 1, 1) := by decide +kernel
theorem dX3_cut_141 : decode cX3_cut 141 = .ok (.isub, 1) := by decide +kernel
theorem dX3_cut_142 : decode cX3_cut 142 = .ok (.istore 4, 2) := by decide +kernel
theorem dX3_cut_144 : decode cX3_cut 144 = .ok (.goto (-31), 3) := by decide +kernel
theorem dX3_cut_147 : decode cX3_cut 147 = .ok (.iload 4, 2) := by decide +kernel
theorem dX3_cut_149 : decode cX3_cut 149 = .ok (.ifCond .lt 23, 3) := by decide +kernel
theorem dX3_cut_152 : decode cX3_cut 152 = .ok (.aload_n 0, 1) := by decide +kernel
theorem dX3_cut_153 : decode cX3_cut 153 = .ok (.getfield 7, 3) := by decide +kernel
theorem dX3_cut_156 : decode cX3_cut 156 = .ok (.iload 4, 2) := by decide +kernel
theorem dX3_cut_158 : decode cX3_cut 158 = .ok (.aload_n 0, 1) := by decide +kernel
theorem dX3_cut_159 : decode cX3_cut 159 = .ok (.getfield 7, 3) := by decide +kernel
theorem dX3_cut_162 : decode cX3_cut 162 = .ok (.iload 4, 2) := by decide +kernel
theorem dX3_cut_164 : decode cX3_cut 164 = .ok (.baload, 1) := by decide +kernel
theorem dX3_cut_165 : decode cX3_cut 165 = .ok (.iconst 1, 1) := by decide +kernel
theorem dX3_cut_166 : decode cX3_cut 166 = .ok (.iadd, 1) := by decide +kernel
theorem dX3_cut_167 : decode cX3_cut 167 = .ok (.i2b, 1) := by decide +kernel
theorem dX3_cut_168 : decode cX3_cut 168 = .ok (.bastore, 1) := by decide +kernel
theorem dX3_cut_169 : decode cX3_cut 169 = .ok (.goto 54, 3) := by decide +kernel
theorem dX3_cut_172 : decode cX3_cut 172 = .ok (.iload_n 1, 1) := by decide +kernel
theorem dX3_cut_173 : decode cX3_cut 173 = .ok (.istore 5, 2) := by decide +kernel
theorem dX3_cut_175 : decode cX3_cut 175 = .ok (.iload 5, 2) := by decide +kernel
theorem dX3_cut_177 : decode cX3_cut 177 = .ok (.ifCond .le 25, 3) := by decide +kernel
theorem dX3_cut_180 : decode cX3_cut 180 = .ok (.aload_n 0, 1) := by decide +kernel
theorem dX3_cut_181 : decode cX3_cut 181 = .ok (.getfield 7, 3) := by decide +kernel
theorem dX3_cut_184 : decode cX3_cut 184 = .ok (.iload 5, 2) := by decide +kernel
theorem dX3_cut_186 : decode cX3_cut 186 = .ok (.aload_n 0, 1) := by decide +kernel
theorem dX3_cut_187 : decode cX3_cut 187 = .ok (.getfield 7, 3) := by decide +kernel
theorem dX3_cut_190 : decode cX3_cut 190 = .ok (.iload 5, 2) := by decide +kernel
theorem dX3_cut_192 : decode cX3_cut 192 = .ok (.iconst 1, 1) := by decide +kernel
theorem dX3_cut_193 : decode cX3_cut 193 = .ok (.isub, 1) := by decide +kernel
theorem dX3_cut_194 : decode cX3_cut 194 = .ok (.baload, 1) := by decide +kernel
theorem dX3_cut_195 : decode cX3_cut 195 = .ok (.bastore, 1) := by decide +kernel
theorem dX3_cut_196 : decode cX3_cut 196 = .ok (.iinc 5 (-1), 3) := by decide +kernel
theorem dX3_cut_199 : decode cX3_cut 199 = .ok (.goto (-24), 3) := by decide +kernel
theorem dX3_cut_202 : decode cX3_cut 202 = .ok (.aload_n 0, 1) := by decide +kernel
theorem dX3_cut_203 : decode cX3_cut 203 = .ok (.getfield 7, 3) := by decide +kernel
theorem dX3_cut_206 : decode cX3_cut 206 = .ok (.iconst 0, 1) := by decide +kernel
theorem dX3_cut_207 : decode cX3_cut 207 = .ok (.iconst 1, 1) := by decide +kernel
theorem dX3_cut_208 : decode cX3_cut 208 = .ok (.bastore, 1) := by decide +kernel
theorem dX3_cut_209 : decode cX3_cut 209 = .ok (.aload_n 0, 1) := by decide +kernel
theorem dX3_cut_210 : decode cX3_cut 210 = .ok (.iload_n 1, 1) := by decide +kernel
theorem dX3_cut_211 : decode cX3_cut 211 = .ok (.iconst 1, 1) := by decide +kernel
theorem dX3_cut_212 : decode cX3_cut 212 = .ok (.iadd, 1) := by decide +kernel
theorem dX3_cut_213 : decode cX3_cut 213 = .ok (.putfield 23, 3) := by decide +kernel
theorem dX3_cut_216 : decode cX3_cut 216 = .ok (.aload_n 0, 1) := by decide +kernel
theorem dX3_cut_217 : decode cX3_cut 217 = .ok (.iload_n 3, 1) := by decide +kernel
theorem dX3_cut_218 : decode cX3_cut 218 = .ok (.iconst 1, 1) := by decide +kernel
theorem dX3_cut_219 : decode cX3_cut 219 = .ok (.iadd, 1) := by decide +kernel
theorem dX3_cut_220 : decode cX3_cut 220 = .ok (.putfield 31, 3) := by decide +kernel
theorem dX3_cut_223 : decode cX3_cut 223 = .ok (.aload_n 0, 1) := by decide +kernel
theorem dX3_cut_224 : decode cX3_cut 224 = .ok (.invokevirtual 34, 3) := by decide +kernel
theorem dX3_cut_227 : decode cX3_cut 227 = .ok (.return_, 1) := by decide +kernel
theorem dX3_put_0 : decode cX3_put 0 = .ok (.aload_n 0, 1) := by decide +kernel
theorem dX3_put_1 : decode cX3_put 1 = .ok (.getfield 13, 3) := by decide +kernel
theorem dX3_put_4 : decode cX3_put 4 = .ok (.aload_n 0, 1) := by decide +kernel
theorem dX3_put_5 : decode cX3_put 5 = .ok (.getfield 43, 3) := by decide +kernel
theorem dX3_put_8 : decode cX3_put 8 = .ok (.iload_n 1, 1) := by decide +kernel
theorem dX3_put_9 : decode cX3_put 9 = .ok (.iastore, 1) := by decide +kernel
theorem dX3_put_10 : decode cX3_put 10 = .ok (.aload_n 0, 1) := by decide +kernel
theorem dX3_put_11 : decode cX3_put 11 = .ok (.aload_n 0, 1) := by decide +kernel
theorem dX3_put_12 : decode cX3_put 12 = .ok (.getfield 43, 3) := by decide +kernel
theorem dX3_put_15 : decode cX3_put 15 = .ok (.iconst 1, 1) := by decide +kernel
theorem dX3_put_16 : decode cX3_put 16 = .ok (.iadd, 1) := by decide +kernel
theorem dX3_put_17 : decode cX3_put 17 = .ok (.putfield 43, 3) := by decide +kernel
theorem dX3_put_20 : decode cX3_put 20 = .ok (.return_, 1) := by decide +kernel
theorem dX3_digit_0 : decode cX3_digit 0 = .ok (.iload_n 1, 1) := by decide +kernel
theorem dX3_digit_1 : decode cX3_digit 1 = .ok (.ifCond .lt 20, 3) := by decide +kernel
theorem dX3_digit_4 : decode cX3_digit 4 = .ok (.iload_n 1, 1) := by decide +kernel
theorem dX3_digit_5 : decode cX3_digit 5 = .ok (.aload_n 0, 1) := by decide +kernel
theorem dX3_digit_6 : decode cX3_digit 6 = .ok (.getfield 23, 3) := by decide +kernel
theorem dX3_digit_9 : decode cX3_digit 9 = .ok (.if_icmp .ge 12, 3) := by decide +kernel
theorem dX3_digit_12 : decode cX3_digit 12 = .ok (.aload_n 0, 1) := by decide +kernel
theorem dX3_digit_13 : decode cX3_digit 13 = .ok (.getfield 7, 3) := by decide +kernel
theorem dX3_digit_16 : decode cX3_digit 16 = .ok (.iload_n 1, 1) := by decide +kernel
theorem dX3_digit_17 : decode cX3_digit 17 = .ok (.baload, 1) := by decide +kernel
theorem dX3_digit_18 : decode cX3_digit 18 = .ok (.goto 4, 3) := by decide +kernel
theorem dX3_digit_21 : decode cX3_digit 21 = .ok (.iconst 0, 1) := by decide +kernel
theorem dX3_digit_22 : decode cX3_digit 22 = .ok (.ireturn, 1) := by decide +kernel
set_option maxRecDepth 20000 in
theorem ggX3_body_X3_cut : GoodIn wsX3_body wsX3_cut := goodIn_r _ [7, 2, 1, 8, 9, 10, 11, 6, 12, 23, 24, 25, 26, 27] (by decide +kernel) (by decide +kernel)
set_option maxRecDepth 20000 in
theorem gX3_body_X3_cut : GoodIn wsX3_body (wsV RX3 46 RX3 yX3_cut wsX3_cut) := goodIn_app (goodIn_of _ (by decide +kernel)) ggX3_body_X3_cut
set_option maxRecDepth 20000 in
theorem ggX3_body_X3_digit : GoodIn wsX3_body wsX3_digit := goodIn_r _ [16, 2, 8, 23, 24, 25, 26, 27] (by decide +kernel) (by decide +kernel)
set_option maxRecDepth 20000 in
theorem gX3_body_X3_digit : GoodIn wsX3_body (wsV RX3 50 RX3 yX3_digit wsX3_digit) := goodIn_app (goodIn_of _ (by decide +kernel)) ggX3_body_X3_digit
set_option maxRecDepth 20000 in
theorem ggX3_body_X3_put : GoodIn wsX3_body wsX3_put := goodIn_r _ [20, 21, 22, 23, 24, 25, 26, 27] (by decide +kernel) (by decide +kernel)
set_option maxRecDepth 20000 in
theorem gX3_body_X3_put : GoodIn wsX3_body (wsV RX3 54 RX3 yX3_put wsX3_put) := goodIn_app (goodIn_of _ (by decide +kernel)) ggX3_body_X3_put
theorem dX3_body_0 : decode cX3_body 0 = .ok (.iload_n 1, 1) := by decide +kernel
theorem dX3_body_1 : decode cX3_body 1 = .ok (.ifCond .ne 105, 3) := by decide +kernel
theorem dX3_body_4 : decode cX3_body 4 = .ok (.aload_n 0, 1) := by decide +kernel
theorem dX3_body_5 : decode cX3_body 5 = .ok (.aload_n 0, 1) := by decide +kernel
theorem dX3_body_6 : decode cX3_body 6 = .ok (.getfield 31, 3) := by decide +kernel
theorem dX3_body_9 : decode cX3_body 9 = .ok (.iload_n 2, 1) := by decide +kernel
theorem dX3_body_10 : decode cX3_body 10 = .ok (.iadd, 1) := by decide +kernel
theorem dX3_body_11 : decode cX3_body 11 = .ok (.invokevirtual 46, 3) := by decide +kernel
theorem dX3_body_14 : decode cX3_body 14 = .ok (.iconst 0, 1) := by decide +kernel
theorem dX3_body_15 : decode cX3_body 15 = .ok (.istore 4, 2) := by decide +kernel
theorem dX3_body_17 : decode cX3_body 17 = .ok (.iload 4, 2) := by decide +kernel
theorem dX3_body_19 : decode cX3_body 19 = .ok (.aload_n 0, 1) := by decide +kernel
theorem dX3_body_20 : decode cX3_body 20 = .ok (.getfield 31, 3) := by decide +kernel
theorem dX3_body_23 : decode cX3_body 23 = .ok (.if_icmp .ge 22, 3) := by decide +kernel
theorem dX3_body_26 : decode cX3_body 26 = .ok (.aload_n 0, 1) := by decide +kernel
theorem dX3_body_27 : decode cX3_body 27 = .ok (.bipush 48, 2) := by decide +kernel
theorem dX3_body_29 : decode cX3_body 29 = .ok (.aload_n 0, 1) := by decide +kernel
theorem dX3_body_30 : decode cX3_body 30 = .ok (.iload 4, 2) := by decide +kernel
theorem dX3_body_32 : decode cX3_body 32 = .ok (.invokevirtual 50, 3) := by decide +kernel
theorem dX3_body_35 : decode cX3_body 35 = .ok (.iadd, 1) := by decide +kernel
theorem dX3_body_36 : decode cX3_body 36 = .ok (.invokevirtual 54, 3) := by decide +kernel
theorem dX3_body_39 : decode cX3_body 39 = .ok (.iinc 4 1, 3) := by decide +kernel
theorem dX3_body_42 : decode cX3_body 42 = .ok (.goto (-25), 3) := by decide +kernel
theorem dX3_body_45 : decode cX3_body 45 = .ok (.aload_n 0, 1) := by decide +kernel
theorem dX3_body_46 : decode cX3_body 46 = .ok (.getfield 31, 3) := by decide +kernel
theorem dX3_body_49 : decode cX3_body 49 = .ok (.ifCond .gt 9, 3) := by decide +kernel
theorem dX3_body_52 : decode cX3_body 52 = .ok (.aload_n 0, 1) := by decide +kernel
theorem dX3_body_53 : decode cX3_body 53 = .ok (.bipush 48, 2) := by decide +kernel
theorem dX3_body_55 : decode cX3_body 55 = .ok (.invokevirtual 54, 3) := by decide +kernel
theorem dX3_body_58 : decode cX3_body 58 = .ok (.iload_n 2, 1) := by decide +kernel
theorem dX3_body_59 : decode cX3_body 59 = .ok (.ifCond .gt 7, 3) := by decide +kernel
theorem dX3_body_62 : decode cX3_body 62 = .ok (.iload_n 3, 1) := by decide +kernel
theorem dX3_body_63 : decode cX3_body 63 = .ok (.ifCond .eq 9, 3) := by decide +kernel
theorem dX3_body_66 : decode cX3_body 66 = .ok (.aload_n 0, 1) := by decide +kernel
theorem dX3_body_67 : decode cX3_body 67 = .ok (.bipush 46, 2) := by decide +kernel
theorem dX3_body_69 : decode cX3_body 69 = .ok (.invokevirtual 54, 3) := by decide +kernel
theorem dX3_body_72 : decode cX3_body 72 = .ok (.iconst 0, 1) := by decide +kernel
theorem dX3_body_73 : decode cX3_body 73 = .ok (.istore 4, 2) := by decide +kernel
theorem dX3_body_75 : decode cX3_body 75 = .ok (.iload 4, 2) := by decide +kernel
theorem dX3_body_77 : decode cX3_body 77 = .ok (.iload_n 2, 1) := by decide +kernel
theorem dX3_body_78 : decode cX3_body 78 = .ok (.if_icmp .ge 27, 3) := by decide +kernel
theorem dX3_body_81 : decode cX3_body 81 = .ok (.aload_n 0, 1) := by decide +kernel
theorem dX3_body_82 : decode cX3_body 82 = .ok (.bipush 48, 2) := by decide +kernel
theorem dX3_body_84 : decode cX3_body 84 = .ok (.aload_n 0, 1) := by decide +kernel
theorem dX3_body_85 : decode cX3_body 85 = .ok (.aload_n 0, 1) := by decide +kernel
theorem dX3_body_86 : decode cX3_body 86 = .ok (.getfield 31, 3) := by decide +kernel
theorem dX3_body_89 : decode cX3_body 89 = .ok (.iload 4, 2) := by decide +kernel
theorem dX3_body_91 : decode cX3_body 91 = .ok (.iadd, 1) := by decide +kernel
theorem dX3_body_92 : decode cX3_body 92 = .ok (.invokevirtual 50, 3) := by decide +kernel
theorem dX3_body_95 : decode cX3_body 95 = .ok (.iadd, 1) := by decide +kernel
theorem dX3_body_96 : decode cX3_body 96 = .ok (.invokevirtual 54, 3) := by decide +kernel
theorem dX3_body_99 : decode cX3_body 99 = .ok (.iinc 4 1, 3) := by decide +kernel
theorem dX3_body_102 : decode cX3_body 102 = .ok (.goto (-27), 3) := by decide +kernel
theorem dX3_body_105 : decode cX3_body 105 = .ok (.return_, 1) := by decide +kernel
theorem dX3_body_106 : decode cX3_body 106 = .ok (.aload_n 0, 1) := by decide +kernel
theorem dX3_body_107 : decode cX3_body 107 = .ok (.iload_n 2, 1) := by decide +kernel
theorem dX3_body_108 : decode cX3_body 108 = .ok (.iconst 1, 1) := by decide +kernel
theorem dX3_body_109 : decode cX3_body 109 = .ok (.iadd, 1) := by decide +kernel
theorem dX3_body_110 : decode cX3_body 110 = .ok (.invokevirtual 46, 3) := by decide +kernel
theorem dX3_body_113 : decode cX3_body 113 = .ok (.aload_n 0, 1) := by decide +kernel
theorem dX3_body_114 : decode cX3_body 114 = .ok (.getfield 23, 3) := by decide +kernel
theorem dX3_body_117 : decode cX3_body 117 = .ok (.ifCond .ne 7, 3) := by decide +kernel
theorem dX3_body_120 : decode cX3_body 120 = .ok (.iconst 0, 1) := by decide +kernel
theorem dX3_body_121 : decode cX3_body 121 = .ok (.goto 9, 3) := by decide +kernel
theorem dX3_body_124 : decode cX3_body 124 = .ok (.aload_n 0, 1) := by decide +kernel
theorem dX3_body_125 : decode cX3_body 125 = .ok (.getfield 31, 3) := by decide +kernel
theorem dX3_body_128 : decode cX3_body 128 = .ok (.iconst 1, 1) := by decide +kernel
theorem dX3_body_129 : decode cX3_body 129 = .ok (.isub, 1) := by decide +kernel
theorem dX3_body_130 : decode cX3_body 130 = .ok (.istore 4, 2) := by decide +kernel
theorem dX3_body_132 : decode cX3_body 132 = .ok (.aload_n 0, 1) := by decide +kernel
theorem dX3_body_133 : decode cX3_body 133 = .ok (.bipush 48, 2) := by decide +kernel
theorem dX3_body_135 : decode cX3_body 135 = .ok (.aload_n 0, 1) := by decide +kernel
theorem dX3_body_136 : decode cX3_body 136 = .ok (.iconst 0, 1) := by decide +kernel
theorem dX3_body_137 : decode cX3_body 137 = .ok (.invokevirtual 50, 3) := by decide +kernel
theorem dX3_body_140 : decode cX3_body 140 = .ok (.iadd, 1) := by decide +kernel
theorem dX3_body_141 : decode cX3_body 141 = .ok (.invokevirtual 54, 3) := by decide +kernel
theorem dX3_body_144 : decode cX3_body 144 = .ok (.iload_n 2, 1) := by decide +kernel
theorem dX3_body_145 : decode cX3_body 145 = .ok (.ifCond .gt 7, 3) := by decide +kernel
theorem dX3_body_148 : decode cX3_body 148 = .ok (.iload_n 3, 1) := by decide +kernel
theorem dX3_body_149 : decode cX3_body 149 = .ok (.ifCond .eq 9, 3) := by decide +kernel
theorem dX3_body_152 : decode cX3_body 152 = .ok (.aload_n 0, 1) := by decide +kernel
theorem dX3_body_153 : decode cX3_body 153 = .ok (.bipush 46, 2) := by decide +kernel
theorem dX3_body_155 : decode cX3_body 155 = .ok (.invokevirtual 54, 3) := by decide +kernel
theorem dX3_body_158 : decode cX3_body 158 = .ok (.iconst 1, 1) := by decide +kernel
theorem dX3_body_159 : decode cX3_body 159 = .ok (.istore 5, 2) := by decide +kernel
theorem dX3_body_161 : decode cX3_body 161 = .ok (.iload 5, 2) := by decide +kernel
theorem dX3_body_163 : decode cX3_body 163 = .ok (.iload_n 2, 1) := by decide +kernel
theorem dX3_body_164 : decode cX3_body 164 = .ok (.if_icmp .gt 22, 3) := by decide +kernel
theorem dX3_body_167 : decode cX3_body 167 = .ok (.aload_n 0, 1) := by decide +kernel
theorem dX3_body_168 : decode cX3_body 168 = .ok (.bipush 48, 2) := by decide +kernel
theorem dX3_body_170 : decode cX3_body 170 = .ok (.aload_n 0, 1) := by decide +kernel
theorem dX3_body_171 : decode cX3_body 171 = .ok (.iload 5, 2) := by decide +kernel
theorem dX3_body_173 : decode cX3_body 173 = .ok (.invokevirtual 50, 3) := by decide +kernel
theorem dX3_body_176 : decode cX3_body 176 = .ok (.iadd, 1) := by decide +kernel
theorem dX3_body_177 : decode cX3_body 177 = .ok (.invokevirtual 54, 3) := by decide +kernel
theorem dX3_body_180 : decode cX3_body 180 = .ok (.iinc 5 1, 3) := by decide +kernel
theorem dX3_body_183 : decode cX3_body 183 = .ok (.goto (-22), 3) := by decide +kernel
theorem dX3_body_186 : decode cX3_body 186 = .ok (.aload_n 0, 1) := by decide +kernel
theorem dX3_body_187 : decode cX3_body 187 = .ok (.iload_n 1, 1) := by decide +kernel
theorem dX3_body_188 : decode cX3_body 188 = .ok (.iconst 1, 1) := by decide +kernel
theorem dX3_body_189 : decode cX3_body 189 = .ok (.if_icmp .ne 8, 3) := by decide +kernel
theorem dX3_body_192 : decode cX3_body 192 = .ok (.bipush 101, 2) := by decide +kernel
theorem dX3_body_194 : decode cX3_body 194 = .ok (.goto 5, 3) := by decide +kernel
theorem dX3_body_197 : decode cX3_body 197 = .ok (.bipush 69, 2) := by decide +kernel
theorem dX3_body_199 : decode cX3_body 199 = .ok (.invokevirtual 54, 3) := by decide +kernel
theorem dX3_body_202 : decode cX3_body 202 = .ok (.aload_n 0, 1) := by decide +kernel
theorem dX3_body_203 : decode cX3_body 203 = .ok (.iload 4, 2) := by decide +kernel
theorem dX3_body_205 : decode cX3_body 205 = .ok (.ifCond .ge 8, 3) := by decide +kernel
theorem dX3_body_208 : decode cX3_body 208 = .ok (.bipush 45, 2) := by decide +kernel
theorem dX3_body_210 : decode cX3_body 210 = .ok (.goto 5, 3) := by decide +kernel
theorem dX3_body_213 : decode cX3_body 213 = .ok (.bipush 43, 2) := by decide +kernel
theorem dX3_body_215 : decode cX3_body 215 = .ok (.invokevirtual 54, 3) := by decide +kernel
theorem dX3_body_218 : decode cX3_body 218 = .ok (.iload 4, 2) := by decide +kernel
theorem dX3_body_220 : decode cX3_body 220 = .ok (.ifCond .ge 9, 3) := by decide +kernel
theorem dX3_body_223 : decode cX3_body 223 = .ok (.iload 4, 2) := by decide +kernel
theorem dX3_body_225 : decode cX3_body 225 = .ok (.ineg, 1) := by decide +kernel
theorem dX3_body_226 : decode cX3_body 226 = .ok (.goto 5, 3) := by decide +kernel
theorem dX3_body_229 : decode cX3_body 229 = .ok (.iload 4, 2) := by decide +kernel
theorem dX3_body_231 : decode cX3_body 231 = .ok (.istore 5, 2) := by decide +kernel
theorem dX3_body_233 : decode cX3_body 233 = .ok (.iload 5, 2) := by decide +kernel
theorem dX3_body_235 : decode cX3_body 235 = .ok (.bipush 99, 2) := by decide +kernel
theorem dX3_body_237 : decode cX3_body 237 = .ok (.if_icmp .le 15, 3) := by decide +kernel
theorem dX3_body_240 : decode cX3_body 240 = .ok (.aload_n 0, 1) := by decide +kernel
theorem dX3_body_241 : decode cX3_body 241 = .ok (.bipush 48, 2) := by decide +kernel
theorem dX3_body_243 : decode cX3_body 243 = .ok (.iload 5, 2) := by decide +kernel
theorem dX3_body_245 : decode cX3_body 245 = .ok (.bipush 100, 2) := by decide +kernel
theorem dX3_body_247 : decode cX3_body 247 = .ok (.idiv, 1) := by decide +kernel
theorem dX3_body_248 : decode cX3_body 248 = .ok (.iadd, 1) := by decide +kernel
theorem dX3_body_249 : decode cX3_body 249 = .ok (.invokevirtual 54, 3) := by decide +kernel
theorem dX3_body_252 : decode cX3_body 252 = .ok (.aload_n 0, 1) := by decide +kernel
theorem dX3_body_253 : decode cX3_body 253 = .ok (.bipush 48, 2) := by decide +kernel
theorem dX3_body_255 : decode cX3_body 255 = .ok (.iload 5, 2) := by decide +kernel
theorem dX3_body_257 : decode cX3_body 257 = .ok (.bipush 10, 2) := by decide +kernel
theorem dX3_body_259 : decode cX3_body 259 = .ok (.idiv, 1) := by decide +kernel
theorem dX3_body_260 : decode cX3_body 260 = .ok (.bipush 10, 2) := by decide +kernel
theorem dX3_body_262 : decode cX3_body 262 = .ok (.irem, 1) := by decide +kernel
theorem dX3_body_263 : decode cX3_body 263 = .ok (.iadd, 1) := by decide +kernel
theorem dX3_body_264 : decode cX3_body 264 = .ok (.invokevirtual 54, 3) := by decide +kernel
theorem dX3_body_267 : decode cX3_body 267 = .ok (.aload_n 0, 1) := by decide +kernel
theorem dX3_body_268 : decode cX3_body 268 = .ok (.bipush 48, 2) := by decide +kernel
theorem dX3_body_270 : decode cX3_body 270 = .ok (.iload 5, 2) := by decide +kernel
theorem dX3_body_272 : decode cX3_body 272 = .ok (.bipush 10, 2) := by decide +kernel
theorem dX3_body_274 : decode cX3_body 274 = .ok (.irem, 1) := by decide +kernel
theorem dX3_body_275 : decode cX3_body 275 = .ok (.iadd, 1) := by decide +kernel
theorem dX3_body_276 : decode cX3_body 276 = .ok (.invokevirtual 54, 3) := by decide +kernel
theorem dX3_body_279 : decode cX3_body 279 = .ok (.return_, 1) := by decide +kernel
set_option maxRecDepth 20000 in
theorem ggX3_make_X3_none : GoodIn wsX3_make wsX3_none := goodIn_r _ [5, 6, 7] (by decide +kernel) (by decide +kernel)
set_option maxRecDepth 20000 in
theorem gX3_make_X3_none : GoodIn wsX3_make (va_wsS RX3 57 yX3_none wsX3_none) := goodIn_app (goodIn_of _ (by decide +kernel)) ggX3_make_X3_none
set_option maxRecDepth 20000 in
theorem ggX3_make_X3_put : GoodIn wsX3_make wsX3_put := goodIn_r _ [11, 12, 1, 54, 55, 56, 57, 58] (by decide +kernel) (by decide +kernel)
set_option maxRecDepth 20000 in
theorem gX3_make_X3_put : GoodIn wsX3_make (wsV RX3 54 RX3 yX3_put wsX3_put) := goodIn_app (goodIn_of _ (by decide +kernel)) ggX3_make_X3_put
set_option maxRecDepth 20000 in
theorem ggX3_make_X3_infinite : GoodIn wsX3_make wsX3_infinite := goodIn_r _ [15, 6, 7] (by decide +kernel) (by decide +kernel)
set_option maxRecDepth 20000 in
theorem gX3_make_X3_infinite : GoodIn wsX3_make (va_wsS RX3 61 yX3_infinite wsX3_infinite) := goodIn_app (goodIn_of _ (by decide +kernel)) ggX3_make_X3_infinite
set_option maxRecDepth 20000 in
theorem ggX3_make_X3_spread : GoodIn wsX3_make wsX3_spread := goodIn_r _ [19, 6, 7, 20, 21, 22, 23, 24, 25, 26, 27, 28, 4, 29, 30, 31, 32, 33, 34, 35, 36, 37, 54, 55, 56, 57, 58] (by decide +kernel) (by decide +kernel)
set_option maxRecDepth 20000 in
theorem gX3_make_X3_spread : GoodIn wsX3_make (wsV RX3 64 RX3 yX3_spread wsX3_spread) := goodIn_app (goodIn_of _ (by decide +kernel)) ggX3_make_X3_spread
set_option maxRecDepth 20000 in
theorem ggX3_make_X3_body : GoodIn wsX3_make wsX3_body := goodIn_r _ [41, 25, 21, 42, 43, 44, 4, 45, 23, 26, 27, 28, 29, 46, 47, 48, 49, 8, 9, 10, 11, 12, 1, 54, 55, 56, 57, 58] (by decide +kernel) (by decide +kernel)
set_option maxRecDepth 20000 in
theorem gX3_make_X3_body : GoodIn wsX3_make (wsV RX3 68 RX3 yX3_body wsX3_body) := goodIn_app (goodIn_of _ (by decide +kernel)) ggX3_make_X3_body
set_option maxRecDepth 20000 in
theorem ggX3_make_X3_fill : GoodIn wsX3_make wsX3_fill := goodIn_r _ [53, 1, 12, 54, 55, 56, 57, 58] (by decide +kernel) (by decide +kernel)
set_option maxRecDepth 20000 in
theorem gX3_make_X3_fill : GoodIn wsX3_make (wsV RX3 72 RX3 yX3_fill wsX3_fill) := goodIn_app (goodIn_of _ (by decide +kernel)) ggX3_make_X3_fill
theorem dX3_make_0 : decode cX3_make 0 = .ok (.iload_n 3, 1) := by decide +kernel
theorem dX3_make_1 : decode cX3_make 1 = .ok (.ifCond .lt 52, 3) := by decide +kernel
theorem dX3_make_4 : decode cX3_make 4 = .ok (.iload_n 3, 1) := by decide +kernel
theorem dX3_make_5 : decode cX3_make 5 = .ok (.iconst 2, 1) := by decide +kernel
theorem dX3_make_6 : decode cX3_make 6 = .ok (.if_icmp .gt 47, 3) := by decide +kernel
theorem dX3_make_9 : decode cX3_make 9 = .ok (.iload 4, 2) := by decide +kernel
theorem dX3_make_11 : decode cX3_make 11 = .ok (.ifCond .lt 42, 3) := by decide +kernel
theorem dX3_make_14 : decode cX3_make 14 = .ok (.iload 4, 2) := by decide +kernel
theorem dX3_make_16 : decode cX3_make 16 = .ok (.bipush 15, 2) := by decide +kernel
theorem dX3_make_18 : decode cX3_make 18 = .ok (.if_icmp .gt 35, 3) := by decide +kernel
theorem dX3_make_21 : decode cX3_make 21 = .ok (.iload 5, 2) := by decide +kernel
theorem dX3_make_23 : decode cX3_make 23 = .ok (.ifCond .lt 30, 3) := by decide +kernel
theorem dX3_make_26 : decode cX3_make 26 = .ok (.iload 5, 2) := by decide +kernel
theorem dX3_make_28 : decode cX3_make 28 = .ok (.sipush 400, 3) := by decide +kernel
theorem dX3_make_31 : decode cX3_make 31 = .ok (.if_icmp .gt 22, 3) := by decide +kernel
theorem dX3_make_34 : decode cX3_make 34 = .ok (.iload 6, 2) := by decide +kernel
theorem dX3_make_36 : decode cX3_make 36 = .ok (.ifCond .lt 17, 3) := by decide +kernel
theorem dX3_make_39 : decode cX3_make 39 = .ok (.iload 6, 2) := by decide +kernel
theorem dX3_make_41 : decode cX3_make 41 = .ok (.bipush 31, 2) := by decide +kernel
theorem dX3_make_43 : decode cX3_make 43 = .ok (.if_icmp .gt 10, 3) := by decide +kernel
theorem dX3_make_46 : decode cX3_make 46 = .ok (.lload_n 1, 1) := by decide +kernel
theorem dX3_make_47 : decode cX3_make 47 = .ok (.invokestatic 57, 3) := by decide +kernel
theorem dX3_make_50 : decode cX3_make 50 = .ok (.ifCond .eq 5, 3) := by decide +kernel
theorem dX3_make_53 : decode cX3_make 53 = .ok (.iconst (-1), 1) := by decide +kernel
theorem dX3_make_54 : decode cX3_make 54 = .ok (.ireturn, 1) := by decide +kernel
theorem dX3_make_55 : decode cX3_make 55 = .ok (.aload_n 0, 1) := by decide +kernel
theorem dX3_make_56 : decode cX3_make 56 = .ok (.iconst 0, 1) := by decide +kernel
theorem dX3_make_57 : decode cX3_make 57 = .ok (.putfield 43, 3) := by decide +kernel
theorem dX3_make_60 : decode cX3_make 60 = .ok (.lload_n 1, 1) := by decide +kernel
theorem dX3_make_61 : decode cX3_make 61 = .ok (.lconst 0, 1) := by decide +kernel
theorem dX3_make_62 : decode cX3_make 62 = .ok (.lcmp, 1) := by decide +kernel
theorem dX3_make_63 : decode cX3_make 63 = .ok (.ifCond .ge 8, 3) := by decide +kernel
theorem dX3_make_66 : decode cX3_make 66 = .ok (.bipush 45, 2) := by decide +kernel
theorem dX3_make_68 : decode cX3_make 68 = .ok (.goto 28, 3) := by decide +kernel
theorem dX3_make_71 : decode cX3_make 71 = .ok (.iload 6, 2) := by decide +kernel
theorem dX3_make_73 : decode cX3_make 73 = .ok (.iconst 2, 1) := by decide +kernel
theorem dX3_make_74 : decode cX3_make 74 = .ok (.iand, 1) := by decide +kernel
theorem dX3_make_75 : decode cX3_make 75 = .ok (.ifCond .eq 8, 3) := by decide +kernel
theorem dX3_make_78 : decode cX3_make 78 = .ok (.bipush 43, 2) := by decide +kernel
theorem dX3_make_80 : decode cX3_make 80 = .ok (.goto 16, 3) := by decide +kernel
theorem dX3_make_83 : decode cX3_make 83 = .ok (.iload 6, 2) := by decide +kernel
theorem dX3_make_85 : decode cX3_make 85 = .ok (.iconst 4, 1) := by decide +kernel
theorem dX3_make_86 : decode cX3_make 86 = .ok (.iand, 1) := by decide +kernel
theorem dX3_make_87 : decode cX3_make 87 = .ok (.ifCond .eq 8, 3) := by decide +kernel
theorem dX3_make_90 : decode cX3_make 90 = .ok (.bipush 32, 2) := by decide +kernel
theorem dX3_make_92 : decode cX3_make 92 = .ok (.goto 4, 3) := by decide +kernel
theorem dX3_make_95 : decode cX3_make 95 = .ok (.iconst 0, 1) := by decide +kernel
theorem dX3_make_96 : decode cX3_make 96 = .ok (.istore 7, 2) := by decide +kernel
theorem dX3_make_98 : decode cX3_make 98 = .ok (.iload 7, 2) := by decide +kernel
theorem dX3_make_100 : decode cX3_make 100 = .ok (.ifCond .eq 9, 3) := by decide +kernel
theorem dX3_make_103 : decode cX3_make 103 = .ok (.aload_n 0, 1) := by decide +kernel
theorem dX3_make_104 : decode cX3_make 104 = .ok (.iload 7, 2) := by decide +kernel
theorem dX3_make_106 : decode cX3_make 106 = .ok (.invokevirtual 54, 3) := by decide +kernel
theorem dX3_make_109 : decode cX3_make 109 = .ok (.aload_n 0, 1) := by decide +kernel
theorem dX3_make_110 : decode cX3_make 110 = .ok (.getfield 43, 3) := by decide +kernel
theorem dX3_make_113 : decode cX3_make 113 = .ok (.istore 8, 2) := by decide +kernel
theorem dX3_make_115 : decode cX3_make 115 = .ok (.lload_n 1, 1) := by decide +kernel
theorem dX3_make_116 : decode cX3_make 116 = .ok (.invokestatic 61, 3) := by decide +kernel
theorem dX3_make_119 : decode cX3_make 119 = .ok (.ifCond .eq 24, 3) := by decide +kernel
theorem dX3_make_122 : decode cX3_make 122 = .ok (.aload_n 0, 1) := by decide +kernel
theorem dX3_make_123 : decode cX3_make 123 = .ok (.bipush 105, 2) := by decide +kernel
theorem dX3_make_125 : decode cX3_make 125 = .ok (.invokevirtual 54, 3) := by decide +kernel
theorem dX3_make_128 : decode cX3_make 128 = .ok (.aload_n 0, 1) := by decide +kernel
theorem dX3_make_129 : decode cX3_make 129 = .ok (.bipush 110, 2) := by decide +kernel
theorem dX3_make_131 : decode cX3_make 131 = .ok (.invokevirtual 54, 3) := by decide +kernel
theorem dX3_make_134 : decode cX3_make 134 = .ok (.aload_n 0, 1) := by decide +kernel
theorem dX3_make_135 : decode cX3_make 135 = .ok (.bipush 102, 2) := by decide +kernel
theorem dX3_make_137 : decode cX3_make 137 = .ok (.invokevirtual 54, 3) := by decide +kernel
theorem dX3_make_140 : decode cX3_make 140 = .ok (.goto 28, 3) := by decide +kernel
theorem dX3_make_143 : decode cX3_make 143 = .ok (.aload_n 0, 1) := by decide +kernel
theorem dX3_make_144 : decode cX3_make 144 = .ok (.lload_n 1, 1) := by decide +kernel
theorem dX3_make_145 : decode cX3_make 145 = .ok (.invokevirtual 64, 3) := by decide +kernel
theorem dX3_make_148 : decode cX3_make 148 = .ok (.aload_n 0, 1) := by decide +kernel
theorem dX3_make_149 : decode cX3_make 149 = .ok (.iload_n 3, 1) := by decide +kernel
theorem dX3_make_150 : decode cX3_make 150 = .ok (.iload 4, 2) := by decide +kernel
theorem dX3_make_152 : decode cX3_make 152 = .ok (.iload 6, 2) := by decide +kernel
theorem dX3_make_154 : decode cX3_make 154 = .ok (.bipush 16, 2) := by decide +kernel
theorem dX3_make_156 : decode cX3_make 156 = .ok (.iand, 1) := by decide +kernel
theorem dX3_make_157 : decode cX3_make 157 = .ok (.ifCond .eq 7, 3) := by decide +kernel
theorem dX3_make_160 : decode cX3_make 160 = .ok (.iconst 1, 1) := by decide +kernel
theorem dX3_make_161 : decode cX3_make 161 = .ok (.goto 4, 3) := by decide +kernel
theorem dX3_make_164 : decode cX3_make 164 = .ok (.iconst 0, 1) := by decide +kernel
theorem dX3_make_165 : decode cX3_make 165 = .ok (.invokevirtual 68, 3) := by decide +kernel
theorem dX3_make_168 : decode cX3_make 168 = .ok (.iload 5, 2) := by decide +kernel
theorem dX3_make_170 : decode cX3_make 170 = .ok (.aload_n 0, 1) := by decide +kernel
theorem dX3_make_171 : decode cX3_make 171 = .ok (.getfield 43, 3) := by decide +kernel
theorem dX3_make_174 : decode cX3_make 174 = .ok (.isub, 1) := by decide +kernel
theorem dX3_make_175 : decode cX3_make 175 = .ok (.istore 9, 2) := by decide +kernel
theorem dX3_make_177 : decode cX3_make 177 = .ok (.iload 9, 2) := by decide +kernel
theorem dX3_make_179 : decode cX3_make 179 = .ok (.ifCond .le 17, 3) := by decide +kernel
theorem dX3_make_182 : decode cX3_make 182 = .ok (.aload_n 0, 1) := by decide +kernel
theorem dX3_make_183 : decode cX3_make 183 = .ok (.iload 9, 2) := by decide +kernel
theorem dX3_make_185 : decode cX3_make 185 = .ok (.iload 6, 2) := by decide +kernel
theorem dX3_make_187 : decode cX3_make 187 = .ok (.iload 8, 2) := by decide +kernel
theorem dX3_make_189 : decode cX3_make 189 = .ok (.lload_n 1, 1) := by decide +kernel
theorem dX3_make_190 : decode cX3_make 190 = .ok (.invokestatic 61, 3) := by decide +kernel
theorem dX3_make_193 : decode cX3_make 193 = .ok (.invokevirtual 72, 3) := by decide +kernel
theorem dX3_make_196 : decode cX3_make 196 = .ok (.aload_n 0, 1) := by decide +kernel
theorem dX3_make_197 : decode cX3_make 197 = .ok (.getfield 43, 3) := by decide +kernel
theorem dX3_make_200 : decode cX3_make 200 = .ok (.ireturn, 1) := by decide +kernel
theorem dX3_fill_0 : decode cX3_fill 0 = .ok (.iload_n 2, 1) := by decide +kernel
theorem dX3_fill_1 : decode cX3_fill 1 = .ok (.iconst 1, 1) := by decide +kernel
theorem dX3_fill_2 : decode cX3_fill 2 = .ok (.iand, 1) := by decide +kernel
theorem dX3_fill_3 : decode cX3_fill 3 = .ok (.ifCond .eq 7, 3) := by decide +kernel
theorem dX3_fill_6 : decode cX3_fill 6 = .ok (.iconst 1, 1) := by decide +kernel
theorem dX3_fill_7 : decode cX3_fill 7 = .ok (.goto 4, 3) := by decide +kernel
theorem dX3_fill_10 : decode cX3_fill 10 = .ok (.iconst 0, 1) := by decide +kernel
theorem dX3_fill_11 : decode cX3_fill 11 = .ok (.istore 5, 2) := by decide +kernel
theorem dX3_fill_13 : decode cX3_fill 13 = .ok (.iload 5, 2) := by decide +kernel
theorem dX3_fill_15 : decode cX3_fill 15 = .ok (.ifCond .ne 19, 3) := by decide +kernel
theorem dX3_fill_18 : decode cX3_fill 18 = .ok (.iload_n 2, 1) := by decide +kernel
theorem dX3_fill_19 : decode cX3_fill 19 = .ok (.bipush 8, 2) := by decide +kernel
theorem dX3_fill_21 : decode cX3_fill 21 = .ok (.iand, 1) := by decide +kernel
theorem dX3_fill_22 : decode cX3_fill 22 = .ok (.ifCond .eq 12, 3) := by decide +kernel
theorem dX3_fill_25 : decode cX3_fill 25 = .ok (.iload 4, 2) := by decide +kernel
theorem dX3_fill_27 : decode cX3_fill 27 = .ok (.ifCond .ne 7, 3) := by decide +kernel
theorem dX3_fill_30 : decode cX3_fill 30 = .ok (.iconst 1, 1) := by decide +kernel
theorem dX3_fill_31 : decode cX3_fill 31 = .ok (.goto 4, 3) := by decide +kernel
theorem dX3_fill_34 : decode cX3_fill 34 = .ok (.iconst 0, 1) := by decide +kernel
theorem dX3_fill_35 : decode cX3_fill 35 = .ok (.istore 6, 2) := by decide +kernel
theorem dX3_fill_37 : decode cX3_fill 37 = .ok (.iload 5, 2) := by decide +kernel
theorem dX3_fill_39 : decode cX3_fill 39 = .ok (.ifCond .eq 10, 3) := by decide +kernel
theorem dX3_fill_42 : decode cX3_fill 42 = .ok (.aload_n 0, 1) := by decide +kernel
theorem dX3_fill_43 : decode cX3_fill 43 = .ok (.getfield 43, 3) := by decide +kernel
theorem dX3_fill_46 : decode cX3_fill 46 = .ok (.goto 13, 3) := by decide +kernel
theorem dX3_fill_49 : decode cX3_fill 49 = .ok (.iload 6, 2) := by decide +kernel
theorem dX3_fill_51 : decode cX3_fill 51 = .ok (.ifCond .eq 7, 3) := by decide +kernel
theorem dX3_fill_54 : decode cX3_fill 54 = .ok (.iload_n 3, 1) := by decide +kernel
theorem dX3_fill_55 : decode cX3_fill 55 = .ok (.goto 4, 3) := by decide +kernel
theorem dX3_fill_58 : decode cX3_fill 58 = .ok (.iconst 0, 1) := by decide +kernel
theorem dX3_fill_59 : decode cX3_fill 59 = .ok (.istore 7, 2) := by decide +kernel
theorem dX3_fill_61 : decode cX3_fill 61 = .ok (.aload_n 0, 1) := by decide +kernel
theorem dX3_fill_62 : decode cX3_fill 62 = .ok (.getfield 43, 3) := by decide +kernel
theorem dX3_fill_65 : decode cX3_fill 65 = .ok (.iconst 1, 1) := by decide +kernel
theorem dX3_fill_66 : decode cX3_fill 66 = .ok (.isub, 1) := by decide +kernel
theorem dX3_fill_67 : decode cX3_fill 67 = .ok (.istore 8, 2) := by decide +kernel
theorem dX3_fill_69 : decode cX3_fill 69 = .ok (.iload 8, 2) := by decide +kernel
theorem dX3_fill_71 : decode cX3_fill 71 = .ok (.iload 7, 2) := by decide +kernel
theorem dX3_fill_73 : decode cX3_fill 73 = .ok (.if_icmp .lt 25, 3) := by decide +kernel
theorem dX3_fill_76 : decode cX3_fill 76 = .ok (.aload_n 0, 1) := by decide +kernel
theorem dX3_fill_77 : decode cX3_fill 77 = .ok (.getfield 13, 3) := by decide +kernel
theorem dX3_fill_80 : decode cX3_fill 80 = .ok (.iload 8, 2) := by decide +kernel
theorem dX3_fill_82 : decode cX3_fill 82 = .ok (.iload_n 1, 1) := by decide +kernel
theorem dX3_fill_83 : decode cX3_fill 83 = .ok (.iadd, 1) := by decide +kernel
theorem dX3_fill_84 : decode cX3_fill 84 = .ok (.aload_n 0, 1) := by decide +kernel
theorem dX3_fill_85 : decode cX3_fill 85 = .ok (.getfield 13, 3) := by decide +kernel
theorem dX3_fill_88 : decode cX3_fill 88 = .ok (.iload 8, 2) := by decide +kernel
theorem dX3_fill_90 : decode cX3_fill 90 = .ok (.iaload, 1) := by decide +kernel
theorem dX3_fill_91 : decode cX3_fill 91 = .ok (.iastore, 1) := by decide +kernel
theorem dX3_fill_92 : decode cX3_fill 92 = .ok (.iinc 8 (-1), 3) := by decide +kernel
theorem dX3_fill_95 : decode cX3_fill 95 = .ok (.goto (-26), 3) := by decide +kernel
theorem dX3_fill_98 : decode cX3_fill 98 = .ok (.iconst 0, 1) := by decide +kernel
theorem dX3_fill_99 : decode cX3_fill 99 = .ok (.istore 8, 2) := by decide +kernel
theorem dX3_fill_101 : decode cX3_fill 101 = .ok (.iload 8, 2) := by decide +kernel
theorem dX3_fill_103 : decode cX3_fill 103 = .ok (.iload_n 1, 1) := by decide +kernel
theorem dX3_fill_104 : decode cX3_fill 104 = .ok (.if_icmp .ge 31, 3) := by decide +kernel
theorem dX3_fill_107 : decode cX3_fill 107 = .ok (.aload_n 0, 1) := by decide +kernel
theorem dX3_fill_108 : decode cX3_fill 108 = .ok (.getfield 13, 3) := by decide +kernel
theorem dX3_fill_111 : decode cX3_fill 111 = .ok (.iload 7, 2) := by decide +kernel
theorem dX3_fill_113 : decode cX3_fill 113 = .ok (.iload 8, 2) := by decide +kernel
theorem dX3_fill_115 : decode cX3_fill 115 = .ok (.iadd, 1) := by decide +kernel
theorem dX3_fill_116 : decode cX3_fill 116 = .ok (.iload 6, 2) := by decide +kernel
theorem dX3_fill_118 : decode cX3_fill 118 = .ok (.ifCond .eq 8, 3) := by decide +kernel
theorem dX3_fill_121 : decode cX3_fill 121 = .ok (.bipush 48, 2) := by decide +kernel
theorem dX3_fill_123 : decode cX3_fill 123 = .ok (.goto 5, 3) := by decide +kernel
theorem dX3_fill_126 : decode cX3_fill 126 = .ok (.bipush 32, 2) := by decide +kernel
theorem dX3_fill_128 : decode cX3_fill 128 = .ok (.iastore, 1) := by decide +kernel
theorem dX3_fill_129 : decode cX3_fill 129 = .ok (.iinc 8 1, 3) := by decide +kernel
theorem dX3_fill_132 : decode cX3_fill 132 = .ok (.goto (-31), 3) := by decide +kernel
theorem dX3_fill_135 : decode cX3_fill 135 = .ok (.aload_n 0, 1) := by decide +kernel
theorem dX3_fill_136 : decode cX3_fill 136 = .ok (.aload_n 0, 1) := by decide +kernel
theorem dX3_fill_137 : decode cX3_fill 137 = .ok (.getfield 43, 3) := by decide +kernel
theorem dX3_fill_140 : decode cX3_fill 140 = .ok (.iload_n 1, 1) := by decide +kernel
theorem dX3_fill_141 : decode cX3_fill 141 = .ok (.iadd, 1) := by decide +kernel
theorem dX3_fill_142 : decode cX3_fill 142 = .ok (.putfield 43, 3) := by decide +kernel
theorem dX3_fill_145 : decode cX3_fill 145 = .ok (.return_, 1) := by decide +kernel
theorem dX3_at_0 : decode cX3_at 0 = .ok (.iload_n 1, 1) := by decide +kernel
theorem dX3_at_1 : decode cX3_at 1 = .ok (.ifCond .lt 20, 3) := by decide +kernel
theorem dX3_at_4 : decode cX3_at 4 = .ok (.iload_n 1, 1) := by decide +kernel
theorem dX3_at_5 : decode cX3_at 5 = .ok (.aload_n 0, 1) := by decide +kernel
theorem dX3_at_6 : decode cX3_at 6 = .ok (.getfield 43, 3) := by decide +kernel
theorem dX3_at_9 : decode cX3_at 9 = .ok (.if_icmp .ge 12, 3) := by decide +kernel
theorem dX3_at_12 : decode cX3_at 12 = .ok (.aload_n 0, 1) := by decide +kernel
theorem dX3_at_13 : decode cX3_at 13 = .ok (.getfield 13, 3) := by decide +kernel
theorem dX3_at_16 : decode cX3_at 16 = .ok (.iload_n 1, 1) := by decide +kernel
theorem dX3_at_17 : decode cX3_at 17 = .ok (.iaload, 1) := by decide +kernel
theorem dX3_at_18 : decode cX3_at 18 = .ok (.goto 4, 3) := by decide +kernel
theorem dX3_at_21 : decode cX3_at 21 = .ok (.iconst (-1), 1) := by decide +kernel
theorem dX3_at_22 : decode cX3_at 22 = .ok (.ireturn, 1) := by decide +kernel
set_option maxRecDepth 20000 in
theorem ggX3_digits_X3_infinite : GoodIn wsX3_digits wsX3_infinite := goodIn_r _ [5, 6, 7] (by decide +kernel) (by decide +kernel)
set_option maxRecDepth 20000 in
theorem gX3_digits_X3_infinite : GoodIn wsX3_digits (va_wsS RX3 61 yX3_infinite wsX3_infinite) := goodIn_app (goodIn_of _ (by decide +kernel)) ggX3_digits_X3_infinite
set_option maxRecDepth 20000 in
theorem ggX3_digits_X3_none : GoodIn wsX3_digits wsX3_none := goodIn_r _ [10, 6, 7] (by decide +kernel) (by decide +kernel)
set_option maxRecDepth 20000 in
theorem gX3_digits_X3_none : GoodIn wsX3_digits (va_wsS RX3 57 yX3_none wsX3_none) := goodIn_app (goodIn_of _ (by decide +kernel)) ggX3_digits_X3_none
set_option maxRecDepth 20000 in
theorem ggX3_digits_X3_spread : GoodIn wsX3_digits wsX3_spread := goodIn_r _ [14, 6, 7, 15, 1, 16, 17, 18, 19, 20, 21, 22, 4, 23, 24, 25, 26, 27, 28, 29, 30, 31, 32, 33, 34, 35, 36] (by decide +kernel) (by decide +kernel)
set_option maxRecDepth 20000 in
theorem gX3_digits_X3_spread : GoodIn wsX3_digits (wsV RX3 64 RX3 yX3_spread wsX3_spread) := goodIn_app (goodIn_of _ (by decide +kernel)) ggX3_digits_X3_spread
theorem dX3_digits_0 : decode cX3_digits 0 = .ok (.lload_n 1, 1) := by decide +kernel
theorem dX3_digits_1 : decode cX3_digits 1 = .ok (.invokestatic 61, 3) := by decide +kernel
theorem dX3_digits_4 : decode cX3_digits 4 = .ok (.ifCond .ne 10, 3) := by decide +kernel
theorem dX3_digits_7 : decode cX3_digits 7 = .ok (.lload_n 1, 1) := by decide +kernel
theorem dX3_digits_8 : decode cX3_digits 8 = .ok (.invokestatic 57, 3) := by decide +kernel
theorem dX3_digits_11 : decode cX3_digits 11 = .ok (.ifCond .eq 5, 3) := by decide +kernel
theorem dX3_digits_14 : decode cX3_digits 14 = .ok (.iconst (-1), 1) := by decide +kernel
theorem dX3_digits_15 : decode cX3_digits 15 = .ok (.ireturn, 1) := by decide +kernel
theorem dX3_digits_16 : decode cX3_digits 16 = .ok (.aload_n 0, 1) := by decide +kernel
theorem dX3_digits_17 : decode cX3_digits 17 = .ok (.lload_n 1, 1) := by decide +kernel
theorem dX3_digits_18 : decode cX3_digits 18 = .ok (.invokevirtual 64, 3) := by decide +kernel
theorem dX3_digits_21 : decode cX3_digits 21 = .ok (.aload_n 0, 1) := by decide +kernel
theorem dX3_digits_22 : decode cX3_digits 22 = .ok (.getfield 23, 3) := by decide +kernel
theorem dX3_digits_25 : decode cX3_digits 25 = .ok (.ireturn, 1) := by decide +kernel
theorem dJ9_abs_0f7a4_0 : decode cJ9_abs_0f7a4 0 = .ok (.iload_n 0, 1) := by decide +kernel
theorem dJ9_abs_0f7a4_1 : decode cJ9_abs_0f7a4 1 = .ok (.ifCond .ge 8, 3) := by decide +kernel
theorem dJ9_abs_0f7a4_4 : decode cJ9_abs_0f7a4 4 = .ok (.iload_n 0, 1) := by decide +kernel
theorem dJ9_abs_0f7a4_5 : decode cJ9_abs_0f7a4 5 = .ok (.ineg, 1) := by decide +kernel
theorem dJ9_abs_0f7a4_6 : decode cJ9_abs_0f7a4 6 = .ok (.goto 4, 3) := by decide +kernel
theorem dJ9_abs_0f7a4_9 : decode cJ9_abs_0f7a4 9 = .ok (.iload_n 0, 1) := by decide +kernel
theorem dJ9_abs_0f7a4_10 : decode cJ9_abs_0f7a4 10 = .ok (.ireturn, 1) := by decide +kernel
theorem dJ9_max_7cf53_0 : decode cJ9_max_7cf53 0 = .ok (.iload_n 0, 1) := by decide +kernel
theorem dJ9_max_7cf53_1 : decode cJ9_max_7cf53 1 = .ok (.iload_n 1, 1) := by decide +kernel
theorem dJ9_max_7cf53_2 : decode cJ9_max_7cf53 2 = .ok (.if_icmp .lt 7, 3) := by decide +kernel
theorem dJ9_max_7cf53_5 : decode cJ9_max_7cf53 5 = .ok (.iload_n 0, 1) := by decide +kernel
theorem dJ9_max_7cf53_6 : decode cJ9_max_7cf53 6 = .ok (.goto 4, 3) := by decide +kernel
theorem dJ9_max_7cf53_9 : decode cJ9_max_7cf53 9 = .ok (.iload_n 1, 1) := by decide +kernel
theorem dJ9_max_7cf53_10 : decode cJ9_max_7cf53 10 = .ok (.ireturn, 1) := by decide +kernel
theorem dJ7_fill_53178_0 : decode cJ7_fill_53178 0 = .ok (.iconst 0, 1) := by decide +kernel
theorem dJ7_fill_53178_1 : decode cJ7_fill_53178 1 = .ok (.istore_n 2, 1) := by decide +kernel
theorem dJ7_fill_53178_2 : decode cJ7_fill_53178 2 = .ok (.aload_n 0, 1) := by decide +kernel
theorem dJ7_fill_53178_3 : decode cJ7_fill_53178 3 = .ok (.arraylength, 1) := by decide +kernel
theorem dJ7_fill_53178_4 : decode cJ7_fill_53178 4 = .ok (.istore_n 3, 1) := by decide +kernel
theorem dJ7_fill_53178_5 : decode cJ7_fill_53178 5 = .ok (.iload_n 2, 1) := by decide +kernel
theorem dJ7_fill_53178_6 : decode cJ7_fill_53178 6 = .ok (.iload_n 3, 1) := by decide +kernel
theorem dJ7_fill_53178_7 : decode cJ7_fill_53178 7 = .ok (.if_icmp .ge 13, 3) := by decide +kernel
theorem dJ7_fill_53178_10 : decode cJ7_fill_53178 10 = .ok (.aload_n 0, 1) := by decide +kernel
theorem dJ7_fill_53178_11 : decode cJ7_fill_53178 11 = .ok (.iload_n 2, 1) := by decide +kernel
theorem dJ7_fill_53178_12 : decode cJ7_fill_53178 12 = .ok (.iload_n 1, 1) := by decide +kernel
theorem dJ7_fill_53178_13 : decode cJ7_fill_53178 13 = .ok (.iastore, 1) := by decide +kernel
theorem dJ7_fill_53178_14 : decode cJ7_fill_53178 14 = .ok (.iinc 2 1, 3) := by decide +kernel
theorem dJ7_fill_53178_17 : decode cJ7_fill_53178 17 = .ok (.goto (-12), 3) := by decide +kernel
theorem dJ7_fill_53178_20 : decode cJ7_fill_53178 20 = .ok (.return_, 1) := by decide +kernel
set_option maxRecDepth 20000 in
theorem ggL_law_X2_init : GoodIn wsL_law wsX2_init := goodIn_r _ [9, 10, 11, 12, 13, 14, 15, 16, 17, 18, 19, 20, 21, 22, 23, 24, 25, 26, 27, 28, 29, 30, 31, 32, 33, 34, 35, 36, 37, 282, 283, 284, 285, 286, 275, 276, 287, 288] (by decide +kernel) (by decide +kernel)
set_option maxRecDepth 20000 in
theorem gL_law_X2_init : GoodIn wsL_law (wsX2_init) := ggL_law_X2_init
set_option maxRecDepth 20000 in
theorem ggL_law_X3_init : GoodIn wsL_law wsX3_init := goodIn_r _ [40, 41, 11, 12, 42, 43, 25, 44, 277, 278, 279, 280, 281] (by decide +kernel) (by decide +kernel)
set_option maxRecDepth 20000 in
theorem gL_law_X3_init : GoodIn wsL_law (wsX3_init) := ggL_law_X3_init
set_option maxRecDepth 20000 in
theorem ggL_law_X2_make : GoodIn wsL_law wsX2_make := goodIn_r _ [48, 20, 16, 49, 50, 2, 51, 52, 53, 54, 55, 56, 57, 58, 59, 60, 61, 62, 63, 64, 65, 66, 67, 19, 68, 37, 69, 70, 71, 72, 73, 74, 75, 76, 36, 77, 78, 79, 80, 81, 82, 83, 84, 85, 86, 15, 87, 88, 89, 90, 91, 92, 93, 94, 95, 96, 30, 97, 98, 99, 100, 27, 101, 102, 103, 104, 105, 26, 106, 107, 108, 109, 110, 111, 112, 113, 114, 115, 116, 117, 118, 28, 29, 119, 120, 121, 122, 123, 124, 125, 126, 127, 128, 129, 130, 131, 132, 133, 134, 135, 136, 137, 138, 139, 140, 141, 142, 143, 144, 145, 146, 147, 148, 149, 150, 151, 152, 153, 154, 155, 156, 157, 158, 159, 160, 161, 162, 163, 164, 165, 166, 167, 168, 169, 170, 171, 172, 173, 174, 175, 176, 177, 178, 179, 180, 181, 182, 183, 184, 185, 186, 187, 188, 189, 190, 191, 192, 193, 194, 195, 196, 275, 276, 287, 288, 282, 283, 284, 285, 286] (by decide +kernel) (by decide +kernel)
set_option maxRecDepth 20000 in
theorem gL_law_X2_make : GoodIn wsL_law (wsV RL 15 RX2 yX2_make wsX2_make) := goodIn_app (goodIn_of _ (by decide +kernel)) ggL_law_X2_make
set_option maxRecDepth 20000 in
theorem ggL_law_X3_make : GoodIn wsL_law wsX3_make := goodIn_r _ [200, 201, 202, 203, 5, 204, 205, 206, 207, 208, 209, 210, 44, 211, 212, 213, 214, 215, 216, 217, 218, 219, 220, 43, 221, 222, 223, 224, 225, 226, 227, 228, 229, 230, 231, 232, 233, 234, 235, 236, 237, 238, 239, 240, 241, 242, 243, 244, 245, 246, 247, 248, 249, 250, 277, 278, 279, 280, 281] (by decide +kernel) (by decide +kernel)
set_option maxRecDepth 20000 in
theorem gL_law_X3_make : GoodIn wsL_law (wsV RL 19 RX3 yX3_make wsX3_make) := goodIn_app (goodIn_of _ (by decide +kernel)) ggL_law_X3_make
set_option maxRecDepth 20000 in
theorem ggL_law_X2_at : GoodIn wsL_law wsX2_at := goodIn_r _ [254, 20, 255, 256, 257, 19, 258, 37, 36, 275, 276, 287, 288] (by decide +kernel) (by decide +kernel)
set_option maxRecDepth 20000 in
theorem gL_law_X2_at : GoodIn wsL_law (wsV RL 20 RX2 yX2_at wsX2_at) := goodIn_app (goodIn_of _ (by decide +kernel)) ggL_law_X2_at
set_option maxRecDepth 20000 in
theorem ggL_law_X3_at : GoodIn wsL_law wsX3_at := goodIn_r _ [262, 201, 44, 277, 278, 279, 280, 281] (by decide +kernel) (by decide +kernel)
set_option maxRecDepth 20000 in
theorem gL_law_X3_at : GoodIn wsL_law (wsV RL 24 RX3 yX3_at wsX3_at) := goodIn_app (goodIn_of _ (by decide +kernel)) ggL_law_X3_at
set_option maxRecDepth 20000 in
theorem ggL_law_X2_digits : GoodIn wsL_law wsX2_digits := goodIn_r _ [266, 16, 59, 60, 2, 61, 62, 63, 64, 84, 85, 86, 15, 87, 88, 89, 90, 91, 92, 93, 94, 95, 96, 30, 97, 98, 99, 100, 27, 101, 102, 103, 104, 105, 26, 106, 107, 108, 109, 110, 111, 112, 113, 114, 115, 116, 117, 118, 28, 29, 119, 120, 121, 122, 123, 124, 125, 126, 267, 268, 269, 270, 148, 149, 150, 151, 144, 145, 146, 147, 275, 276, 282, 283, 284, 285, 286] (by decide +kernel) (by decide +kernel)
set_option maxRecDepth 20000 in
theorem gL_law_X2_digits : GoodIn wsL_law (wsV RL 25 RX2 yX2_digits wsX2_digits) := goodIn_app (goodIn_of _ (by decide +kernel)) ggL_law_X2_digits
set_option maxRecDepth 20000 in
theorem ggL_law_X3_digits : GoodIn wsL_law wsX3_digits := goodIn_r _ [274, 219, 211, 212, 5, 213, 205, 206, 202, 203, 204, 214, 215, 216, 217, 218, 220, 43, 221, 222, 223, 224, 225, 226, 227, 228, 229, 230, 231, 232, 233, 234, 277, 278, 279, 280, 281] (by decide +kernel) (by decide +kernel)
set_option maxRecDepth 20000 in
theorem gL_law_X3_digits : GoodIn wsL_law (wsV RL 29 RX3 yX3_digits wsX3_digits) := goodIn_app (goodIn_of _ (by decide +kernel)) ggL_law_X3_digits
