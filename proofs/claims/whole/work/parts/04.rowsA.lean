theorem dX0_init_0 : decode cX0_init 0 = .ok (.aload_n 0, 1) := by decide +kernel
theorem dX0_init_1 : decode cX0_init 1 = .ok (.invokespecial 3, 3) := by decide +kernel
theorem dX0_init_4 : decode cX0_init 4 = .ok (.aload_n 0, 1) := by decide +kernel
theorem dX0_init_5 : decode cX0_init 5 = .ok (.sipush 400, 3) := by decide +kernel
theorem dX0_init_8 : decode cX0_init 8 = .ok (.newarray .char, 2) := by decide +kernel
theorem dX0_init_10 : decode cX0_init 10 = .ok (.putfield 9, 3) := by decide +kernel
theorem dX0_init_13 : decode cX0_init 13 = .ok (.aload_n 0, 1) := by decide +kernel
theorem dX0_init_14 : decode cX0_init 14 = .ok (.iconst 0, 1) := by decide +kernel
theorem dX0_init_15 : decode cX0_init 15 = .ok (.putfield 15, 3) := by decide +kernel
theorem dX0_init_18 : decode cX0_init 18 = .ok (.return_, 1) := by decide +kernel
theorem dX0_length_0 : decode cX0_length 0 = .ok (.aload_n 0, 1) := by decide +kernel
theorem dX0_length_1 : decode cX0_length 1 = .ok (.getfield 15, 3) := by decide +kernel
theorem dX0_length_4 : decode cX0_length 4 = .ok (.ireturn, 1) := by decide +kernel
theorem dX0_codeAt_0 : decode cX0_codeAt 0 = .ok (.iload_n 1, 1) := by decide +kernel
theorem dX0_codeAt_1 : decode cX0_codeAt 1 = .ok (.ifCond .lt 20, 3) := by decide +kernel
theorem dX0_codeAt_4 : decode cX0_codeAt 4 = .ok (.iload_n 1, 1) := by decide +kernel
theorem dX0_codeAt_5 : decode cX0_codeAt 5 = .ok (.aload_n 0, 1) := by decide +kernel
theorem dX0_codeAt_6 : decode cX0_codeAt 6 = .ok (.getfield 15, 3) := by decide +kernel
theorem dX0_codeAt_9 : decode cX0_codeAt 9 = .ok (.if_icmp .ge 12, 3) := by decide +kernel
theorem dX0_codeAt_12 : decode cX0_codeAt 12 = .ok (.iload_n 1, 1) := by decide +kernel
theorem dX0_codeAt_13 : decode cX0_codeAt 13 = .ok (.aload_n 0, 1) := by decide +kernel
theorem dX0_codeAt_14 : decode cX0_codeAt 14 = .ok (.getfield 9, 3) := by decide +kernel
theorem dX0_codeAt_17 : decode cX0_codeAt 17 = .ok (.arraylength, 1) := by decide +kernel
theorem dX0_codeAt_18 : decode cX0_codeAt 18 = .ok (.if_icmp .lt 5, 3) := by decide +kernel
theorem dX0_codeAt_21 : decode cX0_codeAt 21 = .ok (.iconst (-1), 1) := by decide +kernel
theorem dX0_codeAt_22 : decode cX0_codeAt 22 = .ok (.ireturn, 1) := by decide +kernel
theorem dX0_codeAt_23 : decode cX0_codeAt 23 = .ok (.aload_n 0, 1) := by decide +kernel
theorem dX0_codeAt_24 : decode cX0_codeAt 24 = .ok (.getfield 9, 3) := by decide +kernel
theorem dX0_codeAt_27 : decode cX0_codeAt 27 = .ok (.iload_n 1, 1) := by decide +kernel
theorem dX0_codeAt_28 : decode cX0_codeAt 28 = .ok (.caload, 1) := by decide +kernel
theorem dX0_codeAt_29 : decode cX0_codeAt 29 = .ok (.ireturn, 1) := by decide +kernel
theorem dX0_clear_0 : decode cX0_clear 0 = .ok (.aload_n 0, 1) := by decide +kernel
theorem dX0_clear_1 : decode cX0_clear 1 = .ok (.iconst 0, 1) := by decide +kernel
theorem dX0_clear_2 : decode cX0_clear 2 = .ok (.putfield 15, 3) := by decide +kernel
theorem dX0_clear_5 : decode cX0_clear 5 = .ok (.return_, 1) := by decide +kernel
theorem dX0_put_0 : decode cX0_put 0 = .ok (.aload_n 0, 1) := by decide +kernel
theorem dX0_put_1 : decode cX0_put 1 = .ok (.getfield 15, 3) := by decide +kernel
theorem dX0_put_4 : decode cX0_put 4 = .ok (.ifCond .lt 35, 3) := by decide +kernel
theorem dX0_put_7 : decode cX0_put 7 = .ok (.aload_n 0, 1) := by decide +kernel
theorem dX0_put_8 : decode cX0_put 8 = .ok (.getfield 15, 3) := by decide +kernel
theorem dX0_put_11 : decode cX0_put 11 = .ok (.aload_n 0, 1) := by decide +kernel
theorem dX0_put_12 : decode cX0_put 12 = .ok (.getfield 9, 3) := by decide +kernel
theorem dX0_put_15 : decode cX0_put 15 = .ok (.arraylength, 1) := by decide +kernel
theorem dX0_put_16 : decode cX0_put 16 = .ok (.if_icmp .ge 23, 3) := by decide +kernel
theorem dX0_put_19 : decode cX0_put 19 = .ok (.aload_n 0, 1) := by decide +kernel
theorem dX0_put_20 : decode cX0_put 20 = .ok (.getfield 9, 3) := by decide +kernel
theorem dX0_put_23 : decode cX0_put 23 = .ok (.aload_n 0, 1) := by decide +kernel
theorem dX0_put_24 : decode cX0_put 24 = .ok (.getfield 15, 3) := by decide +kernel
theorem dX0_put_27 : decode cX0_put 27 = .ok (.iload_n 1, 1) := by decide +kernel
theorem dX0_put_28 : decode cX0_put 28 = .ok (.castore, 1) := by decide +kernel
theorem dX0_put_29 : decode cX0_put 29 = .ok (.aload_n 0, 1) := by decide +kernel
theorem dX0_put_30 : decode cX0_put 30 = .ok (.dup, 1) := by decide +kernel
theorem dX0_put_31 : decode cX0_put 31 = .ok (.getfield 15, 3) := by decide +kernel
theorem dX0_put_34 : decode cX0_put 34 = .ok (.iconst 1, 1) := by decide +kernel
theorem dX0_put_35 : decode cX0_put 35 = .ok (.iadd, 1) := by decide +kernel
theorem dX0_put_36 : decode cX0_put 36 = .ok (.putfield 15, 3) := by decide +kernel
theorem dX0_put_39 : decode cX0_put 39 = .ok (.return_, 1) := by decide +kernel
theorem dX0_insert_0 : decode cX0_insert 0 = .ok (.iload_n 2, 1) := by decide +kernel
theorem dX0_insert_1 : decode cX0_insert 1 = .ok (.ifCond .le 29, 3) := by decide +kernel
theorem dX0_insert_4 : decode cX0_insert 4 = .ok (.iload_n 2, 1) := by decide +kernel
theorem dX0_insert_5 : decode cX0_insert 5 = .ok (.aload_n 0, 1) := by decide +kernel
theorem dX0_insert_6 : decode cX0_insert 6 = .ok (.getfield 9, 3) := by decide +kernel
theorem dX0_insert_9 : decode cX0_insert 9 = .ok (.arraylength, 1) := by decide +kernel
theorem dX0_insert_10 : decode cX0_insert 10 = .ok (.aload_n 0, 1) := by decide +kernel
theorem dX0_insert_11 : decode cX0_insert 11 = .ok (.getfield 15, 3) := by decide +kernel
theorem dX0_insert_14 : decode cX0_insert 14 = .ok (.isub, 1) := by decide +kernel
theorem dX0_insert_15 : decode cX0_insert 15 = .ok (.if_icmp .gt 15, 3) := by decide +kernel
theorem dX0_insert_18 : decode cX0_insert 18 = .ok (.iload_n 1, 1) := by decide +kernel
theorem dX0_insert_19 : decode cX0_insert 19 = .ok (.ifCond .lt 11, 3) := by decide +kernel
theorem dX0_insert_22 : decode cX0_insert 22 = .ok (.iload_n 1, 1) := by decide +kernel
theorem dX0_insert_23 : decode cX0_insert 23 = .ok (.aload_n 0, 1) := by decide +kernel
theorem dX0_insert_24 : decode cX0_insert 24 = .ok (.getfield 15, 3) := by decide +kernel
theorem dX0_insert_27 : decode cX0_insert 27 = .ok (.if_icmp .le 4, 3) := by decide +kernel
theorem dX0_insert_30 : decode cX0_insert 30 = .ok (.return_, 1) := by decide +kernel
theorem dX0_insert_31 : decode cX0_insert 31 = .ok (.aload_n 0, 1) := by decide +kernel
theorem dX0_insert_32 : decode cX0_insert 32 = .ok (.getfield 15, 3) := by decide +kernel
theorem dX0_insert_35 : decode cX0_insert 35 = .ok (.iconst 1, 1) := by decide +kernel
theorem dX0_insert_36 : decode cX0_insert 36 = .ok (.isub, 1) := by decide +kernel
theorem dX0_insert_37 : decode cX0_insert 37 = .ok (.istore 4, 2) := by decide +kernel
theorem dX0_insert_39 : decode cX0_insert 39 = .ok (.iload 4, 2) := by decide +kernel
theorem dX0_insert_41 : decode cX0_insert 41 = .ok (.iload_n 1, 1) := by decide +kernel
theorem dX0_insert_42 : decode cX0_insert 42 = .ok (.if_icmp .lt 25, 3) := by decide +kernel
theorem dX0_insert_45 : decode cX0_insert 45 = .ok (.aload_n 0, 1) := by decide +kernel
theorem dX0_insert_46 : decode cX0_insert 46 = .ok (.getfield 9, 3) := by decide +kernel
theorem dX0_insert_49 : decode cX0_insert 49 = .ok (.iload 4, 2) := by decide +kernel
theorem dX0_insert_51 : decode cX0_insert 51 = .ok (.iload_n 2, 1) := by decide +kernel
theorem dX0_insert_52 : decode cX0_insert 52 = .ok (.iadd, 1) := by decide +kernel
theorem dX0_insert_53 : decode cX0_insert 53 = .ok (.aload_n 0, 1) := by decide +kernel
theorem dX0_insert_54 : decode cX0_insert 54 = .ok (.getfield 9, 3) := by decide +kernel
theorem dX0_insert_57 : decode cX0_insert 57 = .ok (.iload 4, 2) := by decide +kernel
theorem dX0_insert_59 : decode cX0_insert 59 = .ok (.caload, 1) := by decide +kernel
theorem dX0_insert_60 : decode cX0_insert 60 = .ok (.castore, 1) := by decide +kernel
theorem dX0_insert_61 : decode cX0_insert 61 = .ok (.iinc 4 (-1), 3) := by decide +kernel
theorem dX0_insert_64 : decode cX0_insert 64 = .ok (.goto (-25), 3) := by decide +kernel
theorem dX0_insert_67 : decode cX0_insert 67 = .ok (.iload_n 1, 1) := by decide +kernel
theorem dX0_insert_68 : decode cX0_insert 68 = .ok (.istore 4, 2) := by decide +kernel
theorem dX0_insert_70 : decode cX0_insert 70 = .ok (.iload 4, 2) := by decide +kernel
theorem dX0_insert_72 : decode cX0_insert 72 = .ok (.iload_n 1, 1) := by decide +kernel
theorem dX0_insert_73 : decode cX0_insert 73 = .ok (.iload_n 2, 1) := by decide +kernel
theorem dX0_insert_74 : decode cX0_insert 74 = .ok (.iadd, 1) := by decide +kernel
theorem dX0_insert_75 : decode cX0_insert 75 = .ok (.if_icmp .ge 17, 3) := by decide +kernel
theorem dX0_insert_78 : decode cX0_insert 78 = .ok (.aload_n 0, 1) := by decide +kernel
theorem dX0_insert_79 : decode cX0_insert 79 = .ok (.getfield 9, 3) := by decide +kernel
theorem dX0_insert_82 : decode cX0_insert 82 = .ok (.iload 4, 2) := by decide +kernel
theorem dX0_insert_84 : decode cX0_insert 84 = .ok (.iload_n 3, 1) := by decide +kernel
theorem dX0_insert_85 : decode cX0_insert 85 = .ok (.castore, 1) := by decide +kernel
theorem dX0_insert_86 : decode cX0_insert 86 = .ok (.iinc 4 1, 3) := by decide +kernel
theorem dX0_insert_89 : decode cX0_insert 89 = .ok (.goto (-19), 3) := by decide +kernel
theorem dX0_insert_92 : decode cX0_insert 92 = .ok (.aload_n 0, 1) := by decide +kernel
theorem dX0_insert_93 : decode cX0_insert 93 = .ok (.dup, 1) := by decide +kernel
theorem dX0_insert_94 : decode cX0_insert 94 = .ok (.getfield 15, 3) := by decide +kernel
theorem dX0_insert_97 : decode cX0_insert 97 = .ok (.iload_n 2, 1) := by decide +kernel
theorem dX0_insert_98 : decode cX0_insert 98 = .ok (.iadd, 1) := by decide +kernel
theorem dX0_insert_99 : decode cX0_insert 99 = .ok (.putfield 15, 3) := by decide +kernel
theorem dX0_insert_102 : decode cX0_insert 102 = .ok (.return_, 1) := by decide +kernel
theorem dX1_init_0 : decode cX1_init 0 = .ok (.aload_n 0, 1) := by decide +kernel
theorem dX1_init_1 : decode cX1_init 1 = .ok (.invokespecial 5, 3) := by decide +kernel
theorem dX1_init_4 : decode cX1_init 4 = .ok (.aload_n 0, 1) := by decide +kernel
theorem dX1_init_5 : decode cX1_init 5 = .ok (.bipush 86, 2) := by decide +kernel
theorem dX1_init_7 : decode cX1_init 7 = .ok (.newarray .int, 2) := by decide +kernel
theorem dX1_init_9 : decode cX1_init 9 = .ok (.putfield 11, 3) := by decide +kernel
theorem dX1_init_12 : decode cX1_init 12 = .ok (.aload_n 0, 1) := by decide +kernel
theorem dX1_init_13 : decode cX1_init 13 = .ok (.iconst 0, 1) := by decide +kernel
theorem dX1_init_14 : decode cX1_init 14 = .ok (.putfield 15, 3) := by decide +kernel
theorem dX1_init_17 : decode cX1_init 17 = .ok (.aload_n 0, 1) := by decide +kernel
theorem dX1_init_18 : decode cX1_init 18 = .ok (.sipush 774, 3) := by decide +kernel
theorem dX1_init_21 : decode cX1_init 21 = .ok (.newarray .int, 2) := by decide +kernel
theorem dX1_init_23 : decode cX1_init 23 = .ok (.putfield 19, 3) := by decide +kernel
theorem dX1_init_26 : decode cX1_init 26 = .ok (.aload_n 0, 1) := by decide +kernel
theorem dX1_init_27 : decode cX1_init 27 = .ok (.iconst 0, 1) := by decide +kernel
theorem dX1_init_28 : decode cX1_init 28 = .ok (.putfield 22, 3) := by decide +kernel
theorem dX1_init_31 : decode cX1_init 31 = .ok (.aload_n 0, 1) := by decide +kernel
theorem dX1_init_32 : decode cX1_init 32 = .ok (.iconst 0, 1) := by decide +kernel
theorem dX1_init_33 : decode cX1_init 33 = .ok (.putfield 25, 3) := by decide +kernel
theorem dX1_init_36 : decode cX1_init 36 = .ok (.return_, 1) := by decide +kernel
set_option maxRecDepth 20000 in
theorem ggX1_take_X2_exponentField : GoodIn wsX1_take wsX2_exponentField := goodIn_r _ [13] (by decide +kernel) (by decide +kernel)
set_option maxRecDepth 20000 in
theorem gX1_take_X2_exponentField_n28 : GoodIn wsX1_take (wsX2_exponentField) := ggX1_take_X2_exponentField
set_option maxRecDepth 20000 in
theorem ggX1_take_X1_setLimbs : GoodIn wsX1_take wsX1_setLimbs := goodIn_r _ [18, 19, 20, 21, 22, 23, 17, 24, 25, 49, 50, 51, 52, 53] (by decide +kernel) (by decide +kernel)
set_option maxRecDepth 20000 in
theorem gX1_take_X1_setLimbs : GoodIn wsX1_take (wsV RX1 36 RX1 yX1_setLimbs wsX1_setLimbs) := goodIn_app (goodIn_of _ (by decide +kernel)) ggX1_take_X1_setLimbs
set_option maxRecDepth 20000 in
theorem ggX1_take_X1_multiplyByPower : GoodIn wsX1_take wsX1_multiplyByPower := goodIn_r _ [29, 30, 31, 32, 33, 17, 34, 19, 25, 20, 21, 22, 23, 24, 49, 50, 51, 52, 53] (by decide +kernel) (by decide +kernel)
set_option maxRecDepth 20000 in
theorem gX1_take_X1_multiplyByPower : GoodIn wsX1_take (wsV RX1 46 RX1 yX1_multiplyByPower wsX1_multiplyByPower) := goodIn_app (goodIn_of _ (by decide +kernel)) ggX1_take_X1_multiplyByPower
set_option maxRecDepth 20000 in
theorem ggX1_take_X1_spreadLimbs : GoodIn wsX1_take wsX1_spreadLimbs := goodIn_r _ [38, 39, 40, 19, 25, 41, 42, 43, 44, 45, 46, 47, 17, 48, 49, 50, 51, 52, 53] (by decide +kernel) (by decide +kernel)
set_option maxRecDepth 20000 in
theorem gX1_take_X1_spreadLimbs : GoodIn wsX1_take (wsV RX1 54 RX1 yX1_spreadLimbs wsX1_spreadLimbs) := goodIn_app (goodIn_of _ (by decide +kernel)) ggX1_take_X1_spreadLimbs
theorem dX1_take_0 : decode cX1_take 0 = .ok (.lload_n 1, 1) := by decide +kernel
theorem dX1_take_1 : decode cX1_take 1 = .ok (.invokestatic 28, 3) := by decide +kernel
theorem dX1_take_4 : decode cX1_take 4 = .ok (.istore_n 3, 1) := by decide +kernel
theorem dX1_take_5 : decode cX1_take 5 = .ok (.lload_n 1, 1) := by decide +kernel
theorem dX1_take_6 : decode cX1_take 6 = .ok (.ldc2_w 32, 3) := by decide +kernel
theorem dX1_take_9 : decode cX1_take 9 = .ok (.land, 1) := by decide +kernel
theorem dX1_take_10 : decode cX1_take 10 = .ok (.lstore 4, 2) := by decide +kernel
theorem dX1_take_12 : decode cX1_take 12 = .ok (.sipush (-1074), 3) := by decide +kernel
theorem dX1_take_15 : decode cX1_take 15 = .ok (.istore 6, 2) := by decide +kernel
theorem dX1_take_17 : decode cX1_take 17 = .ok (.iload_n 3, 1) := by decide +kernel
theorem dX1_take_18 : decode cX1_take 18 = .ok (.ifCond .le 19, 3) := by decide +kernel
theorem dX1_take_21 : decode cX1_take 21 = .ok (.lload 4, 2) := by decide +kernel
theorem dX1_take_23 : decode cX1_take 23 = .ok (.ldc2_w 34, 3) := by decide +kernel
theorem dX1_take_26 : decode cX1_take 26 = .ok (.ladd, 1) := by decide +kernel
theorem dX1_take_27 : decode cX1_take 27 = .ok (.lstore 4, 2) := by decide +kernel
theorem dX1_take_29 : decode cX1_take 29 = .ok (.iload 6, 2) := by decide +kernel
theorem dX1_take_31 : decode cX1_take 31 = .ok (.iload_n 3, 1) := by decide +kernel
theorem dX1_take_32 : decode cX1_take 32 = .ok (.iconst 1, 1) := by decide +kernel
theorem dX1_take_33 : decode cX1_take 33 = .ok (.isub, 1) := by decide +kernel
theorem dX1_take_34 : decode cX1_take 34 = .ok (.iadd, 1) := by decide +kernel
theorem dX1_take_35 : decode cX1_take 35 = .ok (.istore 6, 2) := by decide +kernel
theorem dX1_take_37 : decode cX1_take 37 = .ok (.iload 6, 2) := by decide +kernel
theorem dX1_take_39 : decode cX1_take 39 = .ok (.ifCond .ge 24, 3) := by decide +kernel
theorem dX1_take_42 : decode cX1_take 42 = .ok (.lload 4, 2) := by decide +kernel
theorem dX1_take_44 : decode cX1_take 44 = .ok (.lconst 1, 1) := by decide +kernel
theorem dX1_take_45 : decode cX1_take 45 = .ok (.land, 1) := by decide +kernel
theorem dX1_take_46 : decode cX1_take 46 = .ok (.lconst 0, 1) := by decide +kernel
theorem dX1_take_47 : decode cX1_take 47 = .ok (.lcmp, 1) := by decide +kernel
theorem dX1_take_48 : decode cX1_take 48 = .ok (.ifCond .ne 15, 3) := by decide +kernel
theorem dX1_take_51 : decode cX1_take 51 = .ok (.lload 4, 2) := by decide +kernel
theorem dX1_take_53 : decode cX1_take 53 = .ok (.iconst 1, 1) := by decide +kernel
theorem dX1_take_54 : decode cX1_take 54 = .ok (.lshr, 1) := by decide +kernel
theorem dX1_take_55 : decode cX1_take 55 = .ok (.lstore 4, 2) := by decide +kernel
theorem dX1_take_57 : decode cX1_take 57 = .ok (.iinc 6 1, 3) := by decide +kernel
theorem dX1_take_60 : decode cX1_take 60 = .ok (.goto (-23), 3) := by decide +kernel
theorem dX1_take_63 : decode cX1_take 63 = .ok (.aload_n 0, 1) := by decide +kernel
theorem dX1_take_64 : decode cX1_take 64 = .ok (.lload 4, 2) := by decide +kernel
theorem dX1_take_66 : decode cX1_take 66 = .ok (.invokevirtual 36, 3) := by decide +kernel
theorem dX1_take_69 : decode cX1_take 69 = .ok (.aload_n 0, 1) := by decide +kernel
theorem dX1_take_70 : decode cX1_take 70 = .ok (.iload 6, 2) := by decide +kernel
theorem dX1_take_72 : decode cX1_take 72 = .ok (.ifCond .ge 7, 3) := by decide +kernel
theorem dX1_take_75 : decode cX1_take 75 = .ok (.iconst 5, 1) := by decide +kernel
theorem dX1_take_76 : decode cX1_take 76 = .ok (.goto 4, 3) := by decide +kernel
theorem dX1_take_79 : decode cX1_take 79 = .ok (.iconst 2, 1) := by decide +kernel
theorem dX1_take_80 : decode cX1_take 80 = .ok (.iload 6, 2) := by decide +kernel
theorem dX1_take_82 : decode cX1_take 82 = .ok (.invokestatic 40, 3) := by decide +kernel
theorem dX1_take_85 : decode cX1_take 85 = .ok (.invokevirtual 46, 3) := by decide +kernel
theorem dX1_take_88 : decode cX1_take 88 = .ok (.aload_n 0, 1) := by decide +kernel
theorem dX1_take_89 : decode cX1_take 89 = .ok (.iload 6, 2) := by decide +kernel
theorem dX1_take_91 : decode cX1_take 91 = .ok (.ineg, 1) := by decide +kernel
theorem dX1_take_92 : decode cX1_take 92 = .ok (.iconst 0, 1) := by decide +kernel
theorem dX1_take_93 : decode cX1_take 93 = .ok (.invokestatic 50, 3) := by decide +kernel
theorem dX1_take_96 : decode cX1_take 96 = .ok (.putfield 25, 3) := by decide +kernel
theorem dX1_take_99 : decode cX1_take 99 = .ok (.aload_n 0, 1) := by decide +kernel
theorem dX1_take_100 : decode cX1_take 100 = .ok (.invokevirtual 54, 3) := by decide +kernel
theorem dX1_take_103 : decode cX1_take 103 = .ok (.return_, 1) := by decide +kernel
set_option maxRecDepth 20000 in
theorem ggX1_digitCount_X1_lowestIndex : GoodIn wsX1_digitCount wsX1_lowestIndex := goodIn_r _ [6, 1, 7, 8, 9, 5, 10, 11, 12, 13, 14, 15, 16] (by decide +kernel) (by decide +kernel)
set_option maxRecDepth 20000 in
theorem gX1_digitCount_X1_lowestIndex : GoodIn wsX1_digitCount (wsV RX1 57 RX1 yX1_lowestIndex wsX1_lowestIndex) := goodIn_app (goodIn_of _ (by decide +kernel)) ggX1_digitCount_X1_lowestIndex
theorem dX1_digitCount_0 : decode cX1_digitCount 0 = .ok (.aload_n 0, 1) := by decide +kernel
theorem dX1_digitCount_1 : decode cX1_digitCount 1 = .ok (.getfield 22, 3) := by decide +kernel
theorem dX1_digitCount_4 : decode cX1_digitCount 4 = .ok (.aload_n 0, 1) := by decide +kernel
theorem dX1_digitCount_5 : decode cX1_digitCount 5 = .ok (.invokevirtual 57, 3) := by decide +kernel
theorem dX1_digitCount_8 : decode cX1_digitCount 8 = .ok (.isub, 1) := by decide +kernel
theorem dX1_digitCount_9 : decode cX1_digitCount 9 = .ok (.ireturn, 1) := by decide +kernel
theorem dX1_highestPower_0 : decode cX1_highestPower 0 = .ok (.aload_n 0, 1) := by decide +kernel
theorem dX1_highestPower_1 : decode cX1_highestPower 1 = .ok (.getfield 22, 3) := by decide +kernel
theorem dX1_highestPower_4 : decode cX1_highestPower 4 = .ok (.ifCond .ne 7, 3) := by decide +kernel
theorem dX1_highestPower_7 : decode cX1_highestPower 7 = .ok (.iconst 0, 1) := by decide +kernel
theorem dX1_highestPower_8 : decode cX1_highestPower 8 = .ok (.goto 14, 3) := by decide +kernel
theorem dX1_highestPower_11 : decode cX1_highestPower 11 = .ok (.aload_n 0, 1) := by decide +kernel
theorem dX1_highestPower_12 : decode cX1_highestPower 12 = .ok (.getfield 22, 3) := by decide +kernel
theorem dX1_highestPower_15 : decode cX1_highestPower 15 = .ok (.iconst 1, 1) := by decide +kernel
theorem dX1_highestPower_16 : decode cX1_highestPower 16 = .ok (.isub, 1) := by decide +kernel
theorem dX1_highestPower_17 : decode cX1_highestPower 17 = .ok (.aload_n 0, 1) := by decide +kernel
theorem dX1_highestPower_18 : decode cX1_highestPower 18 = .ok (.getfield 25, 3) := by decide +kernel
theorem dX1_highestPower_21 : decode cX1_highestPower 21 = .ok (.isub, 1) := by decide +kernel
theorem dX1_highestPower_22 : decode cX1_highestPower 22 = .ok (.ireturn, 1) := by decide +kernel
set_option maxRecDepth 20000 in
theorem ggX1_digitOf_X1_digitIn : GoodIn wsX1_digitOf wsX1_digitIn := goodIn_r _ [6, 7, 8, 9, 10, 11, 12] (by decide +kernel) (by decide +kernel)
set_option maxRecDepth 20000 in
theorem gX1_digitOf_X1_digitIn : GoodIn wsX1_digitOf (wsV RX1 61 RX1 yX1_digitIn wsX1_digitIn) := goodIn_app (goodIn_of _ (by decide +kernel)) ggX1_digitOf_X1_digitIn
theorem dX1_digitOf_0 : decode cX1_digitOf 0 = .ok (.aload_n 0, 1) := by decide +kernel
theorem dX1_digitOf_1 : decode cX1_digitOf 1 = .ok (.iload_n 1, 1) := by decide +kernel
theorem dX1_digitOf_2 : decode cX1_digitOf 2 = .ok (.aload_n 0, 1) := by decide +kernel
theorem dX1_digitOf_3 : decode cX1_digitOf 3 = .ok (.getfield 25, 3) := by decide +kernel
theorem dX1_digitOf_6 : decode cX1_digitOf 6 = .ok (.iadd, 1) := by decide +kernel
theorem dX1_digitOf_7 : decode cX1_digitOf 7 = .ok (.invokevirtual 61, 3) := by decide +kernel
theorem dX1_digitOf_10 : decode cX1_digitOf 10 = .ok (.ireturn, 1) := by decide +kernel
set_option maxRecDepth 20000 in
theorem ggX1_roundTo_X1_isNearerAbove : GoodIn wsX1_roundTo wsX1_isNearerAbove := goodIn_r _ [6, 7, 8, 9, 5, 10, 11, 12, 13, 14, 15, 16, 25, 26, 27, 28, 29] (by decide +kernel) (by decide +kernel)
set_option maxRecDepth 20000 in
theorem gX1_roundTo_X1_isNearerAbove : GoodIn wsX1_roundTo (wsV RX1 64 RX1 yX1_isNearerAbove wsX1_isNearerAbove) := goodIn_app (goodIn_of _ (by decide +kernel)) ggX1_roundTo_X1_isNearerAbove
set_option maxRecDepth 20000 in
theorem ggX1_roundTo_X1_addOneAt : GoodIn wsX1_roundTo wsX1_addOneAt := goodIn_r _ [20, 11, 16, 21, 22, 23, 24, 7, 8, 9, 5, 10, 25, 26, 27, 28, 29] (by decide +kernel) (by decide +kernel)
set_option maxRecDepth 20000 in
theorem gX1_roundTo_X1_addOneAt : GoodIn wsX1_roundTo (wsV RX1 68 RX1 yX1_addOneAt wsX1_addOneAt) := goodIn_app (goodIn_of _ (by decide +kernel)) ggX1_roundTo_X1_addOneAt
theorem dX1_roundTo_0 : decode cX1_roundTo 0 = .ok (.iload_n 1, 1) := by decide +kernel
theorem dX1_roundTo_1 : decode cX1_roundTo 1 = .ok (.aload_n 0, 1) := by decide +kernel
theorem dX1_roundTo_2 : decode cX1_roundTo 2 = .ok (.getfield 25, 3) := by decide +kernel
theorem dX1_roundTo_5 : decode cX1_roundTo 5 = .ok (.iadd, 1) := by decide +kernel
theorem dX1_roundTo_6 : decode cX1_roundTo 6 = .ok (.istore_n 2, 1) := by decide +kernel
theorem dX1_roundTo_7 : decode cX1_roundTo 7 = .ok (.iload_n 2, 1) := by decide +kernel
theorem dX1_roundTo_8 : decode cX1_roundTo 8 = .ok (.ifCond .le 16, 3) := by decide +kernel
theorem dX1_roundTo_11 : decode cX1_roundTo 11 = .ok (.aload_n 0, 1) := by decide +kernel
theorem dX1_roundTo_12 : decode cX1_roundTo 12 = .ok (.iload_n 2, 1) := by decide +kernel
theorem dX1_roundTo_13 : decode cX1_roundTo 13 = .ok (.invokevirtual 64, 3) := by decide +kernel
theorem dX1_roundTo_16 : decode cX1_roundTo 16 = .ok (.ifCond .eq 8, 3) := by decide +kernel
theorem dX1_roundTo_19 : decode cX1_roundTo 19 = .ok (.aload_n 0, 1) := by decide +kernel
theorem dX1_roundTo_20 : decode cX1_roundTo 20 = .ok (.iload_n 2, 1) := by decide +kernel
theorem dX1_roundTo_21 : decode cX1_roundTo 21 = .ok (.invokevirtual 68, 3) := by decide +kernel
theorem dX1_roundTo_24 : decode cX1_roundTo 24 = .ok (.return_, 1) := by decide +kernel
set_option maxRecDepth 20000 in
theorem ggX1_isNearerAbove_X1_digitIn : GoodIn wsX1_isNearerAbove wsX1_digitIn := goodIn_r _ [5, 6, 12, 13, 14, 15, 16] (by decide +kernel) (by decide +kernel)
set_option maxRecDepth 20000 in
theorem gX1_isNearerAbove_X1_digitIn : GoodIn wsX1_isNearerAbove (wsV RX1 61 RX1 yX1_digitIn wsX1_digitIn) := goodIn_app (goodIn_of _ (by decide +kernel)) ggX1_isNearerAbove_X1_digitIn
set_option maxRecDepth 20000 in
theorem ggX1_isNearerAbove_X1_lowestIndex : GoodIn wsX1_isNearerAbove wsX1_lowestIndex := goodIn_r _ [10, 11, 1, 2, 3, 4, 5, 6, 12, 13, 14, 15, 16] (by decide +kernel) (by decide +kernel)
set_option maxRecDepth 20000 in
theorem gX1_isNearerAbove_X1_lowestIndex : GoodIn wsX1_isNearerAbove (wsV RX1 57 RX1 yX1_lowestIndex wsX1_lowestIndex) := goodIn_app (goodIn_of _ (by decide +kernel)) ggX1_isNearerAbove_X1_lowestIndex
theorem dX1_isNearerAbove_0 : decode cX1_isNearerAbove 0 = .ok (.aload_n 0, 1) := by decide +kernel
theorem dX1_isNearerAbove_1 : decode cX1_isNearerAbove 1 = .ok (.iload_n 1, 1) := by decide +kernel
theorem dX1_isNearerAbove_2 : decode cX1_isNearerAbove 2 = .ok (.iconst 1, 1) := by decide +kernel
theorem dX1_isNearerAbove_3 : decode cX1_isNearerAbove 3 = .ok (.isub, 1) := by decide +kernel
theorem dX1_isNearerAbove_4 : decode cX1_isNearerAbove 4 = .ok (.invokevirtual 61, 3) := by decide +kernel
theorem dX1_isNearerAbove_7 : decode cX1_isNearerAbove 7 = .ok (.istore_n 2, 1) := by decide +kernel
theorem dX1_isNearerAbove_8 : decode cX1_isNearerAbove 8 = .ok (.iload_n 2, 1) := by decide +kernel
theorem dX1_isNearerAbove_9 : decode cX1_isNearerAbove 9 = .ok (.iconst 5, 1) := by decide +kernel
theorem dX1_isNearerAbove_10 : decode cX1_isNearerAbove 10 = .ok (.if_icmp .eq 14, 3) := by decide +kernel
theorem dX1_isNearerAbove_13 : decode cX1_isNearerAbove 13 = .ok (.iload_n 2, 1) := by decide +kernel
theorem dX1_isNearerAbove_14 : decode cX1_isNearerAbove 14 = .ok (.iconst 5, 1) := by decide +kernel
theorem dX1_isNearerAbove_15 : decode cX1_isNearerAbove 15 = .ok (.if_icmp .le 7, 3) := by decide +kernel
theorem dX1_isNearerAbove_18 : decode cX1_isNearerAbove 18 = .ok (.iconst 1, 1) := by decide +kernel
theorem dX1_isNearerAbove_19 : decode cX1_isNearerAbove 19 = .ok (.goto 4, 3) := by decide +kernel
theorem dX1_isNearerAbove_22 : decode cX1_isNearerAbove 22 = .ok (.iconst 0, 1) := by decide +kernel
theorem dX1_isNearerAbove_23 : decode cX1_isNearerAbove 23 = .ok (.ireturn, 1) := by decide +kernel
theorem dX1_isNearerAbove_24 : decode cX1_isNearerAbove 24 = .ok (.aload_n 0, 1) := by decide +kernel
theorem dX1_isNearerAbove_25 : decode cX1_isNearerAbove 25 = .ok (.invokevirtual 57, 3) := by decide +kernel
theorem dX1_isNearerAbove_28 : decode cX1_isNearerAbove 28 = .ok (.iload_n 1, 1) := by decide +kernel
theorem dX1_isNearerAbove_29 : decode cX1_isNearerAbove 29 = .ok (.iconst 1, 1) := by decide +kernel
theorem dX1_isNearerAbove_30 : decode cX1_isNearerAbove 30 = .ok (.isub, 1) := by decide +kernel
theorem dX1_isNearerAbove_31 : decode cX1_isNearerAbove 31 = .ok (.if_icmp .ne 7, 3) := by decide +kernel
theorem dX1_isNearerAbove_34 : decode cX1_isNearerAbove 34 = .ok (.iconst 1, 1) := by decide +kernel
theorem dX1_isNearerAbove_35 : decode cX1_isNearerAbove 35 = .ok (.goto 4, 3) := by decide +kernel
theorem dX1_isNearerAbove_38 : decode cX1_isNearerAbove 38 = .ok (.iconst 0, 1) := by decide +kernel
theorem dX1_isNearerAbove_39 : decode cX1_isNearerAbove 39 = .ok (.istore_n 3, 1) := by decide +kernel
theorem dX1_isNearerAbove_40 : decode cX1_isNearerAbove 40 = .ok (.iload_n 3, 1) := by decide +kernel
theorem dX1_isNearerAbove_41 : decode cX1_isNearerAbove 41 = .ok (.ifCond .eq 14, 3) := by decide +kernel
theorem dX1_isNearerAbove_44 : decode cX1_isNearerAbove 44 = .ok (.aload_n 0, 1) := by decide +kernel
theorem dX1_isNearerAbove_45 : decode cX1_isNearerAbove 45 = .ok (.iload_n 1, 1) := by decide +kernel
theorem dX1_isNearerAbove_46 : decode cX1_isNearerAbove 46 = .ok (.invokevirtual 61, 3) := by decide +kernel
theorem dX1_isNearerAbove_49 : decode cX1_isNearerAbove 49 = .ok (.iconst 2, 1) := by decide +kernel
theorem dX1_isNearerAbove_50 : decode cX1_isNearerAbove 50 = .ok (.irem, 1) := by decide +kernel
theorem dX1_isNearerAbove_51 : decode cX1_isNearerAbove 51 = .ok (.iconst 1, 1) := by decide +kernel
theorem dX1_isNearerAbove_52 : decode cX1_isNearerAbove 52 = .ok (.if_icmp .ne 7, 3) := by decide +kernel
theorem dX1_isNearerAbove_55 : decode cX1_isNearerAbove 55 = .ok (.iconst 1, 1) := by decide +kernel
theorem dX1_isNearerAbove_56 : decode cX1_isNearerAbove 56 = .ok (.goto 4, 3) := by decide +kernel
theorem dX1_isNearerAbove_59 : decode cX1_isNearerAbove 59 = .ok (.iconst 0, 1) := by decide +kernel
theorem dX1_isNearerAbove_60 : decode cX1_isNearerAbove 60 = .ok (.ireturn, 1) := by decide +kernel
set_option maxRecDepth 20000 in
theorem ggX1_addOneAt_X1_digitIn : GoodIn wsX1_addOneAt wsX1_digitIn := goodIn_r _ [11, 1, 12, 13, 14, 15, 16] (by decide +kernel) (by decide +kernel)
set_option maxRecDepth 20000 in
theorem gX1_addOneAt_X1_digitIn : GoodIn wsX1_addOneAt (wsV RX1 61 RX1 yX1_digitIn wsX1_digitIn) := goodIn_app (goodIn_of _ (by decide +kernel)) ggX1_addOneAt_X1_digitIn
theorem dX1_addOneAt_0 : decode cX1_addOneAt 0 = .ok (.iload_n 1, 1) := by decide +kernel
theorem dX1_addOneAt_1 : decode cX1_addOneAt 1 = .ok (.istore_n 2, 1) := by decide +kernel
theorem dX1_addOneAt_2 : decode cX1_addOneAt 2 = .ok (.iload_n 2, 1) := by decide +kernel
theorem dX1_addOneAt_3 : decode cX1_addOneAt 3 = .ok (.aload_n 0, 1) := by decide +kernel
theorem dX1_addOneAt_4 : decode cX1_addOneAt 4 = .ok (.getfield 19, 3) := by decide +kernel
theorem dX1_addOneAt_7 : decode cX1_addOneAt 7 = .ok (.arraylength, 1) := by decide +kernel
theorem dX1_addOneAt_8 : decode cX1_addOneAt 8 = .ok (.if_icmp .ge 26, 3) := by decide +kernel
theorem dX1_addOneAt_11 : decode cX1_addOneAt 11 = .ok (.aload_n 0, 1) := by decide +kernel
theorem dX1_addOneAt_12 : decode cX1_addOneAt 12 = .ok (.iload_n 2, 1) := by decide +kernel
theorem dX1_addOneAt_13 : decode cX1_addOneAt 13 = .ok (.invokevirtual 61, 3) := by decide +kernel
theorem dX1_addOneAt_16 : decode cX1_addOneAt 16 = .ok (.bipush 9, 2) := by decide +kernel
theorem dX1_addOneAt_18 : decode cX1_addOneAt 18 = .ok (.if_icmp .ne 16, 3) := by decide +kernel
theorem dX1_addOneAt_21 : decode cX1_addOneAt 21 = .ok (.aload_n 0, 1) := by decide +kernel
theorem dX1_addOneAt_22 : decode cX1_addOneAt 22 = .ok (.getfield 19, 3) := by decide +kernel
theorem dX1_addOneAt_25 : decode cX1_addOneAt 25 = .ok (.iload_n 2, 1) := by decide +kernel
theorem dX1_addOneAt_26 : decode cX1_addOneAt 26 = .ok (.iconst 0, 1) := by decide +kernel
theorem dX1_addOneAt_27 : decode cX1_addOneAt 27 = .ok (.iastore, 1) := by decide +kernel
theorem dX1_addOneAt_28 : decode cX1_addOneAt 28 = .ok (.iinc 2 1, 3) := by decide +kernel
theorem dX1_addOneAt_31 : decode cX1_addOneAt 31 = .ok (.goto (-29), 3) := by decide +kernel
theorem dX1_addOneAt_34 : decode cX1_addOneAt 34 = .ok (.iload_n 2, 1) := by decide +kernel
theorem dX1_addOneAt_35 : decode cX1_addOneAt 35 = .ok (.ifCond .lt 36, 3) := by decide +kernel
theorem dX1_addOneAt_38 : decode cX1_addOneAt 38 = .ok (.iload_n 2, 1) := by decide +kernel
theorem dX1_addOneAt_39 : decode cX1_addOneAt 39 = .ok (.aload_n 0, 1) := by decide +kernel
theorem dX1_addOneAt_40 : decode cX1_addOneAt 40 = .ok (.getfield 19, 3) := by decide +kernel
theorem dX1_addOneAt_43 : decode cX1_addOneAt 43 = .ok (.arraylength, 1) := by decide +kernel
theorem dX1_addOneAt_44 : decode cX1_addOneAt 44 = .ok (.if_icmp .ge 27, 3) := by decide +kernel
theorem dX1_addOneAt_47 : decode cX1_addOneAt 47 = .ok (.aload_n 0, 1) := by decide +kernel
theorem dX1_addOneAt_48 : decode cX1_addOneAt 48 = .ok (.getfield 19, 3) := by decide +kernel
theorem dX1_addOneAt_51 : decode cX1_addOneAt 51 = .ok (.iload_n 2, 1) := by decide +kernel
theorem dX1_addOneAt_52 : decode cX1_addOneAt 52 = .ok (.dup2, 1) := by decide +kernel
theorem dX1_addOneAt_53 : decode cX1_addOneAt 53 = .ok (.iaload, 1) := by decide +kernel
theorem dX1_addOneAt_54 : decode cX1_addOneAt 54 = .ok (.iconst 1, 1) := by decide +kernel
theorem dX1_addOneAt_55 : decode cX1_addOneAt 55 = .ok (.iadd, 1) := by decide +kernel
theorem dX1_addOneAt_56 : decode cX1_addOneAt 56 = .ok (.iastore, 1) := by decide +kernel
theorem dX1_addOneAt_57 : decode cX1_addOneAt 57 = .ok (.aload_n 0, 1) := by decide +kernel
theorem dX1_addOneAt_58 : decode cX1_addOneAt 58 = .ok (.aload_n 0, 1) := by decide +kernel
theorem dX1_addOneAt_59 : decode cX1_addOneAt 59 = .ok (.getfield 22, 3) := by decide +kernel
theorem dX1_addOneAt_62 : decode cX1_addOneAt 62 = .ok (.iload_n 2, 1) := by decide +kernel
theorem dX1_addOneAt_63 : decode cX1_addOneAt 63 = .ok (.iconst 1, 1) := by decide +kernel
theorem dX1_addOneAt_64 : decode cX1_addOneAt 64 = .ok (.iadd, 1) := by decide +kernel
theorem dX1_addOneAt_65 : decode cX1_addOneAt 65 = .ok (.invokestatic 50, 3) := by decide +kernel
theorem dX1_addOneAt_68 : decode cX1_addOneAt 68 = .ok (.putfield 22, 3) := by decide +kernel
theorem dX1_addOneAt_71 : decode cX1_addOneAt 71 = .ok (.return_, 1) := by decide +kernel
theorem dX1_digitIn_0 : decode cX1_digitIn 0 = .ok (.iload_n 1, 1) := by decide +kernel
theorem dX1_digitIn_1 : decode cX1_digitIn 1 = .ok (.ifCond .lt 12, 3) := by decide +kernel
theorem dX1_digitIn_4 : decode cX1_digitIn 4 = .ok (.iload_n 1, 1) := by decide +kernel
theorem dX1_digitIn_5 : decode cX1_digitIn 5 = .ok (.aload_n 0, 1) := by decide +kernel
theorem dX1_digitIn_6 : decode cX1_digitIn 6 = .ok (.getfield 19, 3) := by decide +kernel
theorem dX1_digitIn_9 : decode cX1_digitIn 9 = .ok (.arraylength, 1) := by decide +kernel
theorem dX1_digitIn_10 : decode cX1_digitIn 10 = .ok (.if_icmp .lt 5, 3) := by decide +kernel
theorem dX1_digitIn_13 : decode cX1_digitIn 13 = .ok (.iconst 0, 1) := by decide +kernel
theorem dX1_digitIn_14 : decode cX1_digitIn 14 = .ok (.ireturn, 1) := by decide +kernel
theorem dX1_digitIn_15 : decode cX1_digitIn 15 = .ok (.aload_n 0, 1) := by decide +kernel
theorem dX1_digitIn_16 : decode cX1_digitIn 16 = .ok (.getfield 19, 3) := by decide +kernel
theorem dX1_digitIn_19 : decode cX1_digitIn 19 = .ok (.iload_n 1, 1) := by decide +kernel
theorem dX1_digitIn_20 : decode cX1_digitIn 20 = .ok (.iaload, 1) := by decide +kernel
theorem dX1_digitIn_21 : decode cX1_digitIn 21 = .ok (.ireturn, 1) := by decide +kernel
set_option maxRecDepth 20000 in
theorem ggX1_lowestIndex_X1_digitIn : GoodIn wsX1_lowestIndex wsX1_digitIn := goodIn_r _ [6, 7, 8, 9, 10, 11, 12] (by decide +kernel) (by decide +kernel)
set_option maxRecDepth 20000 in
theorem gX1_lowestIndex_X1_digitIn : GoodIn wsX1_lowestIndex (wsV RX1 61 RX1 yX1_digitIn wsX1_digitIn) := goodIn_app (goodIn_of _ (by decide +kernel)) ggX1_lowestIndex_X1_digitIn
theorem dX1_lowestIndex_0 : decode cX1_lowestIndex 0 = .ok (.iconst 0, 1) := by decide +kernel
theorem dX1_lowestIndex_1 : decode cX1_lowestIndex 1 = .ok (.istore_n 1, 1) := by decide +kernel
theorem dX1_lowestIndex_2 : decode cX1_lowestIndex 2 = .ok (.iload_n 1, 1) := by decide +kernel
theorem dX1_lowestIndex_3 : decode cX1_lowestIndex 3 = .ok (.aload_n 0, 1) := by decide +kernel
theorem dX1_lowestIndex_4 : decode cX1_lowestIndex 4 = .ok (.getfield 22, 3) := by decide +kernel
theorem dX1_lowestIndex_7 : decode cX1_lowestIndex 7 = .ok (.if_icmp .ge 17, 3) := by decide +kernel
theorem dX1_lowestIndex_10 : decode cX1_lowestIndex 10 = .ok (.aload_n 0, 1) := by decide +kernel
theorem dX1_lowestIndex_11 : decode cX1_lowestIndex 11 = .ok (.iload_n 1, 1) := by decide +kernel
theorem dX1_lowestIndex_12 : decode cX1_lowestIndex 12 = .ok (.invokevirtual 61, 3) := by decide +kernel
theorem dX1_lowestIndex_15 : decode cX1_lowestIndex 15 = .ok (.ifCond .ne 9, 3) := by decide +kernel
theorem dX1_lowestIndex_18 : decode cX1_lowestIndex 18 = .ok (.iinc 1 1, 3) := by decide +kernel
theorem dX1_lowestIndex_21 : decode cX1_lowestIndex 21 = .ok (.goto (-19), 3) := by decide +kernel
theorem dX1_lowestIndex_24 : decode cX1_lowestIndex 24 = .ok (.iload_n 1, 1) := by decide +kernel
theorem dX1_lowestIndex_25 : decode cX1_lowestIndex 25 = .ok (.ireturn, 1) := by decide +kernel
set_option maxRecDepth 20000 in
theorem ggX1_setLimbs_X1_addLimb : GoodIn wsX1_setLimbs wsX1_addLimb := goodIn_r _ [7, 1, 8, 9, 10, 11, 12, 13] (by decide +kernel) (by decide +kernel)
set_option maxRecDepth 20000 in
theorem gX1_setLimbs_X1_addLimb : GoodIn wsX1_setLimbs (wsV RX1 74 RX1 yX1_addLimb wsX1_addLimb) := goodIn_app (goodIn_of _ (by decide +kernel)) ggX1_setLimbs_X1_addLimb
theorem dX1_setLimbs_0 : decode cX1_setLimbs 0 = .ok (.aload_n 0, 1) := by decide +kernel
theorem dX1_setLimbs_1 : decode cX1_setLimbs 1 = .ok (.iconst 0, 1) := by decide +kernel
theorem dX1_setLimbs_2 : decode cX1_setLimbs 2 = .ok (.putfield 15, 3) := by decide +kernel
theorem dX1_setLimbs_5 : decode cX1_setLimbs 5 = .ok (.aload_n 0, 1) := by decide +kernel
theorem dX1_setLimbs_6 : decode cX1_setLimbs 6 = .ok (.lload_n 1, 1) := by decide +kernel
theorem dX1_setLimbs_7 : decode cX1_setLimbs 7 = .ok (.ldc2_w 72, 3) := by decide +kernel
theorem dX1_setLimbs_10 : decode cX1_setLimbs 10 = .ok (.lrem, 1) := by decide +kernel
theorem dX1_setLimbs_11 : decode cX1_setLimbs 11 = .ok (.l2i, 1) := by decide +kernel
theorem dX1_setLimbs_12 : decode cX1_setLimbs 12 = .ok (.invokevirtual 74, 3) := by decide +kernel
theorem dX1_setLimbs_15 : decode cX1_setLimbs 15 = .ok (.aload_n 0, 1) := by decide +kernel
theorem dX1_setLimbs_16 : decode cX1_setLimbs 16 = .ok (.lload_n 1, 1) := by decide +kernel
theorem dX1_setLimbs_17 : decode cX1_setLimbs 17 = .ok (.ldc2_w 72, 3) := by decide +kernel
theorem dX1_setLimbs_20 : decode cX1_setLimbs 20 = .ok (.ldiv, 1) := by decide +kernel
theorem dX1_setLimbs_21 : decode cX1_setLimbs 21 = .ok (.l2i, 1) := by decide +kernel
theorem dX1_setLimbs_22 : decode cX1_setLimbs 22 = .ok (.invokevirtual 74, 3) := by decide +kernel
theorem dX1_setLimbs_25 : decode cX1_setLimbs 25 = .ok (.return_, 1) := by decide +kernel
theorem dX1_addLimb_0 : decode cX1_addLimb 0 = .ok (.aload_n 0, 1) := by decide +kernel
theorem dX1_addLimb_1 : decode cX1_addLimb 1 = .ok (.getfield 15, 3) := by decide +kernel
theorem dX1_addLimb_4 : decode cX1_addLimb 4 = .ok (.ifCond .lt 35, 3) := by decide +kernel
theorem dX1_addLimb_7 : decode cX1_addLimb 7 = .ok (.aload_n 0, 1) := by decide +kernel
theorem dX1_addLimb_8 : decode cX1_addLimb 8 = .ok (.getfield 15, 3) := by decide +kernel
theorem dX1_addLimb_11 : decode cX1_addLimb 11 = .ok (.aload_n 0, 1) := by decide +kernel
theorem dX1_addLimb_12 : decode cX1_addLimb 12 = .ok (.getfield 11, 3) := by decide +kernel
theorem dX1_addLimb_15 : decode cX1_addLimb 15 = .ok (.arraylength, 1) := by decide +kernel
theorem dX1_addLimb_16 : decode cX1_addLimb 16 = .ok (.if_icmp .ge 23, 3) := by decide +kernel
theorem dX1_addLimb_19 : decode cX1_addLimb 19 = .ok (.aload_n 0, 1) := by decide +kernel
theorem dX1_addLimb_20 : decode cX1_addLimb 20 = .ok (.getfield 11, 3) := by decide +kernel
theorem dX1_addLimb_23 : decode cX1_addLimb 23 = .ok (.aload_n 0, 1) := by decide +kernel
theorem dX1_addLimb_24 : decode cX1_addLimb 24 = .ok (.getfield 15, 3) := by decide +kernel
theorem dX1_addLimb_27 : decode cX1_addLimb 27 = .ok (.iload_n 1, 1) := by decide +kernel
theorem dX1_addLimb_28 : decode cX1_addLimb 28 = .ok (.iastore, 1) := by decide +kernel
theorem dX1_addLimb_29 : decode cX1_addLimb 29 = .ok (.aload_n 0, 1) := by decide +kernel
theorem dX1_addLimb_30 : decode cX1_addLimb 30 = .ok (.dup, 1) := by decide +kernel
theorem dX1_addLimb_31 : decode cX1_addLimb 31 = .ok (.getfield 15, 3) := by decide +kernel
theorem dX1_addLimb_34 : decode cX1_addLimb 34 = .ok (.iconst 1, 1) := by decide +kernel
theorem dX1_addLimb_35 : decode cX1_addLimb 35 = .ok (.iadd, 1) := by decide +kernel
theorem dX1_addLimb_36 : decode cX1_addLimb 36 = .ok (.putfield 15, 3) := by decide +kernel
theorem dX1_addLimb_39 : decode cX1_addLimb 39 = .ok (.return_, 1) := by decide +kernel
set_option maxRecDepth 20000 in
theorem ggX1_multiplyByPower_X1_multiplyBy : GoodIn wsX1_multiplyByPower wsX1_multiplyBy := goodIn_r _ [6, 7, 8, 9, 10, 11, 12, 5, 13, 14, 15, 16, 17, 18] (by decide +kernel) (by decide +kernel)
set_option maxRecDepth 20000 in
theorem gX1_multiplyByPower_X1_multiplyBy : GoodIn wsX1_multiplyByPower (wsV RX1 78 RX1 yX1_multiplyBy wsX1_multiplyBy) := goodIn_app (goodIn_of _ (by decide +kernel)) ggX1_multiplyByPower_X1_multiplyBy
theorem dX1_multiplyByPower_0 : decode cX1_multiplyByPower 0 = .ok (.iconst 1, 1) := by decide +kernel
theorem dX1_multiplyByPower_1 : decode cX1_multiplyByPower 1 = .ok (.istore_n 3, 1) := by decide +kernel
theorem dX1_multiplyByPower_2 : decode cX1_multiplyByPower 2 = .ok (.iconst 0, 1) := by decide +kernel
theorem dX1_multiplyByPower_3 : decode cX1_multiplyByPower 3 = .ok (.istore 4, 2) := by decide +kernel
theorem dX1_multiplyByPower_5 : decode cX1_multiplyByPower 5 = .ok (.iload 4, 2) := by decide +kernel
theorem dX1_multiplyByPower_7 : decode cX1_multiplyByPower 7 = .ok (.iload_n 2, 1) := by decide +kernel
theorem dX1_multiplyByPower_8 : decode cX1_multiplyByPower 8 = .ok (.if_icmp .ge 26, 3) := by decide +kernel
theorem dX1_multiplyByPower_11 : decode cX1_multiplyByPower 11 = .ok (.iload_n 3, 1) := by decide +kernel
theorem dX1_multiplyByPower_12 : decode cX1_multiplyByPower 12 = .ok (.ldc 77, 2) := by decide +kernel
theorem dX1_multiplyByPower_14 : decode cX1_multiplyByPower 14 = .ok (.if_icmp .le 10, 3) := by decide +kernel
theorem dX1_multiplyByPower_17 : decode cX1_multiplyByPower 17 = .ok (.aload_n 0, 1) := by decide +kernel
theorem dX1_multiplyByPower_18 : decode cX1_multiplyByPower 18 = .ok (.iload_n 3, 1) := by decide +kernel
theorem dX1_multiplyByPower_19 : decode cX1_multiplyByPower 19 = .ok (.invokevirtual 78, 3) := by decide +kernel
theorem dX1_multiplyByPower_22 : decode cX1_multiplyByPower 22 = .ok (.iconst 1, 1) := by decide +kernel
theorem dX1_multiplyByPower_23 : decode cX1_multiplyByPower 23 = .ok (.istore_n 3, 1) := by decide +kernel
theorem dX1_multiplyByPower_24 : decode cX1_multiplyByPower 24 = .ok (.iload_n 3, 1) := by decide +kernel
theorem dX1_multiplyByPower_25 : decode cX1_multiplyByPower 25 = .ok (.iload_n 1, 1) := by decide +kernel
theorem dX1_multiplyByPower_26 : decode cX1_multiplyByPower 26 = .ok (.imul, 1) := by decide +kernel
theorem dX1_multiplyByPower_27 : decode cX1_multiplyByPower 27 = .ok (.istore_n 3, 1) := by decide +kernel
theorem dX1_multiplyByPower_28 : decode cX1_multiplyByPower 28 = .ok (.iinc 4 1, 3) := by decide +kernel
theorem dX1_multiplyByPower_31 : decode cX1_multiplyByPower 31 = .ok (.goto (-26), 3) := by decide +kernel
theorem dX1_multiplyByPower_34 : decode cX1_multiplyByPower 34 = .ok (.aload_n 0, 1) := by decide +kernel
theorem dX1_multiplyByPower_35 : decode cX1_multiplyByPower 35 = .ok (.iload_n 3, 1) := by decide +kernel
theorem dX1_multiplyByPower_36 : decode cX1_multiplyByPower 36 = .ok (.invokevirtual 78, 3) := by decide +kernel
theorem dX1_multiplyByPower_39 : decode cX1_multiplyByPower 39 = .ok (.return_, 1) := by decide +kernel
set_option maxRecDepth 20000 in
theorem ggX1_multiplyBy_X1_addLimb : GoodIn wsX1_multiplyBy wsX1_addLimb := goodIn_r _ [8, 1, 2, 9, 10, 11, 12, 13] (by decide +kernel) (by decide +kernel)
set_option maxRecDepth 20000 in
theorem gX1_multiplyBy_X1_addLimb : GoodIn wsX1_multiplyBy (wsV RX1 74 RX1 yX1_addLimb wsX1_addLimb) := goodIn_app (goodIn_of _ (by decide +kernel)) ggX1_multiplyBy_X1_addLimb
theorem dX1_multiplyBy_0 : decode cX1_multiplyBy 0 = .ok (.lconst 0, 1) := by decide +kernel
theorem dX1_multiplyBy_1 : decode cX1_multiplyBy 1 = .ok (.lstore_n 2, 1) := by decide +kernel
theorem dX1_multiplyBy_2 : decode cX1_multiplyBy 2 = .ok (.iconst 0, 1) := by decide +kernel
theorem dX1_multiplyBy_3 : decode cX1_multiplyBy 3 = .ok (.istore 4, 2) := by decide +kernel
theorem dX1_multiplyBy_5 : decode cX1_multiplyBy 5 = .ok (.iload 4, 2) := by decide +kernel
theorem dX1_multiplyBy_7 : decode cX1_multiplyBy 7 = .ok (.aload_n 0, 1) := by decide +kernel
theorem dX1_multiplyBy_8 : decode cX1_multiplyBy 8 = .ok (.getfield 15, 3) := by decide +kernel
theorem dX1_multiplyBy_11 : decode cX1_multiplyBy 11 = .ok (.if_icmp .ge 57, 3) := by decide +kernel
theorem dX1_multiplyBy_14 : decode cX1_multiplyBy 14 = .ok (.iload 4, 2) := by decide +kernel
theorem dX1_multiplyBy_16 : decode cX1_multiplyBy 16 = .ok (.aload_n 0, 1) := by decide +kernel
theorem dX1_multiplyBy_17 : decode cX1_multiplyBy 17 = .ok (.getfield 11, 3) := by decide +kernel
theorem dX1_multiplyBy_20 : decode cX1_multiplyBy 20 = .ok (.arraylength, 1) := by decide +kernel
theorem dX1_multiplyBy_21 : decode cX1_multiplyBy 21 = .ok (.if_icmp .ge 47, 3) := by decide +kernel
theorem dX1_multiplyBy_24 : decode cX1_multiplyBy 24 = .ok (.aload_n 0, 1) := by decide +kernel
theorem dX1_multiplyBy_25 : decode cX1_multiplyBy 25 = .ok (.getfield 11, 3) := by decide +kernel
theorem dX1_multiplyBy_28 : decode cX1_multiplyBy 28 = .ok (.iload 4, 2) := by decide +kernel
theorem dX1_multiplyBy_30 : decode cX1_multiplyBy 30 = .ok (.iaload, 1) := by decide +kernel
theorem dX1_multiplyBy_31 : decode cX1_multiplyBy 31 = .ok (.i2l, 1) := by decide +kernel
theorem dX1_multiplyBy_32 : decode cX1_multiplyBy 32 = .ok (.iload_n 1, 1) := by decide +kernel
theorem dX1_multiplyBy_33 : decode cX1_multiplyBy 33 = .ok (.i2l, 1) := by decide +kernel
theorem dX1_multiplyBy_34 : decode cX1_multiplyBy 34 = .ok (.lmul, 1) := by decide +kernel
theorem dX1_multiplyBy_35 : decode cX1_multiplyBy 35 = .ok (.lload_n 2, 1) := by decide +kernel
theorem dX1_multiplyBy_36 : decode cX1_multiplyBy 36 = .ok (.ladd, 1) := by decide +kernel
theorem dX1_multiplyBy_37 : decode cX1_multiplyBy 37 = .ok (.lstore 5, 2) := by decide +kernel
theorem dX1_multiplyBy_39 : decode cX1_multiplyBy 39 = .ok (.lload 5, 2) := by decide +kernel
theorem dX1_multiplyBy_41 : decode cX1_multiplyBy 41 = .ok (.ldc2_w 72, 3) := by decide +kernel
theorem dX1_multiplyBy_44 : decode cX1_multiplyBy 44 = .ok (.ldiv, 1) := by decide +kernel
theorem dX1_multiplyBy_45 : decode cX1_multiplyBy 45 = .ok (.lstore_n 2, 1) := by decide +kernel
theorem dX1_multiplyBy_46 : decode cX1_multiplyBy 46 = .ok (.aload_n 0, 1) := by decide +kernel
theorem dX1_multiplyBy_47 : decode cX1_multiplyBy 47 = .ok (.getfield 11, 3) := by decide +kernel
theorem dX1_multiplyBy_50 : decode cX1_multiplyBy 50 = .ok (.iload 4, 2) := by decide +kernel
theorem dX1_multiplyBy_52 : decode cX1_multiplyBy 52 = .ok (.lload 5, 2) := by decide +kernel
theorem dX1_multiplyBy_54 : decode cX1_multiplyBy 54 = .ok (.lload_n 2, 1) := by decide +kernel
theorem dX1_multiplyBy_55 : decode cX1_multiplyBy 55 = .ok (.ldc2_w 72, 3) := by decide +kernel
theorem dX1_multiplyBy_58 : decode cX1_multiplyBy 58 = .ok (.lmul, 1) := by decide +kernel
theorem dX1_multiplyBy_59 : decode cX1_multiplyBy 59 = .ok (.lsub, 1) := by decide +kernel
theorem dX1_multiplyBy_60 : decode cX1_multiplyBy 60 = .ok (.l2i, 1) := by decide +kernel
theorem dX1_multiplyBy_61 : decode cX1_multiplyBy 61 = .ok (.iastore, 1) := by decide +kernel
theorem dX1_multiplyBy_62 : decode cX1_multiplyBy 62 = .ok (.iinc 4 1, 3) := by decide +kernel
theorem dX1_multiplyBy_65 : decode cX1_multiplyBy 65 = .ok (.goto (-60), 3) := by decide +kernel
theorem dX1_multiplyBy_68 : decode cX1_multiplyBy 68 = .ok (.lload_n 2, 1) := by decide +kernel
theorem dX1_multiplyBy_69 : decode cX1_multiplyBy 69 = .ok (.lconst 0, 1) := by decide +kernel
theorem dX1_multiplyBy_70 : decode cX1_multiplyBy 70 = .ok (.lcmp, 1) := by decide +kernel
theorem dX1_multiplyBy_71 : decode cX1_multiplyBy 71 = .ok (.ifCond .le 9, 3) := by decide +kernel
theorem dX1_multiplyBy_74 : decode cX1_multiplyBy 74 = .ok (.aload_n 0, 1) := by decide +kernel
theorem dX1_multiplyBy_75 : decode cX1_multiplyBy 75 = .ok (.lload_n 2, 1) := by decide +kernel
theorem dX1_multiplyBy_76 : decode cX1_multiplyBy 76 = .ok (.l2i, 1) := by decide +kernel
theorem dX1_multiplyBy_77 : decode cX1_multiplyBy 77 = .ok (.invokevirtual 74, 3) := by decide +kernel
theorem dX1_multiplyBy_80 : decode cX1_multiplyBy 80 = .ok (.return_, 1) := by decide +kernel
set_option maxRecDepth 20000 in
theorem ggX1_spreadLimbs_J7_fill_53178 : GoodIn wsX1_spreadLimbs wsJ7_fill_53178 := goodIn_r _ [8] (by decide +kernel) (by decide +kernel)
set_option maxRecDepth 20000 in
theorem gX1_spreadLimbs_J7_fill_53178 : GoodIn wsX1_spreadLimbs (va_wsS RX1 81 yJ7_fill_53178 wsJ7_fill_53178) := goodIn_app (goodIn_of _ (by decide +kernel)) ggX1_spreadLimbs_J7_fill_53178
set_option maxRecDepth 20000 in
theorem ggX1_spreadLimbs_X1_spreadLimb : GoodIn wsX1_spreadLimbs wsX1_spreadLimb := goodIn_r _ [13, 1, 2, 14, 15, 16, 17, 18] (by decide +kernel) (by decide +kernel)
set_option maxRecDepth 20000 in
theorem gX1_spreadLimbs_X1_spreadLimb : GoodIn wsX1_spreadLimbs (wsV RX1 87 RX1 yX1_spreadLimb wsX1_spreadLimb) := goodIn_app (goodIn_of _ (by decide +kernel)) ggX1_spreadLimbs_X1_spreadLimb
theorem dX1_spreadLimbs_0 : decode cX1_spreadLimbs 0 = .ok (.aload_n 0, 1) := by decide +kernel
theorem dX1_spreadLimbs_1 : decode cX1_spreadLimbs 1 = .ok (.getfield 19, 3) := by decide +kernel
theorem dX1_spreadLimbs_4 : decode cX1_spreadLimbs 4 = .ok (.iconst 0, 1) := by decide +kernel
theorem dX1_spreadLimbs_5 : decode cX1_spreadLimbs 5 = .ok (.invokestatic 81, 3) := by decide +kernel
theorem dX1_spreadLimbs_8 : decode cX1_spreadLimbs 8 = .ok (.aload_n 0, 1) := by decide +kernel
theorem dX1_spreadLimbs_9 : decode cX1_spreadLimbs 9 = .ok (.iconst 0, 1) := by decide +kernel
theorem dX1_spreadLimbs_10 : decode cX1_spreadLimbs 10 = .ok (.putfield 22, 3) := by decide +kernel
theorem dX1_spreadLimbs_13 : decode cX1_spreadLimbs 13 = .ok (.iconst 0, 1) := by decide +kernel
theorem dX1_spreadLimbs_14 : decode cX1_spreadLimbs 14 = .ok (.istore_n 1, 1) := by decide +kernel
theorem dX1_spreadLimbs_15 : decode cX1_spreadLimbs 15 = .ok (.iload_n 1, 1) := by decide +kernel
theorem dX1_spreadLimbs_16 : decode cX1_spreadLimbs 16 = .ok (.aload_n 0, 1) := by decide +kernel
theorem dX1_spreadLimbs_17 : decode cX1_spreadLimbs 17 = .ok (.getfield 15, 3) := by decide +kernel
theorem dX1_spreadLimbs_20 : decode cX1_spreadLimbs 20 = .ok (.if_icmp .ge 32, 3) := by decide +kernel
theorem dX1_spreadLimbs_23 : decode cX1_spreadLimbs 23 = .ok (.iload_n 1, 1) := by decide +kernel
theorem dX1_spreadLimbs_24 : decode cX1_spreadLimbs 24 = .ok (.aload_n 0, 1) := by decide +kernel
theorem dX1_spreadLimbs_25 : decode cX1_spreadLimbs 25 = .ok (.getfield 11, 3) := by decide +kernel
theorem dX1_spreadLimbs_28 : decode cX1_spreadLimbs 28 = .ok (.arraylength, 1) := by decide +kernel
theorem dX1_spreadLimbs_29 : decode cX1_spreadLimbs 29 = .ok (.if_icmp .ge 23, 3) := by decide +kernel
theorem dX1_spreadLimbs_32 : decode cX1_spreadLimbs 32 = .ok (.aload_n 0, 1) := by decide +kernel
theorem dX1_spreadLimbs_33 : decode cX1_spreadLimbs 33 = .ok (.aload_n 0, 1) := by decide +kernel
theorem dX1_spreadLimbs_34 : decode cX1_spreadLimbs 34 = .ok (.getfield 11, 3) := by decide +kernel
theorem dX1_spreadLimbs_37 : decode cX1_spreadLimbs 37 = .ok (.iload_n 1, 1) := by decide +kernel
theorem dX1_spreadLimbs_38 : decode cX1_spreadLimbs 38 = .ok (.iaload, 1) := by decide +kernel
theorem dX1_spreadLimbs_39 : decode cX1_spreadLimbs 39 = .ok (.iload_n 1, 1) := by decide +kernel
theorem dX1_spreadLimbs_40 : decode cX1_spreadLimbs 40 = .ok (.bipush 9, 2) := by decide +kernel
theorem dX1_spreadLimbs_42 : decode cX1_spreadLimbs 42 = .ok (.imul, 1) := by decide +kernel
theorem dX1_spreadLimbs_43 : decode cX1_spreadLimbs 43 = .ok (.invokevirtual 87, 3) := by decide +kernel
theorem dX1_spreadLimbs_46 : decode cX1_spreadLimbs 46 = .ok (.iinc 1 1, 3) := by decide +kernel
theorem dX1_spreadLimbs_49 : decode cX1_spreadLimbs 49 = .ok (.goto (-34), 3) := by decide +kernel
theorem dX1_spreadLimbs_52 : decode cX1_spreadLimbs 52 = .ok (.return_, 1) := by decide +kernel
theorem dX1_spreadLimb_0 : decode cX1_spreadLimb 0 = .ok (.iload_n 1, 1) := by decide +kernel
theorem dX1_spreadLimb_1 : decode cX1_spreadLimb 1 = .ok (.istore_n 3, 1) := by decide +kernel
theorem dX1_spreadLimb_2 : decode cX1_spreadLimb 2 = .ok (.iload_n 2, 1) := by decide +kernel
theorem dX1_spreadLimb_3 : decode cX1_spreadLimb 3 = .ok (.istore 4, 2) := by decide +kernel
theorem dX1_spreadLimb_5 : decode cX1_spreadLimb 5 = .ok (.iload_n 3, 1) := by decide +kernel
theorem dX1_spreadLimb_6 : decode cX1_spreadLimb 6 = .ok (.ifCond .le 48, 3) := by decide +kernel
theorem dX1_spreadLimb_9 : decode cX1_spreadLimb 9 = .ok (.iload 4, 2) := by decide +kernel
theorem dX1_spreadLimb_11 : decode cX1_spreadLimb 11 = .ok (.ifCond .lt 43, 3) := by decide +kernel
theorem dX1_spreadLimb_14 : decode cX1_spreadLimb 14 = .ok (.iload 4, 2) := by decide +kernel
theorem dX1_spreadLimb_16 : decode cX1_spreadLimb 16 = .ok (.aload_n 0, 1) := by decide +kernel
theorem dX1_spreadLimb_17 : decode cX1_spreadLimb 17 = .ok (.getfield 19, 3) := by decide +kernel
theorem dX1_spreadLimb_20 : decode cX1_spreadLimb 20 = .ok (.arraylength, 1) := by decide +kernel
theorem dX1_spreadLimb_21 : decode cX1_spreadLimb 21 = .ok (.if_icmp .ge 33, 3) := by decide +kernel
theorem dX1_spreadLimb_24 : decode cX1_spreadLimb 24 = .ok (.aload_n 0, 1) := by decide +kernel
theorem dX1_spreadLimb_25 : decode cX1_spreadLimb 25 = .ok (.getfield 19, 3) := by decide +kernel
theorem dX1_spreadLimb_28 : decode cX1_spreadLimb 28 = .ok (.iload 4, 2) := by decide +kernel
theorem dX1_spreadLimb_30 : decode cX1_spreadLimb 30 = .ok (.iload_n 3, 1) := by decide +kernel
theorem dX1_spreadLimb_31 : decode cX1_spreadLimb 31 = .ok (.bipush 10, 2) := by decide +kernel
theorem dX1_spreadLimb_33 : decode cX1_spreadLimb 33 = .ok (.irem, 1) := by decide +kernel
theorem dX1_spreadLimb_34 : decode cX1_spreadLimb 34 = .ok (.iastore, 1) := by decide +kernel
theorem dX1_spreadLimb_35 : decode cX1_spreadLimb 35 = .ok (.iload_n 3, 1) := by decide +kernel
theorem dX1_spreadLimb_36 : decode cX1_spreadLimb 36 = .ok (.bipush 10, 2) := by decide +kernel
theorem dX1_spreadLimb_38 : decode cX1_spreadLimb 38 = .ok (.idiv, 1) := by decide +kernel
theorem dX1_spreadLimb_39 : decode cX1_spreadLimb 39 = .ok (.istore_n 3, 1) := by decide +kernel
theorem dX1_spreadLimb_40 : decode cX1_spreadLimb 40 = .ok (.aload_n 0, 1) := by decide +kernel
theorem dX1_spreadLimb_41 : decode cX1_spreadLimb 41 = .ok (.iload 4, 2) := by decide +kernel
theorem dX1_spreadLimb_43 : decode cX1_spreadLimb 43 = .ok (.iconst 1, 1) := by decide +kernel
theorem dX1_spreadLimb_44 : decode cX1_spreadLimb 44 = .ok (.iadd, 1) := by decide +kernel
theorem dX1_spreadLimb_45 : decode cX1_spreadLimb 45 = .ok (.putfield 22, 3) := by decide +kernel
theorem dX1_spreadLimb_48 : decode cX1_spreadLimb 48 = .ok (.iinc 4 1, 3) := by decide +kernel
theorem dX1_spreadLimb_51 : decode cX1_spreadLimb 51 = .ok (.goto (-46), 3) := by decide +kernel
theorem dX1_spreadLimb_54 : decode cX1_spreadLimb 54 = .ok (.return_, 1) := by decide +kernel
set_option maxRecDepth 20000 in
theorem ggX2_init_X1_init : GoodIn wsX2_init wsX1_init := goodIn_r _ [14, 15, 2, 3, 16, 17, 18, 19, 20, 21, 29, 30, 31, 32, 33] (by decide +kernel) (by decide +kernel)
set_option maxRecDepth 20000 in
theorem gX2_init_X1_init : GoodIn wsX2_init (wsX1_init) := ggX2_init_X1_init
set_option maxRecDepth 20000 in
theorem ggX2_init_X0_init : GoodIn wsX2_init wsX0_init := goodIn_r _ [24, 25, 2, 3, 26, 27, 28, 36, 37] (by decide +kernel) (by decide +kernel)
set_option maxRecDepth 20000 in
theorem gX2_init_X0_init : GoodIn wsX2_init (wsX0_init) := ggX2_init_X0_init
