theorem dX2_init_0 : decode cX2_init 0 = .ok (.aload_n 0, 1) := by decide +kernel
theorem dX2_init_1 : decode cX2_init 1 = .ok (.invokespecial 3, 3) := by decide +kernel
theorem dX2_init_4 : decode cX2_init 4 = .ok (.aload_n 0, 1) := by decide +kernel
theorem dX2_init_5 : decode cX2_init 5 = .ok (.new 9, 3) := by decide +kernel
theorem dX2_init_8 : decode cX2_init 8 = .ok (.dup, 1) := by decide +kernel
theorem dX2_init_9 : decode cX2_init 9 = .ok (.invokespecial 11, 3) := by decide +kernel
theorem dX2_init_12 : decode cX2_init 12 = .ok (.putfield 12, 3) := by decide +kernel
theorem dX2_init_15 : decode cX2_init 15 = .ok (.aload_n 0, 1) := by decide +kernel
theorem dX2_init_16 : decode cX2_init 16 = .ok (.new 16, 3) := by decide +kernel
theorem dX2_init_19 : decode cX2_init 19 = .ok (.dup, 1) := by decide +kernel
theorem dX2_init_20 : decode cX2_init 20 = .ok (.invokespecial 18, 3) := by decide +kernel
theorem dX2_init_23 : decode cX2_init 23 = .ok (.putfield 19, 3) := by decide +kernel
theorem dX2_init_26 : decode cX2_init 26 = .ok (.return_, 1) := by decide +kernel
set_option maxRecDepth 20000 in
theorem ggX2_make_X2_isForm : GoodIn wsX2_make wsX2_isForm := goodIn_r _ [6, 7, 8, 5, 9] (by decide +kernel) (by decide +kernel)
set_option maxRecDepth 20000 in
theorem gX2_make_X2_isForm : GoodIn wsX2_make (va_wsS RX2 23 yX2_isForm wsX2_isForm) := goodIn_app (goodIn_of _ (by decide +kernel)) ggX2_make_X2_isForm
set_option maxRecDepth 20000 in
theorem ggX2_make_X2_isNoNumber : GoodIn wsX2_make wsX2_isNoNumber := goodIn_r _ [12, 13, 14, 15, 5, 16, 17, 18, 19] (by decide +kernel) (by decide +kernel)
set_option maxRecDepth 20000 in
theorem gX2_make_X2_isNoNumber : GoodIn wsX2_make (va_wsS RX2 27 yX2_isNoNumber wsX2_isNoNumber) := goodIn_app (goodIn_of _ (by decide +kernel)) ggX2_make_X2_isNoNumber
set_option maxRecDepth 20000 in
theorem ggX2_make_X0_clear : GoodIn wsX2_make wsX0_clear := goodIn_r _ [24, 25, 163, 164] (by decide +kernel) (by decide +kernel)
set_option maxRecDepth 20000 in
theorem gX2_make_X0_clear : GoodIn wsX2_make (wsV RX2 31 RX0 yX0_clear wsX0_clear) := goodIn_app (goodIn_of _ (by decide +kernel)) ggX2_make_X0_clear
set_option maxRecDepth 20000 in
theorem ggX2_make_X2_putSign : GoodIn wsX2_make wsX2_putSign := goodIn_r _ [29, 1, 30, 31, 32, 23, 33, 25, 34, 35, 36, 5, 37, 161, 162, 163, 164] (by decide +kernel) (by decide +kernel)
set_option maxRecDepth 20000 in
theorem gX2_make_X2_putSign : GoodIn wsX2_make (wsV RX2 34 RX2 yX2_putSign wsX2_putSign) := goodIn_app (goodIn_of _ (by decide +kernel)) ggX2_make_X2_putSign
set_option maxRecDepth 20000 in
theorem ggX2_make_X0_length : GoodIn wsX2_make wsX0_length := goodIn_r _ [41, 25, 163, 164] (by decide +kernel) (by decide +kernel)
set_option maxRecDepth 20000 in
theorem gX2_make_X0_length : GoodIn wsX2_make (wsV RX2 38 RX0 yX0_length wsX0_length) := goodIn_app (goodIn_of _ (by decide +kernel)) ggX2_make_X0_length
set_option maxRecDepth 20000 in
theorem ggX2_make_X2_isFinite : GoodIn wsX2_make wsX2_isFinite := goodIn_r _ [16, 17, 18, 5, 19] (by decide +kernel) (by decide +kernel)
set_option maxRecDepth 20000 in
theorem gX2_make_X2_isFinite : GoodIn wsX2_make (va_wsS RX2 42 yX2_isFinite wsX2_isFinite) := goodIn_app (goodIn_of _ (by decide +kernel)) ggX2_make_X2_isFinite
set_option maxRecDepth 20000 in
theorem ggX2_make_X1_take : GoodIn wsX2_make wsX1_take := goodIn_r _ [46, 47, 48, 49, 50, 51, 52, 53, 54, 55, 56, 18, 5, 19, 57, 58, 59, 45, 60, 61, 62, 63, 64, 65, 66, 67, 68, 69, 70, 71, 72, 73, 74, 75, 76, 77, 78, 79, 80, 81, 82, 83, 84, 85, 86, 87, 88, 89, 90, 165, 166, 167, 168, 169] (by decide +kernel) (by decide +kernel)
set_option maxRecDepth 20000 in
theorem gX2_make_X1_take : GoodIn wsX2_make (wsV RX2 45 RX1 yX1_take wsX1_take) := goodIn_app (goodIn_of _ (by decide +kernel)) ggX2_make_X1_take
set_option maxRecDepth 20000 in
theorem ggX2_make_X2_has : GoodIn wsX2_make wsX2_has := goodIn_r _ [37] (by decide +kernel) (by decide +kernel)
set_option maxRecDepth 20000 in
theorem gX2_make_X2_has : GoodIn wsX2_make (va_wsS RX2 49 yX2_has wsX2_has) := goodIn_app (goodIn_of _ (by decide +kernel)) ggX2_make_X2_has
set_option maxRecDepth 20000 in
theorem ggX2_make_X2_putBody : GoodIn wsX2_make wsX2_putBody := goodIn_r _ [94, 95, 96, 97, 5, 98, 2, 99, 54, 51, 55, 100, 101, 102, 45, 103, 56, 104, 105, 106, 107, 108, 109, 110, 111, 81, 112, 113, 114, 115, 82, 116, 117, 118, 119, 53, 120, 121, 122, 123, 124, 125, 126, 127, 128, 129, 130, 131, 132, 133, 134, 135, 1, 30, 31, 32, 23, 33, 25, 34, 136, 137, 138, 139, 140, 141, 142, 143, 144, 145, 146, 147, 148, 50, 52, 161, 162, 165, 166, 167, 168, 169, 163, 164] (by decide +kernel) (by decide +kernel)
set_option maxRecDepth 20000 in
theorem gX2_make_X2_putBody : GoodIn wsX2_make (wsV RX2 53 RX2 yX2_putBody wsX2_putBody) := goodIn_app (goodIn_of _ (by decide +kernel)) ggX2_make_X2_putBody
set_option maxRecDepth 20000 in
theorem ggX2_make_X2_putInfinite : GoodIn wsX2_make wsX2_putInfinite := goodIn_r _ [152, 1, 30, 31, 32, 23, 33, 25, 34, 161, 162, 163, 164] (by decide +kernel) (by decide +kernel)
set_option maxRecDepth 20000 in
theorem gX2_make_X2_putInfinite : GoodIn wsX2_make (wsV RX2 57 RX2 yX2_putInfinite wsX2_putInfinite) := goodIn_app (goodIn_of _ (by decide +kernel)) ggX2_make_X2_putInfinite
set_option maxRecDepth 20000 in
theorem ggX2_make_X2_pad : GoodIn wsX2_make wsX2_pad := goodIn_r _ [156, 1, 35, 36, 5, 37, 38, 39, 40, 23, 41, 25, 157, 158, 159, 160, 34, 161, 162, 163, 164] (by decide +kernel) (by decide +kernel)
set_option maxRecDepth 20000 in
theorem gX2_make_X2_pad : GoodIn wsX2_make (wsV RX2 60 RX2 yX2_pad wsX2_pad) := goodIn_app (goodIn_of _ (by decide +kernel)) ggX2_make_X2_pad
theorem dX2_make_0 : decode cX2_make 0 = .ok (.iload_n 3, 1) := by decide +kernel
theorem dX2_make_1 : decode cX2_make 1 = .ok (.iload 4, 2) := by decide +kernel
theorem dX2_make_3 : decode cX2_make 3 = .ok (.iload 5, 2) := by decide +kernel
theorem dX2_make_5 : decode cX2_make 5 = .ok (.iload 6, 2) := by decide +kernel
theorem dX2_make_7 : decode cX2_make 7 = .ok (.invokestatic 23, 3) := by decide +kernel
theorem dX2_make_10 : decode cX2_make 10 = .ok (.ifCond .eq 10, 3) := by decide +kernel
theorem dX2_make_13 : decode cX2_make 13 = .ok (.lload_n 1, 1) := by decide +kernel
theorem dX2_make_14 : decode cX2_make 14 = .ok (.invokestatic 27, 3) := by decide +kernel
theorem dX2_make_17 : decode cX2_make 17 = .ok (.ifCond .eq 5, 3) := by decide +kernel
theorem dX2_make_20 : decode cX2_make 20 = .ok (.iconst (-1), 1) := by decide +kernel
theorem dX2_make_21 : decode cX2_make 21 = .ok (.ireturn, 1) := by decide +kernel
theorem dX2_make_22 : decode cX2_make 22 = .ok (.aload_n 0, 1) := by decide +kernel
theorem dX2_make_23 : decode cX2_make 23 = .ok (.getfield 19, 3) := by decide +kernel
theorem dX2_make_26 : decode cX2_make 26 = .ok (.invokevirtual 31, 3) := by decide +kernel
theorem dX2_make_29 : decode cX2_make 29 = .ok (.aload_n 0, 1) := by decide +kernel
theorem dX2_make_30 : decode cX2_make 30 = .ok (.lload_n 1, 1) := by decide +kernel
theorem dX2_make_31 : decode cX2_make 31 = .ok (.iload 6, 2) := by decide +kernel
theorem dX2_make_33 : decode cX2_make 33 = .ok (.invokevirtual 34, 3) := by decide +kernel
theorem dX2_make_36 : decode cX2_make 36 = .ok (.aload_n 0, 1) := by decide +kernel
theorem dX2_make_37 : decode cX2_make 37 = .ok (.getfield 19, 3) := by decide +kernel
theorem dX2_make_40 : decode cX2_make 40 = .ok (.invokevirtual 38, 3) := by decide +kernel
theorem dX2_make_43 : decode cX2_make 43 = .ok (.istore 7, 2) := by decide +kernel
theorem dX2_make_45 : decode cX2_make 45 = .ok (.lload_n 1, 1) := by decide +kernel
theorem dX2_make_46 : decode cX2_make 46 = .ok (.invokestatic 42, 3) := by decide +kernel
theorem dX2_make_49 : decode cX2_make 49 = .ok (.istore 8, 2) := by decide +kernel
theorem dX2_make_51 : decode cX2_make 51 = .ok (.iload 8, 2) := by decide +kernel
theorem dX2_make_53 : decode cX2_make 53 = .ok (.ifCond .eq 41, 3) := by decide +kernel
theorem dX2_make_56 : decode cX2_make 56 = .ok (.aload_n 0, 1) := by decide +kernel
theorem dX2_make_57 : decode cX2_make 57 = .ok (.getfield 12, 3) := by decide +kernel
theorem dX2_make_60 : decode cX2_make 60 = .ok (.lload_n 1, 1) := by decide +kernel
theorem dX2_make_61 : decode cX2_make 61 = .ok (.invokevirtual 45, 3) := by decide +kernel
theorem dX2_make_64 : decode cX2_make 64 = .ok (.aload_n 0, 1) := by decide +kernel
theorem dX2_make_65 : decode cX2_make 65 = .ok (.iload_n 3, 1) := by decide +kernel
theorem dX2_make_66 : decode cX2_make 66 = .ok (.iload 4, 2) := by decide +kernel
theorem dX2_make_68 : decode cX2_make 68 = .ok (.iload 4, 2) := by decide +kernel
theorem dX2_make_70 : decode cX2_make 70 = .ok (.ifCond .gt 13, 3) := by decide +kernel
theorem dX2_make_73 : decode cX2_make 73 = .ok (.iload 6, 2) := by decide +kernel
theorem dX2_make_75 : decode cX2_make 75 = .ok (.bipush 16, 2) := by decide +kernel
theorem dX2_make_77 : decode cX2_make 77 = .ok (.invokestatic 49, 3) := by decide +kernel
theorem dX2_make_80 : decode cX2_make 80 = .ok (.ifCond .eq 7, 3) := by decide +kernel
theorem dX2_make_83 : decode cX2_make 83 = .ok (.iconst 1, 1) := by decide +kernel
theorem dX2_make_84 : decode cX2_make 84 = .ok (.goto 4, 3) := by decide +kernel
theorem dX2_make_87 : decode cX2_make 87 = .ok (.iconst 0, 1) := by decide +kernel
theorem dX2_make_88 : decode cX2_make 88 = .ok (.invokevirtual 53, 3) := by decide +kernel
theorem dX2_make_91 : decode cX2_make 91 = .ok (.goto 7, 3) := by decide +kernel
theorem dX2_make_94 : decode cX2_make 94 = .ok (.aload_n 0, 1) := by decide +kernel
theorem dX2_make_95 : decode cX2_make 95 = .ok (.invokevirtual 57, 3) := by decide +kernel
theorem dX2_make_98 : decode cX2_make 98 = .ok (.aload_n 0, 1) := by decide +kernel
theorem dX2_make_99 : decode cX2_make 99 = .ok (.iload 7, 2) := by decide +kernel
theorem dX2_make_101 : decode cX2_make 101 = .ok (.iload 5, 2) := by decide +kernel
theorem dX2_make_103 : decode cX2_make 103 = .ok (.aload_n 0, 1) := by decide +kernel
theorem dX2_make_104 : decode cX2_make 104 = .ok (.getfield 19, 3) := by decide +kernel
theorem dX2_make_107 : decode cX2_make 107 = .ok (.invokevirtual 38, 3) := by decide +kernel
theorem dX2_make_110 : decode cX2_make 110 = .ok (.isub, 1) := by decide +kernel
theorem dX2_make_111 : decode cX2_make 111 = .ok (.iload 8, 2) := by decide +kernel
theorem dX2_make_113 : decode cX2_make 113 = .ok (.iload 6, 2) := by decide +kernel
theorem dX2_make_115 : decode cX2_make 115 = .ok (.invokevirtual 60, 3) := by decide +kernel
theorem dX2_make_118 : decode cX2_make 118 = .ok (.aload_n 0, 1) := by decide +kernel
theorem dX2_make_119 : decode cX2_make 119 = .ok (.getfield 19, 3) := by decide +kernel
theorem dX2_make_122 : decode cX2_make 122 = .ok (.invokevirtual 38, 3) := by decide +kernel
theorem dX2_make_125 : decode cX2_make 125 = .ok (.ireturn, 1) := by decide +kernel
set_option maxRecDepth 20000 in
theorem ggX2_at_X0_codeAt : GoodIn wsX2_at wsX0_codeAt := goodIn_r _ [6, 7, 8, 11, 12] (by decide +kernel) (by decide +kernel)
set_option maxRecDepth 20000 in
theorem gX2_at_X0_codeAt : GoodIn wsX2_at (wsV RX2 64 RX0 yX0_codeAt wsX0_codeAt) := goodIn_app (goodIn_of _ (by decide +kernel)) ggX2_at_X0_codeAt
theorem dX2_at_0 : decode cX2_at 0 = .ok (.aload_n 0, 1) := by decide +kernel
theorem dX2_at_1 : decode cX2_at 1 = .ok (.getfield 19, 3) := by decide +kernel
theorem dX2_at_4 : decode cX2_at 4 = .ok (.iload_n 1, 1) := by decide +kernel
theorem dX2_at_5 : decode cX2_at 5 = .ok (.invokevirtual 64, 3) := by decide +kernel
theorem dX2_at_8 : decode cX2_at 8 = .ok (.ireturn, 1) := by decide +kernel
set_option maxRecDepth 20000 in
theorem ggX2_digits_X2_isFinite : GoodIn wsX2_digits wsX2_isFinite := goodIn_r _ [5, 6, 7, 4, 8] (by decide +kernel) (by decide +kernel)
set_option maxRecDepth 20000 in
theorem gX2_digits_X2_isFinite : GoodIn wsX2_digits (va_wsS RX2 42 yX2_isFinite wsX2_isFinite) := goodIn_app (goodIn_of _ (by decide +kernel)) ggX2_digits_X2_isFinite
set_option maxRecDepth 20000 in
theorem ggX2_digits_X1_take : GoodIn wsX2_digits wsX1_take := goodIn_r _ [13, 14, 15, 16, 17, 18, 19, 20, 21, 22, 23, 7, 4, 8, 24, 25, 26, 12, 27, 28, 29, 30, 31, 32, 33, 34, 35, 36, 37, 38, 39, 40, 41, 42, 43, 44, 45, 46, 47, 48, 49, 50, 51, 52, 53, 54, 55, 56, 57, 72, 73, 74, 75, 76] (by decide +kernel) (by decide +kernel)
set_option maxRecDepth 20000 in
theorem gX2_digits_X1_take : GoodIn wsX2_digits (wsV RX2 45 RX1 yX1_take wsX1_take) := goodIn_app (goodIn_of _ (by decide +kernel)) ggX2_digits_X1_take
set_option maxRecDepth 20000 in
theorem ggX2_digits_X1_digitCount : GoodIn wsX2_digits wsX1_digitCount := goodIn_r _ [61, 49, 62, 63, 64, 12, 65, 66, 67, 68, 69, 48, 72, 73, 74, 75, 76] (by decide +kernel) (by decide +kernel)
set_option maxRecDepth 20000 in
theorem gX2_digits_X1_digitCount : GoodIn wsX2_digits (wsV RX2 68 RX1 yX1_digitCount wsX1_digitCount) := goodIn_app (goodIn_of _ (by decide +kernel)) ggX2_digits_X1_digitCount
theorem dX2_digits_0 : decode cX2_digits 0 = .ok (.lload_n 1, 1) := by decide +kernel
theorem dX2_digits_1 : decode cX2_digits 1 = .ok (.invokestatic 42, 3) := by decide +kernel
theorem dX2_digits_4 : decode cX2_digits 4 = .ok (.ifCond .ne 5, 3) := by decide +kernel
theorem dX2_digits_7 : decode cX2_digits 7 = .ok (.iconst (-1), 1) := by decide +kernel
theorem dX2_digits_8 : decode cX2_digits 8 = .ok (.ireturn, 1) := by decide +kernel
theorem dX2_digits_9 : decode cX2_digits 9 = .ok (.aload_n 0, 1) := by decide +kernel
theorem dX2_digits_10 : decode cX2_digits 10 = .ok (.getfield 12, 3) := by decide +kernel
theorem dX2_digits_13 : decode cX2_digits 13 = .ok (.lload_n 1, 1) := by decide +kernel
theorem dX2_digits_14 : decode cX2_digits 14 = .ok (.invokevirtual 45, 3) := by decide +kernel
theorem dX2_digits_17 : decode cX2_digits 17 = .ok (.aload_n 0, 1) := by decide +kernel
theorem dX2_digits_18 : decode cX2_digits 18 = .ok (.getfield 12, 3) := by decide +kernel
theorem dX2_digits_21 : decode cX2_digits 21 = .ok (.invokevirtual 68, 3) := by decide +kernel
theorem dX2_digits_24 : decode cX2_digits 24 = .ok (.ireturn, 1) := by decide +kernel
set_option maxRecDepth 20000 in
theorem ggX2_isForm_X2_isWithin : GoodIn wsX2_isForm wsX2_isWithin := goodIn_r _ [4] (by decide +kernel) (by decide +kernel)
set_option maxRecDepth 20000 in
theorem gX2_isForm_X2_isWithin : GoodIn wsX2_isForm (va_wsS RX2 71 yX2_isWithin wsX2_isWithin) := goodIn_app (goodIn_of _ (by decide +kernel)) ggX2_isForm_X2_isWithin
theorem dX2_isForm_0 : decode cX2_isForm 0 = .ok (.iload_n 0, 1) := by decide +kernel
theorem dX2_isForm_1 : decode cX2_isForm 1 = .ok (.iconst 2, 1) := by decide +kernel
theorem dX2_isForm_2 : decode cX2_isForm 2 = .ok (.invokestatic 71, 3) := by decide +kernel
theorem dX2_isForm_5 : decode cX2_isForm 5 = .ok (.ifCond .eq 35, 3) := by decide +kernel
theorem dX2_isForm_8 : decode cX2_isForm 8 = .ok (.iload_n 1, 1) := by decide +kernel
theorem dX2_isForm_9 : decode cX2_isForm 9 = .ok (.bipush 15, 2) := by decide +kernel
theorem dX2_isForm_11 : decode cX2_isForm 11 = .ok (.invokestatic 71, 3) := by decide +kernel
theorem dX2_isForm_14 : decode cX2_isForm 14 = .ok (.ifCond .eq 26, 3) := by decide +kernel
theorem dX2_isForm_17 : decode cX2_isForm 17 = .ok (.iload_n 2, 1) := by decide +kernel
theorem dX2_isForm_18 : decode cX2_isForm 18 = .ok (.sipush 400, 3) := by decide +kernel
theorem dX2_isForm_21 : decode cX2_isForm 21 = .ok (.invokestatic 71, 3) := by decide +kernel
theorem dX2_isForm_24 : decode cX2_isForm 24 = .ok (.ifCond .eq 16, 3) := by decide +kernel
theorem dX2_isForm_27 : decode cX2_isForm 27 = .ok (.iload_n 3, 1) := by decide +kernel
theorem dX2_isForm_28 : decode cX2_isForm 28 = .ok (.bipush 31, 2) := by decide +kernel
theorem dX2_isForm_30 : decode cX2_isForm 30 = .ok (.invokestatic 71, 3) := by decide +kernel
theorem dX2_isForm_33 : decode cX2_isForm 33 = .ok (.ifCond .eq 7, 3) := by decide +kernel
theorem dX2_isForm_36 : decode cX2_isForm 36 = .ok (.iconst 1, 1) := by decide +kernel
theorem dX2_isForm_37 : decode cX2_isForm 37 = .ok (.goto 4, 3) := by decide +kernel
theorem dX2_isForm_40 : decode cX2_isForm 40 = .ok (.iconst 0, 1) := by decide +kernel
theorem dX2_isForm_41 : decode cX2_isForm 41 = .ok (.ireturn, 1) := by decide +kernel
theorem dX2_isWithin_0 : decode cX2_isWithin 0 = .ok (.iload_n 0, 1) := by decide +kernel
theorem dX2_isWithin_1 : decode cX2_isWithin 1 = .ok (.ifCond .lt 12, 3) := by decide +kernel
theorem dX2_isWithin_4 : decode cX2_isWithin 4 = .ok (.iload_n 0, 1) := by decide +kernel
theorem dX2_isWithin_5 : decode cX2_isWithin 5 = .ok (.iload_n 1, 1) := by decide +kernel
theorem dX2_isWithin_6 : decode cX2_isWithin 6 = .ok (.if_icmp .gt 7, 3) := by decide +kernel
theorem dX2_isWithin_9 : decode cX2_isWithin 9 = .ok (.iconst 1, 1) := by decide +kernel
theorem dX2_isWithin_10 : decode cX2_isWithin 10 = .ok (.goto 4, 3) := by decide +kernel
theorem dX2_isWithin_13 : decode cX2_isWithin 13 = .ok (.iconst 0, 1) := by decide +kernel
theorem dX2_isWithin_14 : decode cX2_isWithin 14 = .ok (.ireturn, 1) := by decide +kernel
theorem dX2_has_0 : decode cX2_has 0 = .ok (.iload_n 0, 1) := by decide +kernel
theorem dX2_has_1 : decode cX2_has 1 = .ok (.iload_n 1, 1) := by decide +kernel
theorem dX2_has_2 : decode cX2_has 2 = .ok (.iand, 1) := by decide +kernel
theorem dX2_has_3 : decode cX2_has 3 = .ok (.ifCond .eq 7, 3) := by decide +kernel
theorem dX2_has_6 : decode cX2_has 6 = .ok (.iconst 1, 1) := by decide +kernel
theorem dX2_has_7 : decode cX2_has 7 = .ok (.goto 4, 3) := by decide +kernel
theorem dX2_has_10 : decode cX2_has 10 = .ok (.iconst 0, 1) := by decide +kernel
theorem dX2_has_11 : decode cX2_has 11 = .ok (.ireturn, 1) := by decide +kernel
theorem dX2_exponentField_0 : decode cX2_exponentField 0 = .ok (.lload_n 0, 1) := by decide +kernel
theorem dX2_exponentField_1 : decode cX2_exponentField 1 = .ok (.bipush 52, 2) := by decide +kernel
theorem dX2_exponentField_3 : decode cX2_exponentField 3 = .ok (.lushr, 1) := by decide +kernel
theorem dX2_exponentField_4 : decode cX2_exponentField 4 = .ok (.l2i, 1) := by decide +kernel
theorem dX2_exponentField_5 : decode cX2_exponentField 5 = .ok (.sipush 2047, 3) := by decide +kernel
theorem dX2_exponentField_8 : decode cX2_exponentField 8 = .ok (.iand, 1) := by decide +kernel
theorem dX2_exponentField_9 : decode cX2_exponentField 9 = .ok (.ireturn, 1) := by decide +kernel
set_option maxRecDepth 20000 in
theorem ggX2_isFinite_X2_exponentField : GoodIn wsX2_isFinite wsX2_exponentField := goodIn_r _ [4] (by decide +kernel) (by decide +kernel)
set_option maxRecDepth 20000 in
theorem gX2_isFinite_X2_exponentField : GoodIn wsX2_isFinite (va_wsS RX2 74 yX2_exponentField wsX2_exponentField) := goodIn_app (goodIn_of _ (by decide +kernel)) ggX2_isFinite_X2_exponentField
theorem dX2_isFinite_0 : decode cX2_isFinite 0 = .ok (.lload_n 0, 1) := by decide +kernel
theorem dX2_isFinite_1 : decode cX2_isFinite 1 = .ok (.invokestatic 74, 3) := by decide +kernel
theorem dX2_isFinite_4 : decode cX2_isFinite 4 = .ok (.sipush 2047, 3) := by decide +kernel
theorem dX2_isFinite_7 : decode cX2_isFinite 7 = .ok (.if_icmp .eq 7, 3) := by decide +kernel
theorem dX2_isFinite_10 : decode cX2_isFinite 10 = .ok (.iconst 1, 1) := by decide +kernel
theorem dX2_isFinite_11 : decode cX2_isFinite 11 = .ok (.goto 4, 3) := by decide +kernel
theorem dX2_isFinite_14 : decode cX2_isFinite 14 = .ok (.iconst 0, 1) := by decide +kernel
theorem dX2_isFinite_15 : decode cX2_isFinite 15 = .ok (.ireturn, 1) := by decide +kernel
set_option maxRecDepth 20000 in
theorem ggX2_isNoNumber_X2_isFinite : GoodIn wsX2_isNoNumber wsX2_isFinite := goodIn_r _ [5, 6, 7, 4, 8] (by decide +kernel) (by decide +kernel)
set_option maxRecDepth 20000 in
theorem gX2_isNoNumber_X2_isFinite : GoodIn wsX2_isNoNumber (va_wsS RX2 42 yX2_isFinite wsX2_isFinite) := goodIn_app (goodIn_of _ (by decide +kernel)) ggX2_isNoNumber_X2_isFinite
theorem dX2_isNoNumber_0 : decode cX2_isNoNumber 0 = .ok (.lload_n 0, 1) := by decide +kernel
theorem dX2_isNoNumber_1 : decode cX2_isNoNumber 1 = .ok (.invokestatic 42, 3) := by decide +kernel
theorem dX2_isNoNumber_4 : decode cX2_isNoNumber 4 = .ok (.ifCond .ne 17, 3) := by decide +kernel
theorem dX2_isNoNumber_7 : decode cX2_isNoNumber 7 = .ok (.lload_n 0, 1) := by decide +kernel
theorem dX2_isNoNumber_8 : decode cX2_isNoNumber 8 = .ok (.ldc2_w 78, 3) := by decide +kernel
theorem dX2_isNoNumber_11 : decode cX2_isNoNumber 11 = .ok (.land, 1) := by decide +kernel
theorem dX2_isNoNumber_12 : decode cX2_isNoNumber 12 = .ok (.lconst 0, 1) := by decide +kernel
theorem dX2_isNoNumber_13 : decode cX2_isNoNumber 13 = .ok (.lcmp, 1) := by decide +kernel
theorem dX2_isNoNumber_14 : decode cX2_isNoNumber 14 = .ok (.ifCond .eq 7, 3) := by decide +kernel
theorem dX2_isNoNumber_17 : decode cX2_isNoNumber 17 = .ok (.iconst 1, 1) := by decide +kernel
theorem dX2_isNoNumber_18 : decode cX2_isNoNumber 18 = .ok (.goto 4, 3) := by decide +kernel
theorem dX2_isNoNumber_21 : decode cX2_isNoNumber 21 = .ok (.iconst 0, 1) := by decide +kernel
theorem dX2_isNoNumber_22 : decode cX2_isNoNumber 22 = .ok (.ireturn, 1) := by decide +kernel
set_option maxRecDepth 20000 in
theorem ggX2_putSign_X0_put : GoodIn wsX2_putSign wsX0_put := goodIn_r _ [6, 7, 8, 15, 16] (by decide +kernel) (by decide +kernel)
set_option maxRecDepth 20000 in
theorem gX2_putSign_X0_put : GoodIn wsX2_putSign (wsV RX2 80 RX0 yX0_put wsX0_put) := goodIn_app (goodIn_of _ (by decide +kernel)) ggX2_putSign_X0_put
set_option maxRecDepth 20000 in
theorem ggX2_putSign_X2_has : GoodIn wsX2_putSign wsX2_has := goodIn_r _ [12] (by decide +kernel) (by decide +kernel)
set_option maxRecDepth 20000 in
theorem gX2_putSign_X2_has : GoodIn wsX2_putSign (va_wsS RX2 49 yX2_has wsX2_has) := goodIn_app (goodIn_of _ (by decide +kernel)) ggX2_putSign_X2_has
theorem dX2_putSign_0 : decode cX2_putSign 0 = .ok (.lload_n 1, 1) := by decide +kernel
theorem dX2_putSign_1 : decode cX2_putSign 1 = .ok (.lconst 0, 1) := by decide +kernel
theorem dX2_putSign_2 : decode cX2_putSign 2 = .ok (.lcmp, 1) := by decide +kernel
theorem dX2_putSign_3 : decode cX2_putSign 3 = .ok (.ifCond .ge 15, 3) := by decide +kernel
theorem dX2_putSign_6 : decode cX2_putSign 6 = .ok (.aload_n 0, 1) := by decide +kernel
theorem dX2_putSign_7 : decode cX2_putSign 7 = .ok (.getfield 19, 3) := by decide +kernel
theorem dX2_putSign_10 : decode cX2_putSign 10 = .ok (.bipush 45, 2) := by decide +kernel
theorem dX2_putSign_12 : decode cX2_putSign 12 = .ok (.invokevirtual 80, 3) := by decide +kernel
theorem dX2_putSign_15 : decode cX2_putSign 15 = .ok (.goto 40, 3) := by decide +kernel
theorem dX2_putSign_18 : decode cX2_putSign 18 = .ok (.iload_n 3, 1) := by decide +kernel
theorem dX2_putSign_19 : decode cX2_putSign 19 = .ok (.iconst 2, 1) := by decide +kernel
theorem dX2_putSign_20 : decode cX2_putSign 20 = .ok (.invokestatic 49, 3) := by decide +kernel
theorem dX2_putSign_23 : decode cX2_putSign 23 = .ok (.ifCond .eq 15, 3) := by decide +kernel
theorem dX2_putSign_26 : decode cX2_putSign 26 = .ok (.aload_n 0, 1) := by decide +kernel
theorem dX2_putSign_27 : decode cX2_putSign 27 = .ok (.getfield 19, 3) := by decide +kernel
theorem dX2_putSign_30 : decode cX2_putSign 30 = .ok (.bipush 43, 2) := by decide +kernel
theorem dX2_putSign_32 : decode cX2_putSign 32 = .ok (.invokevirtual 80, 3) := by decide +kernel
theorem dX2_putSign_35 : decode cX2_putSign 35 = .ok (.goto 20, 3) := by decide +kernel
theorem dX2_putSign_38 : decode cX2_putSign 38 = .ok (.iload_n 3, 1) := by decide +kernel
theorem dX2_putSign_39 : decode cX2_putSign 39 = .ok (.iconst 4, 1) := by decide +kernel
theorem dX2_putSign_40 : decode cX2_putSign 40 = .ok (.invokestatic 49, 3) := by decide +kernel
theorem dX2_putSign_43 : decode cX2_putSign 43 = .ok (.ifCond .eq 12, 3) := by decide +kernel
theorem dX2_putSign_46 : decode cX2_putSign 46 = .ok (.aload_n 0, 1) := by decide +kernel
theorem dX2_putSign_47 : decode cX2_putSign 47 = .ok (.getfield 19, 3) := by decide +kernel
theorem dX2_putSign_50 : decode cX2_putSign 50 = .ok (.bipush 32, 2) := by decide +kernel
theorem dX2_putSign_52 : decode cX2_putSign 52 = .ok (.invokevirtual 80, 3) := by decide +kernel
theorem dX2_putSign_55 : decode cX2_putSign 55 = .ok (.return_, 1) := by decide +kernel
set_option maxRecDepth 20000 in
theorem ggX2_putInfinite_X0_put : GoodIn wsX2_putInfinite wsX0_put := goodIn_r _ [6, 7, 8, 11, 12] (by decide +kernel) (by decide +kernel)
set_option maxRecDepth 20000 in
theorem gX2_putInfinite_X0_put : GoodIn wsX2_putInfinite (wsV RX2 80 RX0 yX0_put wsX0_put) := goodIn_app (goodIn_of _ (by decide +kernel)) ggX2_putInfinite_X0_put
theorem dX2_putInfinite_0 : decode cX2_putInfinite 0 = .ok (.aload_n 0, 1) := by decide +kernel
theorem dX2_putInfinite_1 : decode cX2_putInfinite 1 = .ok (.getfield 19, 3) := by decide +kernel
theorem dX2_putInfinite_4 : decode cX2_putInfinite 4 = .ok (.bipush 105, 2) := by decide +kernel
theorem dX2_putInfinite_6 : decode cX2_putInfinite 6 = .ok (.invokevirtual 80, 3) := by decide +kernel
theorem dX2_putInfinite_9 : decode cX2_putInfinite 9 = .ok (.aload_n 0, 1) := by decide +kernel
theorem dX2_putInfinite_10 : decode cX2_putInfinite 10 = .ok (.getfield 19, 3) := by decide +kernel
theorem dX2_putInfinite_13 : decode cX2_putInfinite 13 = .ok (.bipush 110, 2) := by decide +kernel
theorem dX2_putInfinite_15 : decode cX2_putInfinite 15 = .ok (.invokevirtual 80, 3) := by decide +kernel
theorem dX2_putInfinite_18 : decode cX2_putInfinite 18 = .ok (.aload_n 0, 1) := by decide +kernel
theorem dX2_putInfinite_19 : decode cX2_putInfinite 19 = .ok (.getfield 19, 3) := by decide +kernel
theorem dX2_putInfinite_22 : decode cX2_putInfinite 22 = .ok (.bipush 102, 2) := by decide +kernel
theorem dX2_putInfinite_24 : decode cX2_putInfinite 24 = .ok (.invokevirtual 80, 3) := by decide +kernel
theorem dX2_putInfinite_27 : decode cX2_putInfinite 27 = .ok (.return_, 1) := by decide +kernel
set_option maxRecDepth 20000 in
theorem ggX2_putBody_X2_putPlain : GoodIn wsX2_putBody wsX2_putPlain := goodIn_r _ [5, 6, 7, 8, 9, 10, 11, 12, 13, 14, 15, 16, 17, 18, 19, 20, 21, 22, 23, 24, 25, 26, 27, 28, 29, 30, 31, 32, 33, 34, 35, 36, 37, 38, 39, 40, 41, 42, 4, 43, 44, 45, 46, 47, 48, 49, 50, 51, 52, 53, 54, 55, 56, 57, 58, 59, 60, 61, 62, 63, 75, 76, 77, 78, 79, 80, 81, 82, 83] (by decide +kernel) (by decide +kernel)
set_option maxRecDepth 20000 in
theorem gX2_putBody_X2_putPlain : GoodIn wsX2_putBody (wsV RX2 84 RX2 yX2_putPlain wsX2_putPlain) := goodIn_app (goodIn_of _ (by decide +kernel)) ggX2_putBody_X2_putPlain
set_option maxRecDepth 20000 in
theorem ggX2_putBody_X2_putWithExponent : GoodIn wsX2_putBody wsX2_putWithExponent := goodIn_r _ [67, 6, 36, 37, 38, 14, 39, 30, 16, 11, 12, 13, 15, 17, 18, 19, 20, 21, 22, 23, 24, 25, 26, 27, 28, 29, 31, 32, 33, 34, 35, 8, 9, 10, 40, 41, 42, 4, 43, 44, 45, 46, 47, 48, 49, 50, 51, 52, 53, 54, 55, 56, 57, 58, 59, 60, 61, 62, 63, 68, 69, 70, 71, 72, 73, 74, 75, 76, 77, 78, 79, 80, 81, 82, 83] (by decide +kernel) (by decide +kernel)
set_option maxRecDepth 20000 in
theorem gX2_putBody_X2_putWithExponent : GoodIn wsX2_putBody (wsV RX2 88 RX2 yX2_putWithExponent wsX2_putWithExponent) := goodIn_app (goodIn_of _ (by decide +kernel)) ggX2_putBody_X2_putWithExponent
theorem dX2_putBody_0 : decode cX2_putBody 0 = .ok (.iload_n 1, 1) := by decide +kernel
theorem dX2_putBody_1 : decode cX2_putBody 1 = .ok (.ifCond .ne 12, 3) := by decide +kernel
theorem dX2_putBody_4 : decode cX2_putBody 4 = .ok (.aload_n 0, 1) := by decide +kernel
theorem dX2_putBody_5 : decode cX2_putBody 5 = .ok (.iload_n 2, 1) := by decide +kernel
theorem dX2_putBody_6 : decode cX2_putBody 6 = .ok (.iload_n 3, 1) := by decide +kernel
theorem dX2_putBody_7 : decode cX2_putBody 7 = .ok (.invokevirtual 84, 3) := by decide +kernel
theorem dX2_putBody_10 : decode cX2_putBody 10 = .ok (.goto 21, 3) := by decide +kernel
theorem dX2_putBody_13 : decode cX2_putBody 13 = .ok (.aload_n 0, 1) := by decide +kernel
theorem dX2_putBody_14 : decode cX2_putBody 14 = .ok (.iload_n 2, 1) := by decide +kernel
theorem dX2_putBody_15 : decode cX2_putBody 15 = .ok (.iload_n 3, 1) := by decide +kernel
theorem dX2_putBody_16 : decode cX2_putBody 16 = .ok (.iload_n 1, 1) := by decide +kernel
theorem dX2_putBody_17 : decode cX2_putBody 17 = .ok (.iconst 2, 1) := by decide +kernel
theorem dX2_putBody_18 : decode cX2_putBody 18 = .ok (.if_icmp .ne 8, 3) := by decide +kernel
theorem dX2_putBody_21 : decode cX2_putBody 21 = .ok (.bipush 69, 2) := by decide +kernel
theorem dX2_putBody_23 : decode cX2_putBody 23 = .ok (.goto 5, 3) := by decide +kernel
theorem dX2_putBody_26 : decode cX2_putBody 26 = .ok (.bipush 101, 2) := by decide +kernel
theorem dX2_putBody_28 : decode cX2_putBody 28 = .ok (.invokevirtual 88, 3) := by decide +kernel
theorem dX2_putBody_31 : decode cX2_putBody 31 = .ok (.return_, 1) := by decide +kernel
set_option maxRecDepth 20000 in
theorem ggX2_putPlain_X1_roundTo : GoodIn wsX2_putPlain wsX1_roundTo := goodIn_r _ [10, 11, 12, 13, 14, 9, 15, 16, 17, 18, 19, 20, 21, 22, 23, 24, 25, 26, 27, 28, 29, 30, 3, 4, 5, 62, 63, 64, 65, 66] (by decide +kernel) (by decide +kernel)
set_option maxRecDepth 20000 in
theorem gX2_putPlain_X1_roundTo : GoodIn wsX2_putPlain (wsV RX2 92 RX1 yX1_roundTo wsX1_roundTo) := goodIn_app (goodIn_of _ (by decide +kernel)) ggX2_putPlain_X1_roundTo
set_option maxRecDepth 20000 in
theorem ggX2_putPlain_X1_highestPower : GoodIn wsX2_putPlain wsX1_highestPower := goodIn_r _ [34, 25, 11, 62, 63, 64, 65, 66] (by decide +kernel) (by decide +kernel)
set_option maxRecDepth 20000 in
theorem gX2_putPlain_X1_highestPower : GoodIn wsX2_putPlain (wsV RX2 96 RX1 yX1_highestPower wsX1_highestPower) := goodIn_app (goodIn_of _ (by decide +kernel)) ggX2_putPlain_X1_highestPower
set_option maxRecDepth 20000 in
theorem ggX2_putPlain_X2_putDigits : GoodIn wsX2_putPlain wsX2_putDigits := goodIn_r _ [39, 1, 40, 41, 42, 9, 43, 11, 16, 17, 18, 19, 20, 44, 45, 46, 38, 47, 48, 49, 50, 51, 52, 53, 54, 55, 60, 61, 62, 63, 64, 65, 66, 67, 68] (by decide +kernel) (by decide +kernel)
set_option maxRecDepth 20000 in
theorem gX2_putPlain_X2_putDigits : GoodIn wsX2_putPlain (wsV RX2 105 RX2 yX2_putDigits wsX2_putDigits) := goodIn_app (goodIn_of _ (by decide +kernel)) ggX2_putPlain_X2_putDigits
set_option maxRecDepth 20000 in
theorem ggX2_putPlain_X2_putDecimals : GoodIn wsX2_putPlain wsX2_putDecimals := goodIn_r _ [59, 48, 49, 50, 51, 52, 53, 54, 55, 35, 36, 37, 38, 39, 1, 40, 41, 42, 9, 43, 11, 16, 17, 18, 19, 20, 44, 45, 46, 47, 60, 61, 67, 68, 62, 63, 64, 65, 66] (by decide +kernel) (by decide +kernel)
set_option maxRecDepth 20000 in
theorem gX2_putPlain_X2_putDecimals : GoodIn wsX2_putPlain (wsV RX2 109 RX2 yX2_putDecimals wsX2_putDecimals) := goodIn_app (goodIn_of _ (by decide +kernel)) ggX2_putPlain_X2_putDecimals
theorem dX2_putPlain_0 : decode cX2_putPlain 0 = .ok (.aload_n 0, 1) := by decide +kernel
theorem dX2_putPlain_1 : decode cX2_putPlain 1 = .ok (.getfield 12, 3) := by decide +kernel
theorem dX2_putPlain_4 : decode cX2_putPlain 4 = .ok (.iload_n 1, 1) := by decide +kernel
theorem dX2_putPlain_5 : decode cX2_putPlain 5 = .ok (.ineg, 1) := by decide +kernel
theorem dX2_putPlain_6 : decode cX2_putPlain 6 = .ok (.invokevirtual 92, 3) := by decide +kernel
theorem dX2_putPlain_9 : decode cX2_putPlain 9 = .ok (.aload_n 0, 1) := by decide +kernel
theorem dX2_putPlain_10 : decode cX2_putPlain 10 = .ok (.aload_n 0, 1) := by decide +kernel
theorem dX2_putPlain_11 : decode cX2_putPlain 11 = .ok (.getfield 12, 3) := by decide +kernel
theorem dX2_putPlain_14 : decode cX2_putPlain 14 = .ok (.invokevirtual 96, 3) := by decide +kernel
theorem dX2_putPlain_17 : decode cX2_putPlain 17 = .ok (.iconst 0, 1) := by decide +kernel
theorem dX2_putPlain_18 : decode cX2_putPlain 18 = .ok (.invokestatic 99, 3) := by decide +kernel
theorem dX2_putPlain_21 : decode cX2_putPlain 21 = .ok (.iconst 0, 1) := by decide +kernel
theorem dX2_putPlain_22 : decode cX2_putPlain 22 = .ok (.invokevirtual 105, 3) := by decide +kernel
theorem dX2_putPlain_25 : decode cX2_putPlain 25 = .ok (.aload_n 0, 1) := by decide +kernel
theorem dX2_putPlain_26 : decode cX2_putPlain 26 = .ok (.iconst 0, 1) := by decide +kernel
theorem dX2_putPlain_27 : decode cX2_putPlain 27 = .ok (.iload_n 1, 1) := by decide +kernel
theorem dX2_putPlain_28 : decode cX2_putPlain 28 = .ok (.iload_n 2, 1) := by decide +kernel
theorem dX2_putPlain_29 : decode cX2_putPlain 29 = .ok (.invokevirtual 109, 3) := by decide +kernel
theorem dX2_putPlain_32 : decode cX2_putPlain 32 = .ok (.return_, 1) := by decide +kernel
set_option maxRecDepth 20000 in
theorem ggX2_putWithExponent_X1_highestPower : GoodIn wsX2_putWithExponent wsX1_highestPower := goodIn_r _ [6, 7, 8, 68, 69, 70, 71, 72] (by decide +kernel) (by decide +kernel)
set_option maxRecDepth 20000 in
theorem gX2_putWithExponent_X1_highestPower : GoodIn wsX2_putWithExponent (wsV RX2 96 RX1 yX1_highestPower wsX1_highestPower) := goodIn_app (goodIn_of _ (by decide +kernel)) ggX2_putWithExponent_X1_highestPower
set_option maxRecDepth 20000 in
theorem ggX2_putWithExponent_X1_roundTo : GoodIn wsX2_putWithExponent wsX1_roundTo := goodIn_r _ [12, 8, 13, 14, 15, 5, 16, 17, 18, 19, 20, 21, 22, 23, 24, 25, 7, 26, 27, 28, 29, 30, 31, 32, 33, 68, 69, 70, 71, 72] (by decide +kernel) (by decide +kernel)
set_option maxRecDepth 20000 in
theorem gX2_putWithExponent_X1_roundTo : GoodIn wsX2_putWithExponent (wsV RX2 92 RX1 yX1_roundTo wsX1_roundTo) := goodIn_app (goodIn_of _ (by decide +kernel)) ggX2_putWithExponent_X1_roundTo
set_option maxRecDepth 20000 in
theorem ggX2_putWithExponent_X2_putDigits : GoodIn wsX2_putWithExponent wsX2_putDigits := goodIn_r _ [38, 1, 39, 40, 41, 5, 42, 8, 17, 18, 19, 20, 21, 43, 44, 45, 37, 46, 47, 48, 49, 50, 51, 52, 53, 54, 66, 67, 68, 69, 70, 71, 72, 73, 74] (by decide +kernel) (by decide +kernel)
set_option maxRecDepth 20000 in
theorem gX2_putWithExponent_X2_putDigits : GoodIn wsX2_putWithExponent (wsV RX2 105 RX2 yX2_putDigits wsX2_putDigits) := goodIn_app (goodIn_of _ (by decide +kernel)) ggX2_putWithExponent_X2_putDigits
set_option maxRecDepth 20000 in
theorem ggX2_putWithExponent_X2_putDecimals : GoodIn wsX2_putWithExponent wsX2_putDecimals := goodIn_r _ [58, 47, 48, 49, 50, 51, 52, 53, 54, 34, 35, 36, 37, 38, 1, 39, 40, 41, 5, 42, 8, 17, 18, 19, 20, 21, 43, 44, 45, 46, 66, 67, 73, 74, 68, 69, 70, 71, 72] (by decide +kernel) (by decide +kernel)
set_option maxRecDepth 20000 in
theorem gX2_putWithExponent_X2_putDecimals : GoodIn wsX2_putWithExponent (wsV RX2 109 RX2 yX2_putDecimals wsX2_putDecimals) := goodIn_app (goodIn_of _ (by decide +kernel)) ggX2_putWithExponent_X2_putDecimals
set_option maxRecDepth 20000 in
theorem ggX2_putWithExponent_X2_putExponent : GoodIn wsX2_putWithExponent wsX2_putExponent := goodIn_r _ [62, 63, 64, 32, 65, 47, 48, 49, 50, 51, 52, 53, 54, 43, 44, 45, 37, 46, 66, 67, 73, 74] (by decide +kernel) (by decide +kernel)
set_option maxRecDepth 20000 in
theorem gX2_putWithExponent_X2_putExponent : GoodIn wsX2_putWithExponent (wsV RX2 112 RX2 yX2_putExponent wsX2_putExponent) := goodIn_app (goodIn_of _ (by decide +kernel)) ggX2_putWithExponent_X2_putExponent
theorem dX2_putWithExponent_0 : decode cX2_putWithExponent 0 = .ok (.aload_n 0, 1) := by decide +kernel
theorem dX2_putWithExponent_1 : decode cX2_putWithExponent 1 = .ok (.getfield 12, 3) := by decide +kernel
theorem dX2_putWithExponent_4 : decode cX2_putWithExponent 4 = .ok (.aload_n 0, 1) := by decide +kernel
theorem dX2_putWithExponent_5 : decode cX2_putWithExponent 5 = .ok (.getfield 12, 3) := by decide +kernel
theorem dX2_putWithExponent_8 : decode cX2_putWithExponent 8 = .ok (.invokevirtual 96, 3) := by decide +kernel
theorem dX2_putWithExponent_11 : decode cX2_putWithExponent 11 = .ok (.iload_n 1, 1) := by decide +kernel
theorem dX2_putWithExponent_12 : decode cX2_putWithExponent 12 = .ok (.isub, 1) := by decide +kernel
theorem dX2_putWithExponent_13 : decode cX2_putWithExponent 13 = .ok (.invokevirtual 92, 3) := by decide +kernel
theorem dX2_putWithExponent_16 : decode cX2_putWithExponent 16 = .ok (.aload_n 0, 1) := by decide +kernel
theorem dX2_putWithExponent_17 : decode cX2_putWithExponent 17 = .ok (.getfield 12, 3) := by decide +kernel
theorem dX2_putWithExponent_20 : decode cX2_putWithExponent 20 = .ok (.invokevirtual 96, 3) := by decide +kernel
theorem dX2_putWithExponent_23 : decode cX2_putWithExponent 23 = .ok (.istore 4, 2) := by decide +kernel
theorem dX2_putWithExponent_25 : decode cX2_putWithExponent 25 = .ok (.aload_n 0, 1) := by decide +kernel
theorem dX2_putWithExponent_26 : decode cX2_putWithExponent 26 = .ok (.iload 4, 2) := by decide +kernel
theorem dX2_putWithExponent_28 : decode cX2_putWithExponent 28 = .ok (.iload 4, 2) := by decide +kernel
theorem dX2_putWithExponent_30 : decode cX2_putWithExponent 30 = .ok (.invokevirtual 105, 3) := by decide +kernel
theorem dX2_putWithExponent_33 : decode cX2_putWithExponent 33 = .ok (.aload_n 0, 1) := by decide +kernel
theorem dX2_putWithExponent_34 : decode cX2_putWithExponent 34 = .ok (.iload 4, 2) := by decide +kernel
theorem dX2_putWithExponent_36 : decode cX2_putWithExponent 36 = .ok (.iload_n 1, 1) := by decide +kernel
theorem dX2_putWithExponent_37 : decode cX2_putWithExponent 37 = .ok (.iload_n 2, 1) := by decide +kernel
theorem dX2_putWithExponent_38 : decode cX2_putWithExponent 38 = .ok (.invokevirtual 109, 3) := by decide +kernel
theorem dX2_putWithExponent_41 : decode cX2_putWithExponent 41 = .ok (.aload_n 0, 1) := by decide +kernel
theorem dX2_putWithExponent_42 : decode cX2_putWithExponent 42 = .ok (.iload 4, 2) := by decide +kernel
theorem dX2_putWithExponent_44 : decode cX2_putWithExponent 44 = .ok (.iload_n 3, 1) := by decide +kernel
theorem dX2_putWithExponent_45 : decode cX2_putWithExponent 45 = .ok (.invokevirtual 112, 3) := by decide +kernel
theorem dX2_putWithExponent_48 : decode cX2_putWithExponent 48 = .ok (.return_, 1) := by decide +kernel
set_option maxRecDepth 20000 in
theorem ggX2_putDecimals_X0_put : GoodIn wsX2_putDecimals wsX0_put := goodIn_r _ [6, 7, 8, 32, 33] (by decide +kernel) (by decide +kernel)
set_option maxRecDepth 20000 in
theorem gX2_putDecimals_X0_put : GoodIn wsX2_putDecimals (wsV RX2 80 RX0 yX0_put wsX0_put) := goodIn_app (goodIn_of _ (by decide +kernel)) ggX2_putDecimals_X0_put
set_option maxRecDepth 20000 in
theorem ggX2_putDecimals_X2_putDigits : GoodIn wsX2_putDecimals wsX2_putDigits := goodIn_r _ [13, 14, 15, 16, 17, 18, 19, 20, 21, 22, 23, 24, 25, 26, 27, 28, 12, 29, 1, 2, 3, 4, 5, 6, 7, 8, 30, 31, 34, 35, 36, 37, 38, 32, 33] (by decide +kernel) (by decide +kernel)
set_option maxRecDepth 20000 in
theorem gX2_putDecimals_X2_putDigits : GoodIn wsX2_putDecimals (wsV RX2 105 RX2 yX2_putDigits wsX2_putDigits) := goodIn_app (goodIn_of _ (by decide +kernel)) ggX2_putDecimals_X2_putDigits
theorem dX2_putDecimals_0 : decode cX2_putDecimals 0 = .ok (.iload_n 3, 1) := by decide +kernel
theorem dX2_putDecimals_1 : decode cX2_putDecimals 1 = .ok (.ifCond .eq 12, 3) := by decide +kernel
theorem dX2_putDecimals_4 : decode cX2_putDecimals 4 = .ok (.aload_n 0, 1) := by decide +kernel
theorem dX2_putDecimals_5 : decode cX2_putDecimals 5 = .ok (.getfield 19, 3) := by decide +kernel
theorem dX2_putDecimals_8 : decode cX2_putDecimals 8 = .ok (.bipush 46, 2) := by decide +kernel
theorem dX2_putDecimals_10 : decode cX2_putDecimals 10 = .ok (.invokevirtual 80, 3) := by decide +kernel
theorem dX2_putDecimals_13 : decode cX2_putDecimals 13 = .ok (.aload_n 0, 1) := by decide +kernel
theorem dX2_putDecimals_14 : decode cX2_putDecimals 14 = .ok (.iload_n 1, 1) := by decide +kernel
theorem dX2_putDecimals_15 : decode cX2_putDecimals 15 = .ok (.iconst 1, 1) := by decide +kernel
theorem dX2_putDecimals_16 : decode cX2_putDecimals 16 = .ok (.isub, 1) := by decide +kernel
theorem dX2_putDecimals_17 : decode cX2_putDecimals 17 = .ok (.iload_n 1, 1) := by decide +kernel
theorem dX2_putDecimals_18 : decode cX2_putDecimals 18 = .ok (.iload_n 2, 1) := by decide +kernel
theorem dX2_putDecimals_19 : decode cX2_putDecimals 19 = .ok (.isub, 1) := by decide +kernel
theorem dX2_putDecimals_20 : decode cX2_putDecimals 20 = .ok (.invokevirtual 105, 3) := by decide +kernel
theorem dX2_putDecimals_23 : decode cX2_putDecimals 23 = .ok (.return_, 1) := by decide +kernel
set_option maxRecDepth 20000 in
theorem ggX2_putDigits_X1_digitOf : GoodIn wsX2_putDigits wsX1_digitOf := goodIn_r _ [6, 7, 8, 9, 10, 5, 11, 12, 28, 29, 30, 31, 32] (by decide +kernel) (by decide +kernel)
set_option maxRecDepth 20000 in
theorem gX2_putDigits_X1_digitOf : GoodIn wsX2_putDigits (wsV RX2 116 RX1 yX1_digitOf wsX1_digitOf) := goodIn_app (goodIn_of _ (by decide +kernel)) ggX2_putDigits_X1_digitOf
set_option maxRecDepth 20000 in
theorem ggX2_putDigits_X2_putDigit : GoodIn wsX2_putDigits wsX2_putDigit := goodIn_r _ [17, 18, 19, 20, 21, 22, 23, 24, 25, 26, 27, 33, 34] (by decide +kernel) (by decide +kernel)
set_option maxRecDepth 20000 in
theorem gX2_putDigits_X2_putDigit : GoodIn wsX2_putDigits (wsV RX2 119 RX2 yX2_putDigit wsX2_putDigit) := goodIn_app (goodIn_of _ (by decide +kernel)) ggX2_putDigits_X2_putDigit
theorem dX2_putDigits_0 : decode cX2_putDigits 0 = .ok (.iload_n 1, 1) := by decide +kernel
theorem dX2_putDigits_1 : decode cX2_putDigits 1 = .ok (.istore_n 3, 1) := by decide +kernel
theorem dX2_putDigits_2 : decode cX2_putDigits 2 = .ok (.iload_n 3, 1) := by decide +kernel
theorem dX2_putDigits_3 : decode cX2_putDigits 3 = .ok (.iload_n 2, 1) := by decide +kernel
theorem dX2_putDigits_4 : decode cX2_putDigits 4 = .ok (.if_icmp .lt 21, 3) := by decide +kernel
theorem dX2_putDigits_7 : decode cX2_putDigits 7 = .ok (.aload_n 0, 1) := by decide +kernel
theorem dX2_putDigits_8 : decode cX2_putDigits 8 = .ok (.aload_n 0, 1) := by decide +kernel
theorem dX2_putDigits_9 : decode cX2_putDigits 9 = .ok (.getfield 12, 3) := by decide +kernel
theorem dX2_putDigits_12 : decode cX2_putDigits 12 = .ok (.iload_n 3, 1) := by decide +kernel
theorem dX2_putDigits_13 : decode cX2_putDigits 13 = .ok (.invokevirtual 116, 3) := by decide +kernel
theorem dX2_putDigits_16 : decode cX2_putDigits 16 = .ok (.invokevirtual 119, 3) := by decide +kernel
theorem dX2_putDigits_19 : decode cX2_putDigits 19 = .ok (.iinc 3 (-1), 3) := by decide +kernel
theorem dX2_putDigits_22 : decode cX2_putDigits 22 = .ok (.goto (-20), 3) := by decide +kernel
theorem dX2_putDigits_25 : decode cX2_putDigits 25 = .ok (.return_, 1) := by decide +kernel
set_option maxRecDepth 20000 in
theorem ggX2_putExponent_X0_put : GoodIn wsX2_putExponent wsX0_put := goodIn_r _ [10, 11, 12, 20, 21] (by decide +kernel) (by decide +kernel)
set_option maxRecDepth 20000 in
theorem gX2_putExponent_X0_put : GoodIn wsX2_putExponent (wsV RX2 80 RX0 yX0_put wsX0_put) := goodIn_app (goodIn_of _ (by decide +kernel)) ggX2_putExponent_X0_put
set_option maxRecDepth 20000 in
theorem ggX2_putExponent_X2_putDigit : GoodIn wsX2_putExponent wsX2_putDigit := goodIn_r _ [17, 5, 6, 7, 8, 9, 10, 11, 12, 18, 19, 20, 21] (by decide +kernel) (by decide +kernel)
set_option maxRecDepth 20000 in
theorem gX2_putExponent_X2_putDigit : GoodIn wsX2_putExponent (wsV RX2 119 RX2 yX2_putDigit wsX2_putDigit) := goodIn_app (goodIn_of _ (by decide +kernel)) ggX2_putExponent_X2_putDigit
theorem dX2_putExponent_0 : decode cX2_putExponent 0 = .ok (.iload_n 1, 1) := by decide +kernel
theorem dX2_putExponent_1 : decode cX2_putExponent 1 = .ok (.invokestatic 122, 3) := by decide +kernel
theorem dX2_putExponent_4 : decode cX2_putExponent 4 = .ok (.istore_n 3, 1) := by decide +kernel
theorem dX2_putExponent_5 : decode cX2_putExponent 5 = .ok (.aload_n 0, 1) := by decide +kernel
theorem dX2_putExponent_6 : decode cX2_putExponent 6 = .ok (.getfield 19, 3) := by decide +kernel
theorem dX2_putExponent_9 : decode cX2_putExponent 9 = .ok (.iload_n 2, 1) := by decide +kernel
theorem dX2_putExponent_10 : decode cX2_putExponent 10 = .ok (.invokevirtual 80, 3) := by decide +kernel
theorem dX2_putExponent_13 : decode cX2_putExponent 13 = .ok (.aload_n 0, 1) := by decide +kernel
theorem dX2_putExponent_14 : decode cX2_putExponent 14 = .ok (.getfield 19, 3) := by decide +kernel
theorem dX2_putExponent_17 : decode cX2_putExponent 17 = .ok (.iload_n 1, 1) := by decide +kernel
theorem dX2_putExponent_18 : decode cX2_putExponent 18 = .ok (.ifCond .ge 8, 3) := by decide +kernel
theorem dX2_putExponent_21 : decode cX2_putExponent 21 = .ok (.bipush 45, 2) := by decide +kernel
theorem dX2_putExponent_23 : decode cX2_putExponent 23 = .ok (.goto 5, 3) := by decide +kernel
theorem dX2_putExponent_26 : decode cX2_putExponent 26 = .ok (.bipush 43, 2) := by decide +kernel
theorem dX2_putExponent_28 : decode cX2_putExponent 28 = .ok (.invokevirtual 80, 3) := by decide +kernel
theorem dX2_putExponent_31 : decode cX2_putExponent 31 = .ok (.iload_n 3, 1) := by decide +kernel
theorem dX2_putExponent_32 : decode cX2_putExponent 32 = .ok (.bipush 100, 2) := by decide +kernel
theorem dX2_putExponent_34 : decode cX2_putExponent 34 = .ok (.if_icmp .lt 11, 3) := by decide +kernel
theorem dX2_putExponent_37 : decode cX2_putExponent 37 = .ok (.aload_n 0, 1) := by decide +kernel
theorem dX2_putExponent_38 : decode cX2_putExponent 38 = .ok (.iload_n 3, 1) := by decide +kernel
theorem dX2_putExponent_39 : decode cX2_putExponent 39 = .ok (.bipush 100, 2) := by decide +kernel
theorem dX2_putExponent_41 : decode cX2_putExponent 41 = .ok (.idiv, 1) := by decide +kernel
theorem dX2_putExponent_42 : decode cX2_putExponent 42 = .ok (.invokevirtual 119, 3) := by decide +kernel
theorem dX2_putExponent_45 : decode cX2_putExponent 45 = .ok (.aload_n 0, 1) := by decide +kernel
theorem dX2_putExponent_46 : decode cX2_putExponent 46 = .ok (.iload_n 3, 1) := by decide +kernel
theorem dX2_putExponent_47 : decode cX2_putExponent 47 = .ok (.bipush 10, 2) := by decide +kernel
theorem dX2_putExponent_49 : decode cX2_putExponent 49 = .ok (.idiv, 1) := by decide +kernel
theorem dX2_putExponent_50 : decode cX2_putExponent 50 = .ok (.bipush 10, 2) := by decide +kernel
theorem dX2_putExponent_52 : decode cX2_putExponent 52 = .ok (.irem, 1) := by decide +kernel
theorem dX2_putExponent_53 : decode cX2_putExponent 53 = .ok (.invokevirtual 119, 3) := by decide +kernel
theorem dX2_putExponent_56 : decode cX2_putExponent 56 = .ok (.aload_n 0, 1) := by decide +kernel
theorem dX2_putExponent_57 : decode cX2_putExponent 57 = .ok (.iload_n 3, 1) := by decide +kernel
theorem dX2_putExponent_58 : decode cX2_putExponent 58 = .ok (.bipush 10, 2) := by decide +kernel
theorem dX2_putExponent_60 : decode cX2_putExponent 60 = .ok (.irem, 1) := by decide +kernel
theorem dX2_putExponent_61 : decode cX2_putExponent 61 = .ok (.invokevirtual 119, 3) := by decide +kernel
theorem dX2_putExponent_64 : decode cX2_putExponent 64 = .ok (.return_, 1) := by decide +kernel
set_option maxRecDepth 20000 in
theorem ggX2_putDigit_X0_put : GoodIn wsX2_putDigit wsX0_put := goodIn_r _ [6, 7, 8, 11, 12] (by decide +kernel) (by decide +kernel)
set_option maxRecDepth 20000 in
theorem gX2_putDigit_X0_put : GoodIn wsX2_putDigit (wsV RX2 80 RX0 yX0_put wsX0_put) := goodIn_app (goodIn_of _ (by decide +kernel)) ggX2_putDigit_X0_put
theorem dX2_putDigit_0 : decode cX2_putDigit 0 = .ok (.aload_n 0, 1) := by decide +kernel
theorem dX2_putDigit_1 : decode cX2_putDigit 1 = .ok (.getfield 19, 3) := by decide +kernel
theorem dX2_putDigit_4 : decode cX2_putDigit 4 = .ok (.bipush 48, 2) := by decide +kernel
theorem dX2_putDigit_6 : decode cX2_putDigit 6 = .ok (.iload_n 1, 1) := by decide +kernel
theorem dX2_putDigit_7 : decode cX2_putDigit 7 = .ok (.iadd, 1) := by decide +kernel
theorem dX2_putDigit_8 : decode cX2_putDigit 8 = .ok (.i2c, 1) := by decide +kernel
theorem dX2_putDigit_9 : decode cX2_putDigit 9 = .ok (.invokevirtual 80, 3) := by decide +kernel
theorem dX2_putDigit_12 : decode cX2_putDigit 12 = .ok (.return_, 1) := by decide +kernel
set_option maxRecDepth 20000 in
theorem ggX2_pad_X2_has : GoodIn wsX2_pad wsX2_has := goodIn_r _ [5] (by decide +kernel) (by decide +kernel)
set_option maxRecDepth 20000 in
theorem gX2_pad_X2_has : GoodIn wsX2_pad (va_wsS RX2 49 yX2_has wsX2_has) := goodIn_app (goodIn_of _ (by decide +kernel)) ggX2_pad_X2_has
set_option maxRecDepth 20000 in
theorem ggX2_pad_X0_length : GoodIn wsX2_pad wsX0_length := goodIn_r _ [10, 11, 19, 20] (by decide +kernel) (by decide +kernel)
set_option maxRecDepth 20000 in
theorem gX2_pad_X0_length : GoodIn wsX2_pad (wsV RX2 38 RX0 yX0_length wsX0_length) := goodIn_app (goodIn_of _ (by decide +kernel)) ggX2_pad_X0_length
set_option maxRecDepth 20000 in
theorem ggX2_pad_X0_insert : GoodIn wsX2_pad wsX0_insert := goodIn_r _ [15, 16, 11, 19, 20] (by decide +kernel) (by decide +kernel)
set_option maxRecDepth 20000 in
theorem gX2_pad_X0_insert : GoodIn wsX2_pad (wsV RX2 125 RX0 yX0_insert wsX0_insert) := goodIn_app (goodIn_of _ (by decide +kernel)) ggX2_pad_X0_insert
theorem dX2_pad_0 : decode cX2_pad 0 = .ok (.iload 4, 2) := by decide +kernel
theorem dX2_pad_2 : decode cX2_pad 2 = .ok (.iconst 1, 1) := by decide +kernel
theorem dX2_pad_3 : decode cX2_pad 3 = .ok (.invokestatic 49, 3) := by decide +kernel
theorem dX2_pad_6 : decode cX2_pad 6 = .ok (.ifCond .eq 23, 3) := by decide +kernel
theorem dX2_pad_9 : decode cX2_pad 9 = .ok (.aload_n 0, 1) := by decide +kernel
theorem dX2_pad_10 : decode cX2_pad 10 = .ok (.getfield 19, 3) := by decide +kernel
theorem dX2_pad_13 : decode cX2_pad 13 = .ok (.aload_n 0, 1) := by decide +kernel
theorem dX2_pad_14 : decode cX2_pad 14 = .ok (.getfield 19, 3) := by decide +kernel
theorem dX2_pad_17 : decode cX2_pad 17 = .ok (.invokevirtual 38, 3) := by decide +kernel
theorem dX2_pad_20 : decode cX2_pad 20 = .ok (.iload_n 2, 1) := by decide +kernel
theorem dX2_pad_21 : decode cX2_pad 21 = .ok (.bipush 32, 2) := by decide +kernel
theorem dX2_pad_23 : decode cX2_pad 23 = .ok (.invokevirtual 125, 3) := by decide +kernel
theorem dX2_pad_26 : decode cX2_pad 26 = .ok (.goto 42, 3) := by decide +kernel
theorem dX2_pad_29 : decode cX2_pad 29 = .ok (.iload 4, 2) := by decide +kernel
theorem dX2_pad_31 : decode cX2_pad 31 = .ok (.bipush 8, 2) := by decide +kernel
theorem dX2_pad_33 : decode cX2_pad 33 = .ok (.invokestatic 49, 3) := by decide +kernel
theorem dX2_pad_36 : decode cX2_pad 36 = .ok (.ifCond .eq 21, 3) := by decide +kernel
theorem dX2_pad_39 : decode cX2_pad 39 = .ok (.iload_n 3, 1) := by decide +kernel
theorem dX2_pad_40 : decode cX2_pad 40 = .ok (.ifCond .eq 17, 3) := by decide +kernel
theorem dX2_pad_43 : decode cX2_pad 43 = .ok (.aload_n 0, 1) := by decide +kernel
theorem dX2_pad_44 : decode cX2_pad 44 = .ok (.getfield 19, 3) := by decide +kernel
theorem dX2_pad_47 : decode cX2_pad 47 = .ok (.iload_n 1, 1) := by decide +kernel
theorem dX2_pad_48 : decode cX2_pad 48 = .ok (.iload_n 2, 1) := by decide +kernel
theorem dX2_pad_49 : decode cX2_pad 49 = .ok (.bipush 48, 2) := by decide +kernel
theorem dX2_pad_51 : decode cX2_pad 51 = .ok (.invokevirtual 125, 3) := by decide +kernel
theorem dX2_pad_54 : decode cX2_pad 54 = .ok (.goto 14, 3) := by decide +kernel
theorem dX2_pad_57 : decode cX2_pad 57 = .ok (.aload_n 0, 1) := by decide +kernel
theorem dX2_pad_58 : decode cX2_pad 58 = .ok (.getfield 19, 3) := by decide +kernel
theorem dX2_pad_61 : decode cX2_pad 61 = .ok (.iconst 0, 1) := by decide +kernel
theorem dX2_pad_62 : decode cX2_pad 62 = .ok (.iload_n 2, 1) := by decide +kernel
theorem dX2_pad_63 : decode cX2_pad 63 = .ok (.bipush 32, 2) := by decide +kernel
theorem dX2_pad_65 : decode cX2_pad 65 = .ok (.invokevirtual 125, 3) := by decide +kernel
theorem dX2_pad_68 : decode cX2_pad 68 = .ok (.return_, 1) := by decide +kernel
