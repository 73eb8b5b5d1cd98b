set_option maxRecDepth 20000 in
theorem gX10_line_X8_addLine : GoodIn wsX10_line (wsV RX10 114 RX8 yX8_addLine wsX8_addLine) := goodIn_app (goodIn_of _ (by decide +kernel)) ggX10_line_X8_addLine
theorem dX10_line_0 : decode cX10_line 0 = .ok (.aload_n 0, 1) := by decide +kernel
theorem dX10_line_1 : decode cX10_line 1 = .ok (.iload_n 1, 1) := by decide +kernel
theorem dX10_line_2 : decode cX10_line 2 = .ok (.invokevirtual 102, 3) := by decide +kernel
theorem dX10_line_5 : decode cX10_line 5 = .ok (.astore_n 3, 1) := by decide +kernel
theorem dX10_line_6 : decode cX10_line 6 = .ok (.aload_n 3, 1) := by decide +kernel
theorem dX10_line_7 : decode cX10_line 7 = .ok (.ifnull 7, 3) := by decide +kernel
theorem dX10_line_10 : decode cX10_line 10 = .ok (.iload_n 2, 1) := by decide +kernel
theorem dX10_line_11 : decode cX10_line 11 = .ok (.ifCond .ge 5, 3) := by decide +kernel
theorem dX10_line_14 : decode cX10_line 14 = .ok (.iconst (-1), 1) := by decide +kernel
theorem dX10_line_15 : decode cX10_line 15 = .ok (.ireturn, 1) := by decide +kernel
theorem dX10_line_16 : decode cX10_line 16 = .ok (.iload_n 2, 1) := by decide +kernel
theorem dX10_line_17 : decode cX10_line 17 = .ok (.bipush 100, 2) := by decide +kernel
theorem dX10_line_19 : decode cX10_line 19 = .ok (.idiv, 1) := by decide +kernel
theorem dX10_line_20 : decode cX10_line 20 = .ok (.istore 4, 2) := by decide +kernel
theorem dX10_line_22 : decode cX10_line 22 = .ok (.iload_n 2, 1) := by decide +kernel
theorem dX10_line_23 : decode cX10_line 23 = .ok (.bipush 10, 2) := by decide +kernel
theorem dX10_line_25 : decode cX10_line 25 = .ok (.idiv, 1) := by decide +kernel
theorem dX10_line_26 : decode cX10_line 26 = .ok (.bipush 10, 2) := by decide +kernel
theorem dX10_line_28 : decode cX10_line 28 = .ok (.irem, 1) := by decide +kernel
theorem dX10_line_29 : decode cX10_line 29 = .ok (.istore 5, 2) := by decide +kernel
theorem dX10_line_31 : decode cX10_line 31 = .ok (.iload_n 2, 1) := by decide +kernel
theorem dX10_line_32 : decode cX10_line 32 = .ok (.bipush 10, 2) := by decide +kernel
theorem dX10_line_34 : decode cX10_line 34 = .ok (.irem, 1) := by decide +kernel
theorem dX10_line_35 : decode cX10_line 35 = .ok (.istore 6, 2) := by decide +kernel
theorem dX10_line_37 : decode cX10_line 37 = .ok (.iload 4, 2) := by decide +kernel
theorem dX10_line_39 : decode cX10_line 39 = .ok (.iload 5, 2) := by decide +kernel
theorem dX10_line_41 : decode cX10_line 41 = .ok (.iload 6, 2) := by decide +kernel
theorem dX10_line_43 : decode cX10_line 43 = .ok (.invokestatic 106, 3) := by decide +kernel
theorem dX10_line_46 : decode cX10_line 46 = .ok (.ifCond .ne 5, 3) := by decide +kernel
theorem dX10_line_49 : decode cX10_line 49 = .ok (.iconst (-1), 1) := by decide +kernel
theorem dX10_line_50 : decode cX10_line 50 = .ok (.ireturn, 1) := by decide +kernel
theorem dX10_line_51 : decode cX10_line 51 = .ok (.aload_n 3, 1) := by decide +kernel
theorem dX10_line_52 : decode cX10_line 52 = .ok (.invokevirtual 110, 3) := by decide +kernel
theorem dX10_line_55 : decode cX10_line 55 = .ok (.ifCond .eq 6, 3) := by decide +kernel
theorem dX10_line_58 : decode cX10_line 58 = .ok (.bipush (-3), 2) := by decide +kernel
theorem dX10_line_60 : decode cX10_line 60 = .ok (.ireturn, 1) := by decide +kernel
theorem dX10_line_61 : decode cX10_line 61 = .ok (.aload_n 3, 1) := by decide +kernel
theorem dX10_line_62 : decode cX10_line 62 = .ok (.iload 4, 2) := by decide +kernel
theorem dX10_line_64 : decode cX10_line 64 = .ok (.iload 5, 2) := by decide +kernel
theorem dX10_line_66 : decode cX10_line 66 = .ok (.iload 6, 2) := by decide +kernel
theorem dX10_line_68 : decode cX10_line 68 = .ok (.invokevirtual 114, 3) := by decide +kernel
theorem dX10_line_71 : decode cX10_line 71 = .ok (.ireturn, 1) := by decide +kernel
set_option maxRecDepth 20000 in
theorem ggX10_lines_X10_songAt : GoodIn wsX10_lines wsX10_songAt := goodIn_r _ [5, 6, 7, 8, 4, 9, 70, 71, 72, 73, 74, 75, 76, 77, 78, 79, 80, 81] rfl (by decide +kernel)
set_option maxRecDepth 20000 in
theorem gX10_lines_X10_songAt : GoodIn wsX10_lines (wsV RX10 102 RX10 yX10_songAt wsX10_songAt) := goodIn_app (goodIn_of _ (by decide +kernel)) ggX10_lines_X10_songAt
set_option maxRecDepth 20000 in
theorem ggX10_lines_X10_shelfAt : GoodIn wsX10_lines wsX10_shelfAt := goodIn_r _ [13, 14, 7, 8, 4, 9, 70, 71, 72, 73, 74, 75, 76, 77, 78, 79, 80, 81] rfl (by decide +kernel)
set_option maxRecDepth 20000 in
theorem gX10_lines_X10_shelfAt : GoodIn wsX10_lines (wsV RX10 118 RX10 yX10_shelfAt wsX10_shelfAt) := goodIn_app (goodIn_of _ (by decide +kernel)) ggX10_lines_X10_shelfAt
set_option maxRecDepth 20000 in
theorem ggX10_lines_X6_isEmpty : GoodIn wsX10_lines wsX6_isEmpty := goodIn_r _ [19, 20, 82, 83, 84, 85, 86] rfl (by decide +kernel)
set_option maxRecDepth 20000 in
theorem gX10_lines_X6_isEmpty : GoodIn wsX10_lines (wsV RX10 122 RX6 yX6_isEmpty wsX6_isEmpty) := goodIn_app (goodIn_of _ (by decide +kernel)) ggX10_lines_X6_isEmpty
set_option maxRecDepth 20000 in
theorem ggX10_lines_X6_isRowOfBytes : GoodIn wsX10_lines wsX6_isRowOfBytes := goodIn_r _ [24, 25, 26, 27, 28, 18, 29, 20, 82, 83, 84, 85, 86] rfl (by decide +kernel)
set_option maxRecDepth 20000 in
theorem gX10_lines_X6_isRowOfBytes : GoodIn wsX10_lines (wsV RX10 125 RX6 yX6_isRowOfBytes wsX6_isRowOfBytes) := goodIn_app (goodIn_of _ (by decide +kernel)) ggX10_lines_X6_isRowOfBytes
set_option maxRecDepth 20000 in
theorem ggX10_lines_X6_length : GoodIn wsX10_lines wsX6_length := goodIn_r _ [33, 34, 82, 83, 84, 85, 86] rfl (by decide +kernel)
set_option maxRecDepth 20000 in
theorem gX10_lines_X6_length : GoodIn wsX10_lines (wsV RX10 128 RX6 yX6_length wsX6_length) := goodIn_app (goodIn_of _ (by decide +kernel)) ggX10_lines_X6_length
set_option maxRecDepth 20000 in
theorem ggX10_lines_X6_isPlace : GoodIn wsX10_lines wsX6_isPlace := goodIn_r _ [38, 34, 82, 83, 84, 85, 86] rfl (by decide +kernel)
set_option maxRecDepth 20000 in
theorem gX10_lines_X6_isPlace : GoodIn wsX10_lines (wsV RX10 129 RX6 yX6_isPlace wsX6_isPlace) := goodIn_app (goodIn_of _ (by decide +kernel)) ggX10_lines_X6_isPlace
set_option maxRecDepth 20000 in
theorem ggX10_lines_X6_small : GoodIn wsX10_lines wsX6_small := goodIn_r _ [42, 43, 44, 45, 18, 46, 47, 82, 83, 84, 85, 86] rfl (by decide +kernel)
set_option maxRecDepth 20000 in
theorem gX10_lines_X6_small : GoodIn wsX10_lines (wsV RX10 133 RX6 yX6_small wsX6_small) := goodIn_app (goodIn_of _ (by decide +kernel)) ggX10_lines_X6_small
set_option maxRecDepth 20000 in
theorem ggX10_lines_X8_isFull : GoodIn wsX10_lines wsX8_isFull := goodIn_r _ [52, 53, 87, 88, 89, 90, 91] rfl (by decide +kernel)
set_option maxRecDepth 20000 in
theorem gX10_lines_X8_isFull : GoodIn wsX10_lines (wsV RX10 110 RX8 yX8_isFull wsX8_isFull) := goodIn_app (goodIn_of _ (by decide +kernel)) ggX10_lines_X8_isFull
set_option maxRecDepth 20000 in
theorem ggX10_lines_X8_mayBe : GoodIn wsX10_lines wsX8_mayBe := goodIn_r _ [56, 8, 4, 9] rfl (by decide +kernel)
set_option maxRecDepth 20000 in
theorem gX10_lines_X8_mayBe : GoodIn wsX10_lines (va_wsS RX10 106 yX8_mayBe wsX8_mayBe) := goodIn_app (goodIn_of _ (by decide +kernel)) ggX10_lines_X8_mayBe
set_option maxRecDepth 20000 in
theorem ggX10_lines_X8_addLine : GoodIn wsX10_lines wsX8_addLine := goodIn_r _ [60, 53, 61, 62, 63, 51, 64, 65, 66, 67, 68, 69, 87, 88, 89, 90, 91] rfl (by decide +kernel)
set_option maxRecDepth 20000 in
theorem gX10_lines_X8_addLine : GoodIn wsX10_lines (wsV RX10 114 RX8 yX8_addLine wsX8_addLine) := goodIn_app (goodIn_of _ (by decide +kernel)) ggX10_lines_X8_addLine
theorem dX10_lines_0 : decode cX10_lines 0 = .ok (.aload_n 0, 1) := by decide +kernel
theorem dX10_lines_1 : decode cX10_lines 1 = .ok (.iload_n 1, 1) := by decide +kernel
theorem dX10_lines_2 : decode cX10_lines 2 = .ok (.invokevirtual 102, 3) := by decide +kernel
theorem dX10_lines_5 : decode cX10_lines 5 = .ok (.astore 5, 2) := by decide +kernel
theorem dX10_lines_7 : decode cX10_lines 7 = .ok (.aload_n 0, 1) := by decide +kernel
theorem dX10_lines_8 : decode cX10_lines 8 = .ok (.iload_n 2, 1) := by decide +kernel
theorem dX10_lines_9 : decode cX10_lines 9 = .ok (.invokevirtual 118, 3) := by decide +kernel
theorem dX10_lines_12 : decode cX10_lines 12 = .ok (.astore 6, 2) := by decide +kernel
theorem dX10_lines_14 : decode cX10_lines 14 = .ok (.aload 5, 2) := by decide +kernel
theorem dX10_lines_16 : decode cX10_lines 16 = .ok (.ifnull 21, 3) := by decide +kernel
theorem dX10_lines_19 : decode cX10_lines 19 = .ok (.aload 6, 2) := by decide +kernel
theorem dX10_lines_21 : decode cX10_lines 21 = .ok (.ifnull 16, 3) := by decide +kernel
theorem dX10_lines_24 : decode cX10_lines 24 = .ok (.iload 4, 2) := by decide +kernel
theorem dX10_lines_26 : decode cX10_lines 26 = .ok (.iconst 1, 1) := by decide +kernel
theorem dX10_lines_27 : decode cX10_lines 27 = .ok (.if_icmp .lt 10, 3) := by decide +kernel
theorem dX10_lines_30 : decode cX10_lines 30 = .ok (.iload 4, 2) := by decide +kernel
theorem dX10_lines_32 : decode cX10_lines 32 = .ok (.bipush 12, 2) := by decide +kernel
theorem dX10_lines_34 : decode cX10_lines 34 = .ok (.if_icmp .le 5, 3) := by decide +kernel
theorem dX10_lines_37 : decode cX10_lines 37 = .ok (.iconst (-1), 1) := by decide +kernel
theorem dX10_lines_38 : decode cX10_lines 38 = .ok (.ireturn, 1) := by decide +kernel
theorem dX10_lines_39 : decode cX10_lines 39 = .ok (.aload 6, 2) := by decide +kernel
theorem dX10_lines_41 : decode cX10_lines 41 = .ok (.invokevirtual 122, 3) := by decide +kernel
theorem dX10_lines_44 : decode cX10_lines 44 = .ok (.ifCond .eq 5, 3) := by decide +kernel
theorem dX10_lines_47 : decode cX10_lines 47 = .ok (.iconst 0, 1) := by decide +kernel
theorem dX10_lines_48 : decode cX10_lines 48 = .ok (.ireturn, 1) := by decide +kernel
theorem dX10_lines_49 : decode cX10_lines 49 = .ok (.aload 6, 2) := by decide +kernel
theorem dX10_lines_51 : decode cX10_lines 51 = .ok (.invokevirtual 125, 3) := by decide +kernel
theorem dX10_lines_54 : decode cX10_lines 54 = .ok (.ifCond .ne 6, 3) := by decide +kernel
theorem dX10_lines_57 : decode cX10_lines 57 = .ok (.bipush (-12), 2) := by decide +kernel
theorem dX10_lines_59 : decode cX10_lines 59 = .ok (.ireturn, 1) := by decide +kernel
theorem dX10_lines_60 : decode cX10_lines 60 = .ok (.iload_n 3, 1) := by decide +kernel
theorem dX10_lines_61 : decode cX10_lines 61 = .ok (.ifCond .ge 5, 3) := by decide +kernel
theorem dX10_lines_64 : decode cX10_lines 64 = .ok (.iconst 0, 1) := by decide +kernel
theorem dX10_lines_65 : decode cX10_lines 65 = .ok (.ireturn, 1) := by decide +kernel
theorem dX10_lines_66 : decode cX10_lines 66 = .ok (.iconst 0, 1) := by decide +kernel
theorem dX10_lines_67 : decode cX10_lines 67 = .ok (.istore 7, 2) := by decide +kernel
theorem dX10_lines_69 : decode cX10_lines 69 = .ok (.iload 7, 2) := by decide +kernel
theorem dX10_lines_71 : decode cX10_lines 71 = .ok (.iload 4, 2) := by decide +kernel
theorem dX10_lines_73 : decode cX10_lines 73 = .ok (.if_icmp .ge 108, 3) := by decide +kernel
theorem dX10_lines_76 : decode cX10_lines 76 = .ok (.iload_n 3, 1) := by decide +kernel
theorem dX10_lines_77 : decode cX10_lines 77 = .ok (.aload 6, 2) := by decide +kernel
theorem dX10_lines_79 : decode cX10_lines 79 = .ok (.invokevirtual 128, 3) := by decide +kernel
theorem dX10_lines_82 : decode cX10_lines 82 = .ok (.if_icmp .ge 99, 3) := by decide +kernel
theorem dX10_lines_85 : decode cX10_lines 85 = .ok (.aload 6, 2) := by decide +kernel
theorem dX10_lines_87 : decode cX10_lines 87 = .ok (.iload_n 3, 1) := by decide +kernel
theorem dX10_lines_88 : decode cX10_lines 88 = .ok (.iconst 3, 1) := by decide +kernel
theorem dX10_lines_89 : decode cX10_lines 89 = .ok (.iload 7, 2) := by decide +kernel
theorem dX10_lines_91 : decode cX10_lines 91 = .ok (.imul, 1) := by decide +kernel
theorem dX10_lines_92 : decode cX10_lines 92 = .ok (.iadd, 1) := by decide +kernel
theorem dX10_lines_93 : decode cX10_lines 93 = .ok (.iconst 2, 1) := by decide +kernel
theorem dX10_lines_94 : decode cX10_lines 94 = .ok (.iadd, 1) := by decide +kernel
theorem dX10_lines_95 : decode cX10_lines 95 = .ok (.invokevirtual 129, 3) := by decide +kernel
theorem dX10_lines_98 : decode cX10_lines 98 = .ok (.ifCond .eq 83, 3) := by decide +kernel
theorem dX10_lines_101 : decode cX10_lines 101 = .ok (.iload_n 3, 1) := by decide +kernel
theorem dX10_lines_102 : decode cX10_lines 102 = .ok (.iconst 3, 1) := by decide +kernel
theorem dX10_lines_103 : decode cX10_lines 103 = .ok (.iload 7, 2) := by decide +kernel
theorem dX10_lines_105 : decode cX10_lines 105 = .ok (.imul, 1) := by decide +kernel
theorem dX10_lines_106 : decode cX10_lines 106 = .ok (.iadd, 1) := by decide +kernel
theorem dX10_lines_107 : decode cX10_lines 107 = .ok (.istore 8, 2) := by decide +kernel
theorem dX10_lines_109 : decode cX10_lines 109 = .ok (.aload 6, 2) := by decide +kernel
theorem dX10_lines_111 : decode cX10_lines 111 = .ok (.iload 8, 2) := by decide +kernel
theorem dX10_lines_113 : decode cX10_lines 113 = .ok (.invokevirtual 133, 3) := by decide +kernel
theorem dX10_lines_116 : decode cX10_lines 116 = .ok (.istore 9, 2) := by decide +kernel
theorem dX10_lines_118 : decode cX10_lines 118 = .ok (.aload 6, 2) := by decide +kernel
theorem dX10_lines_120 : decode cX10_lines 120 = .ok (.iload 8, 2) := by decide +kernel
theorem dX10_lines_122 : decode cX10_lines 122 = .ok (.iconst 1, 1) := by decide +kernel
theorem dX10_lines_123 : decode cX10_lines 123 = .ok (.iadd, 1) := by decide +kernel
theorem dX10_lines_124 : decode cX10_lines 124 = .ok (.invokevirtual 133, 3) := by decide +kernel
theorem dX10_lines_127 : decode cX10_lines 127 = .ok (.istore 10, 2) := by decide +kernel
theorem dX10_lines_129 : decode cX10_lines 129 = .ok (.aload 6, 2) := by decide +kernel
theorem dX10_lines_131 : decode cX10_lines 131 = .ok (.iload 8, 2) := by decide +kernel
theorem dX10_lines_133 : decode cX10_lines 133 = .ok (.iconst 2, 1) := by decide +kernel
theorem dX10_lines_134 : decode cX10_lines 134 = .ok (.iadd, 1) := by decide +kernel
theorem dX10_lines_135 : decode cX10_lines 135 = .ok (.invokevirtual 133, 3) := by decide +kernel
theorem dX10_lines_138 : decode cX10_lines 138 = .ok (.istore 11, 2) := by decide +kernel
theorem dX10_lines_140 : decode cX10_lines 140 = .ok (.aload 5, 2) := by decide +kernel
theorem dX10_lines_142 : decode cX10_lines 142 = .ok (.invokevirtual 110, 3) := by decide +kernel
theorem dX10_lines_145 : decode cX10_lines 145 = .ok (.ifCond .ne 36, 3) := by decide +kernel
theorem dX10_lines_148 : decode cX10_lines 148 = .ok (.iload 9, 2) := by decide +kernel
theorem dX10_lines_150 : decode cX10_lines 150 = .ok (.iload 10, 2) := by decide +kernel
theorem dX10_lines_152 : decode cX10_lines 152 = .ok (.iload 11, 2) := by decide +kernel
theorem dX10_lines_154 : decode cX10_lines 154 = .ok (.invokestatic 106, 3) := by decide +kernel
theorem dX10_lines_157 : decode cX10_lines 157 = .ok (.ifCond .ne 6, 3) := by decide +kernel
theorem dX10_lines_160 : decode cX10_lines 160 = .ok (.goto 21, 3) := by decide +kernel
theorem dX10_lines_163 : decode cX10_lines 163 = .ok (.aload 5, 2) := by decide +kernel
theorem dX10_lines_165 : decode cX10_lines 165 = .ok (.iload 9, 2) := by decide +kernel
theorem dX10_lines_167 : decode cX10_lines 167 = .ok (.iload 10, 2) := by decide +kernel
theorem dX10_lines_169 : decode cX10_lines 169 = .ok (.iload 11, 2) := by decide +kernel
theorem dX10_lines_171 : decode cX10_lines 171 = .ok (.invokevirtual 114, 3) := by decide +kernel
theorem dX10_lines_174 : decode cX10_lines 174 = .ok (.pop, 1) := by decide +kernel
theorem dX10_lines_175 : decode cX10_lines 175 = .ok (.iinc 7 1, 3) := by decide +kernel
theorem dX10_lines_178 : decode cX10_lines 178 = .ok (.goto (-109), 3) := by decide +kernel
theorem dX10_lines_181 : decode cX10_lines 181 = .ok (.iload 7, 2) := by decide +kernel
theorem dX10_lines_183 : decode cX10_lines 183 = .ok (.ireturn, 1) := by decide +kernel
set_option maxRecDepth 20000 in
theorem ggX10_has_X10_songWithLine : GoodIn wsX10_has wsX10_songWithLine := goodIn_r _ [5, 6, 7, 8, 4, 9, 10, 11, 12, 13, 14, 15, 16, 17, 18, 19, 20, 21, 22, 45, 46, 47, 48, 49, 50, 51, 52, 53, 54, 55, 56, 57, 58, 59, 60, 61] rfl (by decide +kernel)
set_option maxRecDepth 20000 in
theorem gX10_has_X10_songWithLine : GoodIn wsX10_has (wsV RX10 137 RX10 yX10_songWithLine wsX10_songWithLine) := goodIn_app (goodIn_of _ (by decide +kernel)) ggX10_has_X10_songWithLine
set_option maxRecDepth 20000 in
theorem ggX10_has_X10_isOf : GoodIn wsX10_has wsX10_isOf := goodIn_r _ [13] rfl (by decide +kernel)
set_option maxRecDepth 20000 in
theorem gX10_has_X10_isOf : GoodIn wsX10_has (va_wsS RX10 140 yX10_isOf wsX10_isOf) := goodIn_app (goodIn_of _ (by decide +kernel)) ggX10_has_X10_isOf
set_option maxRecDepth 20000 in
theorem ggX10_has_X10_lineOf : GoodIn wsX10_has wsX10_lineOf := goodIn_r _ [16] rfl (by decide +kernel)
set_option maxRecDepth 20000 in
theorem gX10_has_X10_lineOf : GoodIn wsX10_has (va_wsS RX10 144 yX10_lineOf wsX10_lineOf) := goodIn_app (goodIn_of _ (by decide +kernel)) ggX10_has_X10_lineOf
set_option maxRecDepth 20000 in
theorem ggX10_has_X8_bit : GoodIn wsX10_has wsX8_bit := goodIn_r _ [25] rfl (by decide +kernel)
set_option maxRecDepth 20000 in
theorem gX10_has_X8_bit : GoodIn wsX10_has (va_wsS RX10 147 yX8_bit wsX8_bit) := goodIn_app (goodIn_of _ (by decide +kernel)) ggX10_has_X8_bit
set_option maxRecDepth 20000 in
theorem ggX10_has_X8_isHad : GoodIn wsX10_has wsX8_isHad := goodIn_r _ [29, 30, 31, 32, 33, 34, 35, 36, 20, 37, 57, 58, 59, 60, 61] rfl (by decide +kernel)
set_option maxRecDepth 20000 in
theorem gX10_has_X8_isHad : GoodIn wsX10_has (wsV RX10 150 RX8 yX8_isHad wsX8_isHad) := goodIn_app (goodIn_of _ (by decide +kernel)) ggX10_has_X8_isHad
set_option maxRecDepth 20000 in
theorem ggX10_has_X8_setHad : GoodIn wsX10_has wsX8_setHad := goodIn_r _ [41, 30, 35, 36, 20, 37, 31, 32, 33, 34, 42, 43, 44, 57, 58, 59, 60, 61] rfl (by decide +kernel)
set_option maxRecDepth 20000 in
theorem gX10_has_X8_setHad : GoodIn wsX10_has (wsV RX10 153 RX8 yX8_setHad wsX8_setHad) := goodIn_app (goodIn_of _ (by decide +kernel)) ggX10_has_X8_setHad
theorem dX10_has_0 : decode cX10_has 0 = .ok (.aload_n 0, 1) := by decide +kernel
theorem dX10_has_1 : decode cX10_has 1 = .ok (.iload_n 2, 1) := by decide +kernel
theorem dX10_has_2 : decode cX10_has 2 = .ok (.invokevirtual 137, 3) := by decide +kernel
theorem dX10_has_5 : decode cX10_has 5 = .ok (.astore 5, 2) := by decide +kernel
theorem dX10_has_7 : decode cX10_has 7 = .ok (.aload 5, 2) := by decide +kernel
theorem dX10_has_9 : decode cX10_has 9 = .ok (.ifnull 28, 3) := by decide +kernel
theorem dX10_has_12 : decode cX10_has 12 = .ok (.iload_n 1, 1) := by decide +kernel
theorem dX10_has_13 : decode cX10_has 13 = .ok (.iconst 4, 1) := by decide +kernel
theorem dX10_has_14 : decode cX10_has 14 = .ok (.invokestatic 140, 3) := by decide +kernel
theorem dX10_has_17 : decode cX10_has 17 = .ok (.ifCond .eq 20, 3) := by decide +kernel
theorem dX10_has_20 : decode cX10_has 20 = .ok (.iload_n 3, 1) := by decide +kernel
theorem dX10_has_21 : decode cX10_has 21 = .ok (.iconst 2, 1) := by decide +kernel
theorem dX10_has_22 : decode cX10_has 22 = .ok (.invokestatic 140, 3) := by decide +kernel
theorem dX10_has_25 : decode cX10_has 25 = .ok (.ifCond .eq 12, 3) := by decide +kernel
theorem dX10_has_28 : decode cX10_has 28 = .ok (.iload 4, 2) := by decide +kernel
theorem dX10_has_30 : decode cX10_has 30 = .ok (.iconst 2, 1) := by decide +kernel
theorem dX10_has_31 : decode cX10_has 31 = .ok (.invokestatic 140, 3) := by decide +kernel
theorem dX10_has_34 : decode cX10_has 34 = .ok (.ifCond .ne 5, 3) := by decide +kernel
theorem dX10_has_37 : decode cX10_has 37 = .ok (.iconst (-1), 1) := by decide +kernel
theorem dX10_has_38 : decode cX10_has 38 = .ok (.ireturn, 1) := by decide +kernel
theorem dX10_has_39 : decode cX10_has 39 = .ok (.iload_n 1, 1) := by decide +kernel
theorem dX10_has_40 : decode cX10_has 40 = .ok (.iload_n 2, 1) := by decide +kernel
theorem dX10_has_41 : decode cX10_has 41 = .ok (.invokestatic 144, 3) := by decide +kernel
theorem dX10_has_44 : decode cX10_has 44 = .ok (.iload_n 3, 1) := by decide +kernel
theorem dX10_has_45 : decode cX10_has 45 = .ok (.invokestatic 147, 3) := by decide +kernel
theorem dX10_has_48 : decode cX10_has 48 = .ok (.istore 6, 2) := by decide +kernel
theorem dX10_has_50 : decode cX10_has 50 = .ok (.aload 5, 2) := by decide +kernel
theorem dX10_has_52 : decode cX10_has 52 = .ok (.iload 6, 2) := by decide +kernel
theorem dX10_has_54 : decode cX10_has 54 = .ok (.invokevirtual 150, 3) := by decide +kernel
theorem dX10_has_57 : decode cX10_has 57 = .ok (.ifCond .eq 7, 3) := by decide +kernel
theorem dX10_has_60 : decode cX10_has 60 = .ok (.iconst 1, 1) := by decide +kernel
theorem dX10_has_61 : decode cX10_has 61 = .ok (.goto 4, 3) := by decide +kernel
theorem dX10_has_64 : decode cX10_has 64 = .ok (.iconst 0, 1) := by decide +kernel
theorem dX10_has_65 : decode cX10_has 65 = .ok (.istore 7, 2) := by decide +kernel
theorem dX10_has_67 : decode cX10_has 67 = .ok (.aload 5, 2) := by decide +kernel
theorem dX10_has_69 : decode cX10_has 69 = .ok (.iload 6, 2) := by decide +kernel
theorem dX10_has_71 : decode cX10_has 71 = .ok (.iload 4, 2) := by decide +kernel
theorem dX10_has_73 : decode cX10_has 73 = .ok (.iconst 1, 1) := by decide +kernel
theorem dX10_has_74 : decode cX10_has 74 = .ok (.if_icmp .ne 7, 3) := by decide +kernel
theorem dX10_has_77 : decode cX10_has 77 = .ok (.iconst 1, 1) := by decide +kernel
theorem dX10_has_78 : decode cX10_has 78 = .ok (.goto 4, 3) := by decide +kernel
theorem dX10_has_81 : decode cX10_has 81 = .ok (.iconst 0, 1) := by decide +kernel
theorem dX10_has_82 : decode cX10_has 82 = .ok (.invokevirtual 153, 3) := by decide +kernel
theorem dX10_has_85 : decode cX10_has 85 = .ok (.iload 7, 2) := by decide +kernel
theorem dX10_has_87 : decode cX10_has 87 = .ok (.ireturn, 1) := by decide +kernel
set_option maxRecDepth 20000 in
theorem ggX10_mend_X10_isMendable : GoodIn wsX10_mend wsX10_isMendable := goodIn_r _ [6, 7, 8, 9, 5, 10, 11, 12, 13, 14, 15, 16, 17, 18, 19, 20, 21, 22, 23, 24, 25, 26, 27, 80, 81, 82, 83, 84, 85, 86, 87, 88, 89, 90, 91, 92, 93, 94, 95, 96] rfl (by decide +kernel)
set_option maxRecDepth 20000 in
theorem gX10_mend_X10_isMendable : GoodIn wsX10_mend (wsV RX10 157 RX10 yX10_isMendable wsX10_isMendable) := goodIn_app (goodIn_of _ (by decide +kernel)) ggX10_mend_X10_isMendable
set_option maxRecDepth 20000 in
theorem ggX10_mend_X10_numbersFor : GoodIn wsX10_mend wsX10_numbersFor := goodIn_r _ [30] rfl (by decide +kernel)
set_option maxRecDepth 20000 in
theorem gX10_mend_X10_numbersFor : GoodIn wsX10_mend (va_wsS RX10 160 yX10_numbersFor wsX10_numbersFor) := goodIn_app (goodIn_of _ (by decide +kernel)) ggX10_mend_X10_numbersFor
set_option maxRecDepth 20000 in
theorem ggX10_mend_X10_isOf : GoodIn wsX10_mend wsX10_isOf := goodIn_r _ [18] rfl (by decide +kernel)
set_option maxRecDepth 20000 in
theorem gX10_mend_X10_isOf : GoodIn wsX10_mend (va_wsS RX10 140 yX10_isOf wsX10_isOf) := goodIn_app (goodIn_of _ (by decide +kernel)) ggX10_mend_X10_isOf
set_option maxRecDepth 20000 in
theorem ggX10_mend_X10_told : GoodIn wsX10_mend wsX10_told := goodIn_r _ [34, 35, 36, 37, 38, 39, 40, 41, 7, 8, 9, 5, 10, 11, 12, 13, 14, 15, 16, 17, 18, 19, 20, 21, 22, 23, 24, 25, 26, 27, 42, 43, 44, 45, 46, 47, 80, 81, 82, 83, 84, 85, 86, 87, 88, 89, 90, 91, 97, 98, 99, 92, 93, 94, 95, 96] rfl (by decide +kernel)
set_option maxRecDepth 20000 in
theorem gX10_mend_X10_told : GoodIn wsX10_mend (wsV RX10 163 RX10 yX10_told wsX10_told) := goodIn_app (goodIn_of _ (by decide +kernel)) ggX10_mend_X10_told
set_option maxRecDepth 20000 in
theorem ggX10_mend_X2_add : GoodIn wsX10_mend wsX2_add := goodIn_r _ [52, 53, 54, 55, 56, 57, 58, 59, 60, 61, 51, 62, 63, 64, 65, 66, 67, 68, 40, 69, 100, 101, 102, 103, 104, 105] rfl (by decide +kernel)
set_option maxRecDepth 20000 in
theorem gX10_mend_X2_add : GoodIn wsX10_mend (wsV RX10 167 RX2 yX2_add wsX2_add) := goodIn_app (goodIn_of _ (by decide +kernel)) ggX10_mend_X2_add
set_option maxRecDepth 20000 in
theorem ggX10_mend_X10_become : GoodIn wsX10_mend wsX10_become := goodIn_r _ [73, 35, 36, 37, 74, 68, 40, 69, 7, 8, 9, 5, 10, 11, 12, 13, 14, 15, 16, 17, 18, 19, 20, 21, 22, 23, 24, 25, 26, 27, 75, 76, 77, 78, 46, 79, 80, 81, 82, 83, 84, 85, 86, 87, 88, 89, 90, 91, 97, 98, 99, 92, 93, 94, 95, 96] rfl (by decide +kernel)
set_option maxRecDepth 20000 in
theorem gX10_mend_X10_become : GoodIn wsX10_mend (wsV RX10 171 RX10 yX10_become wsX10_become) := goodIn_app (goodIn_of _ (by decide +kernel)) ggX10_mend_X10_become
theorem dX10_mend_0 : decode cX10_mend 0 = .ok (.aload_n 0, 1) := by decide +kernel
theorem dX10_mend_1 : decode cX10_mend 1 = .ok (.iload_n 1, 1) := by decide +kernel
theorem dX10_mend_2 : decode cX10_mend 2 = .ok (.iload_n 2, 1) := by decide +kernel
theorem dX10_mend_3 : decode cX10_mend 3 = .ok (.invokevirtual 157, 3) := by decide +kernel
theorem dX10_mend_6 : decode cX10_mend 6 = .ok (.ifCond .eq 14, 3) := by decide +kernel
theorem dX10_mend_9 : decode cX10_mend 9 = .ok (.iload_n 3, 1) := by decide +kernel
theorem dX10_mend_10 : decode cX10_mend 10 = .ok (.iload_n 2, 1) := by decide +kernel
theorem dX10_mend_11 : decode cX10_mend 11 = .ok (.invokestatic 160, 3) := by decide +kernel
theorem dX10_mend_14 : decode cX10_mend 14 = .ok (.invokestatic 140, 3) := by decide +kernel
theorem dX10_mend_17 : decode cX10_mend 17 = .ok (.ifCond .ne 5, 3) := by decide +kernel
theorem dX10_mend_20 : decode cX10_mend 20 = .ok (.iconst (-1), 1) := by decide +kernel
theorem dX10_mend_21 : decode cX10_mend 21 = .ok (.ireturn, 1) := by decide +kernel
theorem dX10_mend_22 : decode cX10_mend 22 = .ok (.aload_n 0, 1) := by decide +kernel
theorem dX10_mend_23 : decode cX10_mend 23 = .ok (.iload_n 1, 1) := by decide +kernel
theorem dX10_mend_24 : decode cX10_mend 24 = .ok (.iload_n 2, 1) := by decide +kernel
theorem dX10_mend_25 : decode cX10_mend 25 = .ok (.invokevirtual 163, 3) := by decide +kernel
theorem dX10_mend_28 : decode cX10_mend 28 = .ok (.istore 4, 2) := by decide +kernel
theorem dX10_mend_30 : decode cX10_mend 30 = .ok (.iload_n 3, 1) := by decide +kernel
theorem dX10_mend_31 : decode cX10_mend 31 = .ok (.iload 4, 2) := by decide +kernel
theorem dX10_mend_33 : decode cX10_mend 33 = .ok (.if_icmp .eq 22, 3) := by decide +kernel
theorem dX10_mend_36 : decode cX10_mend 36 = .ok (.aload_n 0, 1) := by decide +kernel
theorem dX10_mend_37 : decode cX10_mend 37 = .ok (.getfield 18, 3) := by decide +kernel
theorem dX10_mend_40 : decode cX10_mend 40 = .ok (.iload_n 1, 1) := by decide +kernel
theorem dX10_mend_41 : decode cX10_mend 41 = .ok (.iload_n 2, 1) := by decide +kernel
theorem dX10_mend_42 : decode cX10_mend 42 = .ok (.iload 4, 2) := by decide +kernel
theorem dX10_mend_44 : decode cX10_mend 44 = .ok (.iload_n 3, 1) := by decide +kernel
theorem dX10_mend_45 : decode cX10_mend 45 = .ok (.invokevirtual 167, 3) := by decide +kernel
theorem dX10_mend_48 : decode cX10_mend 48 = .ok (.aload_n 0, 1) := by decide +kernel
theorem dX10_mend_49 : decode cX10_mend 49 = .ok (.iload_n 1, 1) := by decide +kernel
theorem dX10_mend_50 : decode cX10_mend 50 = .ok (.iload_n 2, 1) := by decide +kernel
theorem dX10_mend_51 : decode cX10_mend 51 = .ok (.iload_n 3, 1) := by decide +kernel
theorem dX10_mend_52 : decode cX10_mend 52 = .ok (.invokevirtual 171, 3) := by decide +kernel
theorem dX10_mend_55 : decode cX10_mend 55 = .ok (.iload 4, 2) := by decide +kernel
theorem dX10_mend_57 : decode cX10_mend 57 = .ok (.ireturn, 1) := by decide +kernel
set_option maxRecDepth 20000 in
theorem ggX10_of_X10_isMendable : GoodIn wsX10_of wsX10_isMendable := goodIn_r _ [5, 6, 7, 8, 4, 9, 10, 11, 12, 13, 14, 15, 16, 17, 18, 19, 20, 21, 22, 23, 24, 25, 26, 53, 54, 55, 56, 57, 58, 59, 60, 61, 62, 63, 64, 65, 66, 67, 68, 69] rfl (by decide +kernel)
set_option maxRecDepth 20000 in
theorem gX10_of_X10_isMendable : GoodIn wsX10_of (wsV RX10 157 RX10 yX10_isMendable wsX10_isMendable) := goodIn_app (goodIn_of _ (by decide +kernel)) ggX10_of_X10_isMendable
set_option maxRecDepth 20000 in
theorem ggX10_of_X10_told : GoodIn wsX10_of wsX10_told := goodIn_r _ [30, 31, 32, 33, 34, 35, 36, 37, 6, 7, 8, 4, 9, 10, 11, 12, 13, 14, 15, 16, 17, 18, 19, 20, 21, 22, 23, 24, 25, 26, 38, 39, 40, 41, 42, 43, 53, 54, 55, 56, 57, 58, 59, 60, 61, 62, 63, 64, 70, 71, 72, 65, 66, 67, 68, 69] rfl (by decide +kernel)
set_option maxRecDepth 20000 in
theorem gX10_of_X10_told : GoodIn wsX10_of (wsV RX10 163 RX10 yX10_told wsX10_told) := goodIn_app (goodIn_of _ (by decide +kernel)) ggX10_of_X10_told
set_option maxRecDepth 20000 in
theorem ggX10_of_X10_songAt : GoodIn wsX10_of wsX10_songAt := goodIn_r _ [13, 14, 15, 16, 4, 17, 53, 54, 55, 56, 57, 58, 59, 60, 61, 62, 63, 64] rfl (by decide +kernel)
set_option maxRecDepth 20000 in
theorem gX10_of_X10_songAt : GoodIn wsX10_of (wsV RX10 102 RX10 yX10_songAt wsX10_songAt) := goodIn_app (goodIn_of _ (by decide +kernel)) ggX10_of_X10_songAt
set_option maxRecDepth 20000 in
theorem ggX10_of_X8_size : GoodIn wsX10_of wsX8_size := goodIn_r _ [47, 26, 65, 66, 67, 68, 69] rfl (by decide +kernel)
set_option maxRecDepth 20000 in
theorem gX10_of_X8_size : GoodIn wsX10_of (wsV RX10 175 RX8 yX8_size wsX8_size) := goodIn_app (goodIn_of _ (by decide +kernel)) ggX10_of_X8_size
set_option maxRecDepth 20000 in
theorem ggX10_of_X10_songWithLine : GoodIn wsX10_of wsX10_songWithLine := goodIn_r _ [9, 10, 11, 12, 4, 13, 14, 15, 16, 17, 18, 19, 20, 21, 22, 23, 24, 25, 26, 53, 54, 55, 56, 57, 58, 59, 60, 61, 62, 63, 64, 65, 66, 67, 68, 69] rfl (by decide +kernel)
set_option maxRecDepth 20000 in
theorem gX10_of_X10_songWithLine : GoodIn wsX10_of (wsV RX10 137 RX10 yX10_songWithLine wsX10_songWithLine) := goodIn_app (goodIn_of _ (by decide +kernel)) ggX10_of_X10_songWithLine
set_option maxRecDepth 20000 in
theorem ggX10_of_X10_lineOf : GoodIn wsX10_of wsX10_lineOf := goodIn_r _ [20] rfl (by decide +kernel)
set_option maxRecDepth 20000 in
theorem gX10_of_X10_lineOf : GoodIn wsX10_of (va_wsS RX10 144 yX10_lineOf wsX10_lineOf) := goodIn_app (goodIn_of _ (by decide +kernel)) ggX10_of_X10_lineOf
set_option maxRecDepth 20000 in
theorem ggX10_of_X8_havers : GoodIn wsX10_of wsX8_havers := goodIn_r _ [51, 52, 43, 35, 36, 37, 65, 66, 67, 68, 69] rfl (by decide +kernel)
set_option maxRecDepth 20000 in
theorem gX10_of_X8_havers : GoodIn wsX10_of (wsV RX10 178 RX8 yX8_havers wsX8_havers) := goodIn_app (goodIn_of _ (by decide +kernel)) ggX10_of_X8_havers
theorem dX10_of_0 : decode cX10_of 0 = .ok (.aload_n 0, 1) := by decide +kernel
theorem dX10_of_1 : decode cX10_of 1 = .ok (.iload_n 1, 1) := by decide +kernel
theorem dX10_of_2 : decode cX10_of 2 = .ok (.iload_n 2, 1) := by decide +kernel
theorem dX10_of_3 : decode cX10_of 3 = .ok (.invokevirtual 157, 3) := by decide +kernel
theorem dX10_of_6 : decode cX10_of 6 = .ok (.ifCond .eq 10, 3) := by decide +kernel
theorem dX10_of_9 : decode cX10_of 9 = .ok (.aload_n 0, 1) := by decide +kernel
theorem dX10_of_10 : decode cX10_of 10 = .ok (.iload_n 1, 1) := by decide +kernel
theorem dX10_of_11 : decode cX10_of 11 = .ok (.iload_n 2, 1) := by decide +kernel
theorem dX10_of_12 : decode cX10_of 12 = .ok (.invokevirtual 163, 3) := by decide +kernel
theorem dX10_of_15 : decode cX10_of 15 = .ok (.ireturn, 1) := by decide +kernel
theorem dX10_of_16 : decode cX10_of 16 = .ok (.iload_n 2, 1) := by decide +kernel
theorem dX10_of_17 : decode cX10_of 17 = .ok (.iconst 5, 1) := by decide +kernel
theorem dX10_of_18 : decode cX10_of 18 = .ok (.if_icmp .ne 22, 3) := by decide +kernel
theorem dX10_of_21 : decode cX10_of 21 = .ok (.aload_n 0, 1) := by decide +kernel
theorem dX10_of_22 : decode cX10_of 22 = .ok (.iload_n 1, 1) := by decide +kernel
theorem dX10_of_23 : decode cX10_of 23 = .ok (.invokevirtual 102, 3) := by decide +kernel
theorem dX10_of_26 : decode cX10_of 26 = .ok (.astore_n 3, 1) := by decide +kernel
theorem dX10_of_27 : decode cX10_of 27 = .ok (.aload_n 3, 1) := by decide +kernel
theorem dX10_of_28 : decode cX10_of 28 = .ok (.ifnonnull 7, 3) := by decide +kernel
theorem dX10_of_31 : decode cX10_of 31 = .ok (.iconst (-1), 1) := by decide +kernel
theorem dX10_of_32 : decode cX10_of 32 = .ok (.goto 7, 3) := by decide +kernel
theorem dX10_of_35 : decode cX10_of 35 = .ok (.aload_n 3, 1) := by decide +kernel
theorem dX10_of_36 : decode cX10_of 36 = .ok (.invokevirtual 175, 3) := by decide +kernel
theorem dX10_of_39 : decode cX10_of 39 = .ok (.ireturn, 1) := by decide +kernel
theorem dX10_of_40 : decode cX10_of 40 = .ok (.aload_n 0, 1) := by decide +kernel
theorem dX10_of_41 : decode cX10_of 41 = .ok (.iload_n 1, 1) := by decide +kernel
theorem dX10_of_42 : decode cX10_of 42 = .ok (.invokevirtual 137, 3) := by decide +kernel
theorem dX10_of_45 : decode cX10_of 45 = .ok (.astore_n 3, 1) := by decide +kernel
theorem dX10_of_46 : decode cX10_of 46 = .ok (.aload_n 3, 1) := by decide +kernel
theorem dX10_of_47 : decode cX10_of 47 = .ok (.ifnull 15, 3) := by decide +kernel
theorem dX10_of_50 : decode cX10_of 50 = .ok (.iload_n 2, 1) := by decide +kernel
theorem dX10_of_51 : decode cX10_of 51 = .ok (.bipush 6, 2) := by decide +kernel
theorem dX10_of_53 : decode cX10_of 53 = .ok (.if_icmp .eq 11, 3) := by decide +kernel
theorem dX10_of_56 : decode cX10_of 56 = .ok (.iload_n 2, 1) := by decide +kernel
theorem dX10_of_57 : decode cX10_of 57 = .ok (.bipush 7, 2) := by decide +kernel
theorem dX10_of_59 : decode cX10_of 59 = .ok (.if_icmp .eq 5, 3) := by decide +kernel
theorem dX10_of_62 : decode cX10_of 62 = .ok (.iconst (-1), 1) := by decide +kernel
theorem dX10_of_63 : decode cX10_of 63 = .ok (.ireturn, 1) := by decide +kernel
theorem dX10_of_64 : decode cX10_of 64 = .ok (.aload_n 3, 1) := by decide +kernel
theorem dX10_of_65 : decode cX10_of 65 = .ok (.iload_n 1, 1) := by decide +kernel
theorem dX10_of_66 : decode cX10_of 66 = .ok (.invokestatic 144, 3) := by decide +kernel
theorem dX10_of_69 : decode cX10_of 69 = .ok (.iload_n 2, 1) := by decide +kernel
theorem dX10_of_70 : decode cX10_of 70 = .ok (.bipush 6, 2) := by decide +kernel
theorem dX10_of_72 : decode cX10_of 72 = .ok (.isub, 1) := by decide +kernel
theorem dX10_of_73 : decode cX10_of 73 = .ok (.invokevirtual 178, 3) := by decide +kernel
theorem dX10_of_76 : decode cX10_of 76 = .ok (.ireturn, 1) := by decide +kernel
set_option maxRecDepth 20000 in
theorem ggX10_feed_X10_isOf : GoodIn wsX10_feed wsX10_isOf := goodIn_r _ [5] rfl (by decide +kernel)
set_option maxRecDepth 20000 in
theorem gX10_feed_X10_isOf : GoodIn wsX10_feed (va_wsS RX10 140 yX10_isOf wsX10_isOf) := goodIn_app (goodIn_of _ (by decide +kernel)) ggX10_feed_X10_isOf
set_option maxRecDepth 20000 in
theorem ggX10_feed_X9_isFull : GoodIn wsX10_feed wsX9_isFull := goodIn_r _ [10, 11, 12, 38, 39, 40, 41, 42] rfl (by decide +kernel)
set_option maxRecDepth 20000 in
theorem gX10_feed_X9_isFull : GoodIn wsX10_feed (wsV RX10 181 RX9 yX9_isFull wsX9_isFull) := goodIn_app (goodIn_of _ (by decide +kernel)) ggX10_feed_X9_isFull
set_option maxRecDepth 20000 in
theorem ggX10_feed_X9_take : GoodIn wsX10_feed wsX9_take := goodIn_r _ [16, 12, 11, 17, 7, 8, 9, 10, 18, 19, 20, 21, 38, 39, 40, 41, 42] rfl (by decide +kernel)
set_option maxRecDepth 20000 in
theorem gX10_feed_X9_take : GoodIn wsX10_feed (wsV RX10 94 RX9 yX9_take wsX9_take) := goodIn_app (goodIn_of _ (by decide +kernel)) ggX10_feed_X9_take
set_option maxRecDepth 20000 in
theorem ggX10_feed_X9_length : GoodIn wsX10_feed wsX9_length := goodIn_r _ [25, 11, 38, 39, 40, 41, 42] rfl (by decide +kernel)
set_option maxRecDepth 20000 in
theorem gX10_feed_X9_length : GoodIn wsX10_feed (wsV RX10 182 RX9 yX9_length wsX9_length) := goodIn_app (goodIn_of _ (by decide +kernel)) ggX10_feed_X9_length
theorem dX10_feed_0 : decode cX10_feed 0 = .ok (.iload_n 1, 1) := by decide +kernel
theorem dX10_feed_1 : decode cX10_feed 1 = .ok (.sipush 256, 3) := by decide +kernel
theorem dX10_feed_4 : decode cX10_feed 4 = .ok (.invokestatic 140, 3) := by decide +kernel
theorem dX10_feed_7 : decode cX10_feed 7 = .ok (.ifCond .ne 5, 3) := by decide +kernel
theorem dX10_feed_10 : decode cX10_feed 10 = .ok (.iconst (-1), 1) := by decide +kernel
theorem dX10_feed_11 : decode cX10_feed 11 = .ok (.ireturn, 1) := by decide +kernel
theorem dX10_feed_12 : decode cX10_feed 12 = .ok (.aload_n 0, 1) := by decide +kernel
theorem dX10_feed_13 : decode cX10_feed 13 = .ok (.getfield 78, 3) := by decide +kernel
theorem dX10_feed_16 : decode cX10_feed 16 = .ok (.invokevirtual 181, 3) := by decide +kernel
theorem dX10_feed_19 : decode cX10_feed 19 = .ok (.ifCond .eq 6, 3) := by decide +kernel
theorem dX10_feed_22 : decode cX10_feed 22 = .ok (.bipush (-3), 2) := by decide +kernel
theorem dX10_feed_24 : decode cX10_feed 24 = .ok (.ireturn, 1) := by decide +kernel
theorem dX10_feed_25 : decode cX10_feed 25 = .ok (.aload_n 0, 1) := by decide +kernel
theorem dX10_feed_26 : decode cX10_feed 26 = .ok (.getfield 78, 3) := by decide +kernel
theorem dX10_feed_29 : decode cX10_feed 29 = .ok (.iload_n 1, 1) := by decide +kernel
theorem dX10_feed_30 : decode cX10_feed 30 = .ok (.invokevirtual 94, 3) := by decide +kernel
theorem dX10_feed_33 : decode cX10_feed 33 = .ok (.aload_n 0, 1) := by decide +kernel
theorem dX10_feed_34 : decode cX10_feed 34 = .ok (.getfield 78, 3) := by decide +kernel
theorem dX10_feed_37 : decode cX10_feed 37 = .ok (.invokevirtual 182, 3) := by decide +kernel
theorem dX10_feed_40 : decode cX10_feed 40 = .ok (.ireturn, 1) := by decide +kernel
set_option maxRecDepth 20000 in
theorem ggX10_law_X9_readInto : GoodIn wsX10_law wsX9_readInto := goodIn_r _ [9, 10, 11, 12, 13, 14, 15, 16, 17, 18, 19, 20, 21, 22, 23, 24, 25, 26, 27, 8, 28, 29, 30, 31, 32, 33, 34, 35, 36, 37, 38, 39, 40, 41, 42, 43, 44, 45, 46, 47, 48, 49, 50, 51, 52, 53, 54, 55, 56, 57, 58, 59, 60, 61, 62, 63, 64, 65, 66, 67, 68, 69, 70, 71, 72, 88, 89, 90, 91, 92, 93, 94, 95, 96, 97, 98, 99] rfl (by decide +kernel)
set_option maxRecDepth 20000 in
theorem gX10_law_X9_readInto : GoodIn wsX10_law (wsV RX10 98 RX9 yX9_readInto wsX9_readInto) := goodIn_app (goodIn_of _ (by decide +kernel)) ggX10_law_X9_readInto
theorem dX10_law_0 : decode cX10_law 0 = .ok (.aload_n 0, 1) := by decide +kernel
theorem dX10_law_1 : decode cX10_law 1 = .ok (.getfield 78, 3) := by decide +kernel
theorem dX10_law_4 : decode cX10_law 4 = .ok (.aload_n 0, 1) := by decide +kernel
theorem dX10_law_5 : decode cX10_law 5 = .ok (.getfield 38, 3) := by decide +kernel
theorem dX10_law_8 : decode cX10_law 8 = .ok (.invokevirtual 98, 3) := by decide +kernel
theorem dX10_law_11 : decode cX10_law 11 = .ok (.istore_n 1, 1) := by decide +kernel
theorem dX10_law_12 : decode cX10_law 12 = .ok (.iload_n 1, 1) := by decide +kernel
theorem dX10_law_13 : decode cX10_law 13 = .ok (.ifCond .lt 8, 3) := by decide +kernel
theorem dX10_law_16 : decode cX10_law 16 = .ok (.bipush (-100), 2) := by decide +kernel
theorem dX10_law_18 : decode cX10_law 18 = .ok (.iload_n 1, 1) := by decide +kernel
theorem dX10_law_19 : decode cX10_law 19 = .ok (.isub, 1) := by decide +kernel
theorem dX10_law_20 : decode cX10_law 20 = .ok (.ireturn, 1) := by decide +kernel
theorem dX10_law_21 : decode cX10_law 21 = .ok (.aload_n 0, 1) := by decide +kernel
theorem dX10_law_22 : decode cX10_law 22 = .ok (.getfield 49, 3) := by decide +kernel
theorem dX10_law_25 : decode cX10_law 25 = .ok (.getfield 74, 3) := by decide +kernel
theorem dX10_law_28 : decode cX10_law 28 = .ok (.astore_n 2, 1) := by decide +kernel
theorem dX10_law_29 : decode cX10_law 29 = .ok (.aload_n 0, 1) := by decide +kernel
theorem dX10_law_30 : decode cX10_law 30 = .ok (.getfield 49, 3) := by decide +kernel
theorem dX10_law_33 : decode cX10_law 33 = .ok (.aload_n 0, 1) := by decide +kernel
theorem dX10_law_34 : decode cX10_law 34 = .ok (.getfield 38, 3) := by decide +kernel
theorem dX10_law_37 : decode cX10_law 37 = .ok (.putfield 74, 3) := by decide +kernel
theorem dX10_law_40 : decode cX10_law 40 = .ok (.aload_n 0, 1) := by decide +kernel
theorem dX10_law_41 : decode cX10_law 41 = .ok (.aload_n 2, 1) := by decide +kernel
theorem dX10_law_42 : decode cX10_law 42 = .ok (.putfield 38, 3) := by decide +kernel
theorem dX10_law_45 : decode cX10_law 45 = .ok (.iconst 1, 1) := by decide +kernel
theorem dX10_law_46 : decode cX10_law 46 = .ok (.ireturn, 1) := by decide +kernel
set_option maxRecDepth 20000 in
theorem ggX10_sing_X10_songWithLine : GoodIn wsX10_sing wsX10_songWithLine := goodIn_r _ [7, 8, 9, 10, 6, 11, 12, 13, 14, 15, 16, 17, 18, 19, 20, 21, 22, 23, 24, 163, 164, 165, 166, 167, 168, 169, 170, 171, 172, 173, 174, 175, 176, 177, 178, 179] rfl (by decide +kernel)
set_option maxRecDepth 20000 in
theorem gX10_sing_X10_songWithLine : GoodIn wsX10_sing (wsV RX10 137 RX10 yX10_songWithLine wsX10_songWithLine) := goodIn_app (goodIn_of _ (by decide +kernel)) ggX10_sing_X10_songWithLine
set_option maxRecDepth 20000 in
theorem ggX10_sing_X10_isOf : GoodIn wsX10_sing wsX10_isOf := goodIn_r _ [15] rfl (by decide +kernel)
set_option maxRecDepth 20000 in
theorem gX10_sing_X10_isOf : GoodIn wsX10_sing (va_wsS RX10 140 yX10_isOf wsX10_isOf) := goodIn_app (goodIn_of _ (by decide +kernel)) ggX10_sing_X10_isOf
set_option maxRecDepth 20000 in
theorem ggX10_sing_X10_lineOf : GoodIn wsX10_sing wsX10_lineOf := goodIn_r _ [18] rfl (by decide +kernel)
set_option maxRecDepth 20000 in
theorem gX10_sing_X10_lineOf : GoodIn wsX10_sing (va_wsS RX10 144 yX10_lineOf wsX10_lineOf) := goodIn_app (goodIn_of _ (by decide +kernel)) ggX10_sing_X10_lineOf
set_option maxRecDepth 20000 in
theorem ggX10_sing_X3_goThrough : GoodIn wsX10_sing wsX3_goThrough := goodIn_r _ [29, 30, 31, 32, 28, 33, 34, 35, 36, 37, 38, 39, 40, 41, 42, 43, 44, 45, 46, 47, 48, 49, 50, 51, 22, 52, 53, 54, 55, 56, 57, 58, 59, 60, 61, 62, 63, 64, 65, 66, 67, 68, 69, 70, 71, 72, 73, 74, 75, 76, 77, 78, 79, 80, 81, 82, 83, 84, 85, 86, 87, 88, 89, 90, 91, 92, 93, 94, 95, 96, 97, 98, 99, 100, 101, 102, 103, 104, 105, 106, 107, 24, 108, 109, 110, 111, 112, 113, 114, 115, 116, 117, 118, 119, 120, 121, 122, 123, 124, 125, 126, 127, 128, 129, 130, 131, 132, 133, 134, 135, 136, 137, 138, 139, 140, 141, 142, 143, 144, 145, 146, 147, 148, 149, 180, 181, 182, 183, 184, 185, 186, 187, 175, 176, 177, 178, 179, 188, 189, 190, 191, 192, 193, 194, 195, 196, 197] rfl (by decide +kernel)
set_option maxRecDepth 20000 in
theorem gX10_sing_X3_goThrough : GoodIn wsX10_sing (wsV RX10 183 RX3 yX3_goThrough wsX3_goThrough) := goodIn_app (goodIn_of _ (by decide +kernel)) ggX10_sing_X3_goThrough
set_option maxRecDepth 20000 in
theorem ggX10_sing_X7_size : GoodIn wsX10_sing wsX7_size := goodIn_r _ [91, 40, 180, 181, 182, 183, 184, 185, 186, 187] rfl (by decide +kernel)
set_option maxRecDepth 20000 in
theorem gX10_sing_X7_size : GoodIn wsX10_sing (wsV RX10 187 RX7 yX7_size wsX7_size) := goodIn_app (goodIn_of _ (by decide +kernel)) ggX10_sing_X7_size
set_option maxRecDepth 20000 in
theorem ggX10_sing_X7_outcome : GoodIn wsX10_sing wsX7_outcome := goodIn_r _ [154, 42, 180, 181, 182, 183, 184, 185, 186, 187] rfl (by decide +kernel)
set_option maxRecDepth 20000 in
theorem gX10_sing_X7_outcome : GoodIn wsX10_sing (wsV RX10 188 RX7 yX7_outcome wsX7_outcome) := goodIn_app (goodIn_of _ (by decide +kernel)) ggX10_sing_X7_outcome
set_option maxRecDepth 20000 in
theorem ggX10_sing_X7_where : GoodIn wsX10_sing wsX7_where := goodIn_r _ [158, 43, 180, 181, 182, 183, 184, 185, 186, 187] rfl (by decide +kernel)
set_option maxRecDepth 20000 in
theorem gX10_sing_X7_where : GoodIn wsX10_sing (wsV RX10 191 RX7 yX7_where wsX7_where) := goodIn_app (goodIn_of _ (by decide +kernel)) ggX10_sing_X7_where
set_option maxRecDepth 20000 in
theorem ggX10_sing_X7_right : GoodIn wsX10_sing wsX7_right := goodIn_r _ [162, 41, 180, 181, 182, 183, 184, 185, 186, 187] rfl (by decide +kernel)
set_option maxRecDepth 20000 in
theorem gX10_sing_X7_right : GoodIn wsX10_sing (wsV RX10 194 RX7 yX7_right wsX7_right) := goodIn_app (goodIn_of _ (by decide +kernel)) ggX10_sing_X7_right
theorem dX10_sing_0 : decode cX10_sing 0 = .ok (.aload_n 0, 1) := by decide +kernel
theorem dX10_sing_1 : decode cX10_sing 1 = .ok (.iload_n 1, 1) := by decide +kernel
theorem dX10_sing_2 : decode cX10_sing 2 = .ok (.invokevirtual 137, 3) := by decide +kernel
theorem dX10_sing_5 : decode cX10_sing 5 = .ok (.astore_n 3, 1) := by decide +kernel
theorem dX10_sing_6 : decode cX10_sing 6 = .ok (.aload_n 3, 1) := by decide +kernel
theorem dX10_sing_7 : decode cX10_sing 7 = .ok (.ifnull 11, 3) := by decide +kernel
theorem dX10_sing_10 : decode cX10_sing 10 = .ok (.iload_n 2, 1) := by decide +kernel
theorem dX10_sing_11 : decode cX10_sing 11 = .ok (.iconst 4, 1) := by decide +kernel
theorem dX10_sing_12 : decode cX10_sing 12 = .ok (.invokestatic 140, 3) := by decide +kernel
theorem dX10_sing_15 : decode cX10_sing 15 = .ok (.ifCond .ne 5, 3) := by decide +kernel
theorem dX10_sing_18 : decode cX10_sing 18 = .ok (.iconst (-1), 1) := by decide +kernel
theorem dX10_sing_19 : decode cX10_sing 19 = .ok (.ireturn, 1) := by decide +kernel
theorem dX10_sing_20 : decode cX10_sing 20 = .ok (.aload_n 0, 1) := by decide +kernel
theorem dX10_sing_21 : decode cX10_sing 21 = .ok (.getfield 49, 3) := by decide +kernel
theorem dX10_sing_24 : decode cX10_sing 24 = .ok (.aload_n 0, 1) := by decide +kernel
theorem dX10_sing_25 : decode cX10_sing 25 = .ok (.getfield 58, 3) := by decide +kernel
theorem dX10_sing_28 : decode cX10_sing 28 = .ok (.aload_n 3, 1) := by decide +kernel
theorem dX10_sing_29 : decode cX10_sing 29 = .ok (.iload_n 1, 1) := by decide +kernel
theorem dX10_sing_30 : decode cX10_sing 30 = .ok (.invokestatic 144, 3) := by decide +kernel
theorem dX10_sing_33 : decode cX10_sing 33 = .ok (.invokevirtual 183, 3) := by decide +kernel
theorem dX10_sing_36 : decode cX10_sing 36 = .ok (.iload_n 2, 1) := by decide +kernel
theorem dX10_sing_37 : decode cX10_sing 37 = .ok (.tableswitch 51 0 2 #[27, 35, 43], 27) := by decide +kernel
theorem dX10_sing_64 : decode cX10_sing 64 = .ok (.aload_n 0, 1) := by decide +kernel
theorem dX10_sing_65 : decode cX10_sing 65 = .ok (.getfield 58, 3) := by decide +kernel
theorem dX10_sing_68 : decode cX10_sing 68 = .ok (.invokevirtual 187, 3) := by decide +kernel
theorem dX10_sing_71 : decode cX10_sing 71 = .ok (.ireturn, 1) := by decide +kernel
theorem dX10_sing_72 : decode cX10_sing 72 = .ok (.aload_n 0, 1) := by decide +kernel
theorem dX10_sing_73 : decode cX10_sing 73 = .ok (.getfield 58, 3) := by decide +kernel
theorem dX10_sing_76 : decode cX10_sing 76 = .ok (.invokevirtual 188, 3) := by decide +kernel
theorem dX10_sing_79 : decode cX10_sing 79 = .ok (.ireturn, 1) := by decide +kernel
theorem dX10_sing_80 : decode cX10_sing 80 = .ok (.aload_n 0, 1) := by decide +kernel
theorem dX10_sing_81 : decode cX10_sing 81 = .ok (.getfield 58, 3) := by decide +kernel
theorem dX10_sing_84 : decode cX10_sing 84 = .ok (.invokevirtual 191, 3) := by decide +kernel
theorem dX10_sing_87 : decode cX10_sing 87 = .ok (.ireturn, 1) := by decide +kernel
theorem dX10_sing_88 : decode cX10_sing 88 = .ok (.aload_n 0, 1) := by decide +kernel
theorem dX10_sing_89 : decode cX10_sing 89 = .ok (.getfield 58, 3) := by decide +kernel
theorem dX10_sing_92 : decode cX10_sing 92 = .ok (.invokevirtual 194, 3) := by decide +kernel
theorem dX10_sing_95 : decode cX10_sing 95 = .ok (.ireturn, 1) := by decide +kernel
set_option maxRecDepth 20000 in
theorem ggX10_sung_X10_songWithLine : GoodIn wsX10_sung wsX10_songWithLine := goodIn_r _ [7, 8, 9, 10, 6, 11, 12, 13, 14, 15, 16, 17, 18, 19, 20, 21, 22, 23, 24, 159, 160, 161, 162, 163, 164, 165, 166, 167, 168, 169, 170, 171, 172, 173, 174, 175] rfl (by decide +kernel)
set_option maxRecDepth 20000 in
theorem gX10_sung_X10_songWithLine : GoodIn wsX10_sung (wsV RX10 137 RX10 yX10_songWithLine wsX10_songWithLine) := goodIn_app (goodIn_of _ (by decide +kernel)) ggX10_sung_X10_songWithLine
set_option maxRecDepth 20000 in
theorem ggX10_sung_X10_isOf : GoodIn wsX10_sung wsX10_isOf := goodIn_r _ [15] rfl (by decide +kernel)
set_option maxRecDepth 20000 in
theorem gX10_sung_X10_isOf : GoodIn wsX10_sung (va_wsS RX10 140 yX10_isOf wsX10_isOf) := goodIn_app (goodIn_of _ (by decide +kernel)) ggX10_sung_X10_isOf
set_option maxRecDepth 20000 in
theorem ggX10_sung_X10_lineOf : GoodIn wsX10_sung wsX10_lineOf := goodIn_r _ [18] rfl (by decide +kernel)
set_option maxRecDepth 20000 in
theorem gX10_sung_X10_lineOf : GoodIn wsX10_sung (va_wsS RX10 144 yX10_lineOf wsX10_lineOf) := goodIn_app (goodIn_of _ (by decide +kernel)) ggX10_sung_X10_lineOf
set_option maxRecDepth 20000 in
theorem ggX10_sung_X3_goThrough : GoodIn wsX10_sung wsX3_goThrough := goodIn_r _ [29, 30, 31, 32, 28, 33, 34, 35, 36, 37, 38, 39, 40, 41, 42, 43, 44, 45, 46, 47, 48, 49, 50, 51, 22, 52, 53, 54, 55, 56, 57, 58, 59, 60, 61, 62, 63, 64, 65, 66, 67, 68, 69, 70, 71, 72, 73, 74, 75, 76, 77, 78, 79, 80, 81, 82, 83, 84, 85, 86, 87, 88, 89, 90, 91, 92, 93, 94, 95, 96, 97, 98, 99, 100, 101, 102, 103, 104, 105, 106, 107, 24, 108, 109, 110, 111, 112, 113, 114, 115, 116, 117, 118, 119, 120, 121, 122, 123, 124, 125, 126, 127, 128, 129, 130, 131, 132, 133, 134, 135, 136, 137, 138, 139, 140, 141, 142, 143, 144, 145, 146, 147, 148, 149, 176, 177, 178, 179, 180, 181, 182, 183, 171, 172, 173, 174, 175, 184, 185, 186, 187, 188, 189, 190, 191, 192, 193] rfl (by decide +kernel)
set_option maxRecDepth 20000 in
theorem gX10_sung_X3_goThrough : GoodIn wsX10_sung (wsV RX10 183 RX3 yX3_goThrough wsX3_goThrough) := goodIn_app (goodIn_of _ (by decide +kernel)) ggX10_sung_X3_goThrough
set_option maxRecDepth 20000 in
theorem ggX10_sung_X7_size : GoodIn wsX10_sung wsX7_size := goodIn_r _ [91, 40, 176, 177, 178, 179, 180, 181, 182, 183] rfl (by decide +kernel)
set_option maxRecDepth 20000 in
theorem gX10_sung_X7_size : GoodIn wsX10_sung (wsV RX10 187 RX7 yX7_size wsX7_size) := goodIn_app (goodIn_of _ (by decide +kernel)) ggX10_sung_X7_size
set_option maxRecDepth 20000 in
theorem ggX10_sung_X7_lineAt : GoodIn wsX10_sung wsX7_lineAt := goodIn_r _ [154, 66, 72, 59, 60, 61, 176, 177, 178, 179, 180, 181, 182, 183] rfl (by decide +kernel)
set_option maxRecDepth 20000 in
theorem gX10_sung_X7_lineAt : GoodIn wsX10_sung (wsV RX10 197 RX7 yX7_lineAt wsX7_lineAt) := goodIn_app (goodIn_of _ (by decide +kernel)) ggX10_sung_X7_lineAt
set_option maxRecDepth 20000 in
theorem ggX10_sung_X7_broughtUpBy : GoodIn wsX10_sung wsX7_broughtUpBy := goodIn_r _ [158, 67, 72, 59, 60, 61, 176, 177, 178, 179, 180, 181, 182, 183] rfl (by decide +kernel)
set_option maxRecDepth 20000 in
theorem gX10_sung_X7_broughtUpBy : GoodIn wsX10_sung (wsV RX10 200 RX7 yX7_broughtUpBy wsX7_broughtUpBy) := goodIn_app (goodIn_of _ (by decide +kernel)) ggX10_sung_X7_broughtUpBy
theorem dX10_sung_0 : decode cX10_sung 0 = .ok (.aload_n 0, 1) := by decide +kernel
theorem dX10_sung_1 : decode cX10_sung 1 = .ok (.iload_n 1, 1) := by decide +kernel
theorem dX10_sung_2 : decode cX10_sung 2 = .ok (.invokevirtual 137, 3) := by decide +kernel
theorem dX10_sung_5 : decode cX10_sung 5 = .ok (.astore 4, 2) := by decide +kernel
theorem dX10_sung_7 : decode cX10_sung 7 = .ok (.aload 4, 2) := by decide +kernel
theorem dX10_sung_9 : decode cX10_sung 9 = .ok (.ifnull 15, 3) := by decide +kernel
theorem dX10_sung_12 : decode cX10_sung 12 = .ok (.iload_n 2, 1) := by decide +kernel
theorem dX10_sung_13 : decode cX10_sung 13 = .ok (.ifCond .lt 11, 3) := by decide +kernel
theorem dX10_sung_16 : decode cX10_sung 16 = .ok (.iload_n 3, 1) := by decide +kernel
theorem dX10_sung_17 : decode cX10_sung 17 = .ok (.iconst 2, 1) := by decide +kernel
theorem dX10_sung_18 : decode cX10_sung 18 = .ok (.invokestatic 140, 3) := by decide +kernel
theorem dX10_sung_21 : decode cX10_sung 21 = .ok (.ifCond .ne 5, 3) := by decide +kernel
theorem dX10_sung_24 : decode cX10_sung 24 = .ok (.iconst (-1), 1) := by decide +kernel
theorem dX10_sung_25 : decode cX10_sung 25 = .ok (.ireturn, 1) := by decide +kernel
theorem dX10_sung_26 : decode cX10_sung 26 = .ok (.aload_n 0, 1) := by decide +kernel
theorem dX10_sung_27 : decode cX10_sung 27 = .ok (.getfield 49, 3) := by decide +kernel
theorem dX10_sung_30 : decode cX10_sung 30 = .ok (.aload_n 0, 1) := by decide +kernel
theorem dX10_sung_31 : decode cX10_sung 31 = .ok (.getfield 58, 3) := by decide +kernel
theorem dX10_sung_34 : decode cX10_sung 34 = .ok (.aload 4, 2) := by decide +kernel
theorem dX10_sung_36 : decode cX10_sung 36 = .ok (.iload_n 1, 1) := by decide +kernel
theorem dX10_sung_37 : decode cX10_sung 37 = .ok (.invokestatic 144, 3) := by decide +kernel
theorem dX10_sung_40 : decode cX10_sung 40 = .ok (.invokevirtual 183, 3) := by decide +kernel
theorem dX10_sung_43 : decode cX10_sung 43 = .ok (.iload_n 2, 1) := by decide +kernel
theorem dX10_sung_44 : decode cX10_sung 44 = .ok (.aload_n 0, 1) := by decide +kernel
theorem dX10_sung_45 : decode cX10_sung 45 = .ok (.getfield 58, 3) := by decide +kernel
theorem dX10_sung_48 : decode cX10_sung 48 = .ok (.invokevirtual 187, 3) := by decide +kernel
theorem dX10_sung_51 : decode cX10_sung 51 = .ok (.if_icmp .lt 6, 3) := by decide +kernel
theorem dX10_sung_54 : decode cX10_sung 54 = .ok (.bipush (-2), 2) := by decide +kernel
theorem dX10_sung_56 : decode cX10_sung 56 = .ok (.ireturn, 1) := by decide +kernel
theorem dX10_sung_57 : decode cX10_sung 57 = .ok (.iload_n 3, 1) := by decide +kernel
theorem dX10_sung_58 : decode cX10_sung 58 = .ok (.ifCond .ne 14, 3) := by decide +kernel
theorem dX10_sung_61 : decode cX10_sung 61 = .ok (.aload_n 0, 1) := by decide +kernel
theorem dX10_sung_62 : decode cX10_sung 62 = .ok (.getfield 58, 3) := by decide +kernel
theorem dX10_sung_65 : decode cX10_sung 65 = .ok (.iload_n 2, 1) := by decide +kernel
theorem dX10_sung_66 : decode cX10_sung 66 = .ok (.invokevirtual 197, 3) := by decide +kernel
theorem dX10_sung_69 : decode cX10_sung 69 = .ok (.goto 11, 3) := by decide +kernel
theorem dX10_sung_72 : decode cX10_sung 72 = .ok (.aload_n 0, 1) := by decide +kernel
theorem dX10_sung_73 : decode cX10_sung 73 = .ok (.getfield 58, 3) := by decide +kernel
theorem dX10_sung_76 : decode cX10_sung 76 = .ok (.iload_n 2, 1) := by decide +kernel
theorem dX10_sung_77 : decode cX10_sung 77 = .ok (.invokevirtual 200, 3) := by decide +kernel
theorem dX10_sung_80 : decode cX10_sung 80 = .ok (.ireturn, 1) := by decide +kernel
set_option maxRecDepth 20000 in
theorem ggX10_runUp_X10_songAt : GoodIn wsX10_runUp wsX10_songAt := goodIn_r _ [7, 8, 9, 10, 6, 11, 149, 150, 151, 152, 153, 154, 155, 156, 157, 158, 159, 160] rfl (by decide +kernel)
set_option maxRecDepth 20000 in
theorem gX10_runUp_X10_songAt : GoodIn wsX10_runUp (wsV RX10 102 RX10 yX10_songAt wsX10_songAt) := goodIn_app (goodIn_of _ (by decide +kernel)) ggX10_runUp_X10_songAt
set_option maxRecDepth 20000 in
theorem ggX10_runUp_X10_isOf : GoodIn wsX10_runUp wsX10_isOf := goodIn_r _ [11] rfl (by decide +kernel)
set_option maxRecDepth 20000 in
theorem gX10_runUp_X10_isOf : GoodIn wsX10_runUp (va_wsS RX10 140 yX10_isOf wsX10_isOf) := goodIn_app (goodIn_of _ (by decide +kernel)) ggX10_runUp_X10_isOf
set_option maxRecDepth 20000 in
theorem ggX10_runUp_X8_size : GoodIn wsX10_runUp wsX8_size := goodIn_r _ [16, 17, 161, 162, 163, 164, 165] rfl (by decide +kernel)
set_option maxRecDepth 20000 in
theorem gX10_runUp_X8_size : GoodIn wsX10_runUp (wsV RX10 175 RX8 yX8_size wsX8_size) := goodIn_app (goodIn_of _ (by decide +kernel)) ggX10_runUp_X8_size
set_option maxRecDepth 20000 in
theorem ggX10_runUp_X3_rightFrom : GoodIn wsX10_runUp wsX3_rightFrom := goodIn_r _ [22, 23, 24, 25, 21, 26, 27, 28, 29, 30, 31, 32, 33, 34, 35, 36, 37, 38, 39, 40, 41, 42, 43, 44, 15, 45, 46, 47, 48, 49, 50, 51, 52, 53, 54, 55, 56, 57, 58, 59, 60, 61, 62, 63, 64, 65, 66, 67, 68, 69, 70, 71, 72, 73, 74, 75, 76, 77, 78, 79, 80, 81, 82, 83, 84, 85, 86, 87, 88, 89, 90, 91, 92, 93, 94, 95, 96, 97, 98, 99, 100, 101, 13, 14, 16, 17, 102, 103, 104, 105, 106, 107, 108, 109, 110, 111, 112, 113, 114, 115, 116, 117, 118, 119, 120, 121, 122, 123, 124, 125, 126, 127, 128, 129, 130, 131, 132, 133, 134, 135, 136, 137, 138, 139, 140, 141, 142, 143, 144, 145, 146, 147, 166, 167, 168, 169, 170, 171, 172, 173, 161, 162, 163, 164, 165, 174, 175, 176, 177, 178, 179, 180, 181, 182, 183] rfl (by decide +kernel)
set_option maxRecDepth 20000 in
theorem gX10_runUp_X3_rightFrom : GoodIn wsX10_runUp (wsV RX10 203 RX3 yX3_rightFrom wsX3_rightFrom) := goodIn_app (goodIn_of _ (by decide +kernel)) ggX10_runUp_X3_rightFrom
set_option maxRecDepth 20000 in
theorem ggX10_runUp_X8_canBeSung : GoodIn wsX10_runUp wsX8_canBeSung := goodIn_r _ [45, 46, 47, 48, 15, 49, 50, 51, 52, 53, 54, 161, 162, 163, 164, 165] rfl (by decide +kernel)
set_option maxRecDepth 20000 in
theorem gX10_runUp_X8_canBeSung : GoodIn wsX10_runUp (wsV RX10 207 RX8 yX8_canBeSung wsX8_canBeSung) := goodIn_app (goodIn_of _ (by decide +kernel)) ggX10_runUp_X8_canBeSung
theorem dX10_runUp_0 : decode cX10_runUp 0 = .ok (.aload_n 0, 1) := by decide +kernel
theorem dX10_runUp_1 : decode cX10_runUp 1 = .ok (.iload_n 1, 1) := by decide +kernel
theorem dX10_runUp_2 : decode cX10_runUp 2 = .ok (.invokevirtual 102, 3) := by decide +kernel
theorem dX10_runUp_5 : decode cX10_runUp 5 = .ok (.astore_n 3, 1) := by decide +kernel
theorem dX10_runUp_6 : decode cX10_runUp 6 = .ok (.aload_n 3, 1) := by decide +kernel
theorem dX10_runUp_7 : decode cX10_runUp 7 = .ok (.ifnull 11, 3) := by decide +kernel
theorem dX10_runUp_10 : decode cX10_runUp 10 = .ok (.iload_n 2, 1) := by decide +kernel
theorem dX10_runUp_11 : decode cX10_runUp 11 = .ok (.iconst 4, 1) := by decide +kernel
theorem dX10_runUp_12 : decode cX10_runUp 12 = .ok (.invokestatic 140, 3) := by decide +kernel
theorem dX10_runUp_15 : decode cX10_runUp 15 = .ok (.ifCond .ne 5, 3) := by decide +kernel
theorem dX10_runUp_18 : decode cX10_runUp 18 = .ok (.iconst (-1), 1) := by decide +kernel
theorem dX10_runUp_19 : decode cX10_runUp 19 = .ok (.ireturn, 1) := by decide +kernel
theorem dX10_runUp_20 : decode cX10_runUp 20 = .ok (.bipush (-2), 2) := by decide +kernel
theorem dX10_runUp_22 : decode cX10_runUp 22 = .ok (.istore 4, 2) := by decide +kernel
theorem dX10_runUp_24 : decode cX10_runUp 24 = .ok (.bipush (-2), 2) := by decide +kernel
theorem dX10_runUp_26 : decode cX10_runUp 26 = .ok (.istore 5, 2) := by decide +kernel
theorem dX10_runUp_28 : decode cX10_runUp 28 = .ok (.iconst 0, 1) := by decide +kernel
theorem dX10_runUp_29 : decode cX10_runUp 29 = .ok (.istore 6, 2) := by decide +kernel
theorem dX10_runUp_31 : decode cX10_runUp 31 = .ok (.iconst 0, 1) := by decide +kernel
theorem dX10_runUp_32 : decode cX10_runUp 32 = .ok (.istore 7, 2) := by decide +kernel
theorem dX10_runUp_34 : decode cX10_runUp 34 = .ok (.iconst 0, 1) := by decide +kernel
theorem dX10_runUp_35 : decode cX10_runUp 35 = .ok (.istore 8, 2) := by decide +kernel
theorem dX10_runUp_37 : decode cX10_runUp 37 = .ok (.iload 8, 2) := by decide +kernel
theorem dX10_runUp_39 : decode cX10_runUp 39 = .ok (.aload_n 3, 1) := by decide +kernel
theorem dX10_runUp_40 : decode cX10_runUp 40 = .ok (.invokevirtual 175, 3) := by decide +kernel
theorem dX10_runUp_43 : decode cX10_runUp 43 = .ok (.if_icmp .ge 72, 3) := by decide +kernel
theorem dX10_runUp_46 : decode cX10_runUp 46 = .ok (.aload_n 0, 1) := by decide +kernel
theorem dX10_runUp_47 : decode cX10_runUp 47 = .ok (.getfield 49, 3) := by decide +kernel
theorem dX10_runUp_50 : decode cX10_runUp 50 = .ok (.aload_n 0, 1) := by decide +kernel
theorem dX10_runUp_51 : decode cX10_runUp 51 = .ok (.getfield 58, 3) := by decide +kernel
theorem dX10_runUp_54 : decode cX10_runUp 54 = .ok (.aload_n 3, 1) := by decide +kernel
theorem dX10_runUp_55 : decode cX10_runUp 55 = .ok (.iload 8, 2) := by decide +kernel
theorem dX10_runUp_57 : decode cX10_runUp 57 = .ok (.invokevirtual 203, 3) := by decide +kernel
theorem dX10_runUp_60 : decode cX10_runUp 60 = .ok (.istore 9, 2) := by decide +kernel
theorem dX10_runUp_62 : decode cX10_runUp 62 = .ok (.iload 6, 2) := by decide +kernel
theorem dX10_runUp_64 : decode cX10_runUp 64 = .ok (.iconst 1, 1) := by decide +kernel
theorem dX10_runUp_65 : decode cX10_runUp 65 = .ok (.iload 9, 2) := by decide +kernel
theorem dX10_runUp_67 : decode cX10_runUp 67 = .ok (.ishl, 1) := by decide +kernel
theorem dX10_runUp_68 : decode cX10_runUp 68 = .ok (.iconst 1, 1) := by decide +kernel
theorem dX10_runUp_69 : decode cX10_runUp 69 = .ok (.isub, 1) := by decide +kernel
theorem dX10_runUp_70 : decode cX10_runUp 70 = .ok (.iload 8, 2) := by decide +kernel
theorem dX10_runUp_72 : decode cX10_runUp 72 = .ok (.ishl, 1) := by decide +kernel
theorem dX10_runUp_73 : decode cX10_runUp 73 = .ok (.ior, 1) := by decide +kernel
theorem dX10_runUp_74 : decode cX10_runUp 74 = .ok (.istore 6, 2) := by decide +kernel
theorem dX10_runUp_76 : decode cX10_runUp 76 = .ok (.aload_n 3, 1) := by decide +kernel
theorem dX10_runUp_77 : decode cX10_runUp 77 = .ok (.iload 8, 2) := by decide +kernel
theorem dX10_runUp_79 : decode cX10_runUp 79 = .ok (.invokevirtual 207, 3) := by decide +kernel
theorem dX10_runUp_82 : decode cX10_runUp 82 = .ok (.ifCond .ne 12, 3) := by decide +kernel
theorem dX10_runUp_85 : decode cX10_runUp 85 = .ok (.iload 7, 2) := by decide +kernel
theorem dX10_runUp_87 : decode cX10_runUp 87 = .ok (.iconst 1, 1) := by decide +kernel
theorem dX10_runUp_88 : decode cX10_runUp 88 = .ok (.iload 8, 2) := by decide +kernel
theorem dX10_runUp_90 : decode cX10_runUp 90 = .ok (.ishl, 1) := by decide +kernel
theorem dX10_runUp_91 : decode cX10_runUp 91 = .ok (.ior, 1) := by decide +kernel
theorem dX10_runUp_92 : decode cX10_runUp 92 = .ok (.istore 7, 2) := by decide +kernel
theorem dX10_runUp_94 : decode cX10_runUp 94 = .ok (.iload 9, 2) := by decide +kernel
theorem dX10_runUp_96 : decode cX10_runUp 96 = .ok (.iload 5, 2) := by decide +kernel
theorem dX10_runUp_98 : decode cX10_runUp 98 = .ok (.if_icmp .le 11, 3) := by decide +kernel
theorem dX10_runUp_101 : decode cX10_runUp 101 = .ok (.iload 9, 2) := by decide +kernel
theorem dX10_runUp_103 : decode cX10_runUp 103 = .ok (.istore 5, 2) := by decide +kernel
theorem dX10_runUp_105 : decode cX10_runUp 105 = .ok (.iload 8, 2) := by decide +kernel
theorem dX10_runUp_107 : decode cX10_runUp 107 = .ok (.istore 4, 2) := by decide +kernel
theorem dX10_runUp_109 : decode cX10_runUp 109 = .ok (.iinc 8 1, 3) := by decide +kernel
theorem dX10_runUp_112 : decode cX10_runUp 112 = .ok (.goto (-75), 3) := by decide +kernel
theorem dX10_runUp_115 : decode cX10_runUp 115 = .ok (.iload_n 2, 1) := by decide +kernel
theorem dX10_runUp_116 : decode cX10_runUp 116 = .ok (.tableswitch 37 0 2 #[28, 31, 34], 28) := by decide +kernel
theorem dX10_runUp_144 : decode cX10_runUp 144 = .ok (.iload 4, 2) := by decide +kernel
theorem dX10_runUp_146 : decode cX10_runUp 146 = .ok (.ireturn, 1) := by decide +kernel
theorem dX10_runUp_147 : decode cX10_runUp 147 = .ok (.iload 5, 2) := by decide +kernel
theorem dX10_runUp_149 : decode cX10_runUp 149 = .ok (.ireturn, 1) := by decide +kernel
theorem dX10_runUp_150 : decode cX10_runUp 150 = .ok (.iload 6, 2) := by decide +kernel
theorem dX10_runUp_152 : decode cX10_runUp 152 = .ok (.ireturn, 1) := by decide +kernel
theorem dX10_runUp_153 : decode cX10_runUp 153 = .ok (.iload 7, 2) := by decide +kernel
theorem dX10_runUp_155 : decode cX10_runUp 155 = .ok (.ireturn, 1) := by decide +kernel
set_option maxRecDepth 20000 in
theorem ggX10_oneBit_X10_songAt : GoodIn wsX10_oneBit wsX10_songAt := goodIn_r _ [7, 8, 9, 10, 6, 11, 175, 176, 177, 178, 179, 180, 181, 182, 183, 184, 185, 186] rfl (by decide +kernel)
set_option maxRecDepth 20000 in
theorem gX10_oneBit_X10_songAt : GoodIn wsX10_oneBit (wsV RX10 102 RX10 yX10_songAt wsX10_songAt) := goodIn_app (goodIn_of _ (by decide +kernel)) ggX10_oneBit_X10_songAt
set_option maxRecDepth 20000 in
theorem ggX10_oneBit_X10_isOf : GoodIn wsX10_oneBit wsX10_isOf := goodIn_r _ [11] rfl (by decide +kernel)
set_option maxRecDepth 20000 in
theorem gX10_oneBit_X10_isOf : GoodIn wsX10_oneBit (va_wsS RX10 140 yX10_isOf wsX10_isOf) := goodIn_app (goodIn_of _ (by decide +kernel)) ggX10_oneBit_X10_isOf
set_option maxRecDepth 20000 in
theorem ggX10_oneBit_X8_isLacked : GoodIn wsX10_oneBit wsX8_isLacked := goodIn_r _ [16, 17, 18, 15, 19, 20, 21, 22, 23, 24, 25, 26, 27, 28, 29, 30, 31, 32, 33, 34, 35, 36, 187, 188, 189, 190, 191] rfl (by decide +kernel)
set_option maxRecDepth 20000 in
theorem gX10_oneBit_X8_isLacked : GoodIn wsX10_oneBit (wsV RX10 210 RX8 yX8_isLacked wsX8_isLacked) := goodIn_app (goodIn_of _ (by decide +kernel)) ggX10_oneBit_X8_isLacked
set_option maxRecDepth 20000 in
theorem ggX10_oneBit_X8_setHad : GoodIn wsX10_oneBit wsX8_setHad := goodIn_r _ [40, 29, 34, 35, 15, 36, 30, 31, 32, 33, 41, 42, 43, 187, 188, 189, 190, 191] rfl (by decide +kernel)
set_option maxRecDepth 20000 in
theorem gX10_oneBit_X8_setHad : GoodIn wsX10_oneBit (wsV RX10 153 RX8 yX8_setHad wsX8_setHad) := goodIn_app (goodIn_of _ (by decide +kernel)) ggX10_oneBit_X8_setHad
set_option maxRecDepth 20000 in
theorem ggX10_oneBit_X3_rightFrom : GoodIn wsX10_oneBit wsX3_rightFrom := goodIn_r _ [48, 49, 50, 51, 47, 52, 53, 54, 55, 56, 57, 58, 59, 60, 61, 62, 63, 64, 65, 66, 67, 68, 69, 70, 15, 71, 72, 73, 74, 75, 29, 30, 31, 32, 33, 76, 77, 78, 79, 80, 81, 82, 83, 84, 85, 86, 87, 42, 43, 88, 89, 90, 91, 92, 93, 94, 95, 96, 97, 98, 99, 100, 101, 102, 103, 104, 105, 106, 107, 108, 109, 110, 111, 112, 113, 114, 115, 116, 117, 118, 119, 120, 121, 122, 123, 24, 124, 125, 126, 127, 128, 129, 130, 131, 132, 133, 134, 135, 136, 137, 138, 139, 140, 141, 142, 143, 144, 145, 146, 147, 148, 149, 150, 151, 152, 153, 154, 155, 156, 157, 158, 159, 160, 161, 162, 163, 164, 165, 166, 167, 168, 169, 192, 193, 194, 195, 196, 197, 198, 199, 187, 188, 189, 190, 191, 200, 201, 202, 203, 204, 205, 206, 207, 208, 209] rfl (by decide +kernel)
set_option maxRecDepth 20000 in
theorem gX10_oneBit_X3_rightFrom : GoodIn wsX10_oneBit (wsV RX10 203 RX3 yX3_rightFrom wsX3_rightFrom) := goodIn_app (goodIn_of _ (by decide +kernel)) ggX10_oneBit_X3_rightFrom
set_option maxRecDepth 20000 in
theorem ggX10_oneBit_X8_singerOf : GoodIn wsX10_oneBit wsX8_singerOf := goodIn_r _ [36] rfl (by decide +kernel)
set_option maxRecDepth 20000 in
theorem gX10_oneBit_X8_singerOf : GoodIn wsX10_oneBit (va_wsS RX10 213 yX8_singerOf wsX8_singerOf) := goodIn_app (goodIn_of _ (by decide +kernel)) ggX10_oneBit_X8_singerOf
set_option maxRecDepth 20000 in
theorem ggX10_oneBit_X8_lineOf : GoodIn wsX10_oneBit wsX8_lineOf := goodIn_r _ [19] rfl (by decide +kernel)
set_option maxRecDepth 20000 in
theorem gX10_oneBit_X8_lineOf : GoodIn wsX10_oneBit (va_wsS RX10 216 yX8_lineOf wsX8_lineOf) := goodIn_app (goodIn_of _ (by decide +kernel)) ggX10_oneBit_X8_lineOf
set_option maxRecDepth 20000 in
theorem ggX10_oneBit_X8_whichOf : GoodIn wsX10_oneBit wsX8_whichOf := goodIn_r _ [174] rfl (by decide +kernel)
set_option maxRecDepth 20000 in
theorem gX10_oneBit_X8_whichOf : GoodIn wsX10_oneBit (va_wsS RX10 217 yX8_whichOf wsX8_whichOf) := goodIn_app (goodIn_of _ (by decide +kernel)) ggX10_oneBit_X8_whichOf
theorem dX10_oneBit_0 : decode cX10_oneBit 0 = .ok (.aload_n 0, 1) := by decide +kernel
theorem dX10_oneBit_1 : decode cX10_oneBit 1 = .ok (.iload_n 1, 1) := by decide +kernel
theorem dX10_oneBit_2 : decode cX10_oneBit 2 = .ok (.invokevirtual 102, 3) := by decide +kernel
theorem dX10_oneBit_5 : decode cX10_oneBit 5 = .ok (.astore_n 3, 1) := by decide +kernel
theorem dX10_oneBit_6 : decode cX10_oneBit 6 = .ok (.aload_n 3, 1) := by decide +kernel
theorem dX10_oneBit_7 : decode cX10_oneBit 7 = .ok (.ifnull 11, 3) := by decide +kernel
theorem dX10_oneBit_10 : decode cX10_oneBit 10 = .ok (.iload_n 2, 1) := by decide +kernel
theorem dX10_oneBit_11 : decode cX10_oneBit 11 = .ok (.iconst 4, 1) := by decide +kernel
theorem dX10_oneBit_12 : decode cX10_oneBit 12 = .ok (.invokestatic 140, 3) := by decide +kernel
theorem dX10_oneBit_15 : decode cX10_oneBit 15 = .ok (.ifCond .ne 5, 3) := by decide +kernel
theorem dX10_oneBit_18 : decode cX10_oneBit 18 = .ok (.iconst (-1), 1) := by decide +kernel
theorem dX10_oneBit_19 : decode cX10_oneBit 19 = .ok (.ireturn, 1) := by decide +kernel
theorem dX10_oneBit_20 : decode cX10_oneBit 20 = .ok (.bipush (-2), 2) := by decide +kernel
theorem dX10_oneBit_22 : decode cX10_oneBit 22 = .ok (.istore 4, 2) := by decide +kernel
theorem dX10_oneBit_24 : decode cX10_oneBit 24 = .ok (.bipush (-2), 2) := by decide +kernel
theorem dX10_oneBit_26 : decode cX10_oneBit 26 = .ok (.istore 5, 2) := by decide +kernel
theorem dX10_oneBit_28 : decode cX10_oneBit 28 = .ok (.iconst 0, 1) := by decide +kernel
theorem dX10_oneBit_29 : decode cX10_oneBit 29 = .ok (.istore 6, 2) := by decide +kernel
theorem dX10_oneBit_31 : decode cX10_oneBit 31 = .ok (.iload 6, 2) := by decide +kernel
theorem dX10_oneBit_33 : decode cX10_oneBit 33 = .ok (.bipush 96, 2) := by decide +kernel
theorem dX10_oneBit_35 : decode cX10_oneBit 35 = .ok (.if_icmp .ge 65, 3) := by decide +kernel
theorem dX10_oneBit_38 : decode cX10_oneBit 38 = .ok (.aload_n 3, 1) := by decide +kernel
theorem dX10_oneBit_39 : decode cX10_oneBit 39 = .ok (.iload 6, 2) := by decide +kernel
theorem dX10_oneBit_41 : decode cX10_oneBit 41 = .ok (.invokevirtual 210, 3) := by decide +kernel
theorem dX10_oneBit_44 : decode cX10_oneBit 44 = .ok (.ifCond .ne 6, 3) := by decide +kernel
theorem dX10_oneBit_47 : decode cX10_oneBit 47 = .ok (.goto 47, 3) := by decide +kernel
theorem dX10_oneBit_50 : decode cX10_oneBit 50 = .ok (.aload_n 3, 1) := by decide +kernel
theorem dX10_oneBit_51 : decode cX10_oneBit 51 = .ok (.iload 6, 2) := by decide +kernel
theorem dX10_oneBit_53 : decode cX10_oneBit 53 = .ok (.iconst 1, 1) := by decide +kernel
theorem dX10_oneBit_54 : decode cX10_oneBit 54 = .ok (.invokevirtual 153, 3) := by decide +kernel
theorem dX10_oneBit_57 : decode cX10_oneBit 57 = .ok (.aload_n 0, 1) := by decide +kernel
theorem dX10_oneBit_58 : decode cX10_oneBit 58 = .ok (.getfield 49, 3) := by decide +kernel
theorem dX10_oneBit_61 : decode cX10_oneBit 61 = .ok (.aload_n 0, 1) := by decide +kernel
theorem dX10_oneBit_62 : decode cX10_oneBit 62 = .ok (.getfield 58, 3) := by decide +kernel
theorem dX10_oneBit_65 : decode cX10_oneBit 65 = .ok (.aload_n 3, 1) := by decide +kernel
theorem dX10_oneBit_66 : decode cX10_oneBit 66 = .ok (.iconst 0, 1) := by decide +kernel
theorem dX10_oneBit_67 : decode cX10_oneBit 67 = .ok (.invokevirtual 203, 3) := by decide +kernel
theorem dX10_oneBit_70 : decode cX10_oneBit 70 = .ok (.istore 7, 2) := by decide +kernel
theorem dX10_oneBit_72 : decode cX10_oneBit 72 = .ok (.aload_n 3, 1) := by decide +kernel
theorem dX10_oneBit_73 : decode cX10_oneBit 73 = .ok (.iload 6, 2) := by decide +kernel
theorem dX10_oneBit_75 : decode cX10_oneBit 75 = .ok (.iconst 0, 1) := by decide +kernel
theorem dX10_oneBit_76 : decode cX10_oneBit 76 = .ok (.invokevirtual 153, 3) := by decide +kernel
theorem dX10_oneBit_79 : decode cX10_oneBit 79 = .ok (.iload 7, 2) := by decide +kernel
theorem dX10_oneBit_81 : decode cX10_oneBit 81 = .ok (.iload 4, 2) := by decide +kernel
theorem dX10_oneBit_83 : decode cX10_oneBit 83 = .ok (.if_icmp .le 11, 3) := by decide +kernel
theorem dX10_oneBit_86 : decode cX10_oneBit 86 = .ok (.iload 7, 2) := by decide +kernel
theorem dX10_oneBit_88 : decode cX10_oneBit 88 = .ok (.istore 4, 2) := by decide +kernel
theorem dX10_oneBit_90 : decode cX10_oneBit 90 = .ok (.iload 6, 2) := by decide +kernel
theorem dX10_oneBit_92 : decode cX10_oneBit 92 = .ok (.istore 5, 2) := by decide +kernel
theorem dX10_oneBit_94 : decode cX10_oneBit 94 = .ok (.iinc 6 1, 3) := by decide +kernel
theorem dX10_oneBit_97 : decode cX10_oneBit 97 = .ok (.goto (-66), 3) := by decide +kernel
theorem dX10_oneBit_100 : decode cX10_oneBit 100 = .ok (.iload 5, 2) := by decide +kernel
theorem dX10_oneBit_102 : decode cX10_oneBit 102 = .ok (.ifCond .ge 6, 3) := by decide +kernel
theorem dX10_oneBit_105 : decode cX10_oneBit 105 = .ok (.bipush (-2), 2) := by decide +kernel
theorem dX10_oneBit_107 : decode cX10_oneBit 107 = .ok (.ireturn, 1) := by decide +kernel
theorem dX10_oneBit_108 : decode cX10_oneBit 108 = .ok (.iload_n 2, 1) := by decide +kernel
theorem dX10_oneBit_109 : decode cX10_oneBit 109 = .ok (.tableswitch 45 0 2 #[27, 33, 39], 27) := by decide +kernel
theorem dX10_oneBit_136 : decode cX10_oneBit 136 = .ok (.iload 5, 2) := by decide +kernel
theorem dX10_oneBit_138 : decode cX10_oneBit 138 = .ok (.invokestatic 213, 3) := by decide +kernel
theorem dX10_oneBit_141 : decode cX10_oneBit 141 = .ok (.ireturn, 1) := by decide +kernel
theorem dX10_oneBit_142 : decode cX10_oneBit 142 = .ok (.iload 5, 2) := by decide +kernel
theorem dX10_oneBit_144 : decode cX10_oneBit 144 = .ok (.invokestatic 216, 3) := by decide +kernel
theorem dX10_oneBit_147 : decode cX10_oneBit 147 = .ok (.ireturn, 1) := by decide +kernel
theorem dX10_oneBit_148 : decode cX10_oneBit 148 = .ok (.iload 5, 2) := by decide +kernel
theorem dX10_oneBit_150 : decode cX10_oneBit 150 = .ok (.invokestatic 217, 3) := by decide +kernel
theorem dX10_oneBit_153 : decode cX10_oneBit 153 = .ok (.ireturn, 1) := by decide +kernel
theorem dX10_oneBit_154 : decode cX10_oneBit 154 = .ok (.iload 4, 2) := by decide +kernel
theorem dX10_oneBit_156 : decode cX10_oneBit 156 = .ok (.ireturn, 1) := by decide +kernel
set_option maxRecDepth 20000 in
theorem ggX10_fewest_X10_songAt : GoodIn wsX10_fewest wsX10_songAt := goodIn_r _ [7, 8, 9, 10, 6, 11, 177, 178, 179, 180, 181, 182, 183, 184, 185, 186, 187, 188] rfl (by decide +kernel)
set_option maxRecDepth 20000 in
theorem gX10_fewest_X10_songAt : GoodIn wsX10_fewest (wsV RX10 102 RX10 yX10_songAt wsX10_songAt) := goodIn_app (goodIn_of _ (by decide +kernel)) ggX10_fewest_X10_songAt
set_option maxRecDepth 20000 in
theorem ggX10_fewest_X10_fewestBehind : GoodIn wsX10_fewest wsX10_fewestBehind := goodIn_r _ [14, 15, 16, 17, 18, 19, 20, 21, 22, 23, 24, 25, 26, 27, 28, 29, 30, 31, 32, 33, 34, 35, 36, 37, 38, 39, 40, 41, 42, 43, 44, 45, 46, 47, 48, 49, 50, 51, 52, 53, 54, 55, 56, 57, 58, 59, 60, 61, 62, 63, 64, 65, 66, 67, 68, 69, 70, 71, 72, 73, 74, 75, 76, 77, 78, 79, 80, 81, 82, 83, 84, 85, 86, 87, 88, 89, 90, 91, 92, 93, 94, 95, 96, 97, 98, 99, 100, 101, 102, 103, 104, 105, 106, 107, 108, 109, 110, 111, 112, 113, 114, 115, 116, 117, 118, 119, 120, 121, 122, 123, 124, 125, 126, 127, 128, 129, 130, 131, 132, 133, 134, 135, 136, 137, 138, 139, 140, 141, 142, 143, 144, 145, 146, 147, 148, 149, 150, 151, 152, 153, 154, 155, 156, 157, 158, 159, 160, 161, 162, 163, 164, 165, 166, 167, 168, 169, 170, 171, 172, 173, 174, 175, 176, 12, 13, 6, 189, 190, 191, 192, 193, 194, 195, 196, 197, 198, 199, 200, 201, 202, 203, 204, 205, 206, 207, 208, 209, 210, 211] rfl (by decide +kernel)
set_option maxRecDepth 20000 in
theorem gX10_fewest_X10_fewestBehind : GoodIn wsX10_fewest (va_wsS RX10 220 yX10_fewestBehind wsX10_fewestBehind) := goodIn_app (goodIn_of _ (by decide +kernel)) ggX10_fewest_X10_fewestBehind
theorem dX10_fewest_0 : decode cX10_fewest 0 = .ok (.aload_n 0, 1) := by decide +kernel
theorem dX10_fewest_1 : decode cX10_fewest 1 = .ok (.iload_n 1, 1) := by decide +kernel
theorem dX10_fewest_2 : decode cX10_fewest 2 = .ok (.invokevirtual 102, 3) := by decide +kernel
theorem dX10_fewest_5 : decode cX10_fewest 5 = .ok (.astore_n 2, 1) := by decide +kernel
theorem dX10_fewest_6 : decode cX10_fewest 6 = .ok (.aload_n 2, 1) := by decide +kernel
theorem dX10_fewest_7 : decode cX10_fewest 7 = .ok (.ifnonnull 7, 3) := by decide +kernel
theorem dX10_fewest_10 : decode cX10_fewest 10 = .ok (.iconst (-1), 1) := by decide +kernel
theorem dX10_fewest_11 : decode cX10_fewest 11 = .ok (.goto 16, 3) := by decide +kernel
theorem dX10_fewest_14 : decode cX10_fewest 14 = .ok (.aload_n 0, 1) := by decide +kernel
theorem dX10_fewest_15 : decode cX10_fewest 15 = .ok (.getfield 49, 3) := by decide +kernel
theorem dX10_fewest_18 : decode cX10_fewest 18 = .ok (.aload_n 0, 1) := by decide +kernel
theorem dX10_fewest_19 : decode cX10_fewest 19 = .ok (.getfield 58, 3) := by decide +kernel
theorem dX10_fewest_22 : decode cX10_fewest 22 = .ok (.aload_n 2, 1) := by decide +kernel
theorem dX10_fewest_23 : decode cX10_fewest 23 = .ok (.iconst 0, 1) := by decide +kernel
theorem dX10_fewest_24 : decode cX10_fewest 24 = .ok (.invokestatic 220, 3) := by decide +kernel
theorem dX10_fewest_27 : decode cX10_fewest 27 = .ok (.ireturn, 1) := by decide +kernel
set_option maxRecDepth 20000 in
theorem ggX10_fewestBehind_X3_rightFrom : GoodIn wsX10_fewestBehind wsX3_rightFrom := goodIn_r _ [5, 6, 7, 8, 4, 9, 10, 11, 12, 13, 14, 15, 16, 17, 18, 19, 20, 21, 22, 23, 24, 25, 26, 27, 28, 29, 30, 31, 32, 33, 34, 35, 36, 37, 38, 39, 40, 41, 42, 43, 44, 45, 46, 47, 48, 49, 50, 51, 52, 53, 54, 55, 56, 57, 58, 59, 60, 61, 62, 63, 64, 65, 66, 67, 68, 69, 70, 71, 72, 73, 74, 75, 76, 77, 78, 79, 80, 81, 82, 83, 84, 85, 86, 87, 88, 89, 90, 91, 92, 93, 94, 95, 96, 97, 98, 99, 100, 101, 102, 103, 104, 105, 106, 107, 108, 109, 110, 111, 112, 113, 114, 115, 116, 117, 118, 119, 120, 121, 122, 123, 124, 125, 126, 127, 128, 129, 130, 131, 132, 133, 134, 135, 166, 167, 168, 169, 170, 171, 172, 173, 174, 175, 176, 177, 178, 179, 180, 181, 182, 183, 184, 185, 186, 187, 188] rfl (by decide +kernel)
set_option maxRecDepth 20000 in
theorem gX10_fewestBehind_X3_rightFrom : GoodIn wsX10_fewestBehind (wsV RX10 203 RX3 yX3_rightFrom wsX3_rightFrom) := goodIn_app (goodIn_of _ (by decide +kernel)) ggX10_fewestBehind_X3_rightFrom
set_option maxRecDepth 20000 in
theorem ggX10_fewestBehind_X8_size : GoodIn wsX10_fewestBehind wsX8_size := goodIn_r _ [88, 89, 174, 175, 176, 177, 178] rfl (by decide +kernel)
set_option maxRecDepth 20000 in
theorem gX10_fewestBehind_X8_size : GoodIn wsX10_fewestBehind (wsV RX10 175 RX8 yX8_size wsX8_size) := goodIn_app (goodIn_of _ (by decide +kernel)) ggX10_fewestBehind_X8_size
set_option maxRecDepth 20000 in
theorem ggX10_fewestBehind_X8_bit : GoodIn wsX10_fewestBehind wsX8_bit := goodIn_r _ [139] rfl (by decide +kernel)
set_option maxRecDepth 20000 in
theorem gX10_fewestBehind_X8_bit : GoodIn wsX10_fewestBehind (va_wsS RX10 147 yX8_bit wsX8_bit) := goodIn_app (goodIn_of _ (by decide +kernel)) ggX10_fewestBehind_X8_bit
set_option maxRecDepth 20000 in
theorem ggX10_fewestBehind_X8_isLacked : GoodIn wsX10_fewestBehind wsX8_isLacked := goodIn_r _ [143, 144, 145, 28, 146, 147, 148, 149, 150, 89, 151, 152, 153, 154, 34, 35, 36, 37, 38, 155, 156, 157, 174, 175, 176, 177, 178] rfl (by decide +kernel)
set_option maxRecDepth 20000 in
theorem gX10_fewestBehind_X8_isLacked : GoodIn wsX10_fewestBehind (wsV RX10 210 RX8 yX8_isLacked wsX8_isLacked) := goodIn_app (goodIn_of _ (by decide +kernel)) ggX10_fewestBehind_X8_isLacked
set_option maxRecDepth 20000 in
theorem ggX10_fewestBehind_X8_setHad : GoodIn wsX10_fewestBehind wsX8_setHad := goodIn_r _ [161, 34, 155, 156, 28, 157, 35, 36, 37, 38, 162, 51, 52, 174, 175, 176, 177, 178] rfl (by decide +kernel)
set_option maxRecDepth 20000 in
theorem gX10_fewestBehind_X8_setHad : GoodIn wsX10_fewestBehind (wsV RX10 153 RX8 yX8_setHad wsX8_setHad) := goodIn_app (goodIn_of _ (by decide +kernel)) ggX10_fewestBehind_X8_setHad
set_option maxRecDepth 20000 in
theorem ggX10_fewestBehind_X10_fewestBehind : GoodIn wsX10_fewestBehind wsX10_fewestBehind := goodIn_r _ [0, 1, 2, 3, 4, 5, 6, 7, 8, 9, 10, 11, 12, 13, 14, 15, 16, 17, 18, 19, 20, 21, 22, 23, 24, 25, 26, 27, 28, 29, 30, 31, 32, 33, 34, 35, 36, 37, 38, 39, 40, 41, 42, 43, 44, 45, 46, 47, 48, 49, 50, 51, 52, 53, 54, 55, 56, 57, 58, 59, 60, 61, 62, 63, 64, 65, 66, 67, 68, 69, 70, 71, 72, 73, 74, 75, 76, 77, 78, 79, 80, 81, 82, 83, 84, 85, 86, 87, 88, 89, 90, 91, 92, 93, 94, 95, 96, 97, 98, 99, 100, 101, 102, 103, 104, 105, 106, 107, 108, 109, 110, 111, 112, 113, 114, 115, 116, 117, 118, 119, 120, 121, 122, 123, 124, 125, 126, 127, 128, 129, 130, 131, 132, 133, 134, 135, 136, 137, 138, 139, 140, 141, 142, 143, 144, 145, 146, 147, 148, 149, 150, 151, 152, 153, 154, 155, 156, 157, 158, 159, 160, 161, 162, 163, 164, 165, 166, 167, 168, 169, 170, 171, 172, 173, 174, 175, 176, 177, 178, 179, 180, 181, 182, 183, 184, 185, 186, 187, 188] rfl (by decide +kernel)
set_option maxRecDepth 20000 in
theorem gX10_fewestBehind_X10_fewestBehind : GoodIn wsX10_fewestBehind (va_wsS RX10 220 yX10_fewestBehind wsX10_fewestBehind) := goodIn_app (goodIn_of _ (by decide +kernel)) ggX10_fewestBehind_X10_fewestBehind
theorem dX10_fewestBehind_0 : decode cX10_fewestBehind 0 = .ok (.aload_n 0, 1) := by decide +kernel
theorem dX10_fewestBehind_1 : decode cX10_fewestBehind 1 = .ok (.aload_n 1, 1) := by decide +kernel
theorem dX10_fewestBehind_2 : decode cX10_fewestBehind 2 = .ok (.aload_n 2, 1) := by decide +kernel
theorem dX10_fewestBehind_3 : decode cX10_fewestBehind 3 = .ok (.iconst 0, 1) := by decide +kernel
theorem dX10_fewestBehind_4 : decode cX10_fewestBehind 4 = .ok (.invokevirtual 203, 3) := by decide +kernel
theorem dX10_fewestBehind_7 : decode cX10_fewestBehind 7 = .ok (.istore 4, 2) := by decide +kernel
theorem dX10_fewestBehind_9 : decode cX10_fewestBehind 9 = .ok (.iload 4, 2) := by decide +kernel
theorem dX10_fewestBehind_11 : decode cX10_fewestBehind 11 = .ok (.aload_n 2, 1) := by decide +kernel
theorem dX10_fewestBehind_12 : decode cX10_fewestBehind 12 = .ok (.invokevirtual 175, 3) := by decide +kernel
theorem dX10_fewestBehind_15 : decode cX10_fewestBehind 15 = .ok (.if_icmp .lt 5, 3) := by decide +kernel
theorem dX10_fewestBehind_18 : decode cX10_fewestBehind 18 = .ok (.iload_n 3, 1) := by decide +kernel
theorem dX10_fewestBehind_19 : decode cX10_fewestBehind 19 = .ok (.ireturn, 1) := by decide +kernel
theorem dX10_fewestBehind_20 : decode cX10_fewestBehind 20 = .ok (.iload_n 3, 1) := by decide +kernel
theorem dX10_fewestBehind_21 : decode cX10_fewestBehind 21 = .ok (.iconst 2, 1) := by decide +kernel
theorem dX10_fewestBehind_22 : decode cX10_fewestBehind 22 = .ok (.if_icmp .lt 6, 3) := by decide +kernel
theorem dX10_fewestBehind_25 : decode cX10_fewestBehind 25 = .ok (.bipush (-2), 2) := by decide +kernel
theorem dX10_fewestBehind_27 : decode cX10_fewestBehind 27 = .ok (.ireturn, 1) := by decide +kernel
theorem dX10_fewestBehind_28 : decode cX10_fewestBehind 28 = .ok (.bipush (-2), 2) := by decide +kernel
theorem dX10_fewestBehind_30 : decode cX10_fewestBehind 30 = .ok (.istore 5, 2) := by decide +kernel
theorem dX10_fewestBehind_32 : decode cX10_fewestBehind 32 = .ok (.iconst 0, 1) := by decide +kernel
theorem dX10_fewestBehind_33 : decode cX10_fewestBehind 33 = .ok (.istore 6, 2) := by decide +kernel
theorem dX10_fewestBehind_35 : decode cX10_fewestBehind 35 = .ok (.iload 6, 2) := by decide +kernel
theorem dX10_fewestBehind_37 : decode cX10_fewestBehind 37 = .ok (.iconst 4, 1) := by decide +kernel
theorem dX10_fewestBehind_38 : decode cX10_fewestBehind 38 = .ok (.if_icmp .ge 93, 3) := by decide +kernel
theorem dX10_fewestBehind_41 : decode cX10_fewestBehind 41 = .ok (.iconst 0, 1) := by decide +kernel
theorem dX10_fewestBehind_42 : decode cX10_fewestBehind 42 = .ok (.istore 7, 2) := by decide +kernel
theorem dX10_fewestBehind_44 : decode cX10_fewestBehind 44 = .ok (.iload 7, 2) := by decide +kernel
theorem dX10_fewestBehind_46 : decode cX10_fewestBehind 46 = .ok (.iconst 2, 1) := by decide +kernel
theorem dX10_fewestBehind_47 : decode cX10_fewestBehind 47 = .ok (.if_icmp .ge 78, 3) := by decide +kernel
theorem dX10_fewestBehind_50 : decode cX10_fewestBehind 50 = .ok (.iload 6, 2) := by decide +kernel
theorem dX10_fewestBehind_52 : decode cX10_fewestBehind 52 = .ok (.iload 4, 2) := by decide +kernel
theorem dX10_fewestBehind_54 : decode cX10_fewestBehind 54 = .ok (.iload 7, 2) := by decide +kernel
theorem dX10_fewestBehind_56 : decode cX10_fewestBehind 56 = .ok (.invokestatic 147, 3) := by decide +kernel
theorem dX10_fewestBehind_59 : decode cX10_fewestBehind 59 = .ok (.istore 8, 2) := by decide +kernel
theorem dX10_fewestBehind_61 : decode cX10_fewestBehind 61 = .ok (.aload_n 2, 1) := by decide +kernel
theorem dX10_fewestBehind_62 : decode cX10_fewestBehind 62 = .ok (.iload 8, 2) := by decide +kernel
theorem dX10_fewestBehind_64 : decode cX10_fewestBehind 64 = .ok (.invokevirtual 210, 3) := by decide +kernel
theorem dX10_fewestBehind_67 : decode cX10_fewestBehind 67 = .ok (.ifCond .ne 6, 3) := by decide +kernel
theorem dX10_fewestBehind_70 : decode cX10_fewestBehind 70 = .ok (.goto 49, 3) := by decide +kernel
theorem dX10_fewestBehind_73 : decode cX10_fewestBehind 73 = .ok (.aload_n 2, 1) := by decide +kernel
theorem dX10_fewestBehind_74 : decode cX10_fewestBehind 74 = .ok (.iload 8, 2) := by decide +kernel
theorem dX10_fewestBehind_76 : decode cX10_fewestBehind 76 = .ok (.iconst 1, 1) := by decide +kernel
theorem dX10_fewestBehind_77 : decode cX10_fewestBehind 77 = .ok (.invokevirtual 153, 3) := by decide +kernel
theorem dX10_fewestBehind_80 : decode cX10_fewestBehind 80 = .ok (.aload_n 0, 1) := by decide +kernel
theorem dX10_fewestBehind_81 : decode cX10_fewestBehind 81 = .ok (.aload_n 1, 1) := by decide +kernel
theorem dX10_fewestBehind_82 : decode cX10_fewestBehind 82 = .ok (.aload_n 2, 1) := by decide +kernel
theorem dX10_fewestBehind_83 : decode cX10_fewestBehind 83 = .ok (.iload_n 3, 1) := by decide +kernel
theorem dX10_fewestBehind_84 : decode cX10_fewestBehind 84 = .ok (.iconst 1, 1) := by decide +kernel
theorem dX10_fewestBehind_85 : decode cX10_fewestBehind 85 = .ok (.iadd, 1) := by decide +kernel
theorem dX10_fewestBehind_86 : decode cX10_fewestBehind 86 = .ok (.invokestatic 220, 3) := by decide +kernel
theorem dX10_fewestBehind_89 : decode cX10_fewestBehind 89 = .ok (.istore 9, 2) := by decide +kernel
theorem dX10_fewestBehind_91 : decode cX10_fewestBehind 91 = .ok (.aload_n 2, 1) := by decide +kernel
theorem dX10_fewestBehind_92 : decode cX10_fewestBehind 92 = .ok (.iload 8, 2) := by decide +kernel
theorem dX10_fewestBehind_94 : decode cX10_fewestBehind 94 = .ok (.iconst 0, 1) := by decide +kernel
theorem dX10_fewestBehind_95 : decode cX10_fewestBehind 95 = .ok (.invokevirtual 153, 3) := by decide +kernel
theorem dX10_fewestBehind_98 : decode cX10_fewestBehind 98 = .ok (.iload 9, 2) := by decide +kernel
theorem dX10_fewestBehind_100 : decode cX10_fewestBehind 100 = .ok (.ifCond .lt 19, 3) := by decide +kernel
theorem dX10_fewestBehind_103 : decode cX10_fewestBehind 103 = .ok (.iload 5, 2) := by decide +kernel
theorem dX10_fewestBehind_105 : decode cX10_fewestBehind 105 = .ok (.ifCond .lt 10, 3) := by decide +kernel
theorem dX10_fewestBehind_108 : decode cX10_fewestBehind 108 = .ok (.iload 9, 2) := by decide +kernel
theorem dX10_fewestBehind_110 : decode cX10_fewestBehind 110 = .ok (.iload 5, 2) := by decide +kernel
theorem dX10_fewestBehind_112 : decode cX10_fewestBehind 112 = .ok (.if_icmp .ge 7, 3) := by decide +kernel
theorem dX10_fewestBehind_115 : decode cX10_fewestBehind 115 = .ok (.iload 9, 2) := by decide +kernel
theorem dX10_fewestBehind_117 : decode cX10_fewestBehind 117 = .ok (.istore 5, 2) := by decide +kernel
theorem dX10_fewestBehind_119 : decode cX10_fewestBehind 119 = .ok (.iinc 7 1, 3) := by decide +kernel
theorem dX10_fewestBehind_122 : decode cX10_fewestBehind 122 = .ok (.goto (-78), 3) := by decide +kernel
theorem dX10_fewestBehind_125 : decode cX10_fewestBehind 125 = .ok (.iinc 6 1, 3) := by decide +kernel
theorem dX10_fewestBehind_128 : decode cX10_fewestBehind 128 = .ok (.goto (-93), 3) := by decide +kernel
theorem dX10_fewestBehind_131 : decode cX10_fewestBehind 131 = .ok (.iload 5, 2) := by decide +kernel
theorem dX10_fewestBehind_133 : decode cX10_fewestBehind 133 = .ok (.ireturn, 1) := by decide +kernel
set_option maxRecDepth 20000 in
theorem ggX10_evenings_X10_songAt : GoodIn wsX10_evenings wsX10_songAt := goodIn_r _ [5, 6, 7, 8, 4, 9, 35, 36, 37, 38, 39, 40, 41, 42, 43, 44, 45, 46] rfl (by decide +kernel)
set_option maxRecDepth 20000 in
theorem gX10_evenings_X10_songAt : GoodIn wsX10_evenings (wsV RX10 102 RX10 yX10_songAt wsX10_songAt) := goodIn_app (goodIn_of _ (by decide +kernel)) ggX10_evenings_X10_songAt
set_option maxRecDepth 20000 in
theorem ggX10_evenings_X10_isOf : GoodIn wsX10_evenings wsX10_isOf := goodIn_r _ [9] rfl (by decide +kernel)
set_option maxRecDepth 20000 in
theorem gX10_evenings_X10_isOf : GoodIn wsX10_evenings (va_wsS RX10 140 yX10_isOf wsX10_isOf) := goodIn_app (goodIn_of _ (by decide +kernel)) ggX10_evenings_X10_isOf
set_option maxRecDepth 20000 in
theorem ggX10_evenings_X8_size : GoodIn wsX10_evenings wsX8_size := goodIn_r _ [14, 15, 47, 48, 49, 50, 51] rfl (by decide +kernel)
set_option maxRecDepth 20000 in
theorem gX10_evenings_X8_size : GoodIn wsX10_evenings (wsV RX10 175 RX8 yX8_size wsX8_size) := goodIn_app (goodIn_of _ (by decide +kernel)) ggX10_evenings_X8_size
set_option maxRecDepth 20000 in
theorem ggX10_evenings_X8_bit : GoodIn wsX10_evenings wsX8_bit := goodIn_r _ [18] rfl (by decide +kernel)
set_option maxRecDepth 20000 in
theorem gX10_evenings_X8_bit : GoodIn wsX10_evenings (va_wsS RX10 147 yX8_bit wsX8_bit) := goodIn_app (goodIn_of _ (by decide +kernel)) ggX10_evenings_X8_bit
set_option maxRecDepth 20000 in
theorem ggX10_evenings_X8_isHad : GoodIn wsX10_evenings wsX8_isHad := goodIn_r _ [22, 23, 24, 25, 26, 27, 28, 29, 13, 30, 47, 48, 49, 50, 51] rfl (by decide +kernel)
set_option maxRecDepth 20000 in
theorem gX10_evenings_X8_isHad : GoodIn wsX10_evenings (wsV RX10 150 RX8 yX8_isHad wsX8_isHad) := goodIn_app (goodIn_of _ (by decide +kernel)) ggX10_evenings_X8_isHad
set_option maxRecDepth 20000 in
theorem ggX10_evenings_X8_havers : GoodIn wsX10_evenings wsX8_havers := goodIn_r _ [34, 23, 24, 25, 26, 27, 47, 48, 49, 50, 51] rfl (by decide +kernel)
set_option maxRecDepth 20000 in
theorem gX10_evenings_X8_havers : GoodIn wsX10_evenings (wsV RX10 178 RX8 yX8_havers wsX8_havers) := goodIn_app (goodIn_of _ (by decide +kernel)) ggX10_evenings_X8_havers
theorem dX10_evenings_0 : decode cX10_evenings 0 = .ok (.aload_n 0, 1) := by decide +kernel
theorem dX10_evenings_1 : decode cX10_evenings 1 = .ok (.iload_n 1, 1) := by decide +kernel
theorem dX10_evenings_2 : decode cX10_evenings 2 = .ok (.invokevirtual 102, 3) := by decide +kernel
theorem dX10_evenings_5 : decode cX10_evenings 5 = .ok (.astore_n 3, 1) := by decide +kernel
theorem dX10_evenings_6 : decode cX10_evenings 6 = .ok (.aload_n 3, 1) := by decide +kernel
theorem dX10_evenings_7 : decode cX10_evenings 7 = .ok (.ifnull 11, 3) := by decide +kernel
theorem dX10_evenings_10 : decode cX10_evenings 10 = .ok (.iload_n 2, 1) := by decide +kernel
theorem dX10_evenings_11 : decode cX10_evenings 11 = .ok (.iconst 4, 1) := by decide +kernel
theorem dX10_evenings_12 : decode cX10_evenings 12 = .ok (.invokestatic 140, 3) := by decide +kernel
theorem dX10_evenings_15 : decode cX10_evenings 15 = .ok (.ifCond .ne 5, 3) := by decide +kernel
theorem dX10_evenings_18 : decode cX10_evenings 18 = .ok (.iconst (-1), 1) := by decide +kernel
theorem dX10_evenings_19 : decode cX10_evenings 19 = .ok (.ireturn, 1) := by decide +kernel
theorem dX10_evenings_20 : decode cX10_evenings 20 = .ok (.iconst 0, 1) := by decide +kernel
theorem dX10_evenings_21 : decode cX10_evenings 21 = .ok (.istore 4, 2) := by decide +kernel
theorem dX10_evenings_23 : decode cX10_evenings 23 = .ok (.iconst 0, 1) := by decide +kernel
theorem dX10_evenings_24 : decode cX10_evenings 24 = .ok (.istore 5, 2) := by decide +kernel
theorem dX10_evenings_26 : decode cX10_evenings 26 = .ok (.iload 5, 2) := by decide +kernel
theorem dX10_evenings_28 : decode cX10_evenings 28 = .ok (.aload_n 3, 1) := by decide +kernel
theorem dX10_evenings_29 : decode cX10_evenings 29 = .ok (.invokevirtual 175, 3) := by decide +kernel
theorem dX10_evenings_32 : decode cX10_evenings 32 = .ok (.if_icmp .ge 59, 3) := by decide +kernel
theorem dX10_evenings_35 : decode cX10_evenings 35 = .ok (.iconst 0, 1) := by decide +kernel
theorem dX10_evenings_36 : decode cX10_evenings 36 = .ok (.istore 6, 2) := by decide +kernel
theorem dX10_evenings_38 : decode cX10_evenings 38 = .ok (.iload 6, 2) := by decide +kernel
theorem dX10_evenings_40 : decode cX10_evenings 40 = .ok (.iconst 2, 1) := by decide +kernel
theorem dX10_evenings_41 : decode cX10_evenings 41 = .ok (.if_icmp .ge 44, 3) := by decide +kernel
theorem dX10_evenings_44 : decode cX10_evenings 44 = .ok (.aload_n 3, 1) := by decide +kernel
theorem dX10_evenings_45 : decode cX10_evenings 45 = .ok (.iload_n 2, 1) := by decide +kernel
theorem dX10_evenings_46 : decode cX10_evenings 46 = .ok (.iload 5, 2) := by decide +kernel
theorem dX10_evenings_48 : decode cX10_evenings 48 = .ok (.iload 6, 2) := by decide +kernel
theorem dX10_evenings_50 : decode cX10_evenings 50 = .ok (.invokestatic 147, 3) := by decide +kernel
theorem dX10_evenings_53 : decode cX10_evenings 53 = .ok (.invokevirtual 150, 3) := by decide +kernel
theorem dX10_evenings_56 : decode cX10_evenings 56 = .ok (.ifCond .eq 6, 3) := by decide +kernel
theorem dX10_evenings_59 : decode cX10_evenings 59 = .ok (.goto 20, 3) := by decide +kernel
theorem dX10_evenings_62 : decode cX10_evenings 62 = .ok (.aload_n 3, 1) := by decide +kernel
theorem dX10_evenings_63 : decode cX10_evenings 63 = .ok (.iload 5, 2) := by decide +kernel
theorem dX10_evenings_65 : decode cX10_evenings 65 = .ok (.iload 6, 2) := by decide +kernel
theorem dX10_evenings_67 : decode cX10_evenings 67 = .ok (.invokevirtual 178, 3) := by decide +kernel
theorem dX10_evenings_70 : decode cX10_evenings 70 = .ok (.ifCond .ne 6, 3) := by decide +kernel
theorem dX10_evenings_73 : decode cX10_evenings 73 = .ok (.bipush (-2), 2) := by decide +kernel
theorem dX10_evenings_75 : decode cX10_evenings 75 = .ok (.ireturn, 1) := by decide +kernel
theorem dX10_evenings_76 : decode cX10_evenings 76 = .ok (.iinc 4 1, 3) := by decide +kernel
theorem dX10_evenings_79 : decode cX10_evenings 79 = .ok (.iinc 6 1, 3) := by decide +kernel
theorem dX10_evenings_82 : decode cX10_evenings 82 = .ok (.goto (-44), 3) := by decide +kernel
theorem dX10_evenings_85 : decode cX10_evenings 85 = .ok (.iinc 5 1, 3) := by decide +kernel
theorem dX10_evenings_88 : decode cX10_evenings 88 = .ok (.goto (-62), 3) := by decide +kernel
theorem dX10_evenings_91 : decode cX10_evenings 91 = .ok (.iload 4, 2) := by decide +kernel
theorem dX10_evenings_93 : decode cX10_evenings 93 = .ok (.ireturn, 1) := by decide +kernel
set_option maxRecDepth 20000 in
theorem ggX10_which_X10_shelfAt : GoodIn wsX10_which wsX10_shelfAt := goodIn_r _ [6, 7, 8, 9, 5, 10, 59, 60, 61, 62, 63, 64, 65, 66, 67, 68, 69, 70] rfl (by decide +kernel)
set_option maxRecDepth 20000 in
theorem gX10_which_X10_shelfAt : GoodIn wsX10_which (wsV RX10 118 RX10 yX10_shelfAt wsX10_shelfAt) := goodIn_app (goodIn_of _ (by decide +kernel)) ggX10_which_X10_shelfAt
set_option maxRecDepth 20000 in
theorem ggX10_which_X6_refusalOfBytes : GoodIn wsX10_which wsX6_refusalOfBytes := goodIn_r _ [15, 16, 17, 18, 14, 19, 20, 21, 22, 23, 24, 25, 26, 27, 28, 29, 71, 72, 73, 74, 75] rfl (by decide +kernel)
set_option maxRecDepth 20000 in
theorem gX10_which_X6_refusalOfBytes : GoodIn wsX10_which (wsV RX10 224 RX6 yX6_refusalOfBytes wsX6_refusalOfBytes) := goodIn_app (goodIn_of _ (by decide +kernel)) ggX10_which_X6_refusalOfBytes
set_option maxRecDepth 20000 in
theorem ggX10_which_X8_placeOf : GoodIn wsX10_which wsX8_placeOf := goodIn_r _ [34, 35, 36, 37, 38, 14, 39, 40, 41, 42, 43, 33, 44, 45, 46, 47, 48, 49, 50, 51, 52, 53, 54, 55, 56, 57, 58, 76, 77, 78, 79, 80, 71, 72, 73, 74, 75] rfl (by decide +kernel)
set_option maxRecDepth 20000 in
theorem gX10_which_X8_placeOf : GoodIn wsX10_which (wsV RX10 227 RX8 yX8_placeOf wsX8_placeOf) := goodIn_app (goodIn_of _ (by decide +kernel)) ggX10_which_X8_placeOf
theorem dX10_which_0 : decode cX10_which 0 = .ok (.aload_n 0, 1) := by decide +kernel
theorem dX10_which_1 : decode cX10_which 1 = .ok (.iload_n 1, 1) := by decide +kernel
theorem dX10_which_2 : decode cX10_which 2 = .ok (.invokevirtual 118, 3) := by decide +kernel
theorem dX10_which_5 : decode cX10_which 5 = .ok (.astore_n 2, 1) := by decide +kernel
theorem dX10_which_6 : decode cX10_which 6 = .ok (.aload_n 2, 1) := by decide +kernel
theorem dX10_which_7 : decode cX10_which 7 = .ok (.ifnonnull 5, 3) := by decide +kernel
theorem dX10_which_10 : decode cX10_which 10 = .ok (.iconst (-1), 1) := by decide +kernel
theorem dX10_which_11 : decode cX10_which 11 = .ok (.ireturn, 1) := by decide +kernel
theorem dX10_which_12 : decode cX10_which 12 = .ok (.aload_n 2, 1) := by decide +kernel
theorem dX10_which_13 : decode cX10_which 13 = .ok (.invokevirtual 224, 3) := by decide +kernel
theorem dX10_which_16 : decode cX10_which 16 = .ok (.istore_n 3, 1) := by decide +kernel
theorem dX10_which_17 : decode cX10_which 17 = .ok (.iload_n 3, 1) := by decide +kernel
theorem dX10_which_18 : decode cX10_which 18 = .ok (.ifCond .ge 5, 3) := by decide +kernel
theorem dX10_which_21 : decode cX10_which 21 = .ok (.iload_n 3, 1) := by decide +kernel
theorem dX10_which_22 : decode cX10_which 22 = .ok (.ireturn, 1) := by decide +kernel
theorem dX10_which_23 : decode cX10_which 23 = .ok (.iconst 0, 1) := by decide +kernel
theorem dX10_which_24 : decode cX10_which 24 = .ok (.istore 4, 2) := by decide +kernel
theorem dX10_which_26 : decode cX10_which 26 = .ok (.iconst 0, 1) := by decide +kernel
theorem dX10_which_27 : decode cX10_which 27 = .ok (.istore 5, 2) := by decide +kernel
theorem dX10_which_29 : decode cX10_which 29 = .ok (.iload 5, 2) := by decide +kernel
theorem dX10_which_31 : decode cX10_which 31 = .ok (.aload_n 0, 1) := by decide +kernel
theorem dX10_which_32 : decode cX10_which 32 = .ok (.getfield 11, 3) := by decide +kernel
theorem dX10_which_35 : decode cX10_which 35 = .ok (.arraylength, 1) := by decide +kernel
theorem dX10_which_36 : decode cX10_which 36 = .ok (.if_icmp .ge 32, 3) := by decide +kernel
theorem dX10_which_39 : decode cX10_which 39 = .ok (.aload_n 0, 1) := by decide +kernel
theorem dX10_which_40 : decode cX10_which 40 = .ok (.getfield 11, 3) := by decide +kernel
theorem dX10_which_43 : decode cX10_which 43 = .ok (.iload 5, 2) := by decide +kernel
theorem dX10_which_45 : decode cX10_which 45 = .ok (.aaload, 1) := by decide +kernel
theorem dX10_which_46 : decode cX10_which 46 = .ok (.aload_n 2, 1) := by decide +kernel
theorem dX10_which_47 : decode cX10_which 47 = .ok (.invokevirtual 227, 3) := by decide +kernel
theorem dX10_which_50 : decode cX10_which 50 = .ok (.ifCond .lt 12, 3) := by decide +kernel
theorem dX10_which_53 : decode cX10_which 53 = .ok (.iload 4, 2) := by decide +kernel
theorem dX10_which_55 : decode cX10_which 55 = .ok (.iconst 1, 1) := by decide +kernel
theorem dX10_which_56 : decode cX10_which 56 = .ok (.iload 5, 2) := by decide +kernel
theorem dX10_which_58 : decode cX10_which 58 = .ok (.ishl, 1) := by decide +kernel
theorem dX10_which_59 : decode cX10_which 59 = .ok (.ior, 1) := by decide +kernel
theorem dX10_which_60 : decode cX10_which 60 = .ok (.istore 4, 2) := by decide +kernel
theorem dX10_which_62 : decode cX10_which 62 = .ok (.iinc 5 1, 3) := by decide +kernel
theorem dX10_which_65 : decode cX10_which 65 = .ok (.goto (-36), 3) := by decide +kernel
theorem dX10_which_68 : decode cX10_which 68 = .ok (.iload 4, 2) := by decide +kernel
theorem dX10_which_70 : decode cX10_which 70 = .ok (.ireturn, 1) := by decide +kernel
set_option maxRecDepth 20000 in
theorem ggX10_from_X10_shelfAt : GoodIn wsX10_from wsX10_shelfAt := goodIn_r _ [5, 6, 7, 8, 4, 9, 63, 64, 65, 66, 67, 68, 69, 70, 71, 72, 73, 74] rfl (by decide +kernel)
set_option maxRecDepth 20000 in
theorem gX10_from_X10_shelfAt : GoodIn wsX10_from (wsV RX10 118 RX10 yX10_shelfAt wsX10_shelfAt) := goodIn_app (goodIn_of _ (by decide +kernel)) ggX10_from_X10_shelfAt
set_option maxRecDepth 20000 in
theorem ggX10_from_X10_songAt : GoodIn wsX10_from wsX10_songAt := goodIn_r _ [13, 14, 7, 8, 4, 9, 63, 64, 65, 66, 67, 68, 69, 70, 71, 72, 73, 74] rfl (by decide +kernel)
set_option maxRecDepth 20000 in
theorem gX10_from_X10_songAt : GoodIn wsX10_from (wsV RX10 102 RX10 yX10_songAt wsX10_songAt) := goodIn_app (goodIn_of _ (by decide +kernel)) ggX10_from_X10_songAt
set_option maxRecDepth 20000 in
theorem ggX10_from_X6_refusalOfBytes : GoodIn wsX10_from wsX6_refusalOfBytes := goodIn_r _ [19, 20, 21, 22, 18, 23, 24, 25, 26, 27, 28, 29, 30, 31, 32, 33, 75, 76, 77, 78, 79] rfl (by decide +kernel)
set_option maxRecDepth 20000 in
theorem gX10_from_X6_refusalOfBytes : GoodIn wsX10_from (wsV RX10 224 RX6 yX6_refusalOfBytes wsX6_refusalOfBytes) := goodIn_app (goodIn_of _ (by decide +kernel)) ggX10_from_X6_refusalOfBytes
set_option maxRecDepth 20000 in
theorem ggX10_from_X8_placeOf : GoodIn wsX10_from wsX8_placeOf := goodIn_r _ [38, 39, 40, 41, 42, 18, 43, 44, 45, 46, 47, 37, 48, 49, 50, 51, 52, 53, 54, 55, 56, 57, 58, 59, 60, 61, 62, 80, 81, 82, 83, 84, 75, 76, 77, 78, 79] rfl (by decide +kernel)
set_option maxRecDepth 20000 in
theorem gX10_from_X8_placeOf : GoodIn wsX10_from (wsV RX10 227 RX8 yX8_placeOf wsX8_placeOf) := goodIn_app (goodIn_of _ (by decide +kernel)) ggX10_from_X8_placeOf
theorem dX10_from_0 : decode cX10_from 0 = .ok (.aload_n 0, 1) := by decide +kernel
theorem dX10_from_1 : decode cX10_from 1 = .ok (.iload_n 1, 1) := by decide +kernel
theorem dX10_from_2 : decode cX10_from 2 = .ok (.invokevirtual 118, 3) := by decide +kernel
theorem dX10_from_5 : decode cX10_from 5 = .ok (.astore_n 3, 1) := by decide +kernel
theorem dX10_from_6 : decode cX10_from 6 = .ok (.aload_n 0, 1) := by decide +kernel
theorem dX10_from_7 : decode cX10_from 7 = .ok (.iload_n 2, 1) := by decide +kernel
theorem dX10_from_8 : decode cX10_from 8 = .ok (.invokevirtual 102, 3) := by decide +kernel
theorem dX10_from_11 : decode cX10_from 11 = .ok (.astore 4, 2) := by decide +kernel
theorem dX10_from_13 : decode cX10_from 13 = .ok (.aload_n 3, 1) := by decide +kernel
theorem dX10_from_14 : decode cX10_from 14 = .ok (.ifnull 8, 3) := by decide +kernel
theorem dX10_from_17 : decode cX10_from 17 = .ok (.aload 4, 2) := by decide +kernel
theorem dX10_from_19 : decode cX10_from 19 = .ok (.ifnonnull 5, 3) := by decide +kernel
theorem dX10_from_22 : decode cX10_from 22 = .ok (.iconst (-1), 1) := by decide +kernel
theorem dX10_from_23 : decode cX10_from 23 = .ok (.ireturn, 1) := by decide +kernel
theorem dX10_from_24 : decode cX10_from 24 = .ok (.aload_n 3, 1) := by decide +kernel
theorem dX10_from_25 : decode cX10_from 25 = .ok (.invokevirtual 224, 3) := by decide +kernel
theorem dX10_from_28 : decode cX10_from 28 = .ok (.istore 5, 2) := by decide +kernel
theorem dX10_from_30 : decode cX10_from 30 = .ok (.iload 5, 2) := by decide +kernel
theorem dX10_from_32 : decode cX10_from 32 = .ok (.ifCond .ge 8, 3) := by decide +kernel
theorem dX10_from_35 : decode cX10_from 35 = .ok (.iload 5, 2) := by decide +kernel
theorem dX10_from_37 : decode cX10_from 37 = .ok (.goto 9, 3) := by decide +kernel
theorem dX10_from_40 : decode cX10_from 40 = .ok (.aload 4, 2) := by decide +kernel
theorem dX10_from_42 : decode cX10_from 42 = .ok (.aload_n 3, 1) := by decide +kernel
theorem dX10_from_43 : decode cX10_from 43 = .ok (.invokevirtual 227, 3) := by decide +kernel
theorem dX10_from_46 : decode cX10_from 46 = .ok (.ireturn, 1) := by decide +kernel
set_option maxRecDepth 20000 in
theorem ggX10_judge_X10_shelfAt : GoodIn wsX10_judge wsX10_shelfAt := goodIn_r _ [5, 6, 7, 8, 4, 9, 186, 187, 188, 189, 190, 191, 192, 193, 194, 195, 196, 197] rfl (by decide +kernel)
set_option maxRecDepth 20000 in
theorem gX10_judge_X10_shelfAt : GoodIn wsX10_judge (wsV RX10 118 RX10 yX10_shelfAt wsX10_shelfAt) := goodIn_app (goodIn_of _ (by decide +kernel)) ggX10_judge_X10_shelfAt
set_option maxRecDepth 20000 in
theorem ggX10_judge_X10_songAt : GoodIn wsX10_judge wsX10_songAt := goodIn_r _ [13, 14, 7, 8, 4, 9, 186, 187, 188, 189, 190, 191, 192, 193, 194, 195, 196, 197] rfl (by decide +kernel)
set_option maxRecDepth 20000 in
theorem gX10_judge_X10_songAt : GoodIn wsX10_judge (wsV RX10 102 RX10 yX10_songAt wsX10_songAt) := goodIn_app (goodIn_of _ (by decide +kernel)) ggX10_judge_X10_songAt
set_option maxRecDepth 20000 in
theorem ggX10_judge_X6_refusalOfBytes : GoodIn wsX10_judge wsX6_refusalOfBytes := goodIn_r _ [19, 20, 21, 22, 18, 23, 24, 25, 26, 27, 28, 29, 30, 31, 32, 33, 198, 199, 200, 201, 202] rfl (by decide +kernel)
set_option maxRecDepth 20000 in
theorem gX10_judge_X6_refusalOfBytes : GoodIn wsX10_judge (wsV RX10 224 RX6 yX6_refusalOfBytes wsX6_refusalOfBytes) := goodIn_app (goodIn_of _ (by decide +kernel)) ggX10_judge_X6_refusalOfBytes
set_option maxRecDepth 20000 in
theorem ggX10_judge_X10_firstNotSo : GoodIn wsX10_judge wsX10_firstNotSo := goodIn_r _ [37, 38, 39, 40, 41, 42, 18, 43, 44, 45, 46, 47, 48, 49, 50, 51, 52, 53, 54, 55, 56, 57, 58, 59, 60, 61, 62, 63, 64, 65, 66, 67, 68, 69, 70, 71, 72, 73, 74, 75, 76, 77, 78, 79, 80, 81, 82, 83, 84, 85, 86, 87, 88, 89, 90, 91, 92, 93, 94, 95, 96, 97, 98, 99, 100, 101, 102, 103, 104, 105, 106, 107, 108, 109, 110, 111, 112, 113, 114, 115, 116, 117, 118, 119, 120, 121, 122, 123, 124, 125, 126, 127, 128, 129, 130, 131, 132, 133, 134, 135, 136, 137, 138, 139, 140, 141, 142, 143, 144, 145, 146, 147, 148, 149, 150, 151, 152, 153, 154, 155, 156, 157, 158, 159, 160, 161, 162, 163, 164, 165, 166, 167, 168, 169, 170, 171, 172, 173, 174, 175, 176, 177, 178, 179, 180, 181, 182, 183, 184, 185, 186, 187, 188, 189, 190, 191, 192, 193, 194, 195, 196, 197, 198, 199, 200, 201, 202, 203, 204, 205, 206, 207, 208, 209, 210, 211, 212, 213, 214, 215, 216, 217, 218, 219, 220, 221, 222, 223, 224, 225] rfl (by decide +kernel)
set_option maxRecDepth 20000 in
theorem gX10_judge_X10_firstNotSo : GoodIn wsX10_judge (wsV RX10 231 RX10 yX10_firstNotSo wsX10_firstNotSo) := goodIn_app (goodIn_of _ (by decide +kernel)) ggX10_judge_X10_firstNotSo
theorem dX10_judge_0 : decode cX10_judge 0 = .ok (.aload_n 0, 1) := by decide +kernel
theorem dX10_judge_1 : decode cX10_judge 1 = .ok (.iload_n 1, 1) := by decide +kernel
theorem dX10_judge_2 : decode cX10_judge 2 = .ok (.invokevirtual 118, 3) := by decide +kernel
theorem dX10_judge_5 : decode cX10_judge 5 = .ok (.astore_n 3, 1) := by decide +kernel
theorem dX10_judge_6 : decode cX10_judge 6 = .ok (.aload_n 0, 1) := by decide +kernel
theorem dX10_judge_7 : decode cX10_judge 7 = .ok (.iload_n 2, 1) := by decide +kernel
theorem dX10_judge_8 : decode cX10_judge 8 = .ok (.invokevirtual 102, 3) := by decide +kernel
theorem dX10_judge_11 : decode cX10_judge 11 = .ok (.astore 4, 2) := by decide +kernel
theorem dX10_judge_13 : decode cX10_judge 13 = .ok (.aload_n 3, 1) := by decide +kernel
theorem dX10_judge_14 : decode cX10_judge 14 = .ok (.ifnull 8, 3) := by decide +kernel
theorem dX10_judge_17 : decode cX10_judge 17 = .ok (.aload 4, 2) := by decide +kernel
theorem dX10_judge_19 : decode cX10_judge 19 = .ok (.ifnonnull 5, 3) := by decide +kernel
theorem dX10_judge_22 : decode cX10_judge 22 = .ok (.iconst (-1), 1) := by decide +kernel
theorem dX10_judge_23 : decode cX10_judge 23 = .ok (.ireturn, 1) := by decide +kernel
theorem dX10_judge_24 : decode cX10_judge 24 = .ok (.aload_n 3, 1) := by decide +kernel
theorem dX10_judge_25 : decode cX10_judge 25 = .ok (.invokevirtual 224, 3) := by decide +kernel
theorem dX10_judge_28 : decode cX10_judge 28 = .ok (.istore 5, 2) := by decide +kernel
theorem dX10_judge_30 : decode cX10_judge 30 = .ok (.iload 5, 2) := by decide +kernel
theorem dX10_judge_32 : decode cX10_judge 32 = .ok (.ifCond .ge 8, 3) := by decide +kernel
theorem dX10_judge_35 : decode cX10_judge 35 = .ok (.iload 5, 2) := by decide +kernel
theorem dX10_judge_37 : decode cX10_judge 37 = .ok (.goto 10, 3) := by decide +kernel
theorem dX10_judge_40 : decode cX10_judge 40 = .ok (.aload_n 0, 1) := by decide +kernel
theorem dX10_judge_41 : decode cX10_judge 41 = .ok (.aload_n 3, 1) := by decide +kernel
theorem dX10_judge_42 : decode cX10_judge 42 = .ok (.aload 4, 2) := by decide +kernel
theorem dX10_judge_44 : decode cX10_judge 44 = .ok (.invokevirtual 231, 3) := by decide +kernel
theorem dX10_judge_47 : decode cX10_judge 47 = .ok (.ireturn, 1) := by decide +kernel
set_option maxRecDepth 20000 in
theorem ggX10_firstNotSo_X6_length : GoodIn wsX10_firstNotSo wsX6_length := goodIn_r _ [7, 8, 162, 163, 164, 165, 166] rfl (by decide +kernel)
set_option maxRecDepth 20000 in
theorem gX10_firstNotSo_X6_length : GoodIn wsX10_firstNotSo (wsV RX10 128 RX6 yX6_length wsX6_length) := goodIn_app (goodIn_of _ (by decide +kernel)) ggX10_firstNotSo_X6_length
set_option maxRecDepth 20000 in
theorem ggX10_firstNotSo_X6_small : GoodIn wsX10_firstNotSo wsX6_small := goodIn_r _ [12, 13, 14, 15, 6, 16, 17, 162, 163, 164, 165, 166] rfl (by decide +kernel)
set_option maxRecDepth 20000 in
theorem gX10_firstNotSo_X6_small : GoodIn wsX10_firstNotSo (wsV RX10 133 RX6 yX6_small wsX6_small) := goodIn_app (goodIn_of _ (by decide +kernel)) ggX10_firstNotSo_X6_small
set_option maxRecDepth 20000 in
theorem ggX10_firstNotSo_X8_isLine : GoodIn wsX10_firstNotSo wsX8_isLine := goodIn_r _ [22, 23, 167, 168, 169, 170, 171] rfl (by decide +kernel)
set_option maxRecDepth 20000 in
theorem gX10_firstNotSo_X8_isLine : GoodIn wsX10_firstNotSo (wsV RX10 235 RX8 yX8_isLine wsX8_isLine) := goodIn_app (goodIn_of _ (by decide +kernel)) ggX10_firstNotSo_X8_isLine
set_option maxRecDepth 20000 in
theorem ggX10_firstNotSo_X3_start : GoodIn wsX10_firstNotSo wsX3_start := goodIn_r _ [28, 29, 30, 31, 32, 33, 34, 35, 36, 37, 38, 39, 40, 41, 42, 43, 44, 45, 46, 21, 47, 48, 49, 50, 51, 52, 53, 54, 55, 56, 57, 58, 59, 60, 61, 62, 63, 64, 65, 66, 67, 68, 69, 70, 71, 72, 73, 74, 172, 173, 174, 175, 176, 177, 178, 179, 167, 168, 169, 170, 171] rfl (by decide +kernel)
set_option maxRecDepth 20000 in
theorem gX10_firstNotSo_X3_start : GoodIn wsX10_firstNotSo (wsV RX10 238 RX3 yX3_start wsX3_start) := goodIn_app (goodIn_of _ (by decide +kernel)) ggX10_firstNotSo_X3_start
set_option maxRecDepth 20000 in
theorem ggX10_firstNotSo_X3_goOn : GoodIn wsX10_firstNotSo wsX3_goOn := goodIn_r _ [78, 79, 80, 81, 32, 82, 37, 83, 84, 85, 86, 35, 87, 64, 65, 66, 61, 67, 54, 55, 56, 71, 72, 73, 74, 38, 88, 89, 90, 27, 91, 92, 93, 94, 95, 96, 97, 98, 34, 99, 100, 101, 21, 102, 23, 103, 104, 105, 106, 48, 49, 50, 51, 52, 53, 107, 108, 109, 110, 111, 112, 113, 114, 115, 116, 117, 118, 119, 39, 120, 121, 122, 123, 124, 125, 126, 127, 128, 129, 130, 131, 132, 133, 134, 135, 136, 69, 70, 137, 138, 139, 140, 141, 142, 143, 144, 44, 45, 46, 47, 57, 58, 59, 60, 36, 62, 63, 68, 172, 173, 174, 175, 176, 177, 178, 179, 180, 181, 182, 167, 168, 169, 170, 171, 183, 184, 185, 186, 187, 188, 189] rfl (by decide +kernel)
set_option maxRecDepth 20000 in
theorem gX10_firstNotSo_X3_goOn : GoodIn wsX10_firstNotSo (wsV RX10 241 RX3 yX3_goOn wsX3_goOn) := goodIn_app (goodIn_of _ (by decide +kernel)) ggX10_firstNotSo_X3_goOn
set_option maxRecDepth 20000 in
theorem ggX10_firstNotSo_X7_size : GoodIn wsX10_firstNotSo wsX7_size := goodIn_r _ [86, 35, 172, 173, 174, 175, 176, 177, 178, 179] rfl (by decide +kernel)
set_option maxRecDepth 20000 in
theorem gX10_firstNotSo_X7_size : GoodIn wsX10_firstNotSo (wsV RX10 187 RX7 yX7_size wsX7_size) := goodIn_app (goodIn_of _ (by decide +kernel)) ggX10_firstNotSo_X7_size
set_option maxRecDepth 20000 in
theorem ggX10_firstNotSo_X7_lineAt : GoodIn wsX10_firstNotSo wsX7_lineAt := goodIn_r _ [149, 61, 67, 54, 55, 56, 172, 173, 174, 175, 176, 177, 178, 179] rfl (by decide +kernel)
set_option maxRecDepth 20000 in
theorem gX10_firstNotSo_X7_lineAt : GoodIn wsX10_firstNotSo (wsV RX10 197 RX7 yX7_lineAt wsX7_lineAt) := goodIn_app (goodIn_of _ (by decide +kernel)) ggX10_firstNotSo_X7_lineAt
theorem dX10_firstNotSo_0 : decode cX10_firstNotSo 0 = .ok (.aload_n 1, 1) := by decide +kernel
theorem dX10_firstNotSo_1 : decode cX10_firstNotSo 1 = .ok (.invokevirtual 128, 3) := by decide +kernel
theorem dX10_firstNotSo_4 : decode cX10_firstNotSo 4 = .ok (.ifCond .ne 6, 3) := by decide +kernel
theorem dX10_firstNotSo_7 : decode cX10_firstNotSo 7 = .ok (.bipush (-2), 2) := by decide +kernel
theorem dX10_firstNotSo_9 : decode cX10_firstNotSo 9 = .ok (.ireturn, 1) := by decide +kernel
theorem dX10_firstNotSo_10 : decode cX10_firstNotSo 10 = .ok (.aload_n 2, 1) := by decide +kernel
theorem dX10_firstNotSo_11 : decode cX10_firstNotSo 11 = .ok (.aload_n 1, 1) := by decide +kernel
theorem dX10_firstNotSo_12 : decode cX10_firstNotSo 12 = .ok (.iconst 0, 1) := by decide +kernel
theorem dX10_firstNotSo_13 : decode cX10_firstNotSo 13 = .ok (.invokevirtual 133, 3) := by decide +kernel
theorem dX10_firstNotSo_16 : decode cX10_firstNotSo 16 = .ok (.invokevirtual 235, 3) := by decide +kernel
theorem dX10_firstNotSo_19 : decode cX10_firstNotSo 19 = .ok (.ifCond .ne 5, 3) := by decide +kernel
theorem dX10_firstNotSo_22 : decode cX10_firstNotSo 22 = .ok (.iconst 0, 1) := by decide +kernel
theorem dX10_firstNotSo_23 : decode cX10_firstNotSo 23 = .ok (.ireturn, 1) := by decide +kernel
theorem dX10_firstNotSo_24 : decode cX10_firstNotSo 24 = .ok (.aload_n 0, 1) := by decide +kernel
theorem dX10_firstNotSo_25 : decode cX10_firstNotSo 25 = .ok (.getfield 49, 3) := by decide +kernel
theorem dX10_firstNotSo_28 : decode cX10_firstNotSo 28 = .ok (.aload_n 0, 1) := by decide +kernel
theorem dX10_firstNotSo_29 : decode cX10_firstNotSo 29 = .ok (.getfield 58, 3) := by decide +kernel
theorem dX10_firstNotSo_32 : decode cX10_firstNotSo 32 = .ok (.aload_n 2, 1) := by decide +kernel
theorem dX10_firstNotSo_33 : decode cX10_firstNotSo 33 = .ok (.aload_n 1, 1) := by decide +kernel
theorem dX10_firstNotSo_34 : decode cX10_firstNotSo 34 = .ok (.iconst 0, 1) := by decide +kernel
theorem dX10_firstNotSo_35 : decode cX10_firstNotSo 35 = .ok (.invokevirtual 133, 3) := by decide +kernel
theorem dX10_firstNotSo_38 : decode cX10_firstNotSo 38 = .ok (.invokevirtual 238, 3) := by decide +kernel
theorem dX10_firstNotSo_41 : decode cX10_firstNotSo 41 = .ok (.iconst 0, 1) := by decide +kernel
theorem dX10_firstNotSo_42 : decode cX10_firstNotSo 42 = .ok (.istore_n 3, 1) := by decide +kernel
theorem dX10_firstNotSo_43 : decode cX10_firstNotSo 43 = .ok (.iload_n 3, 1) := by decide +kernel
theorem dX10_firstNotSo_44 : decode cX10_firstNotSo 44 = .ok (.aload_n 1, 1) := by decide +kernel
theorem dX10_firstNotSo_45 : decode cX10_firstNotSo 45 = .ok (.invokevirtual 128, 3) := by decide +kernel
theorem dX10_firstNotSo_48 : decode cX10_firstNotSo 48 = .ok (.if_icmp .ge 53, 3) := by decide +kernel
theorem dX10_firstNotSo_51 : decode cX10_firstNotSo 51 = .ok (.iload_n 3, 1) := by decide +kernel
theorem dX10_firstNotSo_52 : decode cX10_firstNotSo 52 = .ok (.ifCond .le 14, 3) := by decide +kernel
theorem dX10_firstNotSo_55 : decode cX10_firstNotSo 55 = .ok (.aload_n 0, 1) := by decide +kernel
theorem dX10_firstNotSo_56 : decode cX10_firstNotSo 56 = .ok (.getfield 49, 3) := by decide +kernel
theorem dX10_firstNotSo_59 : decode cX10_firstNotSo 59 = .ok (.aload_n 0, 1) := by decide +kernel
theorem dX10_firstNotSo_60 : decode cX10_firstNotSo 60 = .ok (.getfield 58, 3) := by decide +kernel
theorem dX10_firstNotSo_63 : decode cX10_firstNotSo 63 = .ok (.invokevirtual 241, 3) := by decide +kernel
theorem dX10_firstNotSo_66 : decode cX10_firstNotSo 66 = .ok (.iload_n 3, 1) := by decide +kernel
theorem dX10_firstNotSo_67 : decode cX10_firstNotSo 67 = .ok (.aload_n 0, 1) := by decide +kernel
theorem dX10_firstNotSo_68 : decode cX10_firstNotSo 68 = .ok (.getfield 58, 3) := by decide +kernel
theorem dX10_firstNotSo_71 : decode cX10_firstNotSo 71 = .ok (.invokevirtual 187, 3) := by decide +kernel
theorem dX10_firstNotSo_74 : decode cX10_firstNotSo 74 = .ok (.if_icmp .ge 19, 3) := by decide +kernel
theorem dX10_firstNotSo_77 : decode cX10_firstNotSo 77 = .ok (.aload_n 0, 1) := by decide +kernel
theorem dX10_firstNotSo_78 : decode cX10_firstNotSo 78 = .ok (.getfield 58, 3) := by decide +kernel
theorem dX10_firstNotSo_81 : decode cX10_firstNotSo 81 = .ok (.iload_n 3, 1) := by decide +kernel
theorem dX10_firstNotSo_82 : decode cX10_firstNotSo 82 = .ok (.invokevirtual 197, 3) := by decide +kernel
theorem dX10_firstNotSo_85 : decode cX10_firstNotSo 85 = .ok (.aload_n 1, 1) := by decide +kernel
theorem dX10_firstNotSo_86 : decode cX10_firstNotSo 86 = .ok (.iload_n 3, 1) := by decide +kernel
theorem dX10_firstNotSo_87 : decode cX10_firstNotSo 87 = .ok (.invokevirtual 133, 3) := by decide +kernel
theorem dX10_firstNotSo_90 : decode cX10_firstNotSo 90 = .ok (.if_icmp .eq 5, 3) := by decide +kernel
theorem dX10_firstNotSo_93 : decode cX10_firstNotSo 93 = .ok (.iload_n 3, 1) := by decide +kernel
theorem dX10_firstNotSo_94 : decode cX10_firstNotSo 94 = .ok (.ireturn, 1) := by decide +kernel
theorem dX10_firstNotSo_95 : decode cX10_firstNotSo 95 = .ok (.iinc 3 1, 3) := by decide +kernel
theorem dX10_firstNotSo_98 : decode cX10_firstNotSo 98 = .ok (.goto (-55), 3) := by decide +kernel
theorem dX10_firstNotSo_101 : decode cX10_firstNotSo 101 = .ok (.bipush (-2), 2) := by decide +kernel
theorem dX10_firstNotSo_103 : decode cX10_firstNotSo 103 = .ok (.ireturn, 1) := by decide +kernel
set_option maxRecDepth 20000 in
theorem ggX10_lacked_X10_shelfAt : GoodIn wsX10_lacked wsX10_shelfAt := goodIn_r _ [6, 7, 8, 9, 5, 10, 199, 200, 201, 202, 203, 204, 205, 206, 207, 208, 209, 210] rfl (by decide +kernel)
set_option maxRecDepth 20000 in
theorem gX10_lacked_X10_shelfAt : GoodIn wsX10_lacked (wsV RX10 118 RX10 yX10_shelfAt wsX10_shelfAt) := goodIn_app (goodIn_of _ (by decide +kernel)) ggX10_lacked_X10_shelfAt
set_option maxRecDepth 20000 in
theorem ggX10_lacked_X10_songAt : GoodIn wsX10_lacked wsX10_songAt := goodIn_r _ [14, 15, 8, 9, 5, 10, 199, 200, 201, 202, 203, 204, 205, 206, 207, 208, 209, 210] rfl (by decide +kernel)
set_option maxRecDepth 20000 in
theorem gX10_lacked_X10_songAt : GoodIn wsX10_lacked (wsV RX10 102 RX10 yX10_songAt wsX10_songAt) := goodIn_app (goodIn_of _ (by decide +kernel)) ggX10_lacked_X10_songAt
set_option maxRecDepth 20000 in
theorem ggX10_lacked_X6_isRowOfBytes : GoodIn wsX10_lacked wsX6_isRowOfBytes := goodIn_r _ [20, 21, 22, 23, 24, 19, 25, 26, 211, 212, 213, 214, 215] rfl (by decide +kernel)
set_option maxRecDepth 20000 in
theorem gX10_lacked_X6_isRowOfBytes : GoodIn wsX10_lacked (wsV RX10 125 RX6 yX6_isRowOfBytes wsX6_isRowOfBytes) := goodIn_app (goodIn_of _ (by decide +kernel)) ggX10_lacked_X6_isRowOfBytes
set_option maxRecDepth 20000 in
theorem ggX10_lacked_X8_size : GoodIn wsX10_lacked wsX8_size := goodIn_r _ [31, 32, 216, 217, 218, 219, 220] rfl (by decide +kernel)
set_option maxRecDepth 20000 in
theorem gX10_lacked_X8_size : GoodIn wsX10_lacked (wsV RX10 175 RX8 yX8_size wsX8_size) := goodIn_app (goodIn_of _ (by decide +kernel)) ggX10_lacked_X8_size
set_option maxRecDepth 20000 in
theorem ggX10_lacked_X10_mayHaveLacked : GoodIn wsX10_lacked wsX10_mayHaveLacked := goodIn_r _ [36, 37, 38, 30, 39, 40, 41, 42, 43, 44, 45, 46, 47, 48, 49, 50, 51, 52, 53, 54, 55, 56, 57, 58, 59, 60, 61, 5, 62, 63, 64, 65, 66, 67, 19, 68, 69, 70, 71, 72, 73, 74, 75, 76, 77, 78, 79, 80, 81, 82, 32, 83, 84, 85, 86, 87, 88, 89, 90, 91, 92, 93, 94, 95, 96, 97, 98, 99, 100, 101, 102, 103, 104, 105, 106, 107, 108, 109, 110, 111, 112, 113, 114, 115, 116, 117, 118, 119, 120, 121, 122, 123, 124, 125, 126, 127, 128, 129, 130, 131, 132, 133, 134, 135, 136, 137, 138, 139, 140, 141, 142, 143, 144, 145, 146, 147, 148, 149, 150, 151, 28, 29, 31, 152, 153, 154, 155, 156, 157, 158, 159, 160, 161, 162, 163, 164, 165, 166, 167, 168, 169, 170, 171, 172, 173, 174, 175, 176, 177, 178, 179, 180, 181, 182, 183, 184, 185, 186, 187, 188, 189, 190, 191, 192, 193, 194, 195, 196, 197, 198, 216, 217, 218, 219, 220, 199, 200, 201, 202, 203, 204, 205, 206, 207, 208, 209, 210, 211, 212, 213, 214, 215, 221, 222, 223, 224, 225, 226, 227, 228, 229, 230, 231, 232, 233, 234, 235, 236, 237, 238] rfl (by decide +kernel)
set_option maxRecDepth 20000 in
theorem gX10_lacked_X10_mayHaveLacked : GoodIn wsX10_lacked (wsV RX10 249 RX10 yX10_mayHaveLacked wsX10_mayHaveLacked) := goodIn_app (goodIn_of _ (by decide +kernel)) ggX10_lacked_X10_mayHaveLacked
theorem dX10_lacked_0 : decode cX10_lacked 0 = .ok (.aload_n 0, 1) := by decide +kernel
theorem dX10_lacked_1 : decode cX10_lacked 1 = .ok (.iload_n 1, 1) := by decide +kernel
theorem dX10_lacked_2 : decode cX10_lacked 2 = .ok (.invokevirtual 118, 3) := by decide +kernel
theorem dX10_lacked_5 : decode cX10_lacked 5 = .ok (.astore_n 3, 1) := by decide +kernel
theorem dX10_lacked_6 : decode cX10_lacked 6 = .ok (.aload_n 0, 1) := by decide +kernel
theorem dX10_lacked_7 : decode cX10_lacked 7 = .ok (.iload_n 2, 1) := by decide +kernel
theorem dX10_lacked_8 : decode cX10_lacked 8 = .ok (.invokevirtual 102, 3) := by decide +kernel
theorem dX10_lacked_11 : decode cX10_lacked 11 = .ok (.astore 4, 2) := by decide +kernel
theorem dX10_lacked_13 : decode cX10_lacked 13 = .ok (.aload_n 3, 1) := by decide +kernel
theorem dX10_lacked_14 : decode cX10_lacked 14 = .ok (.ifnull 15, 3) := by decide +kernel
theorem dX10_lacked_17 : decode cX10_lacked 17 = .ok (.aload 4, 2) := by decide +kernel
theorem dX10_lacked_19 : decode cX10_lacked 19 = .ok (.ifnull 10, 3) := by decide +kernel
theorem dX10_lacked_22 : decode cX10_lacked 22 = .ok (.aload_n 3, 1) := by decide +kernel
theorem dX10_lacked_23 : decode cX10_lacked 23 = .ok (.invokevirtual 125, 3) := by decide +kernel
theorem dX10_lacked_26 : decode cX10_lacked 26 = .ok (.ifCond .ne 7, 3) := by decide +kernel
theorem dX10_lacked_29 : decode cX10_lacked 29 = .ok (.ldc2_w 247, 3) := by decide +kernel
theorem dX10_lacked_32 : decode cX10_lacked 32 = .ok (.lreturn, 1) := by decide +kernel
theorem dX10_lacked_33 : decode cX10_lacked 33 = .ok (.lconst 0, 1) := by decide +kernel
theorem dX10_lacked_34 : decode cX10_lacked 34 = .ok (.lstore 5, 2) := by decide +kernel
theorem dX10_lacked_36 : decode cX10_lacked 36 = .ok (.iconst 0, 1) := by decide +kernel
theorem dX10_lacked_37 : decode cX10_lacked 37 = .ok (.istore 7, 2) := by decide +kernel
theorem dX10_lacked_39 : decode cX10_lacked 39 = .ok (.iload 7, 2) := by decide +kernel
theorem dX10_lacked_41 : decode cX10_lacked 41 = .ok (.aload 4, 2) := by decide +kernel
theorem dX10_lacked_43 : decode cX10_lacked 43 = .ok (.invokevirtual 175, 3) := by decide +kernel
theorem dX10_lacked_46 : decode cX10_lacked 46 = .ok (.if_icmp .ge 52, 3) := by decide +kernel
theorem dX10_lacked_49 : decode cX10_lacked 49 = .ok (.iconst 0, 1) := by decide +kernel
theorem dX10_lacked_50 : decode cX10_lacked 50 = .ok (.istore 8, 2) := by decide +kernel
theorem dX10_lacked_52 : decode cX10_lacked 52 = .ok (.iload 8, 2) := by decide +kernel
theorem dX10_lacked_54 : decode cX10_lacked 54 = .ok (.iconst 4, 1) := by decide +kernel
theorem dX10_lacked_55 : decode cX10_lacked 55 = .ok (.if_icmp .ge 37, 3) := by decide +kernel
theorem dX10_lacked_58 : decode cX10_lacked 58 = .ok (.aload_n 0, 1) := by decide +kernel
theorem dX10_lacked_59 : decode cX10_lacked 59 = .ok (.aload_n 3, 1) := by decide +kernel
theorem dX10_lacked_60 : decode cX10_lacked 60 = .ok (.aload 4, 2) := by decide +kernel
theorem dX10_lacked_62 : decode cX10_lacked 62 = .ok (.iload 8, 2) := by decide +kernel
theorem dX10_lacked_64 : decode cX10_lacked 64 = .ok (.iload 7, 2) := by decide +kernel
theorem dX10_lacked_66 : decode cX10_lacked 66 = .ok (.invokevirtual 249, 3) := by decide +kernel
theorem dX10_lacked_69 : decode cX10_lacked 69 = .ok (.ifCond .eq 17, 3) := by decide +kernel
theorem dX10_lacked_72 : decode cX10_lacked 72 = .ok (.lload 5, 2) := by decide +kernel
theorem dX10_lacked_74 : decode cX10_lacked 74 = .ok (.lconst 1, 1) := by decide +kernel
theorem dX10_lacked_75 : decode cX10_lacked 75 = .ok (.iconst 4, 1) := by decide +kernel
theorem dX10_lacked_76 : decode cX10_lacked 76 = .ok (.iload 7, 2) := by decide +kernel
theorem dX10_lacked_78 : decode cX10_lacked 78 = .ok (.imul, 1) := by decide +kernel
theorem dX10_lacked_79 : decode cX10_lacked 79 = .ok (.iload 8, 2) := by decide +kernel
theorem dX10_lacked_81 : decode cX10_lacked 81 = .ok (.iadd, 1) := by decide +kernel
theorem dX10_lacked_82 : decode cX10_lacked 82 = .ok (.lshl, 1) := by decide +kernel
theorem dX10_lacked_83 : decode cX10_lacked 83 = .ok (.lor, 1) := by decide +kernel
theorem dX10_lacked_84 : decode cX10_lacked 84 = .ok (.lstore 5, 2) := by decide +kernel
theorem dX10_lacked_86 : decode cX10_lacked 86 = .ok (.iinc 8 1, 3) := by decide +kernel
theorem dX10_lacked_89 : decode cX10_lacked 89 = .ok (.goto (-37), 3) := by decide +kernel
theorem dX10_lacked_92 : decode cX10_lacked 92 = .ok (.iinc 7 1, 3) := by decide +kernel
theorem dX10_lacked_95 : decode cX10_lacked 95 = .ok (.goto (-56), 3) := by decide +kernel
theorem dX10_lacked_98 : decode cX10_lacked 98 = .ok (.lload 5, 2) := by decide +kernel
theorem dX10_lacked_100 : decode cX10_lacked 100 = .ok (.lreturn, 1) := by decide +kernel
set_option maxRecDepth 20000 in
theorem ggX10_mayHaveLacked_X8_bit : GoodIn wsX10_mayHaveLacked wsX8_bit := goodIn_r _ [4] rfl (by decide +kernel)
set_option maxRecDepth 20000 in
theorem gX10_mayHaveLacked_X8_bit : GoodIn wsX10_mayHaveLacked (va_wsS RX10 147 yX8_bit wsX8_bit) := goodIn_app (goodIn_of _ (by decide +kernel)) ggX10_mayHaveLacked_X8_bit
set_option maxRecDepth 20000 in
theorem ggX10_mayHaveLacked_X8_isHad : GoodIn wsX10_mayHaveLacked wsX8_isHad := goodIn_r _ [8, 9, 10, 11, 12, 13, 14, 15, 3, 16, 170, 171, 172, 173, 174] rfl (by decide +kernel)
set_option maxRecDepth 20000 in
theorem gX10_mayHaveLacked_X8_isHad : GoodIn wsX10_mayHaveLacked (wsV RX10 150 RX8 yX8_isHad wsX8_isHad) := goodIn_app (goodIn_of _ (by decide +kernel)) ggX10_mayHaveLacked_X8_isHad
set_option maxRecDepth 20000 in
theorem ggX10_mayHaveLacked_X8_setHad : GoodIn wsX10_mayHaveLacked wsX8_setHad := goodIn_r _ [20, 9, 14, 15, 3, 16, 10, 11, 12, 13, 21, 22, 23, 170, 171, 172, 173, 174] rfl (by decide +kernel)
set_option maxRecDepth 20000 in
theorem gX10_mayHaveLacked_X8_setHad : GoodIn wsX10_mayHaveLacked (wsV RX10 153 RX8 yX8_setHad wsX8_setHad) := goodIn_app (goodIn_of _ (by decide +kernel)) ggX10_mayHaveLacked_X8_setHad
set_option maxRecDepth 20000 in
theorem ggX10_mayHaveLacked_X10_firstNotSo : GoodIn wsX10_mayHaveLacked wsX10_firstNotSo := goodIn_r _ [28, 29, 30, 31, 32, 33, 34, 35, 36, 37, 38, 39, 40, 41, 42, 43, 44, 45, 46, 47, 48, 3, 49, 50, 51, 52, 53, 54, 55, 56, 57, 58, 59, 60, 61, 62, 63, 64, 65, 66, 67, 68, 69, 70, 71, 72, 73, 74, 75, 76, 77, 78, 9, 10, 11, 12, 13, 79, 80, 81, 82, 83, 84, 85, 86, 87, 88, 89, 90, 22, 23, 91, 92, 93, 94, 95, 96, 97, 98, 99, 100, 101, 102, 103, 104, 105, 106, 107, 108, 109, 110, 111, 112, 113, 114, 115, 116, 117, 118, 119, 120, 121, 122, 123, 124, 125, 126, 127, 128, 129, 130, 131, 132, 133, 134, 135, 136, 137, 138, 139, 140, 141, 142, 143, 144, 145, 146, 147, 148, 149, 150, 151, 152, 153, 154, 155, 156, 157, 158, 159, 160, 161, 162, 163, 164, 165, 166, 167, 168, 169, 175, 176, 177, 178, 179, 180, 181, 182, 183, 184, 185, 186, 187, 188, 189, 190, 191, 170, 171, 172, 173, 174, 192, 193, 194, 195, 196, 197, 198, 199, 200, 201, 202, 203, 204, 205, 206, 207, 208, 209] rfl (by decide +kernel)
set_option maxRecDepth 20000 in
theorem gX10_mayHaveLacked_X10_firstNotSo : GoodIn wsX10_mayHaveLacked (wsV RX10 231 RX10 yX10_firstNotSo wsX10_firstNotSo) := goodIn_app (goodIn_of _ (by decide +kernel)) ggX10_mayHaveLacked_X10_firstNotSo
theorem dX10_mayHaveLacked_0 : decode cX10_mayHaveLacked 0 = .ok (.iload_n 3, 1) := by decide +kernel
theorem dX10_mayHaveLacked_1 : decode cX10_mayHaveLacked 1 = .ok (.iload 4, 2) := by decide +kernel
theorem dX10_mayHaveLacked_3 : decode cX10_mayHaveLacked 3 = .ok (.iconst 0, 1) := by decide +kernel
theorem dX10_mayHaveLacked_4 : decode cX10_mayHaveLacked 4 = .ok (.invokestatic 147, 3) := by decide +kernel
theorem dX10_mayHaveLacked_7 : decode cX10_mayHaveLacked 7 = .ok (.istore 5, 2) := by decide +kernel
theorem dX10_mayHaveLacked_9 : decode cX10_mayHaveLacked 9 = .ok (.iload_n 3, 1) := by decide +kernel
theorem dX10_mayHaveLacked_10 : decode cX10_mayHaveLacked 10 = .ok (.iload 4, 2) := by decide +kernel
theorem dX10_mayHaveLacked_12 : decode cX10_mayHaveLacked 12 = .ok (.iconst 1, 1) := by decide +kernel
theorem dX10_mayHaveLacked_13 : decode cX10_mayHaveLacked 13 = .ok (.invokestatic 147, 3) := by decide +kernel
theorem dX10_mayHaveLacked_16 : decode cX10_mayHaveLacked 16 = .ok (.istore 6, 2) := by decide +kernel
theorem dX10_mayHaveLacked_18 : decode cX10_mayHaveLacked 18 = .ok (.aload_n 2, 1) := by decide +kernel
theorem dX10_mayHaveLacked_19 : decode cX10_mayHaveLacked 19 = .ok (.iload 5, 2) := by decide +kernel
theorem dX10_mayHaveLacked_21 : decode cX10_mayHaveLacked 21 = .ok (.invokevirtual 150, 3) := by decide +kernel
theorem dX10_mayHaveLacked_24 : decode cX10_mayHaveLacked 24 = .ok (.istore 7, 2) := by decide +kernel
theorem dX10_mayHaveLacked_26 : decode cX10_mayHaveLacked 26 = .ok (.aload_n 2, 1) := by decide +kernel
theorem dX10_mayHaveLacked_27 : decode cX10_mayHaveLacked 27 = .ok (.iload 6, 2) := by decide +kernel
theorem dX10_mayHaveLacked_29 : decode cX10_mayHaveLacked 29 = .ok (.invokevirtual 150, 3) := by decide +kernel
theorem dX10_mayHaveLacked_32 : decode cX10_mayHaveLacked 32 = .ok (.istore 8, 2) := by decide +kernel
theorem dX10_mayHaveLacked_34 : decode cX10_mayHaveLacked 34 = .ok (.aload_n 2, 1) := by decide +kernel
theorem dX10_mayHaveLacked_35 : decode cX10_mayHaveLacked 35 = .ok (.iload 5, 2) := by decide +kernel
theorem dX10_mayHaveLacked_37 : decode cX10_mayHaveLacked 37 = .ok (.iconst 0, 1) := by decide +kernel
theorem dX10_mayHaveLacked_38 : decode cX10_mayHaveLacked 38 = .ok (.invokevirtual 153, 3) := by decide +kernel
theorem dX10_mayHaveLacked_41 : decode cX10_mayHaveLacked 41 = .ok (.aload_n 2, 1) := by decide +kernel
theorem dX10_mayHaveLacked_42 : decode cX10_mayHaveLacked 42 = .ok (.iload 6, 2) := by decide +kernel
theorem dX10_mayHaveLacked_44 : decode cX10_mayHaveLacked 44 = .ok (.iconst 0, 1) := by decide +kernel
theorem dX10_mayHaveLacked_45 : decode cX10_mayHaveLacked 45 = .ok (.invokevirtual 153, 3) := by decide +kernel
theorem dX10_mayHaveLacked_48 : decode cX10_mayHaveLacked 48 = .ok (.aload_n 0, 1) := by decide +kernel
theorem dX10_mayHaveLacked_49 : decode cX10_mayHaveLacked 49 = .ok (.aload_n 1, 1) := by decide +kernel
theorem dX10_mayHaveLacked_50 : decode cX10_mayHaveLacked 50 = .ok (.aload_n 2, 1) := by decide +kernel
theorem dX10_mayHaveLacked_51 : decode cX10_mayHaveLacked 51 = .ok (.invokevirtual 231, 3) := by decide +kernel
theorem dX10_mayHaveLacked_54 : decode cX10_mayHaveLacked 54 = .ok (.bipush (-2), 2) := by decide +kernel
theorem dX10_mayHaveLacked_56 : decode cX10_mayHaveLacked 56 = .ok (.if_icmp .ne 7, 3) := by decide +kernel
theorem dX10_mayHaveLacked_59 : decode cX10_mayHaveLacked 59 = .ok (.iconst 1, 1) := by decide +kernel
theorem dX10_mayHaveLacked_60 : decode cX10_mayHaveLacked 60 = .ok (.goto 4, 3) := by decide +kernel
theorem dX10_mayHaveLacked_63 : decode cX10_mayHaveLacked 63 = .ok (.iconst 0, 1) := by decide +kernel
theorem dX10_mayHaveLacked_64 : decode cX10_mayHaveLacked 64 = .ok (.istore 9, 2) := by decide +kernel
theorem dX10_mayHaveLacked_66 : decode cX10_mayHaveLacked 66 = .ok (.aload_n 2, 1) := by decide +kernel
theorem dX10_mayHaveLacked_67 : decode cX10_mayHaveLacked 67 = .ok (.iload 5, 2) := by decide +kernel
theorem dX10_mayHaveLacked_69 : decode cX10_mayHaveLacked 69 = .ok (.iload 7, 2) := by decide +kernel
theorem dX10_mayHaveLacked_71 : decode cX10_mayHaveLacked 71 = .ok (.invokevirtual 153, 3) := by decide +kernel
theorem dX10_mayHaveLacked_74 : decode cX10_mayHaveLacked 74 = .ok (.aload_n 2, 1) := by decide +kernel
theorem dX10_mayHaveLacked_75 : decode cX10_mayHaveLacked 75 = .ok (.iload 6, 2) := by decide +kernel
theorem dX10_mayHaveLacked_77 : decode cX10_mayHaveLacked 77 = .ok (.iload 8, 2) := by decide +kernel
theorem dX10_mayHaveLacked_79 : decode cX10_mayHaveLacked 79 = .ok (.invokevirtual 153, 3) := by decide +kernel
theorem dX10_mayHaveLacked_82 : decode cX10_mayHaveLacked 82 = .ok (.iload 9, 2) := by decide +kernel
theorem dX10_mayHaveLacked_84 : decode cX10_mayHaveLacked 84 = .ok (.ireturn, 1) := by decide +kernel
set_option maxRecDepth 20000 in
theorem ggX10_two_X10_songAt : GoodIn wsX10_two wsX10_songAt := goodIn_r _ [5, 6, 7, 8, 4, 9, 33, 34, 35, 36, 37, 38, 39, 40, 41, 42, 43, 44] rfl (by decide +kernel)
set_option maxRecDepth 20000 in
theorem gX10_two_X10_songAt : GoodIn wsX10_two (wsV RX10 102 RX10 yX10_songAt wsX10_songAt) := goodIn_app (goodIn_of _ (by decide +kernel)) ggX10_two_X10_songAt
set_option maxRecDepth 20000 in
theorem ggX10_two_X10_isOf : GoodIn wsX10_two wsX10_isOf := goodIn_r _ [9] rfl (by decide +kernel)
set_option maxRecDepth 20000 in
theorem gX10_two_X10_isOf : GoodIn wsX10_two (va_wsS RX10 140 yX10_isOf wsX10_isOf) := goodIn_app (goodIn_of _ (by decide +kernel)) ggX10_two_X10_isOf
set_option maxRecDepth 20000 in
theorem ggX10_two_X8_size : GoodIn wsX10_two wsX8_size := goodIn_r _ [14, 15, 45, 46, 47, 48, 49] rfl (by decide +kernel)
set_option maxRecDepth 20000 in
theorem gX10_two_X8_size : GoodIn wsX10_two (wsV RX10 175 RX8 yX8_size wsX8_size) := goodIn_app (goodIn_of _ (by decide +kernel)) ggX10_two_X8_size
set_option maxRecDepth 20000 in
theorem ggX10_two_X8_alikeFrom : GoodIn wsX10_two wsX8_alikeFrom := goodIn_r _ [19, 20, 21, 22, 13, 23, 15, 24, 25, 26, 27, 28, 29, 30, 31, 32, 45, 46, 47, 48, 49] rfl (by decide +kernel)
set_option maxRecDepth 20000 in
theorem gX10_two_X8_alikeFrom : GoodIn wsX10_two (wsV RX10 253 RX8 yX8_alikeFrom wsX8_alikeFrom) := goodIn_app (goodIn_of _ (by decide +kernel)) ggX10_two_X8_alikeFrom
theorem dX10_two_0 : decode cX10_two 0 = .ok (.iload_n 1, 1) := by decide +kernel
theorem dX10_two_1 : decode cX10_two 1 = .ok (.ifCond .ge 7, 3) := by decide +kernel
theorem dX10_two_4 : decode cX10_two 4 = .ok (.aconst_null, 1) := by decide +kernel
theorem dX10_two_5 : decode cX10_two 5 = .ok (.goto 11, 3) := by decide +kernel
theorem dX10_two_8 : decode cX10_two 8 = .ok (.aload_n 0, 1) := by decide +kernel
theorem dX10_two_9 : decode cX10_two 9 = .ok (.iload_n 1, 1) := by decide +kernel
theorem dX10_two_10 : decode cX10_two 10 = .ok (.bipush 10, 2) := by decide +kernel
theorem dX10_two_12 : decode cX10_two 12 = .ok (.idiv, 1) := by decide +kernel
theorem dX10_two_13 : decode cX10_two 13 = .ok (.invokevirtual 102, 3) := by decide +kernel
theorem dX10_two_16 : decode cX10_two 16 = .ok (.astore_n 3, 1) := by decide +kernel
theorem dX10_two_17 : decode cX10_two 17 = .ok (.iload_n 1, 1) := by decide +kernel
theorem dX10_two_18 : decode cX10_two 18 = .ok (.ifCond .ge 7, 3) := by decide +kernel
theorem dX10_two_21 : decode cX10_two 21 = .ok (.aconst_null, 1) := by decide +kernel
theorem dX10_two_22 : decode cX10_two 22 = .ok (.goto 11, 3) := by decide +kernel
theorem dX10_two_25 : decode cX10_two 25 = .ok (.aload_n 0, 1) := by decide +kernel
theorem dX10_two_26 : decode cX10_two 26 = .ok (.iload_n 1, 1) := by decide +kernel
theorem dX10_two_27 : decode cX10_two 27 = .ok (.bipush 10, 2) := by decide +kernel
theorem dX10_two_29 : decode cX10_two 29 = .ok (.irem, 1) := by decide +kernel
theorem dX10_two_30 : decode cX10_two 30 = .ok (.invokevirtual 102, 3) := by decide +kernel
theorem dX10_two_33 : decode cX10_two 33 = .ok (.astore 4, 2) := by decide +kernel
theorem dX10_two_35 : decode cX10_two 35 = .ok (.aload_n 3, 1) := by decide +kernel
theorem dX10_two_36 : decode cX10_two 36 = .ok (.ifnull 22, 3) := by decide +kernel
theorem dX10_two_39 : decode cX10_two 39 = .ok (.aload 4, 2) := by decide +kernel
theorem dX10_two_41 : decode cX10_two 41 = .ok (.ifnull 17, 3) := by decide +kernel
theorem dX10_two_44 : decode cX10_two 44 = .ok (.aload_n 3, 1) := by decide +kernel
theorem dX10_two_45 : decode cX10_two 45 = .ok (.aload 4, 2) := by decide +kernel
theorem dX10_two_47 : decode cX10_two 47 = .ok (.if_acmp .eq 11, 3) := by decide +kernel
theorem dX10_two_50 : decode cX10_two 50 = .ok (.iload_n 2, 1) := by decide +kernel
theorem dX10_two_51 : decode cX10_two 51 = .ok (.iconst 3, 1) := by decide +kernel
theorem dX10_two_52 : decode cX10_two 52 = .ok (.invokestatic 140, 3) := by decide +kernel
theorem dX10_two_55 : decode cX10_two 55 = .ok (.ifCond .ne 5, 3) := by decide +kernel
theorem dX10_two_58 : decode cX10_two 58 = .ok (.iconst (-1), 1) := by decide +kernel
theorem dX10_two_59 : decode cX10_two 59 = .ok (.ireturn, 1) := by decide +kernel
theorem dX10_two_60 : decode cX10_two 60 = .ok (.iconst 0, 1) := by decide +kernel
theorem dX10_two_61 : decode cX10_two 61 = .ok (.istore 5, 2) := by decide +kernel
theorem dX10_two_63 : decode cX10_two 63 = .ok (.bipush (-2), 2) := by decide +kernel
theorem dX10_two_65 : decode cX10_two 65 = .ok (.istore 6, 2) := by decide +kernel
theorem dX10_two_67 : decode cX10_two 67 = .ok (.bipush (-2), 2) := by decide +kernel
theorem dX10_two_69 : decode cX10_two 69 = .ok (.istore 7, 2) := by decide +kernel
theorem dX10_two_71 : decode cX10_two 71 = .ok (.iconst 0, 1) := by decide +kernel
theorem dX10_two_72 : decode cX10_two 72 = .ok (.istore 8, 2) := by decide +kernel
theorem dX10_two_74 : decode cX10_two 74 = .ok (.iload 8, 2) := by decide +kernel
theorem dX10_two_76 : decode cX10_two 76 = .ok (.aload_n 3, 1) := by decide +kernel
theorem dX10_two_77 : decode cX10_two 77 = .ok (.invokevirtual 175, 3) := by decide +kernel
theorem dX10_two_80 : decode cX10_two 80 = .ok (.if_icmp .ge 59, 3) := by decide +kernel
theorem dX10_two_83 : decode cX10_two 83 = .ok (.iconst 0, 1) := by decide +kernel
theorem dX10_two_84 : decode cX10_two 84 = .ok (.istore 9, 2) := by decide +kernel
theorem dX10_two_86 : decode cX10_two 86 = .ok (.iload 9, 2) := by decide +kernel
theorem dX10_two_88 : decode cX10_two 88 = .ok (.aload 4, 2) := by decide +kernel
theorem dX10_two_90 : decode cX10_two 90 = .ok (.invokevirtual 175, 3) := by decide +kernel
theorem dX10_two_93 : decode cX10_two 93 = .ok (.if_icmp .ge 40, 3) := by decide +kernel
theorem dX10_two_96 : decode cX10_two 96 = .ok (.aload_n 3, 1) := by decide +kernel
theorem dX10_two_97 : decode cX10_two 97 = .ok (.iload 8, 2) := by decide +kernel
theorem dX10_two_99 : decode cX10_two 99 = .ok (.aload 4, 2) := by decide +kernel
theorem dX10_two_101 : decode cX10_two 101 = .ok (.iload 9, 2) := by decide +kernel
theorem dX10_two_103 : decode cX10_two 103 = .ok (.invokevirtual 253, 3) := by decide +kernel
theorem dX10_two_106 : decode cX10_two 106 = .ok (.istore 10, 2) := by decide +kernel
theorem dX10_two_108 : decode cX10_two 108 = .ok (.iload 10, 2) := by decide +kernel
theorem dX10_two_110 : decode cX10_two 110 = .ok (.iload 5, 2) := by decide +kernel
theorem dX10_two_112 : decode cX10_two 112 = .ok (.if_icmp .le 15, 3) := by decide +kernel
theorem dX10_two_115 : decode cX10_two 115 = .ok (.iload 10, 2) := by decide +kernel
theorem dX10_two_117 : decode cX10_two 117 = .ok (.istore 5, 2) := by decide +kernel
theorem dX10_two_119 : decode cX10_two 119 = .ok (.iload 8, 2) := by decide +kernel
theorem dX10_two_121 : decode cX10_two 121 = .ok (.istore 6, 2) := by decide +kernel
theorem dX10_two_123 : decode cX10_two 123 = .ok (.iload 9, 2) := by decide +kernel
theorem dX10_two_125 : decode cX10_two 125 = .ok (.istore 7, 2) := by decide +kernel
theorem dX10_two_127 : decode cX10_two 127 = .ok (.iinc 9 1, 3) := by decide +kernel
theorem dX10_two_130 : decode cX10_two 130 = .ok (.goto (-44), 3) := by decide +kernel
theorem dX10_two_133 : decode cX10_two 133 = .ok (.iinc 8 1, 3) := by decide +kernel
theorem dX10_two_136 : decode cX10_two 136 = .ok (.goto (-62), 3) := by decide +kernel
theorem dX10_two_139 : decode cX10_two 139 = .ok (.iload_n 2, 1) := by decide +kernel
theorem dX10_two_140 : decode cX10_two 140 = .ok (.ifCond .ne 6, 3) := by decide +kernel
theorem dX10_two_143 : decode cX10_two 143 = .ok (.iload 5, 2) := by decide +kernel
theorem dX10_two_145 : decode cX10_two 145 = .ok (.ireturn, 1) := by decide +kernel
theorem dX10_two_146 : decode cX10_two 146 = .ok (.iload_n 2, 1) := by decide +kernel
theorem dX10_two_147 : decode cX10_two 147 = .ok (.iconst 1, 1) := by decide +kernel
theorem dX10_two_148 : decode cX10_two 148 = .ok (.if_icmp .ne 8, 3) := by decide +kernel
theorem dX10_two_151 : decode cX10_two 151 = .ok (.iload 6, 2) := by decide +kernel
theorem dX10_two_153 : decode cX10_two 153 = .ok (.goto 5, 3) := by decide +kernel
theorem dX10_two_156 : decode cX10_two 156 = .ok (.iload 7, 2) := by decide +kernel
theorem dX10_two_158 : decode cX10_two 158 = .ok (.ireturn, 1) := by decide +kernel
set_option maxRecDepth 20000 in
theorem ggX10_mixed_X10_songWithLine : GoodIn wsX10_mixed wsX10_songWithLine := goodIn_r _ [7, 8, 9, 10, 6, 11, 12, 13, 14, 15, 16, 17, 18, 19, 20, 21, 22, 23, 24, 160, 161, 162, 163, 164, 165, 166, 167, 168, 169, 170, 171, 172, 173, 174, 175, 176] rfl (by decide +kernel)
set_option maxRecDepth 20000 in
theorem gX10_mixed_X10_songWithLine : GoodIn wsX10_mixed (wsV RX10 137 RX10 yX10_songWithLine wsX10_songWithLine) := goodIn_app (goodIn_of _ (by decide +kernel)) ggX10_mixed_X10_songWithLine
set_option maxRecDepth 20000 in
theorem ggX10_mixed_X10_songAt : GoodIn wsX10_mixed wsX10_songAt := goodIn_r _ [11, 12, 13, 14, 6, 15, 160, 161, 162, 163, 164, 165, 166, 167, 168, 169, 170, 171] rfl (by decide +kernel)
set_option maxRecDepth 20000 in
theorem gX10_mixed_X10_songAt : GoodIn wsX10_mixed (wsV RX10 102 RX10 yX10_songAt wsX10_songAt) := goodIn_app (goodIn_of _ (by decide +kernel)) ggX10_mixed_X10_songAt
set_option maxRecDepth 20000 in
theorem ggX10_mixed_X8_tunesHad : GoodIn wsX10_mixed wsX8_tunesHad := goodIn_r _ [28, 24, 29, 30, 31, 22, 32, 33, 34, 35, 36, 37, 38, 39, 40, 41, 42, 172, 173, 174, 175, 176] rfl (by decide +kernel)
set_option maxRecDepth 20000 in
theorem gX10_mixed_X8_tunesHad : GoodIn wsX10_mixed (wsV RX10 257 RX8 yX8_tunesHad wsX8_tunesHad) := goodIn_app (goodIn_of _ (by decide +kernel)) ggX10_mixed_X8_tunesHad
set_option maxRecDepth 20000 in
theorem ggX10_mixed_X10_lineOf : GoodIn wsX10_mixed wsX10_lineOf := goodIn_r _ [18] rfl (by decide +kernel)
set_option maxRecDepth 20000 in
theorem gX10_mixed_X10_lineOf : GoodIn wsX10_mixed (va_wsS RX10 144 yX10_lineOf wsX10_lineOf) := goodIn_app (goodIn_of _ (by decide +kernel)) ggX10_mixed_X10_lineOf
set_option maxRecDepth 20000 in
theorem ggX10_mixed_X3_goThrough : GoodIn wsX10_mixed wsX3_goThrough := goodIn_r _ [47, 48, 49, 50, 46, 51, 52, 53, 54, 55, 56, 57, 58, 59, 60, 61, 62, 63, 64, 65, 66, 67, 68, 69, 22, 70, 29, 30, 31, 32, 33, 34, 35, 36, 37, 71, 72, 73, 74, 75, 76, 77, 78, 79, 80, 81, 82, 83, 84, 85, 86, 87, 88, 89, 90, 91, 92, 93, 94, 95, 96, 97, 98, 99, 100, 101, 102, 103, 104, 105, 106, 107, 108, 109, 110, 111, 112, 113, 114, 115, 116, 24, 117, 118, 119, 120, 121, 122, 123, 124, 38, 39, 40, 41, 42, 125, 126, 127, 128, 129, 130, 131, 132, 133, 134, 135, 136, 137, 138, 139, 140, 141, 142, 143, 144, 145, 146, 147, 148, 149, 150, 151, 152, 153, 177, 178, 179, 180, 181, 182, 183, 184, 172, 173, 174, 175, 176, 185, 186, 187, 188, 189, 190, 191, 192, 193, 194] rfl (by decide +kernel)
set_option maxRecDepth 20000 in
theorem gX10_mixed_X3_goThrough : GoodIn wsX10_mixed (wsV RX10 183 RX3 yX3_goThrough wsX3_goThrough) := goodIn_app (goodIn_of _ (by decide +kernel)) ggX10_mixed_X3_goThrough
set_option maxRecDepth 20000 in
theorem ggX10_mixed_X7_size : GoodIn wsX10_mixed wsX7_size := goodIn_r _ [100, 58, 177, 178, 179, 180, 181, 182, 183, 184] rfl (by decide +kernel)
set_option maxRecDepth 20000 in
theorem gX10_mixed_X7_size : GoodIn wsX10_mixed (wsV RX10 187 RX7 yX7_size wsX7_size) := goodIn_app (goodIn_of _ (by decide +kernel)) ggX10_mixed_X7_size
set_option maxRecDepth 20000 in
theorem ggX10_mixed_X7_lineAt : GoodIn wsX10_mixed wsX7_lineAt := goodIn_r _ [158, 75, 81, 35, 36, 37, 177, 178, 179, 180, 181, 182, 183, 184] rfl (by decide +kernel)
set_option maxRecDepth 20000 in
theorem gX10_mixed_X7_lineAt : GoodIn wsX10_mixed (wsV RX10 197 RX7 yX7_lineAt wsX7_lineAt) := goodIn_app (goodIn_of _ (by decide +kernel)) ggX10_mixed_X7_lineAt
set_option maxRecDepth 20000 in
theorem ggX10_mixed_X8_part : GoodIn wsX10_mixed wsX8_part := goodIn_r _ [41, 42, 34, 35, 36, 37, 172, 173, 174, 175, 176] rfl (by decide +kernel)
set_option maxRecDepth 20000 in
theorem gX10_mixed_X8_part : GoodIn wsX10_mixed (wsV RX10 260 RX8 yX8_part wsX8_part) := goodIn_app (goodIn_of _ (by decide +kernel)) ggX10_mixed_X8_part
theorem dX10_mixed_0 : decode cX10_mixed 0 = .ok (.aload_n 0, 1) := by decide +kernel
theorem dX10_mixed_1 : decode cX10_mixed 1 = .ok (.iload_n 1, 1) := by decide +kernel
theorem dX10_mixed_2 : decode cX10_mixed 2 = .ok (.invokevirtual 137, 3) := by decide +kernel
theorem dX10_mixed_5 : decode cX10_mixed 5 = .ok (.astore_n 3, 1) := by decide +kernel
theorem dX10_mixed_6 : decode cX10_mixed 6 = .ok (.aload_n 0, 1) := by decide +kernel
theorem dX10_mixed_7 : decode cX10_mixed 7 = .ok (.iload_n 2, 1) := by decide +kernel
theorem dX10_mixed_8 : decode cX10_mixed 8 = .ok (.invokevirtual 102, 3) := by decide +kernel
theorem dX10_mixed_11 : decode cX10_mixed 11 = .ok (.astore 4, 2) := by decide +kernel
theorem dX10_mixed_13 : decode cX10_mixed 13 = .ok (.aload_n 3, 1) := by decide +kernel
theorem dX10_mixed_14 : decode cX10_mixed 14 = .ok (.ifnull 14, 3) := by decide +kernel
theorem dX10_mixed_17 : decode cX10_mixed 17 = .ok (.aload 4, 2) := by decide +kernel
theorem dX10_mixed_19 : decode cX10_mixed 19 = .ok (.ifnull 9, 3) := by decide +kernel
theorem dX10_mixed_22 : decode cX10_mixed 22 = .ok (.aload_n 3, 1) := by decide +kernel
theorem dX10_mixed_23 : decode cX10_mixed 23 = .ok (.aload 4, 2) := by decide +kernel
theorem dX10_mixed_25 : decode cX10_mixed 25 = .ok (.if_acmp .ne 5, 3) := by decide +kernel
theorem dX10_mixed_28 : decode cX10_mixed 28 = .ok (.iconst (-1), 1) := by decide +kernel
theorem dX10_mixed_29 : decode cX10_mixed 29 = .ok (.ireturn, 1) := by decide +kernel
theorem dX10_mixed_30 : decode cX10_mixed 30 = .ok (.aload 4, 2) := by decide +kernel
theorem dX10_mixed_32 : decode cX10_mixed 32 = .ok (.invokevirtual 257, 3) := by decide +kernel
theorem dX10_mixed_35 : decode cX10_mixed 35 = .ok (.istore 5, 2) := by decide +kernel
theorem dX10_mixed_37 : decode cX10_mixed 37 = .ok (.aload_n 0, 1) := by decide +kernel
theorem dX10_mixed_38 : decode cX10_mixed 38 = .ok (.getfield 49, 3) := by decide +kernel
theorem dX10_mixed_41 : decode cX10_mixed 41 = .ok (.aload_n 0, 1) := by decide +kernel
theorem dX10_mixed_42 : decode cX10_mixed 42 = .ok (.getfield 58, 3) := by decide +kernel
theorem dX10_mixed_45 : decode cX10_mixed 45 = .ok (.aload_n 3, 1) := by decide +kernel
theorem dX10_mixed_46 : decode cX10_mixed 46 = .ok (.iload_n 1, 1) := by decide +kernel
theorem dX10_mixed_47 : decode cX10_mixed 47 = .ok (.invokestatic 144, 3) := by decide +kernel
theorem dX10_mixed_50 : decode cX10_mixed 50 = .ok (.invokevirtual 183, 3) := by decide +kernel
theorem dX10_mixed_53 : decode cX10_mixed 53 = .ok (.iconst 0, 1) := by decide +kernel
theorem dX10_mixed_54 : decode cX10_mixed 54 = .ok (.istore 6, 2) := by decide +kernel
theorem dX10_mixed_56 : decode cX10_mixed 56 = .ok (.iload 6, 2) := by decide +kernel
theorem dX10_mixed_58 : decode cX10_mixed 58 = .ok (.aload_n 0, 1) := by decide +kernel
theorem dX10_mixed_59 : decode cX10_mixed 59 = .ok (.getfield 58, 3) := by decide +kernel
theorem dX10_mixed_62 : decode cX10_mixed 62 = .ok (.invokevirtual 187, 3) := by decide +kernel
theorem dX10_mixed_65 : decode cX10_mixed 65 = .ok (.if_icmp .ge 39, 3) := by decide +kernel
theorem dX10_mixed_68 : decode cX10_mixed 68 = .ok (.aload_n 3, 1) := by decide +kernel
theorem dX10_mixed_69 : decode cX10_mixed 69 = .ok (.aload_n 0, 1) := by decide +kernel
theorem dX10_mixed_70 : decode cX10_mixed 70 = .ok (.getfield 58, 3) := by decide +kernel
theorem dX10_mixed_73 : decode cX10_mixed 73 = .ok (.iload 6, 2) := by decide +kernel
theorem dX10_mixed_75 : decode cX10_mixed 75 = .ok (.invokevirtual 197, 3) := by decide +kernel
theorem dX10_mixed_78 : decode cX10_mixed 78 = .ok (.iconst 0, 1) := by decide +kernel
theorem dX10_mixed_79 : decode cX10_mixed 79 = .ok (.invokevirtual 260, 3) := by decide +kernel
theorem dX10_mixed_82 : decode cX10_mixed 82 = .ok (.istore 7, 2) := by decide +kernel
theorem dX10_mixed_84 : decode cX10_mixed 84 = .ok (.iload 5, 2) := by decide +kernel
theorem dX10_mixed_86 : decode cX10_mixed 86 = .ok (.iload 7, 2) := by decide +kernel
theorem dX10_mixed_88 : decode cX10_mixed 88 = .ok (.ishr, 1) := by decide +kernel
theorem dX10_mixed_89 : decode cX10_mixed 89 = .ok (.iconst 1, 1) := by decide +kernel
theorem dX10_mixed_90 : decode cX10_mixed 90 = .ok (.iand, 1) := by decide +kernel
theorem dX10_mixed_91 : decode cX10_mixed 91 = .ok (.iconst 1, 1) := by decide +kernel
theorem dX10_mixed_92 : decode cX10_mixed 92 = .ok (.if_icmp .ne 6, 3) := by decide +kernel
theorem dX10_mixed_95 : decode cX10_mixed 95 = .ok (.iload 6, 2) := by decide +kernel
theorem dX10_mixed_97 : decode cX10_mixed 97 = .ok (.ireturn, 1) := by decide +kernel
theorem dX10_mixed_98 : decode cX10_mixed 98 = .ok (.iinc 6 1, 3) := by decide +kernel
theorem dX10_mixed_101 : decode cX10_mixed 101 = .ok (.goto (-45), 3) := by decide +kernel
theorem dX10_mixed_104 : decode cX10_mixed 104 = .ok (.bipush (-2), 2) := by decide +kernel
theorem dX10_mixed_106 : decode cX10_mixed 106 = .ok (.ireturn, 1) := by decide +kernel
set_option maxRecDepth 20000 in
theorem ggX10_drawn_X10_songAt : GoodIn wsX10_drawn wsX10_songAt := goodIn_r _ [7, 8, 9, 10, 6, 11, 196, 197, 198, 199, 200, 201, 202, 203, 204, 205, 206, 207] rfl (by decide +kernel)
set_option maxRecDepth 20000 in
theorem gX10_drawn_X10_songAt : GoodIn wsX10_drawn (wsV RX10 102 RX10 yX10_songAt wsX10_songAt) := goodIn_app (goodIn_of _ (by decide +kernel)) ggX10_drawn_X10_songAt
set_option maxRecDepth 20000 in
theorem ggX10_drawn_X10_isOf : GoodIn wsX10_drawn wsX10_isOf := goodIn_r _ [11] rfl (by decide +kernel)
set_option maxRecDepth 20000 in
theorem gX10_drawn_X10_isOf : GoodIn wsX10_drawn (va_wsS RX10 140 yX10_isOf wsX10_isOf) := goodIn_app (goodIn_of _ (by decide +kernel)) ggX10_drawn_X10_isOf
set_option maxRecDepth 20000 in
theorem ggX10_drawn_X8_setAside : GoodIn wsX10_drawn wsX8_setAside := goodIn_r _ [16, 17, 18, 19, 20, 21, 22, 23, 24, 25, 26, 27, 28, 29, 30, 208, 209, 210, 211, 212] rfl (by decide +kernel)
set_option maxRecDepth 20000 in
theorem gX10_drawn_X8_setAside : GoodIn wsX10_drawn (wsV RX10 263 RX8 yX8_setAside wsX8_setAside) := goodIn_app (goodIn_of _ (by decide +kernel)) ggX10_drawn_X8_setAside
set_option maxRecDepth 20000 in
theorem ggX10_drawn_X10_forgetBy : GoodIn wsX10_drawn wsX10_forgetBy := goodIn_r _ [34, 35, 36, 37, 38, 39, 15, 40, 17, 41, 42, 21, 43, 44, 45, 46, 47, 48, 49, 50, 51, 52, 53, 196, 197, 198, 199, 200, 201, 202, 203, 204, 205, 206, 207, 208, 209, 210, 211, 212] rfl (by decide +kernel)
set_option maxRecDepth 20000 in
theorem gX10_drawn_X10_forgetBy : GoodIn wsX10_drawn (wsV RX10 266 RX10 yX10_forgetBy wsX10_forgetBy) := goodIn_app (goodIn_of _ (by decide +kernel)) ggX10_drawn_X10_forgetBy
set_option maxRecDepth 20000 in
theorem ggX10_drawn_X3_rightFrom : GoodIn wsX10_drawn wsX3_rightFrom := goodIn_r _ [58, 59, 60, 61, 57, 62, 63, 64, 65, 66, 67, 68, 69, 70, 71, 72, 73, 74, 75, 76, 77, 78, 79, 80, 15, 81, 82, 83, 84, 85, 17, 41, 42, 21, 43, 86, 87, 88, 89, 90, 91, 92, 93, 94, 95, 96, 97, 52, 53, 98, 99, 100, 101, 102, 103, 104, 105, 106, 107, 108, 109, 110, 111, 112, 113, 114, 115, 116, 117, 118, 119, 120, 121, 122, 123, 124, 125, 126, 127, 128, 129, 130, 131, 132, 133, 134, 135, 136, 137, 138, 139, 140, 141, 142, 143, 144, 145, 146, 147, 148, 149, 150, 151, 152, 153, 154, 155, 156, 157, 158, 159, 160, 161, 162, 163, 164, 165, 166, 167, 168, 169, 170, 171, 172, 173, 174, 175, 176, 177, 178, 179, 180, 213, 214, 215, 216, 217, 218, 219, 220, 208, 209, 210, 211, 212, 221, 222, 223, 224, 225, 226, 227, 228, 229, 230] rfl (by decide +kernel)
set_option maxRecDepth 20000 in
theorem gX10_drawn_X3_rightFrom : GoodIn wsX10_drawn (wsV RX10 203 RX3 yX3_rightFrom wsX3_rightFrom) := goodIn_app (goodIn_of _ (by decide +kernel)) ggX10_drawn_X3_rightFrom
set_option maxRecDepth 20000 in
theorem ggX10_drawn_X8_bitsHad : GoodIn wsX10_drawn wsX8_bitsHad := goodIn_r _ [184, 17, 185, 186, 187, 188, 189, 190, 191, 208, 209, 210, 211, 212] rfl (by decide +kernel)
set_option maxRecDepth 20000 in
theorem gX10_drawn_X8_bitsHad : GoodIn wsX10_drawn (wsV RX10 270 RX8 yX8_bitsHad wsX8_bitsHad) := goodIn_app (goodIn_of _ (by decide +kernel)) ggX10_drawn_X8_bitsHad
set_option maxRecDepth 20000 in
theorem ggX10_drawn_X8_takeBack : GoodIn wsX10_drawn wsX8_takeBack := goodIn_r _ [195, 18, 17, 19, 20, 21, 22, 23, 24, 25, 26, 27, 28, 29, 30, 208, 209, 210, 211, 212] rfl (by decide +kernel)
set_option maxRecDepth 20000 in
theorem gX10_drawn_X8_takeBack : GoodIn wsX10_drawn (wsV RX10 273 RX8 yX8_takeBack wsX8_takeBack) := goodIn_app (goodIn_of _ (by decide +kernel)) ggX10_drawn_X8_takeBack
theorem dX10_drawn_0 : decode cX10_drawn 0 = .ok (.aload_n 0, 1) := by decide +kernel
theorem dX10_drawn_1 : decode cX10_drawn 1 = .ok (.iload_n 1, 1) := by decide +kernel
theorem dX10_drawn_2 : decode cX10_drawn 2 = .ok (.invokevirtual 102, 3) := by decide +kernel
theorem dX10_drawn_5 : decode cX10_drawn 5 = .ok (.astore 5, 2) := by decide +kernel
theorem dX10_drawn_7 : decode cX10_drawn 7 = .ok (.aload 5, 2) := by decide +kernel
theorem dX10_drawn_9 : decode cX10_drawn 9 = .ok (.ifnull 23, 3) := by decide +kernel
theorem dX10_drawn_12 : decode cX10_drawn 12 = .ok (.iload_n 3, 1) := by decide +kernel
theorem dX10_drawn_13 : decode cX10_drawn 13 = .ok (.iconst 1, 1) := by decide +kernel
theorem dX10_drawn_14 : decode cX10_drawn 14 = .ok (.if_icmp .lt 18, 3) := by decide +kernel
theorem dX10_drawn_17 : decode cX10_drawn 17 = .ok (.iload_n 3, 1) := by decide +kernel
theorem dX10_drawn_18 : decode cX10_drawn 18 = .ok (.bipush 20, 2) := by decide +kernel
theorem dX10_drawn_20 : decode cX10_drawn 20 = .ok (.if_icmp .gt 12, 3) := by decide +kernel
theorem dX10_drawn_23 : decode cX10_drawn 23 = .ok (.iload 4, 2) := by decide +kernel
theorem dX10_drawn_25 : decode cX10_drawn 25 = .ok (.iconst 2, 1) := by decide +kernel
theorem dX10_drawn_26 : decode cX10_drawn 26 = .ok (.invokestatic 140, 3) := by decide +kernel
theorem dX10_drawn_29 : decode cX10_drawn 29 = .ok (.ifCond .ne 5, 3) := by decide +kernel
theorem dX10_drawn_32 : decode cX10_drawn 32 = .ok (.iconst (-1), 1) := by decide +kernel
theorem dX10_drawn_33 : decode cX10_drawn 33 = .ok (.ireturn, 1) := by decide +kernel
theorem dX10_drawn_34 : decode cX10_drawn 34 = .ok (.aload 5, 2) := by decide +kernel
theorem dX10_drawn_36 : decode cX10_drawn 36 = .ok (.invokevirtual 263, 3) := by decide +kernel
theorem dX10_drawn_39 : decode cX10_drawn 39 = .ok (.iload_n 2, 1) := by decide +kernel
theorem dX10_drawn_40 : decode cX10_drawn 40 = .ok (.istore 6, 2) := by decide +kernel
theorem dX10_drawn_42 : decode cX10_drawn 42 = .ok (.iconst 0, 1) := by decide +kernel
theorem dX10_drawn_43 : decode cX10_drawn 43 = .ok (.istore 7, 2) := by decide +kernel
theorem dX10_drawn_45 : decode cX10_drawn 45 = .ok (.iconst 0, 1) := by decide +kernel
theorem dX10_drawn_46 : decode cX10_drawn 46 = .ok (.istore 8, 2) := by decide +kernel
theorem dX10_drawn_48 : decode cX10_drawn 48 = .ok (.iload 8, 2) := by decide +kernel
theorem dX10_drawn_50 : decode cX10_drawn 50 = .ok (.iload_n 3, 1) := by decide +kernel
theorem dX10_drawn_51 : decode cX10_drawn 51 = .ok (.if_icmp .ge 38, 3) := by decide +kernel
theorem dX10_drawn_54 : decode cX10_drawn 54 = .ok (.aload_n 0, 1) := by decide +kernel
theorem dX10_drawn_55 : decode cX10_drawn 55 = .ok (.iload 6, 2) := by decide +kernel
theorem dX10_drawn_57 : decode cX10_drawn 57 = .ok (.aload 5, 2) := by decide +kernel
theorem dX10_drawn_59 : decode cX10_drawn 59 = .ok (.invokevirtual 266, 3) := by decide +kernel
theorem dX10_drawn_62 : decode cX10_drawn 62 = .ok (.istore 6, 2) := by decide +kernel
theorem dX10_drawn_64 : decode cX10_drawn 64 = .ok (.iload 7, 2) := by decide +kernel
theorem dX10_drawn_66 : decode cX10_drawn 66 = .ok (.aload_n 0, 1) := by decide +kernel
theorem dX10_drawn_67 : decode cX10_drawn 67 = .ok (.getfield 49, 3) := by decide +kernel
theorem dX10_drawn_70 : decode cX10_drawn 70 = .ok (.aload_n 0, 1) := by decide +kernel
theorem dX10_drawn_71 : decode cX10_drawn 71 = .ok (.getfield 58, 3) := by decide +kernel
theorem dX10_drawn_74 : decode cX10_drawn 74 = .ok (.aload 5, 2) := by decide +kernel
theorem dX10_drawn_76 : decode cX10_drawn 76 = .ok (.iconst 0, 1) := by decide +kernel
theorem dX10_drawn_77 : decode cX10_drawn 77 = .ok (.invokevirtual 203, 3) := by decide +kernel
theorem dX10_drawn_80 : decode cX10_drawn 80 = .ok (.iadd, 1) := by decide +kernel
theorem dX10_drawn_81 : decode cX10_drawn 81 = .ok (.istore 7, 2) := by decide +kernel
theorem dX10_drawn_83 : decode cX10_drawn 83 = .ok (.iinc 8 1, 3) := by decide +kernel
theorem dX10_drawn_86 : decode cX10_drawn 86 = .ok (.goto (-38), 3) := by decide +kernel
theorem dX10_drawn_89 : decode cX10_drawn 89 = .ok (.aload 5, 2) := by decide +kernel
theorem dX10_drawn_91 : decode cX10_drawn 91 = .ok (.invokevirtual 270, 3) := by decide +kernel
theorem dX10_drawn_94 : decode cX10_drawn 94 = .ok (.istore 8, 2) := by decide +kernel
theorem dX10_drawn_96 : decode cX10_drawn 96 = .ok (.aload 5, 2) := by decide +kernel
theorem dX10_drawn_98 : decode cX10_drawn 98 = .ok (.invokevirtual 273, 3) := by decide +kernel
theorem dX10_drawn_101 : decode cX10_drawn 101 = .ok (.iload 4, 2) := by decide +kernel
theorem dX10_drawn_103 : decode cX10_drawn 103 = .ok (.ifCond .ne 8, 3) := by decide +kernel
theorem dX10_drawn_106 : decode cX10_drawn 106 = .ok (.iload 7, 2) := by decide +kernel
theorem dX10_drawn_108 : decode cX10_drawn 108 = .ok (.goto 5, 3) := by decide +kernel
theorem dX10_drawn_111 : decode cX10_drawn 111 = .ok (.iload 8, 2) := by decide +kernel
theorem dX10_drawn_113 : decode cX10_drawn 113 = .ok (.ireturn, 1) := by decide +kernel
set_option maxRecDepth 20000 in
theorem ggX10_forgetBy_X8_isHad : GoodIn wsX10_forgetBy wsX8_isHad := goodIn_r _ [7, 8, 9, 10, 11, 12, 13, 14, 6, 15, 35, 36, 37, 38, 39] rfl (by decide +kernel)
set_option maxRecDepth 20000 in
theorem gX10_forgetBy_X8_isHad : GoodIn wsX10_forgetBy (wsV RX10 150 RX8 yX8_isHad wsX8_isHad) := goodIn_app (goodIn_of _ (by decide +kernel)) ggX10_forgetBy_X8_isHad
set_option maxRecDepth 20000 in
theorem ggX10_forgetBy_X8_setHad : GoodIn wsX10_forgetBy wsX8_setHad := goodIn_r _ [19, 8, 13, 14, 6, 15, 9, 10, 11, 12, 20, 21, 22, 35, 36, 37, 38, 39] rfl (by decide +kernel)
set_option maxRecDepth 20000 in
theorem gX10_forgetBy_X8_setHad : GoodIn wsX10_forgetBy (wsV RX10 153 RX8 yX8_setHad wsX8_setHad) := goodIn_app (goodIn_of _ (by decide +kernel)) ggX10_forgetBy_X8_setHad
theorem dX10_forgetBy_0 : decode cX10_forgetBy 0 = .ok (.iload_n 1, 1) := by decide +kernel
theorem dX10_forgetBy_1 : decode cX10_forgetBy 1 = .ok (.istore_n 3, 1) := by decide +kernel
theorem dX10_forgetBy_2 : decode cX10_forgetBy 2 = .ok (.iconst 0, 1) := by decide +kernel
