theorem dX6_holdRow_0 : decode cX6_holdRow 0 = .ok (.aload_n 0, 1) := by decide +kernel
theorem dX6_holdRow_1 : decode cX6_holdRow 1 = .ok (.iconst 2, 1) := by decide +kernel
theorem dX6_holdRow_2 : decode cX6_holdRow 2 = .ok (.putfield 15, 3) := by decide +kernel
theorem dX6_holdRow_5 : decode cX6_holdRow 5 = .ok (.aload_n 0, 1) := by decide +kernel
theorem dX6_holdRow_6 : decode cX6_holdRow 6 = .ok (.iload_n 1, 1) := by decide +kernel
theorem dX6_holdRow_7 : decode cX6_holdRow 7 = .ok (.putfield 22, 3) := by decide +kernel
theorem dX6_holdRow_10 : decode cX6_holdRow 10 = .ok (.aload_n 0, 1) := by decide +kernel
theorem dX6_holdRow_11 : decode cX6_holdRow 11 = .ok (.iload_n 2, 1) := by decide +kernel
theorem dX6_holdRow_12 : decode cX6_holdRow 12 = .ok (.aload_n 0, 1) := by decide +kernel
theorem dX6_holdRow_13 : decode cX6_holdRow 13 = .ok (.getfield 9, 3) := by decide +kernel
theorem dX6_holdRow_16 : decode cX6_holdRow 16 = .ok (.arraylength, 1) := by decide +kernel
theorem dX6_holdRow_17 : decode cX6_holdRow 17 = .ok (.invokestatic 25, 3) := by decide +kernel
theorem dX6_holdRow_20 : decode cX6_holdRow 20 = .ok (.putfield 31, 3) := by decide +kernel
theorem dX6_holdRow_23 : decode cX6_holdRow 23 = .ok (.aload_n 0, 1) := by decide +kernel
theorem dX6_holdRow_24 : decode cX6_holdRow 24 = .ok (.getfield 9, 3) := by decide +kernel
theorem dX6_holdRow_27 : decode cX6_holdRow 27 = .ok (.lconst 0, 1) := by decide +kernel
theorem dX6_holdRow_28 : decode cX6_holdRow 28 = .ok (.invokestatic 34, 3) := by decide +kernel
theorem dX6_holdRow_31 : decode cX6_holdRow 31 = .ok (.return_, 1) := by decide +kernel
theorem dX6_isEmpty_0 : decode cX6_isEmpty 0 = .ok (.aload_n 0, 1) := by decide +kernel
theorem dX6_isEmpty_1 : decode cX6_isEmpty 1 = .ok (.getfield 15, 3) := by decide +kernel
theorem dX6_isEmpty_4 : decode cX6_isEmpty 4 = .ok (.ifCond .ne 7, 3) := by decide +kernel
theorem dX6_isEmpty_7 : decode cX6_isEmpty 7 = .ok (.iconst 1, 1) := by decide +kernel
theorem dX6_isEmpty_8 : decode cX6_isEmpty 8 = .ok (.goto 4, 3) := by decide +kernel
theorem dX6_isEmpty_11 : decode cX6_isEmpty 11 = .ok (.iconst 0, 1) := by decide +kernel
theorem dX6_isEmpty_12 : decode cX6_isEmpty 12 = .ok (.ireturn, 1) := by decide +kernel
theorem dX6_isRow_0 : decode cX6_isRow 0 = .ok (.aload_n 0, 1) := by decide +kernel
theorem dX6_isRow_1 : decode cX6_isRow 1 = .ok (.getfield 15, 3) := by decide +kernel
theorem dX6_isRow_4 : decode cX6_isRow 4 = .ok (.iconst 2, 1) := by decide +kernel
theorem dX6_isRow_5 : decode cX6_isRow 5 = .ok (.if_icmp .ne 7, 3) := by decide +kernel
theorem dX6_isRow_8 : decode cX6_isRow 8 = .ok (.iconst 1, 1) := by decide +kernel
theorem dX6_isRow_9 : decode cX6_isRow 9 = .ok (.goto 4, 3) := by decide +kernel
theorem dX6_isRow_12 : decode cX6_isRow 12 = .ok (.iconst 0, 1) := by decide +kernel
theorem dX6_isRow_13 : decode cX6_isRow 13 = .ok (.ireturn, 1) := by decide +kernel
set_option maxRecDepth 20000 in
theorem ggX6_isRowOfBytes_X6_isRow : GoodIn wsX6_isRowOfBytes wsX6_isRow := goodIn_r _ [6, 7, 8, 9, 10, 11, 12] (by decide +kernel) (by decide +kernel)
set_option maxRecDepth 20000 in
theorem gX6_isRowOfBytes_X6_isRow : GoodIn wsX6_isRowOfBytes (wsV RX6 40 RX6 yX6_isRow wsX6_isRow) := goodIn_app (goodIn_of _ (by decide +kernel)) ggX6_isRowOfBytes_X6_isRow
theorem dX6_isRowOfBytes_0 : decode cX6_isRowOfBytes 0 = .ok (.aload_n 0, 1) := by decide +kernel
theorem dX6_isRowOfBytes_1 : decode cX6_isRowOfBytes 1 = .ok (.invokevirtual 40, 3) := by decide +kernel
theorem dX6_isRowOfBytes_4 : decode cX6_isRowOfBytes 4 = .ok (.ifCond .eq 14, 3) := by decide +kernel
theorem dX6_isRowOfBytes_7 : decode cX6_isRowOfBytes 7 = .ok (.aload_n 0, 1) := by decide +kernel
theorem dX6_isRowOfBytes_8 : decode cX6_isRowOfBytes 8 = .ok (.getfield 22, 3) := by decide +kernel
theorem dX6_isRowOfBytes_11 : decode cX6_isRowOfBytes 11 = .ok (.ifCond .ne 7, 3) := by decide +kernel
theorem dX6_isRowOfBytes_14 : decode cX6_isRowOfBytes 14 = .ok (.iconst 1, 1) := by decide +kernel
theorem dX6_isRowOfBytes_15 : decode cX6_isRowOfBytes 15 = .ok (.goto 4, 3) := by decide +kernel
theorem dX6_isRowOfBytes_18 : decode cX6_isRowOfBytes 18 = .ok (.iconst 0, 1) := by decide +kernel
theorem dX6_isRowOfBytes_19 : decode cX6_isRowOfBytes 19 = .ok (.ireturn, 1) := by decide +kernel
set_option maxRecDepth 20000 in
theorem ggX6_isRowLike_X6_isRow : GoodIn wsX6_isRowLike wsX6_isRow := goodIn_r _ [6, 7, 8, 9, 10, 11, 12] (by decide +kernel) (by decide +kernel)
set_option maxRecDepth 20000 in
theorem gX6_isRowLike_X6_isRow : GoodIn wsX6_isRowLike (wsV RX6 40 RX6 yX6_isRow wsX6_isRow) := goodIn_app (goodIn_of _ (by decide +kernel)) ggX6_isRowLike_X6_isRow
theorem dX6_isRowLike_0 : decode cX6_isRowLike 0 = .ok (.aload_n 0, 1) := by decide +kernel
theorem dX6_isRowLike_1 : decode cX6_isRowLike 1 = .ok (.invokevirtual 40, 3) := by decide +kernel
theorem dX6_isRowLike_4 : decode cX6_isRowLike 4 = .ok (.ifCond .eq 25, 3) := by decide +kernel
theorem dX6_isRowLike_7 : decode cX6_isRowLike 7 = .ok (.aload_n 1, 1) := by decide +kernel
theorem dX6_isRowLike_8 : decode cX6_isRowLike 8 = .ok (.invokevirtual 40, 3) := by decide +kernel
theorem dX6_isRowLike_11 : decode cX6_isRowLike 11 = .ok (.ifCond .eq 18, 3) := by decide +kernel
theorem dX6_isRowLike_14 : decode cX6_isRowLike 14 = .ok (.aload_n 0, 1) := by decide +kernel
theorem dX6_isRowLike_15 : decode cX6_isRowLike 15 = .ok (.getfield 22, 3) := by decide +kernel
theorem dX6_isRowLike_18 : decode cX6_isRowLike 18 = .ok (.aload_n 1, 1) := by decide +kernel
theorem dX6_isRowLike_19 : decode cX6_isRowLike 19 = .ok (.getfield 22, 3) := by decide +kernel
theorem dX6_isRowLike_22 : decode cX6_isRowLike 22 = .ok (.if_icmp .ne 7, 3) := by decide +kernel
theorem dX6_isRowLike_25 : decode cX6_isRowLike 25 = .ok (.iconst 1, 1) := by decide +kernel
theorem dX6_isRowLike_26 : decode cX6_isRowLike 26 = .ok (.goto 4, 3) := by decide +kernel
theorem dX6_isRowLike_29 : decode cX6_isRowLike 29 = .ok (.iconst 0, 1) := by decide +kernel
theorem dX6_isRowLike_30 : decode cX6_isRowLike 30 = .ok (.ireturn, 1) := by decide +kernel
set_option maxRecDepth 20000 in
theorem ggX6_refusalOfRow_X6_isEmpty : GoodIn wsX6_refusalOfRow wsX6_isEmpty := goodIn_r _ [5, 6, 11, 12, 13, 14, 15] (by decide +kernel) (by decide +kernel)
set_option maxRecDepth 20000 in
theorem gX6_refusalOfRow_X6_isEmpty : GoodIn wsX6_refusalOfRow (wsV RX6 44 RX6 yX6_isEmpty wsX6_isEmpty) := goodIn_app (goodIn_of _ (by decide +kernel)) ggX6_refusalOfRow_X6_isEmpty
set_option maxRecDepth 20000 in
theorem ggX6_refusalOfRow_X6_isRow : GoodIn wsX6_refusalOfRow wsX6_isRow := goodIn_r _ [10, 6, 11, 12, 13, 14, 15] (by decide +kernel) (by decide +kernel)
set_option maxRecDepth 20000 in
theorem gX6_refusalOfRow_X6_isRow : GoodIn wsX6_refusalOfRow (wsV RX6 40 RX6 yX6_isRow wsX6_isRow) := goodIn_app (goodIn_of _ (by decide +kernel)) ggX6_refusalOfRow_X6_isRow
theorem dX6_refusalOfRow_0 : decode cX6_refusalOfRow 0 = .ok (.aload_n 0, 1) := by decide +kernel
theorem dX6_refusalOfRow_1 : decode cX6_refusalOfRow 1 = .ok (.invokevirtual 44, 3) := by decide +kernel
theorem dX6_refusalOfRow_4 : decode cX6_refusalOfRow 4 = .ok (.ifCond .eq 6, 3) := by decide +kernel
theorem dX6_refusalOfRow_7 : decode cX6_refusalOfRow 7 = .ok (.bipush (-11), 2) := by decide +kernel
theorem dX6_refusalOfRow_9 : decode cX6_refusalOfRow 9 = .ok (.ireturn, 1) := by decide +kernel
theorem dX6_refusalOfRow_10 : decode cX6_refusalOfRow 10 = .ok (.aload_n 0, 1) := by decide +kernel
theorem dX6_refusalOfRow_11 : decode cX6_refusalOfRow 11 = .ok (.invokevirtual 40, 3) := by decide +kernel
theorem dX6_refusalOfRow_14 : decode cX6_refusalOfRow 14 = .ok (.ifCond .eq 7, 3) := by decide +kernel
theorem dX6_refusalOfRow_17 : decode cX6_refusalOfRow 17 = .ok (.iconst 0, 1) := by decide +kernel
theorem dX6_refusalOfRow_18 : decode cX6_refusalOfRow 18 = .ok (.goto 5, 3) := by decide +kernel
theorem dX6_refusalOfRow_21 : decode cX6_refusalOfRow 21 = .ok (.bipush (-12), 2) := by decide +kernel
theorem dX6_refusalOfRow_23 : decode cX6_refusalOfRow 23 = .ok (.ireturn, 1) := by decide +kernel
set_option maxRecDepth 20000 in
theorem ggX6_refusalOfBytes_X6_isEmpty : GoodIn wsX6_refusalOfBytes wsX6_isEmpty := goodIn_r _ [5, 6, 16, 17, 18, 19, 20] (by decide +kernel) (by decide +kernel)
set_option maxRecDepth 20000 in
theorem gX6_refusalOfBytes_X6_isEmpty : GoodIn wsX6_refusalOfBytes (wsV RX6 44 RX6 yX6_isEmpty wsX6_isEmpty) := goodIn_app (goodIn_of _ (by decide +kernel)) ggX6_refusalOfBytes_X6_isEmpty
set_option maxRecDepth 20000 in
theorem ggX6_refusalOfBytes_X6_isRowOfBytes : GoodIn wsX6_refusalOfBytes wsX6_isRowOfBytes := goodIn_r _ [10, 11, 12, 13, 14, 4, 15, 6, 16, 17, 18, 19, 20] (by decide +kernel) (by decide +kernel)
set_option maxRecDepth 20000 in
theorem gX6_refusalOfBytes_X6_isRowOfBytes : GoodIn wsX6_refusalOfBytes (wsV RX6 47 RX6 yX6_isRowOfBytes wsX6_isRowOfBytes) := goodIn_app (goodIn_of _ (by decide +kernel)) ggX6_refusalOfBytes_X6_isRowOfBytes
theorem dX6_refusalOfBytes_0 : decode cX6_refusalOfBytes 0 = .ok (.aload_n 0, 1) := by decide +kernel
theorem dX6_refusalOfBytes_1 : decode cX6_refusalOfBytes 1 = .ok (.invokevirtual 44, 3) := by decide +kernel
theorem dX6_refusalOfBytes_4 : decode cX6_refusalOfBytes 4 = .ok (.ifCond .eq 6, 3) := by decide +kernel
theorem dX6_refusalOfBytes_7 : decode cX6_refusalOfBytes 7 = .ok (.bipush (-11), 2) := by decide +kernel
theorem dX6_refusalOfBytes_9 : decode cX6_refusalOfBytes 9 = .ok (.ireturn, 1) := by decide +kernel
theorem dX6_refusalOfBytes_10 : decode cX6_refusalOfBytes 10 = .ok (.aload_n 0, 1) := by decide +kernel
theorem dX6_refusalOfBytes_11 : decode cX6_refusalOfBytes 11 = .ok (.invokevirtual 47, 3) := by decide +kernel
theorem dX6_refusalOfBytes_14 : decode cX6_refusalOfBytes 14 = .ok (.ifCond .eq 7, 3) := by decide +kernel
theorem dX6_refusalOfBytes_17 : decode cX6_refusalOfBytes 17 = .ok (.iconst 0, 1) := by decide +kernel
theorem dX6_refusalOfBytes_18 : decode cX6_refusalOfBytes 18 = .ok (.goto 5, 3) := by decide +kernel
theorem dX6_refusalOfBytes_21 : decode cX6_refusalOfBytes 21 = .ok (.bipush (-12), 2) := by decide +kernel
theorem dX6_refusalOfBytes_23 : decode cX6_refusalOfBytes 23 = .ok (.ireturn, 1) := by decide +kernel
theorem dX6_bodyHeld_0 : decode cX6_bodyHeld 0 = .ok (.aload_n 0, 1) := by decide +kernel
theorem dX6_bodyHeld_1 : decode cX6_bodyHeld 1 = .ok (.getfield 19, 3) := by decide +kernel
theorem dX6_bodyHeld_4 : decode cX6_bodyHeld 4 = .ok (.ireturn, 1) := by decide +kernel
theorem dX6_length_0 : decode cX6_length 0 = .ok (.aload_n 0, 1) := by decide +kernel
theorem dX6_length_1 : decode cX6_length 1 = .ok (.getfield 31, 3) := by decide +kernel
theorem dX6_length_4 : decode cX6_length 4 = .ok (.ireturn, 1) := by decide +kernel
theorem dX6_isPlace_0 : decode cX6_isPlace 0 = .ok (.iload_n 1, 1) := by decide +kernel
theorem dX6_isPlace_1 : decode cX6_isPlace 1 = .ok (.ifCond .lt 15, 3) := by decide +kernel
theorem dX6_isPlace_4 : decode cX6_isPlace 4 = .ok (.iload_n 1, 1) := by decide +kernel
theorem dX6_isPlace_5 : decode cX6_isPlace 5 = .ok (.aload_n 0, 1) := by decide +kernel
theorem dX6_isPlace_6 : decode cX6_isPlace 6 = .ok (.getfield 31, 3) := by decide +kernel
theorem dX6_isPlace_9 : decode cX6_isPlace 9 = .ok (.if_icmp .ge 7, 3) := by decide +kernel
theorem dX6_isPlace_12 : decode cX6_isPlace 12 = .ok (.iconst 1, 1) := by decide +kernel
theorem dX6_isPlace_13 : decode cX6_isPlace 13 = .ok (.goto 4, 3) := by decide +kernel
theorem dX6_isPlace_16 : decode cX6_isPlace 16 = .ok (.iconst 0, 1) := by decide +kernel
theorem dX6_isPlace_17 : decode cX6_isPlace 17 = .ok (.ireturn, 1) := by decide +kernel
theorem dX6_hasStretch_0 : decode cX6_hasStretch 0 = .ok (.iload_n 1, 1) := by decide +kernel
theorem dX6_hasStretch_1 : decode cX6_hasStretch 1 = .ok (.ifCond .lt 29, 3) := by decide +kernel
theorem dX6_hasStretch_4 : decode cX6_hasStretch 4 = .ok (.iload_n 2, 1) := by decide +kernel
theorem dX6_hasStretch_5 : decode cX6_hasStretch 5 = .ok (.ifCond .lt 25, 3) := by decide +kernel
theorem dX6_hasStretch_8 : decode cX6_hasStretch 8 = .ok (.iload_n 2, 1) := by decide +kernel
theorem dX6_hasStretch_9 : decode cX6_hasStretch 9 = .ok (.aload_n 0, 1) := by decide +kernel
theorem dX6_hasStretch_10 : decode cX6_hasStretch 10 = .ok (.getfield 31, 3) := by decide +kernel
theorem dX6_hasStretch_13 : decode cX6_hasStretch 13 = .ok (.if_icmp .gt 17, 3) := by decide +kernel
theorem dX6_hasStretch_16 : decode cX6_hasStretch 16 = .ok (.iload_n 1, 1) := by decide +kernel
theorem dX6_hasStretch_17 : decode cX6_hasStretch 17 = .ok (.aload_n 0, 1) := by decide +kernel
theorem dX6_hasStretch_18 : decode cX6_hasStretch 18 = .ok (.getfield 31, 3) := by decide +kernel
theorem dX6_hasStretch_21 : decode cX6_hasStretch 21 = .ok (.iload_n 2, 1) := by decide +kernel
theorem dX6_hasStretch_22 : decode cX6_hasStretch 22 = .ok (.isub, 1) := by decide +kernel
theorem dX6_hasStretch_23 : decode cX6_hasStretch 23 = .ok (.if_icmp .gt 7, 3) := by decide +kernel
theorem dX6_hasStretch_26 : decode cX6_hasStretch 26 = .ok (.iconst 1, 1) := by decide +kernel
theorem dX6_hasStretch_27 : decode cX6_hasStretch 27 = .ok (.goto 4, 3) := by decide +kernel
theorem dX6_hasStretch_30 : decode cX6_hasStretch 30 = .ok (.iconst 0, 1) := by decide +kernel
theorem dX6_hasStretch_31 : decode cX6_hasStretch 31 = .ok (.ireturn, 1) := by decide +kernel
theorem dX6_cell_0 : decode cX6_cell 0 = .ok (.iload_n 1, 1) := by decide +kernel
theorem dX6_cell_1 : decode cX6_cell 1 = .ok (.ifCond .lt 21, 3) := by decide +kernel
theorem dX6_cell_4 : decode cX6_cell 4 = .ok (.iload_n 1, 1) := by decide +kernel
theorem dX6_cell_5 : decode cX6_cell 5 = .ok (.aload_n 0, 1) := by decide +kernel
theorem dX6_cell_6 : decode cX6_cell 6 = .ok (.getfield 9, 3) := by decide +kernel
theorem dX6_cell_9 : decode cX6_cell 9 = .ok (.arraylength, 1) := by decide +kernel
theorem dX6_cell_10 : decode cX6_cell 10 = .ok (.if_icmp .ge 12, 3) := by decide +kernel
theorem dX6_cell_13 : decode cX6_cell 13 = .ok (.aload_n 0, 1) := by decide +kernel
theorem dX6_cell_14 : decode cX6_cell 14 = .ok (.getfield 9, 3) := by decide +kernel
theorem dX6_cell_17 : decode cX6_cell 17 = .ok (.iload_n 1, 1) := by decide +kernel
theorem dX6_cell_18 : decode cX6_cell 18 = .ok (.laload, 1) := by decide +kernel
theorem dX6_cell_19 : decode cX6_cell 19 = .ok (.goto 4, 3) := by decide +kernel
theorem dX6_cell_22 : decode cX6_cell 22 = .ok (.lconst 0, 1) := by decide +kernel
theorem dX6_cell_23 : decode cX6_cell 23 = .ok (.lreturn, 1) := by decide +kernel
set_option maxRecDepth 20000 in
theorem ggX6_small_X6_cell : GoodIn wsX6_small wsX6_cell := goodIn_r _ [5, 6, 7, 8, 9, 10, 11] (by decide +kernel) (by decide +kernel)
set_option maxRecDepth 20000 in
theorem gX6_small_X6_cell : GoodIn wsX6_small (wsV RX6 50 RX6 yX6_cell wsX6_cell) := goodIn_app (goodIn_of _ (by decide +kernel)) ggX6_small_X6_cell
theorem dX6_small_0 : decode cX6_small 0 = .ok (.aload_n 0, 1) := by decide +kernel
theorem dX6_small_1 : decode cX6_small 1 = .ok (.iload_n 1, 1) := by decide +kernel
theorem dX6_small_2 : decode cX6_small 2 = .ok (.invokevirtual 50, 3) := by decide +kernel
theorem dX6_small_5 : decode cX6_small 5 = .ok (.l2i, 1) := by decide +kernel
theorem dX6_small_6 : decode cX6_small 6 = .ok (.ireturn, 1) := by decide +kernel
set_option maxRecDepth 20000 in
theorem ggX6_become_X6_lowestOf : GoodIn wsX6_become wsX6_lowestOf := goodIn_r _ [6, 7, 8, 9, 10, 11, 12] (by decide +kernel) (by decide +kernel)
set_option maxRecDepth 20000 in
theorem gX6_become_X6_lowestOf : GoodIn wsX6_become (wsV RX6 54 RX6 yX6_lowestOf wsX6_lowestOf) := goodIn_app (goodIn_of _ (by decide +kernel)) ggX6_become_X6_lowestOf
theorem dX6_become_0 : decode cX6_become 0 = .ok (.iload_n 1, 1) := by decide +kernel
theorem dX6_become_1 : decode cX6_become 1 = .ok (.ifCond .lt 23, 3) := by decide +kernel
theorem dX6_become_4 : decode cX6_become 4 = .ok (.iload_n 1, 1) := by decide +kernel
theorem dX6_become_5 : decode cX6_become 5 = .ok (.aload_n 0, 1) := by decide +kernel
theorem dX6_become_6 : decode cX6_become 6 = .ok (.getfield 9, 3) := by decide +kernel
theorem dX6_become_9 : decode cX6_become 9 = .ok (.arraylength, 1) := by decide +kernel
theorem dX6_become_10 : decode cX6_become 10 = .ok (.if_icmp .ge 14, 3) := by decide +kernel
theorem dX6_become_13 : decode cX6_become 13 = .ok (.aload_n 0, 1) := by decide +kernel
theorem dX6_become_14 : decode cX6_become 14 = .ok (.getfield 9, 3) := by decide +kernel
theorem dX6_become_17 : decode cX6_become 17 = .ok (.iload_n 1, 1) := by decide +kernel
theorem dX6_become_18 : decode cX6_become 18 = .ok (.aload_n 0, 1) := by decide +kernel
theorem dX6_become_19 : decode cX6_become 19 = .ok (.lload_n 2, 1) := by decide +kernel
theorem dX6_become_20 : decode cX6_become 20 = .ok (.invokevirtual 54, 3) := by decide +kernel
theorem dX6_become_23 : decode cX6_become 23 = .ok (.lastore, 1) := by decide +kernel
theorem dX6_become_24 : decode cX6_become 24 = .ok (.return_, 1) := by decide +kernel
theorem dX6_lowestOf_0 : decode cX6_lowestOf 0 = .ok (.aload_n 0, 1) := by decide +kernel
theorem dX6_lowestOf_1 : decode cX6_lowestOf 1 = .ok (.getfield 22, 3) := by decide +kernel
theorem dX6_lowestOf_4 : decode cX6_lowestOf 4 = .ok (.tableswitch 62 0 4 #[36, 41, 46, 62, 50], 36) := by decide +kernel
theorem dX6_lowestOf_40 : decode cX6_lowestOf 40 = .ok (.lload_n 1, 1) := by decide +kernel
theorem dX6_lowestOf_41 : decode cX6_lowestOf 41 = .ok (.l2i, 1) := by decide +kernel
theorem dX6_lowestOf_42 : decode cX6_lowestOf 42 = .ok (.i2b, 1) := by decide +kernel
theorem dX6_lowestOf_43 : decode cX6_lowestOf 43 = .ok (.i2l, 1) := by decide +kernel
theorem dX6_lowestOf_44 : decode cX6_lowestOf 44 = .ok (.lreturn, 1) := by decide +kernel
theorem dX6_lowestOf_45 : decode cX6_lowestOf 45 = .ok (.lload_n 1, 1) := by decide +kernel
theorem dX6_lowestOf_46 : decode cX6_lowestOf 46 = .ok (.l2i, 1) := by decide +kernel
theorem dX6_lowestOf_47 : decode cX6_lowestOf 47 = .ok (.i2s, 1) := by decide +kernel
theorem dX6_lowestOf_48 : decode cX6_lowestOf 48 = .ok (.i2l, 1) := by decide +kernel
theorem dX6_lowestOf_49 : decode cX6_lowestOf 49 = .ok (.lreturn, 1) := by decide +kernel
theorem dX6_lowestOf_50 : decode cX6_lowestOf 50 = .ok (.lload_n 1, 1) := by decide +kernel
theorem dX6_lowestOf_51 : decode cX6_lowestOf 51 = .ok (.l2i, 1) := by decide +kernel
theorem dX6_lowestOf_52 : decode cX6_lowestOf 52 = .ok (.i2l, 1) := by decide +kernel
theorem dX6_lowestOf_53 : decode cX6_lowestOf 53 = .ok (.lreturn, 1) := by decide +kernel
theorem dX6_lowestOf_54 : decode cX6_lowestOf 54 = .ok (.lload_n 1, 1) := by decide +kernel
theorem dX6_lowestOf_55 : decode cX6_lowestOf 55 = .ok (.lconst 0, 1) := by decide +kernel
theorem dX6_lowestOf_56 : decode cX6_lowestOf 56 = .ok (.lcmp, 1) := by decide +kernel
theorem dX6_lowestOf_57 : decode cX6_lowestOf 57 = .ok (.ifCond .eq 7, 3) := by decide +kernel
theorem dX6_lowestOf_60 : decode cX6_lowestOf 60 = .ok (.lconst 1, 1) := by decide +kernel
theorem dX6_lowestOf_61 : decode cX6_lowestOf 61 = .ok (.goto 4, 3) := by decide +kernel
theorem dX6_lowestOf_64 : decode cX6_lowestOf 64 = .ok (.lconst 0, 1) := by decide +kernel
theorem dX6_lowestOf_65 : decode cX6_lowestOf 65 = .ok (.lreturn, 1) := by decide +kernel
theorem dX6_lowestOf_66 : decode cX6_lowestOf 66 = .ok (.lload_n 1, 1) := by decide +kernel
theorem dX6_lowestOf_67 : decode cX6_lowestOf 67 = .ok (.lreturn, 1) := by decide +kernel
set_option maxRecDepth 20000 in
theorem ggX6_copyTo_X6_hasStretch : GoodIn wsX6_copyTo wsX6_hasStretch := goodIn_r _ [10, 11, 12, 13, 14, 15, 16] (by decide +kernel) (by decide +kernel)
set_option maxRecDepth 20000 in
theorem gX6_copyTo_X6_hasStretch : GoodIn wsX6_copyTo (wsV RX6 58 RX6 yX6_hasStretch wsX6_hasStretch) := goodIn_app (goodIn_of _ (by decide +kernel)) ggX6_copyTo_X6_hasStretch
theorem dX6_copyTo_0 : decode cX6_copyTo 0 = .ok (.aload_n 0, 1) := by decide +kernel
theorem dX6_copyTo_1 : decode cX6_copyTo 1 = .ok (.iload_n 1, 1) := by decide +kernel
theorem dX6_copyTo_2 : decode cX6_copyTo 2 = .ok (.iload 4, 2) := by decide +kernel
theorem dX6_copyTo_4 : decode cX6_copyTo 4 = .ok (.invokevirtual 58, 3) := by decide +kernel
theorem dX6_copyTo_7 : decode cX6_copyTo 7 = .ok (.ifCond .eq 28, 3) := by decide +kernel
theorem dX6_copyTo_10 : decode cX6_copyTo 10 = .ok (.aload_n 2, 1) := by decide +kernel
theorem dX6_copyTo_11 : decode cX6_copyTo 11 = .ok (.iload_n 3, 1) := by decide +kernel
theorem dX6_copyTo_12 : decode cX6_copyTo 12 = .ok (.iload 4, 2) := by decide +kernel
theorem dX6_copyTo_14 : decode cX6_copyTo 14 = .ok (.invokevirtual 58, 3) := by decide +kernel
theorem dX6_copyTo_17 : decode cX6_copyTo 17 = .ok (.ifCond .eq 18, 3) := by decide +kernel
theorem dX6_copyTo_20 : decode cX6_copyTo 20 = .ok (.aload_n 0, 1) := by decide +kernel
theorem dX6_copyTo_21 : decode cX6_copyTo 21 = .ok (.getfield 9, 3) := by decide +kernel
theorem dX6_copyTo_24 : decode cX6_copyTo 24 = .ok (.iload_n 1, 1) := by decide +kernel
theorem dX6_copyTo_25 : decode cX6_copyTo 25 = .ok (.aload_n 2, 1) := by decide +kernel
theorem dX6_copyTo_26 : decode cX6_copyTo 26 = .ok (.getfield 9, 3) := by decide +kernel
theorem dX6_copyTo_29 : decode cX6_copyTo 29 = .ok (.iload_n 3, 1) := by decide +kernel
theorem dX6_copyTo_30 : decode cX6_copyTo 30 = .ok (.iload 4, 2) := by decide +kernel
theorem dX6_copyTo_32 : decode cX6_copyTo 32 = .ok (.invokestatic 62, 3) := by decide +kernel
theorem dX6_copyTo_35 : decode cX6_copyTo 35 = .ok (.return_, 1) := by decide +kernel
theorem dX7_init_0 : decode cX7_init 0 = .ok (.aload_n 0, 1) := by decide +kernel
theorem dX7_init_1 : decode cX7_init 1 = .ok (.invokespecial 3, 3) := by decide +kernel
theorem dX7_init_4 : decode cX7_init 4 = .ok (.aload_n 0, 1) := by decide +kernel
theorem dX7_init_5 : decode cX7_init 5 = .ok (.bipush 60, 2) := by decide +kernel
theorem dX7_init_7 : decode cX7_init 7 = .ok (.newarray .int, 2) := by decide +kernel
theorem dX7_init_9 : decode cX7_init 9 = .ok (.putfield 9, 3) := by decide +kernel
theorem dX7_init_12 : decode cX7_init 12 = .ok (.aload_n 0, 1) := by decide +kernel
theorem dX7_init_13 : decode cX7_init 13 = .ok (.bipush 60, 2) := by decide +kernel
theorem dX7_init_15 : decode cX7_init 15 = .ok (.newarray .int, 2) := by decide +kernel
theorem dX7_init_17 : decode cX7_init 17 = .ok (.putfield 15, 3) := by decide +kernel
theorem dX7_init_20 : decode cX7_init 20 = .ok (.aload_n 0, 1) := by decide +kernel
theorem dX7_init_21 : decode cX7_init 21 = .ok (.bipush 12, 2) := by decide +kernel
theorem dX7_init_23 : decode cX7_init 23 = .ok (.newarray .int, 2) := by decide +kernel
theorem dX7_init_25 : decode cX7_init 25 = .ok (.putfield 18, 3) := by decide +kernel
theorem dX7_init_28 : decode cX7_init 28 = .ok (.aload_n 0, 1) := by decide +kernel
theorem dX7_init_29 : decode cX7_init 29 = .ok (.iconst 0, 1) := by decide +kernel
theorem dX7_init_30 : decode cX7_init 30 = .ok (.putfield 21, 3) := by decide +kernel
theorem dX7_init_33 : decode cX7_init 33 = .ok (.aload_n 0, 1) := by decide +kernel
theorem dX7_init_34 : decode cX7_init 34 = .ok (.aload_n 1, 1) := by decide +kernel
theorem dX7_init_35 : decode cX7_init 35 = .ok (.putfield 25, 3) := by decide +kernel
theorem dX7_init_38 : decode cX7_init 38 = .ok (.return_, 1) := by decide +kernel
set_option maxRecDepth 20000 in
theorem ggX7_clear_J7_fill_53178 : GoodIn wsX7_clear wsJ7_fill_53178 := goodIn_r _ [10] (by decide +kernel) (by decide +kernel)
set_option maxRecDepth 20000 in
theorem gX7_clear_J7_fill_53178 : GoodIn wsX7_clear (va_wsS RX7 38 yJ7_fill_53178 wsJ7_fill_53178) := goodIn_app (goodIn_of _ (by decide +kernel)) ggX7_clear_J7_fill_53178
theorem dX7_clear_0 : decode cX7_clear 0 = .ok (.aload_n 0, 1) := by decide +kernel
theorem dX7_clear_1 : decode cX7_clear 1 = .ok (.aload_n 1, 1) := by decide +kernel
theorem dX7_clear_2 : decode cX7_clear 2 = .ok (.putfield 25, 3) := by decide +kernel
theorem dX7_clear_5 : decode cX7_clear 5 = .ok (.aload_n 0, 1) := by decide +kernel
theorem dX7_clear_6 : decode cX7_clear 6 = .ok (.iconst 0, 1) := by decide +kernel
theorem dX7_clear_7 : decode cX7_clear 7 = .ok (.putfield 29, 3) := by decide +kernel
theorem dX7_clear_10 : decode cX7_clear 10 = .ok (.aload_n 0, 1) := by decide +kernel
theorem dX7_clear_11 : decode cX7_clear 11 = .ok (.iconst 0, 1) := by decide +kernel
theorem dX7_clear_12 : decode cX7_clear 12 = .ok (.putfield 32, 3) := by decide +kernel
theorem dX7_clear_15 : decode cX7_clear 15 = .ok (.aload_n 0, 1) := by decide +kernel
theorem dX7_clear_16 : decode cX7_clear 16 = .ok (.iconst 3, 1) := by decide +kernel
theorem dX7_clear_17 : decode cX7_clear 17 = .ok (.putfield 21, 3) := by decide +kernel
theorem dX7_clear_20 : decode cX7_clear 20 = .ok (.aload_n 0, 1) := by decide +kernel
theorem dX7_clear_21 : decode cX7_clear 21 = .ok (.iconst 0, 1) := by decide +kernel
theorem dX7_clear_22 : decode cX7_clear 22 = .ok (.putfield 35, 3) := by decide +kernel
theorem dX7_clear_25 : decode cX7_clear 25 = .ok (.aload_n 0, 1) := by decide +kernel
theorem dX7_clear_26 : decode cX7_clear 26 = .ok (.getfield 18, 3) := by decide +kernel
theorem dX7_clear_29 : decode cX7_clear 29 = .ok (.iconst 0, 1) := by decide +kernel
theorem dX7_clear_30 : decode cX7_clear 30 = .ok (.invokestatic 38, 3) := by decide +kernel
theorem dX7_clear_33 : decode cX7_clear 33 = .ok (.return_, 1) := by decide +kernel
set_option maxRecDepth 20000 in
theorem ggX7_add_X7_last : GoodIn wsX7_add wsX7_last := goodIn_r _ [10, 3, 2, 11, 12, 13, 14, 18, 19, 20, 21, 22, 23, 24, 25] (by decide +kernel) (by decide +kernel)
set_option maxRecDepth 20000 in
theorem gX7_add_X7_last : GoodIn wsX7_add (wsV RX7 44 RX7 yX7_last wsX7_last) := goodIn_app (goodIn_of _ (by decide +kernel)) ggX7_add_X7_last
set_option maxRecDepth 20000 in
theorem ggX7_add_X1_set : GoodIn wsX7_add wsX1_set := goodIn_r _ [17] (by decide +kernel) (by decide +kernel)
set_option maxRecDepth 20000 in
theorem gX7_add_X1_set : GoodIn wsX7_add (va_wsS RX7 48 yX1_set wsX1_set) := goodIn_app (goodIn_of _ (by decide +kernel)) ggX7_add_X1_set
set_option maxRecDepth 20000 in
theorem ggX7_add_X1_at : GoodIn wsX7_add wsX1_at := goodIn_r _ [14] (by decide +kernel) (by decide +kernel)
set_option maxRecDepth 20000 in
theorem gX7_add_X1_at : GoodIn wsX7_add (va_wsS RX7 54 yX1_at wsX1_at) := goodIn_app (goodIn_of _ (by decide +kernel)) ggX7_add_X1_at
theorem dX7_add_0 : decode cX7_add 0 = .ok (.aload_n 0, 1) := by decide +kernel
theorem dX7_add_1 : decode cX7_add 1 = .ok (.getfield 32, 3) := by decide +kernel
theorem dX7_add_4 : decode cX7_add 4 = .ok (.aload_n 0, 1) := by decide +kernel
theorem dX7_add_5 : decode cX7_add 5 = .ok (.getfield 29, 3) := by decide +kernel
theorem dX7_add_8 : decode cX7_add 8 = .ok (.if_icmp .ne 30, 3) := by decide +kernel
theorem dX7_add_11 : decode cX7_add 11 = .ok (.aload_n 0, 1) := by decide +kernel
theorem dX7_add_12 : decode cX7_add 12 = .ok (.getfield 29, 3) := by decide +kernel
theorem dX7_add_15 : decode cX7_add 15 = .ok (.ifCond .eq 13, 3) := by decide +kernel
theorem dX7_add_18 : decode cX7_add 18 = .ok (.iload_n 1, 1) := by decide +kernel
theorem dX7_add_19 : decode cX7_add 19 = .ok (.aload_n 0, 1) := by decide +kernel
theorem dX7_add_20 : decode cX7_add 20 = .ok (.invokevirtual 44, 3) := by decide +kernel
theorem dX7_add_23 : decode cX7_add 23 = .ok (.iconst 1, 1) := by decide +kernel
theorem dX7_add_24 : decode cX7_add 24 = .ok (.iadd, 1) := by decide +kernel
theorem dX7_add_25 : decode cX7_add 25 = .ok (.if_icmp .ne 13, 3) := by decide +kernel
theorem dX7_add_28 : decode cX7_add 28 = .ok (.aload_n 0, 1) := by decide +kernel
theorem dX7_add_29 : decode cX7_add 29 = .ok (.dup, 1) := by decide +kernel
theorem dX7_add_30 : decode cX7_add 30 = .ok (.getfield 32, 3) := by decide +kernel
theorem dX7_add_33 : decode cX7_add 33 = .ok (.iconst 1, 1) := by decide +kernel
theorem dX7_add_34 : decode cX7_add 34 = .ok (.iadd, 1) := by decide +kernel
theorem dX7_add_35 : decode cX7_add 35 = .ok (.putfield 32, 3) := by decide +kernel
theorem dX7_add_38 : decode cX7_add 38 = .ok (.aload_n 0, 1) := by decide +kernel
theorem dX7_add_39 : decode cX7_add 39 = .ok (.getfield 9, 3) := by decide +kernel
theorem dX7_add_42 : decode cX7_add 42 = .ok (.aload_n 0, 1) := by decide +kernel
theorem dX7_add_43 : decode cX7_add 43 = .ok (.getfield 29, 3) := by decide +kernel
theorem dX7_add_46 : decode cX7_add 46 = .ok (.iload_n 1, 1) := by decide +kernel
theorem dX7_add_47 : decode cX7_add 47 = .ok (.invokestatic 48, 3) := by decide +kernel
theorem dX7_add_50 : decode cX7_add 50 = .ok (.aload_n 0, 1) := by decide +kernel
theorem dX7_add_51 : decode cX7_add 51 = .ok (.getfield 15, 3) := by decide +kernel
theorem dX7_add_54 : decode cX7_add 54 = .ok (.aload_n 0, 1) := by decide +kernel
theorem dX7_add_55 : decode cX7_add 55 = .ok (.getfield 29, 3) := by decide +kernel
theorem dX7_add_58 : decode cX7_add 58 = .ok (.iload_n 2, 1) := by decide +kernel
theorem dX7_add_59 : decode cX7_add 59 = .ok (.invokestatic 48, 3) := by decide +kernel
theorem dX7_add_62 : decode cX7_add 62 = .ok (.aload_n 0, 1) := by decide +kernel
theorem dX7_add_63 : decode cX7_add 63 = .ok (.getfield 18, 3) := by decide +kernel
theorem dX7_add_66 : decode cX7_add 66 = .ok (.iload_n 1, 1) := by decide +kernel
theorem dX7_add_67 : decode cX7_add 67 = .ok (.aload_n 0, 1) := by decide +kernel
theorem dX7_add_68 : decode cX7_add 68 = .ok (.getfield 18, 3) := by decide +kernel
theorem dX7_add_71 : decode cX7_add 71 = .ok (.iload_n 1, 1) := by decide +kernel
theorem dX7_add_72 : decode cX7_add 72 = .ok (.invokestatic 54, 3) := by decide +kernel
theorem dX7_add_75 : decode cX7_add 75 = .ok (.iconst 1, 1) := by decide +kernel
theorem dX7_add_76 : decode cX7_add 76 = .ok (.iadd, 1) := by decide +kernel
theorem dX7_add_77 : decode cX7_add 77 = .ok (.invokestatic 48, 3) := by decide +kernel
theorem dX7_add_80 : decode cX7_add 80 = .ok (.aload_n 0, 1) := by decide +kernel
theorem dX7_add_81 : decode cX7_add 81 = .ok (.dup, 1) := by decide +kernel
theorem dX7_add_82 : decode cX7_add 82 = .ok (.getfield 29, 3) := by decide +kernel
theorem dX7_add_85 : decode cX7_add 85 = .ok (.iconst 1, 1) := by decide +kernel
theorem dX7_add_86 : decode cX7_add 86 = .ok (.iadd, 1) := by decide +kernel
theorem dX7_add_87 : decode cX7_add 87 = .ok (.putfield 29, 3) := by decide +kernel
theorem dX7_add_90 : decode cX7_add 90 = .ok (.return_, 1) := by decide +kernel
theorem dX7_comeOut_0 : decode cX7_comeOut 0 = .ok (.aload_n 0, 1) := by decide +kernel
theorem dX7_comeOut_1 : decode cX7_comeOut 1 = .ok (.iload_n 1, 1) := by decide +kernel
theorem dX7_comeOut_2 : decode cX7_comeOut 2 = .ok (.putfield 21, 3) := by decide +kernel
theorem dX7_comeOut_5 : decode cX7_comeOut 5 = .ok (.aload_n 0, 1) := by decide +kernel
theorem dX7_comeOut_6 : decode cX7_comeOut 6 = .ok (.iload_n 2, 1) := by decide +kernel
theorem dX7_comeOut_7 : decode cX7_comeOut 7 = .ok (.putfield 35, 3) := by decide +kernel
theorem dX7_comeOut_10 : decode cX7_comeOut 10 = .ok (.return_, 1) := by decide +kernel
set_option maxRecDepth 20000 in
theorem ggX7_copyFrom_X1_copy : GoodIn wsX7_copyFrom wsX1_copy := goodIn_r _ [12, 13, 14, 15, 16, 17, 18, 19, 20] (by decide +kernel) (by decide +kernel)
set_option maxRecDepth 20000 in
theorem gX7_copyFrom_X1_copy : GoodIn wsX7_copyFrom (va_wsS RX7 58 yX1_copy wsX1_copy) := goodIn_app (goodIn_of _ (by decide +kernel)) ggX7_copyFrom_X1_copy
theorem dX7_copyFrom_0 : decode cX7_copyFrom 0 = .ok (.aload_n 1, 1) := by decide +kernel
theorem dX7_copyFrom_1 : decode cX7_copyFrom 1 = .ok (.getfield 9, 3) := by decide +kernel
theorem dX7_copyFrom_4 : decode cX7_copyFrom 4 = .ok (.aload_n 0, 1) := by decide +kernel
theorem dX7_copyFrom_5 : decode cX7_copyFrom 5 = .ok (.getfield 9, 3) := by decide +kernel
theorem dX7_copyFrom_8 : decode cX7_copyFrom 8 = .ok (.invokestatic 58, 3) := by decide +kernel
theorem dX7_copyFrom_11 : decode cX7_copyFrom 11 = .ok (.aload_n 1, 1) := by decide +kernel
theorem dX7_copyFrom_12 : decode cX7_copyFrom 12 = .ok (.getfield 15, 3) := by decide +kernel
theorem dX7_copyFrom_15 : decode cX7_copyFrom 15 = .ok (.aload_n 0, 1) := by decide +kernel
theorem dX7_copyFrom_16 : decode cX7_copyFrom 16 = .ok (.getfield 15, 3) := by decide +kernel
theorem dX7_copyFrom_19 : decode cX7_copyFrom 19 = .ok (.invokestatic 58, 3) := by decide +kernel
theorem dX7_copyFrom_22 : decode cX7_copyFrom 22 = .ok (.aload_n 1, 1) := by decide +kernel
theorem dX7_copyFrom_23 : decode cX7_copyFrom 23 = .ok (.getfield 18, 3) := by decide +kernel
theorem dX7_copyFrom_26 : decode cX7_copyFrom 26 = .ok (.aload_n 0, 1) := by decide +kernel
theorem dX7_copyFrom_27 : decode cX7_copyFrom 27 = .ok (.getfield 18, 3) := by decide +kernel
theorem dX7_copyFrom_30 : decode cX7_copyFrom 30 = .ok (.invokestatic 58, 3) := by decide +kernel
theorem dX7_copyFrom_33 : decode cX7_copyFrom 33 = .ok (.aload_n 0, 1) := by decide +kernel
theorem dX7_copyFrom_34 : decode cX7_copyFrom 34 = .ok (.aload_n 1, 1) := by decide +kernel
theorem dX7_copyFrom_35 : decode cX7_copyFrom 35 = .ok (.getfield 25, 3) := by decide +kernel
theorem dX7_copyFrom_38 : decode cX7_copyFrom 38 = .ok (.putfield 25, 3) := by decide +kernel
theorem dX7_copyFrom_41 : decode cX7_copyFrom 41 = .ok (.aload_n 0, 1) := by decide +kernel
theorem dX7_copyFrom_42 : decode cX7_copyFrom 42 = .ok (.aload_n 1, 1) := by decide +kernel
theorem dX7_copyFrom_43 : decode cX7_copyFrom 43 = .ok (.getfield 29, 3) := by decide +kernel
theorem dX7_copyFrom_46 : decode cX7_copyFrom 46 = .ok (.putfield 29, 3) := by decide +kernel
theorem dX7_copyFrom_49 : decode cX7_copyFrom 49 = .ok (.aload_n 0, 1) := by decide +kernel
theorem dX7_copyFrom_50 : decode cX7_copyFrom 50 = .ok (.aload_n 1, 1) := by decide +kernel
theorem dX7_copyFrom_51 : decode cX7_copyFrom 51 = .ok (.getfield 32, 3) := by decide +kernel
theorem dX7_copyFrom_54 : decode cX7_copyFrom 54 = .ok (.putfield 32, 3) := by decide +kernel
theorem dX7_copyFrom_57 : decode cX7_copyFrom 57 = .ok (.aload_n 0, 1) := by decide +kernel
theorem dX7_copyFrom_58 : decode cX7_copyFrom 58 = .ok (.aload_n 1, 1) := by decide +kernel
theorem dX7_copyFrom_59 : decode cX7_copyFrom 59 = .ok (.getfield 21, 3) := by decide +kernel
theorem dX7_copyFrom_62 : decode cX7_copyFrom 62 = .ok (.putfield 21, 3) := by decide +kernel
theorem dX7_copyFrom_65 : decode cX7_copyFrom 65 = .ok (.aload_n 0, 1) := by decide +kernel
theorem dX7_copyFrom_66 : decode cX7_copyFrom 66 = .ok (.aload_n 1, 1) := by decide +kernel
theorem dX7_copyFrom_67 : decode cX7_copyFrom 67 = .ok (.getfield 35, 3) := by decide +kernel
theorem dX7_copyFrom_70 : decode cX7_copyFrom 70 = .ok (.putfield 35, 3) := by decide +kernel
theorem dX7_copyFrom_73 : decode cX7_copyFrom 73 = .ok (.return_, 1) := by decide +kernel
theorem dX7_song_0 : decode cX7_song 0 = .ok (.aload_n 0, 1) := by decide +kernel
theorem dX7_song_1 : decode cX7_song 1 = .ok (.getfield 25, 3) := by decide +kernel
theorem dX7_song_4 : decode cX7_song 4 = .ok (.areturn, 1) := by decide +kernel
theorem dX7_size_0 : decode cX7_size 0 = .ok (.aload_n 0, 1) := by decide +kernel
theorem dX7_size_1 : decode cX7_size 1 = .ok (.getfield 29, 3) := by decide +kernel
theorem dX7_size_4 : decode cX7_size 4 = .ok (.ireturn, 1) := by decide +kernel
theorem dX7_right_0 : decode cX7_right 0 = .ok (.aload_n 0, 1) := by decide +kernel
theorem dX7_right_1 : decode cX7_right 1 = .ok (.getfield 32, 3) := by decide +kernel
theorem dX7_right_4 : decode cX7_right 4 = .ok (.ireturn, 1) := by decide +kernel
theorem dX7_outcome_0 : decode cX7_outcome 0 = .ok (.aload_n 0, 1) := by decide +kernel
theorem dX7_outcome_1 : decode cX7_outcome 1 = .ok (.getfield 21, 3) := by decide +kernel
theorem dX7_outcome_4 : decode cX7_outcome 4 = .ok (.ireturn, 1) := by decide +kernel
theorem dX7_where_0 : decode cX7_where 0 = .ok (.aload_n 0, 1) := by decide +kernel
theorem dX7_where_1 : decode cX7_where 1 = .ok (.getfield 35, 3) := by decide +kernel
theorem dX7_where_4 : decode cX7_where 4 = .ok (.ireturn, 1) := by decide +kernel
theorem dX7_isGoing_0 : decode cX7_isGoing 0 = .ok (.aload_n 0, 1) := by decide +kernel
theorem dX7_isGoing_1 : decode cX7_isGoing 1 = .ok (.getfield 21, 3) := by decide +kernel
theorem dX7_isGoing_4 : decode cX7_isGoing 4 = .ok (.iconst 3, 1) := by decide +kernel
theorem dX7_isGoing_5 : decode cX7_isGoing 5 = .ok (.if_icmp .ne 7, 3) := by decide +kernel
theorem dX7_isGoing_8 : decode cX7_isGoing 8 = .ok (.iconst 1, 1) := by decide +kernel
theorem dX7_isGoing_9 : decode cX7_isGoing 9 = .ok (.goto 4, 3) := by decide +kernel
theorem dX7_isGoing_12 : decode cX7_isGoing 12 = .ok (.iconst 0, 1) := by decide +kernel
theorem dX7_isGoing_13 : decode cX7_isGoing 13 = .ok (.ireturn, 1) := by decide +kernel
theorem dX7_isRight_0 : decode cX7_isRight 0 = .ok (.aload_n 0, 1) := by decide +kernel
theorem dX7_isRight_1 : decode cX7_isRight 1 = .ok (.getfield 32, 3) := by decide +kernel
theorem dX7_isRight_4 : decode cX7_isRight 4 = .ok (.aload_n 0, 1) := by decide +kernel
theorem dX7_isRight_5 : decode cX7_isRight 5 = .ok (.getfield 29, 3) := by decide +kernel
theorem dX7_isRight_8 : decode cX7_isRight 8 = .ok (.if_icmp .ne 7, 3) := by decide +kernel
theorem dX7_isRight_11 : decode cX7_isRight 11 = .ok (.iconst 1, 1) := by decide +kernel
theorem dX7_isRight_12 : decode cX7_isRight 12 = .ok (.goto 4, 3) := by decide +kernel
theorem dX7_isRight_15 : decode cX7_isRight 15 = .ok (.iconst 0, 1) := by decide +kernel
theorem dX7_isRight_16 : decode cX7_isRight 16 = .ok (.ireturn, 1) := by decide +kernel
set_option maxRecDepth 20000 in
theorem ggX7_last_X1_at : GoodIn wsX7_last wsX1_at := goodIn_r _ [6] (by decide +kernel) (by decide +kernel)
set_option maxRecDepth 20000 in
theorem gX7_last_X1_at : GoodIn wsX7_last (va_wsS RX7 54 yX1_at wsX1_at) := goodIn_app (goodIn_of _ (by decide +kernel)) ggX7_last_X1_at
theorem dX7_last_0 : decode cX7_last 0 = .ok (.aload_n 0, 1) := by decide +kernel
theorem dX7_last_1 : decode cX7_last 1 = .ok (.getfield 9, 3) := by decide +kernel
theorem dX7_last_4 : decode cX7_last 4 = .ok (.aload_n 0, 1) := by decide +kernel
theorem dX7_last_5 : decode cX7_last 5 = .ok (.getfield 29, 3) := by decide +kernel
theorem dX7_last_8 : decode cX7_last 8 = .ok (.iconst 1, 1) := by decide +kernel
theorem dX7_last_9 : decode cX7_last 9 = .ok (.isub, 1) := by decide +kernel
theorem dX7_last_10 : decode cX7_last 10 = .ok (.invokestatic 54, 3) := by decide +kernel
theorem dX7_last_13 : decode cX7_last 13 = .ok (.ireturn, 1) := by decide +kernel
set_option maxRecDepth 20000 in
theorem ggX7_lineAt_X1_at : GoodIn wsX7_lineAt wsX1_at := goodIn_r _ [5] (by decide +kernel) (by decide +kernel)
set_option maxRecDepth 20000 in
theorem gX7_lineAt_X1_at : GoodIn wsX7_lineAt (va_wsS RX7 54 yX1_at wsX1_at) := goodIn_app (goodIn_of _ (by decide +kernel)) ggX7_lineAt_X1_at
theorem dX7_lineAt_0 : decode cX7_lineAt 0 = .ok (.aload_n 0, 1) := by decide +kernel
theorem dX7_lineAt_1 : decode cX7_lineAt 1 = .ok (.getfield 9, 3) := by decide +kernel
theorem dX7_lineAt_4 : decode cX7_lineAt 4 = .ok (.iload_n 1, 1) := by decide +kernel
theorem dX7_lineAt_5 : decode cX7_lineAt 5 = .ok (.invokestatic 54, 3) := by decide +kernel
theorem dX7_lineAt_8 : decode cX7_lineAt 8 = .ok (.ireturn, 1) := by decide +kernel
set_option maxRecDepth 20000 in
theorem ggX7_broughtUpBy_X1_at : GoodIn wsX7_broughtUpBy wsX1_at := goodIn_r _ [5] (by decide +kernel) (by decide +kernel)
set_option maxRecDepth 20000 in
theorem gX7_broughtUpBy_X1_at : GoodIn wsX7_broughtUpBy (va_wsS RX7 54 yX1_at wsX1_at) := goodIn_app (goodIn_of _ (by decide +kernel)) ggX7_broughtUpBy_X1_at
theorem dX7_broughtUpBy_0 : decode cX7_broughtUpBy 0 = .ok (.aload_n 0, 1) := by decide +kernel
theorem dX7_broughtUpBy_1 : decode cX7_broughtUpBy 1 = .ok (.getfield 15, 3) := by decide +kernel
theorem dX7_broughtUpBy_4 : decode cX7_broughtUpBy 4 = .ok (.iload_n 1, 1) := by decide +kernel
theorem dX7_broughtUpBy_5 : decode cX7_broughtUpBy 5 = .ok (.invokestatic 54, 3) := by decide +kernel
theorem dX7_broughtUpBy_8 : decode cX7_broughtUpBy 8 = .ok (.ireturn, 1) := by decide +kernel
set_option maxRecDepth 20000 in
theorem ggX7_timesSung_X1_at : GoodIn wsX7_timesSung wsX1_at := goodIn_r _ [5] (by decide +kernel) (by decide +kernel)
set_option maxRecDepth 20000 in
theorem gX7_timesSung_X1_at : GoodIn wsX7_timesSung (va_wsS RX7 54 yX1_at wsX1_at) := goodIn_app (goodIn_of _ (by decide +kernel)) ggX7_timesSung_X1_at
theorem dX7_timesSung_0 : decode cX7_timesSung 0 = .ok (.aload_n 0, 1) := by decide +kernel
theorem dX7_timesSung_1 : decode cX7_timesSung 1 = .ok (.getfield 18, 3) := by decide +kernel
theorem dX7_timesSung_4 : decode cX7_timesSung 4 = .ok (.iload_n 1, 1) := by decide +kernel
theorem dX7_timesSung_5 : decode cX7_timesSung 5 = .ok (.invokestatic 54, 3) := by decide +kernel
theorem dX7_timesSung_8 : decode cX7_timesSung 8 = .ok (.ireturn, 1) := by decide +kernel
theorem dX8_init_0 : decode cX8_init 0 = .ok (.aload_n 0, 1) := by decide +kernel
theorem dX8_init_1 : decode cX8_init 1 = .ok (.invokespecial 3, 3) := by decide +kernel
theorem dX8_init_4 : decode cX8_init 4 = .ok (.aload_n 0, 1) := by decide +kernel
theorem dX8_init_5 : decode cX8_init 5 = .ok (.bipush 36, 2) := by decide +kernel
theorem dX8_init_7 : decode cX8_init 7 = .ok (.newarray .int, 2) := by decide +kernel
theorem dX8_init_9 : decode cX8_init 9 = .ok (.putfield 9, 3) := by decide +kernel
theorem dX8_init_12 : decode cX8_init 12 = .ok (.aload_n 0, 1) := by decide +kernel
theorem dX8_init_13 : decode cX8_init 13 = .ok (.bipush 24, 2) := by decide +kernel
theorem dX8_init_15 : decode cX8_init 15 = .ok (.newarray .int, 2) := by decide +kernel
theorem dX8_init_17 : decode cX8_init 17 = .ok (.putfield 15, 3) := by decide +kernel
theorem dX8_init_20 : decode cX8_init 20 = .ok (.aload_n 0, 1) := by decide +kernel
theorem dX8_init_21 : decode cX8_init 21 = .ok (.bipush 24, 2) := by decide +kernel
theorem dX8_init_23 : decode cX8_init 23 = .ok (.newarray .int, 2) := by decide +kernel
theorem dX8_init_25 : decode cX8_init 25 = .ok (.putfield 18, 3) := by decide +kernel
theorem dX8_init_28 : decode cX8_init 28 = .ok (.aload_n 0, 1) := by decide +kernel
theorem dX8_init_29 : decode cX8_init 29 = .ok (.bipush 24, 2) := by decide +kernel
theorem dX8_init_31 : decode cX8_init 31 = .ok (.newarray .int, 2) := by decide +kernel
theorem dX8_init_33 : decode cX8_init 33 = .ok (.putfield 21, 3) := by decide +kernel
theorem dX8_init_36 : decode cX8_init 36 = .ok (.return_, 1) := by decide +kernel
set_option maxRecDepth 20000 in
theorem ggX8_mayBe_X10_isOf : GoodIn wsX8_mayBe wsX10_isOf := goodIn_r _ [3] (by decide +kernel) (by decide +kernel)
set_option maxRecDepth 20000 in
theorem gX8_mayBe_X10_isOf_n24 : GoodIn wsX8_mayBe (wsX10_isOf) := ggX8_mayBe_X10_isOf
theorem dX8_mayBe_0 : decode cX8_mayBe 0 = .ok (.iload_n 0, 1) := by decide +kernel
theorem dX8_mayBe_1 : decode cX8_mayBe 1 = .ok (.bipush 8, 2) := by decide +kernel
theorem dX8_mayBe_3 : decode cX8_mayBe 3 = .ok (.invokestatic 24, 3) := by decide +kernel
theorem dX8_mayBe_6 : decode cX8_mayBe 6 = .ok (.ifCond .eq 25, 3) := by decide +kernel
theorem dX8_mayBe_9 : decode cX8_mayBe 9 = .ok (.iload_n 1, 1) := by decide +kernel
theorem dX8_mayBe_10 : decode cX8_mayBe 10 = .ok (.bipush 8, 2) := by decide +kernel
theorem dX8_mayBe_12 : decode cX8_mayBe 12 = .ok (.invokestatic 24, 3) := by decide +kernel
theorem dX8_mayBe_15 : decode cX8_mayBe 15 = .ok (.ifCond .eq 16, 3) := by decide +kernel
theorem dX8_mayBe_18 : decode cX8_mayBe 18 = .ok (.iload_n 2, 1) := by decide +kernel
theorem dX8_mayBe_19 : decode cX8_mayBe 19 = .ok (.bipush 8, 2) := by decide +kernel
theorem dX8_mayBe_21 : decode cX8_mayBe 21 = .ok (.invokestatic 24, 3) := by decide +kernel
theorem dX8_mayBe_24 : decode cX8_mayBe 24 = .ok (.ifCond .eq 7, 3) := by decide +kernel
theorem dX8_mayBe_27 : decode cX8_mayBe 27 = .ok (.iconst 1, 1) := by decide +kernel
theorem dX8_mayBe_28 : decode cX8_mayBe 28 = .ok (.goto 4, 3) := by decide +kernel
theorem dX8_mayBe_31 : decode cX8_mayBe 31 = .ok (.iconst 0, 1) := by decide +kernel
theorem dX8_mayBe_32 : decode cX8_mayBe 32 = .ok (.ireturn, 1) := by decide +kernel
theorem dX8_size_0 : decode cX8_size 0 = .ok (.aload_n 0, 1) := by decide +kernel
theorem dX8_size_1 : decode cX8_size 1 = .ok (.getfield 28, 3) := by decide +kernel
theorem dX8_size_4 : decode cX8_size 4 = .ok (.ireturn, 1) := by decide +kernel
theorem dX8_isFull_0 : decode cX8_isFull 0 = .ok (.aload_n 0, 1) := by decide +kernel
theorem dX8_isFull_1 : decode cX8_isFull 1 = .ok (.getfield 28, 3) := by decide +kernel
theorem dX8_isFull_4 : decode cX8_isFull 4 = .ok (.bipush 12, 2) := by decide +kernel
theorem dX8_isFull_6 : decode cX8_isFull 6 = .ok (.if_icmp .lt 7, 3) := by decide +kernel
theorem dX8_isFull_9 : decode cX8_isFull 9 = .ok (.iconst 1, 1) := by decide +kernel
theorem dX8_isFull_10 : decode cX8_isFull 10 = .ok (.goto 4, 3) := by decide +kernel
theorem dX8_isFull_13 : decode cX8_isFull 13 = .ok (.iconst 0, 1) := by decide +kernel
theorem dX8_isFull_14 : decode cX8_isFull 14 = .ok (.ireturn, 1) := by decide +kernel
theorem dX8_isLine_0 : decode cX8_isLine 0 = .ok (.iload_n 1, 1) := by decide +kernel
theorem dX8_isLine_1 : decode cX8_isLine 1 = .ok (.ifCond .lt 15, 3) := by decide +kernel
theorem dX8_isLine_4 : decode cX8_isLine 4 = .ok (.iload_n 1, 1) := by decide +kernel
theorem dX8_isLine_5 : decode cX8_isLine 5 = .ok (.aload_n 0, 1) := by decide +kernel
theorem dX8_isLine_6 : decode cX8_isLine 6 = .ok (.getfield 28, 3) := by decide +kernel
theorem dX8_isLine_9 : decode cX8_isLine 9 = .ok (.if_icmp .ge 7, 3) := by decide +kernel
theorem dX8_isLine_12 : decode cX8_isLine 12 = .ok (.iconst 1, 1) := by decide +kernel
theorem dX8_isLine_13 : decode cX8_isLine 13 = .ok (.goto 4, 3) := by decide +kernel
theorem dX8_isLine_16 : decode cX8_isLine 16 = .ok (.iconst 0, 1) := by decide +kernel
theorem dX8_isLine_17 : decode cX8_isLine 17 = .ok (.ireturn, 1) := by decide +kernel
set_option maxRecDepth 20000 in
theorem ggX8_addLine_X8_setPart : GoodIn wsX8_addLine wsX8_setPart := goodIn_r _ [6, 7, 8, 9, 10, 11, 12, 13, 14, 15, 16] (by decide +kernel) (by decide +kernel)
set_option maxRecDepth 20000 in
theorem gX8_addLine_X8_setPart : GoodIn wsX8_addLine (wsV RX8 32 RX8 yX8_setPart wsX8_setPart) := goodIn_app (goodIn_of _ (by decide +kernel)) ggX8_addLine_X8_setPart
theorem dX8_addLine_0 : decode cX8_addLine 0 = .ok (.aload_n 0, 1) := by decide +kernel
theorem dX8_addLine_1 : decode cX8_addLine 1 = .ok (.aload_n 0, 1) := by decide +kernel
theorem dX8_addLine_2 : decode cX8_addLine 2 = .ok (.getfield 28, 3) := by decide +kernel
theorem dX8_addLine_5 : decode cX8_addLine 5 = .ok (.iconst 0, 1) := by decide +kernel
theorem dX8_addLine_6 : decode cX8_addLine 6 = .ok (.iload_n 1, 1) := by decide +kernel
theorem dX8_addLine_7 : decode cX8_addLine 7 = .ok (.invokevirtual 32, 3) := by decide +kernel
theorem dX8_addLine_10 : decode cX8_addLine 10 = .ok (.aload_n 0, 1) := by decide +kernel
theorem dX8_addLine_11 : decode cX8_addLine 11 = .ok (.aload_n 0, 1) := by decide +kernel
theorem dX8_addLine_12 : decode cX8_addLine 12 = .ok (.getfield 28, 3) := by decide +kernel
theorem dX8_addLine_15 : decode cX8_addLine 15 = .ok (.iconst 1, 1) := by decide +kernel
theorem dX8_addLine_16 : decode cX8_addLine 16 = .ok (.iload_n 2, 1) := by decide +kernel
theorem dX8_addLine_17 : decode cX8_addLine 17 = .ok (.invokevirtual 32, 3) := by decide +kernel
theorem dX8_addLine_20 : decode cX8_addLine 20 = .ok (.aload_n 0, 1) := by decide +kernel
theorem dX8_addLine_21 : decode cX8_addLine 21 = .ok (.aload_n 0, 1) := by decide +kernel
theorem dX8_addLine_22 : decode cX8_addLine 22 = .ok (.getfield 28, 3) := by decide +kernel
theorem dX8_addLine_25 : decode cX8_addLine 25 = .ok (.iconst 2, 1) := by decide +kernel
theorem dX8_addLine_26 : decode cX8_addLine 26 = .ok (.iload_n 3, 1) := by decide +kernel
theorem dX8_addLine_27 : decode cX8_addLine 27 = .ok (.invokevirtual 32, 3) := by decide +kernel
theorem dX8_addLine_30 : decode cX8_addLine 30 = .ok (.aload_n 0, 1) := by decide +kernel
theorem dX8_addLine_31 : decode cX8_addLine 31 = .ok (.dup, 1) := by decide +kernel
theorem dX8_addLine_32 : decode cX8_addLine 32 = .ok (.getfield 28, 3) := by decide +kernel
theorem dX8_addLine_35 : decode cX8_addLine 35 = .ok (.iconst 1, 1) := by decide +kernel
theorem dX8_addLine_36 : decode cX8_addLine 36 = .ok (.iadd, 1) := by decide +kernel
theorem dX8_addLine_37 : decode cX8_addLine 37 = .ok (.putfield 28, 3) := by decide +kernel
theorem dX8_addLine_40 : decode cX8_addLine 40 = .ok (.aload_n 0, 1) := by decide +kernel
theorem dX8_addLine_41 : decode cX8_addLine 41 = .ok (.getfield 28, 3) := by decide +kernel
theorem dX8_addLine_44 : decode cX8_addLine 44 = .ok (.iconst 1, 1) := by decide +kernel
theorem dX8_addLine_45 : decode cX8_addLine 45 = .ok (.isub, 1) := by decide +kernel
theorem dX8_addLine_46 : decode cX8_addLine 46 = .ok (.ireturn, 1) := by decide +kernel
set_option maxRecDepth 20000 in
theorem ggX8_part_X1_at : GoodIn wsX8_part wsX1_at := goodIn_r _ [5] (by decide +kernel) (by decide +kernel)
set_option maxRecDepth 20000 in
theorem gX8_part_X1_at : GoodIn wsX8_part (va_wsS RX8 36 yX1_at wsX1_at) := goodIn_app (goodIn_of _ (by decide +kernel)) ggX8_part_X1_at
theorem dX8_part_0 : decode cX8_part 0 = .ok (.aload_n 0, 1) := by decide +kernel
theorem dX8_part_1 : decode cX8_part 1 = .ok (.getfield 9, 3) := by decide +kernel
theorem dX8_part_4 : decode cX8_part 4 = .ok (.iconst 3, 1) := by decide +kernel
theorem dX8_part_5 : decode cX8_part 5 = .ok (.iload_n 1, 1) := by decide +kernel
theorem dX8_part_6 : decode cX8_part 6 = .ok (.imul, 1) := by decide +kernel
theorem dX8_part_7 : decode cX8_part 7 = .ok (.iload_n 2, 1) := by decide +kernel
theorem dX8_part_8 : decode cX8_part 8 = .ok (.iadd, 1) := by decide +kernel
theorem dX8_part_9 : decode cX8_part 9 = .ok (.invokestatic 36, 3) := by decide +kernel
theorem dX8_part_12 : decode cX8_part 12 = .ok (.ireturn, 1) := by decide +kernel
set_option maxRecDepth 20000 in
theorem ggX8_setPart_X1_set : GoodIn wsX8_setPart wsX1_set := goodIn_r _ [5] (by decide +kernel) (by decide +kernel)
set_option maxRecDepth 20000 in
theorem gX8_setPart_X1_set : GoodIn wsX8_setPart (va_wsS RX8 42 yX1_set wsX1_set) := goodIn_app (goodIn_of _ (by decide +kernel)) ggX8_setPart_X1_set
theorem dX8_setPart_0 : decode cX8_setPart 0 = .ok (.aload_n 0, 1) := by decide +kernel
theorem dX8_setPart_1 : decode cX8_setPart 1 = .ok (.getfield 9, 3) := by decide +kernel
theorem dX8_setPart_4 : decode cX8_setPart 4 = .ok (.iconst 3, 1) := by decide +kernel
theorem dX8_setPart_5 : decode cX8_setPart 5 = .ok (.iload_n 1, 1) := by decide +kernel
theorem dX8_setPart_6 : decode cX8_setPart 6 = .ok (.imul, 1) := by decide +kernel
theorem dX8_setPart_7 : decode cX8_setPart 7 = .ok (.iload_n 2, 1) := by decide +kernel
theorem dX8_setPart_8 : decode cX8_setPart 8 = .ok (.iadd, 1) := by decide +kernel
theorem dX8_setPart_9 : decode cX8_setPart 9 = .ok (.iload_n 3, 1) := by decide +kernel
theorem dX8_setPart_10 : decode cX8_setPart 10 = .ok (.invokestatic 42, 3) := by decide +kernel
theorem dX8_setPart_13 : decode cX8_setPart 13 = .ok (.return_, 1) := by decide +kernel
theorem dX8_bit_0 : decode cX8_bit 0 = .ok (.iload_n 0, 1) := by decide +kernel
theorem dX8_bit_1 : decode cX8_bit 1 = .ok (.bipush 12, 2) := by decide +kernel
theorem dX8_bit_3 : decode cX8_bit 3 = .ok (.imul, 1) := by decide +kernel
theorem dX8_bit_4 : decode cX8_bit 4 = .ok (.iload_n 1, 1) := by decide +kernel
theorem dX8_bit_5 : decode cX8_bit 5 = .ok (.iadd, 1) := by decide +kernel
theorem dX8_bit_6 : decode cX8_bit 6 = .ok (.iconst 2, 1) := by decide +kernel
theorem dX8_bit_7 : decode cX8_bit 7 = .ok (.imul, 1) := by decide +kernel
theorem dX8_bit_8 : decode cX8_bit 8 = .ok (.iload_n 2, 1) := by decide +kernel
theorem dX8_bit_9 : decode cX8_bit 9 = .ok (.iadd, 1) := by decide +kernel
theorem dX8_bit_10 : decode cX8_bit 10 = .ok (.ireturn, 1) := by decide +kernel
theorem dX8_singerOf_0 : decode cX8_singerOf 0 = .ok (.iload_n 0, 1) := by decide +kernel
theorem dX8_singerOf_1 : decode cX8_singerOf 1 = .ok (.bipush 24, 2) := by decide +kernel
theorem dX8_singerOf_3 : decode cX8_singerOf 3 = .ok (.idiv, 1) := by decide +kernel
theorem dX8_singerOf_4 : decode cX8_singerOf 4 = .ok (.ireturn, 1) := by decide +kernel
theorem dX8_lineOf_0 : decode cX8_lineOf 0 = .ok (.iload_n 0, 1) := by decide +kernel
theorem dX8_lineOf_1 : decode cX8_lineOf 1 = .ok (.iconst 2, 1) := by decide +kernel
theorem dX8_lineOf_2 : decode cX8_lineOf 2 = .ok (.idiv, 1) := by decide +kernel
theorem dX8_lineOf_3 : decode cX8_lineOf 3 = .ok (.bipush 12, 2) := by decide +kernel
theorem dX8_lineOf_5 : decode cX8_lineOf 5 = .ok (.irem, 1) := by decide +kernel
theorem dX8_lineOf_6 : decode cX8_lineOf 6 = .ok (.ireturn, 1) := by decide +kernel
theorem dX8_whichOf_0 : decode cX8_whichOf 0 = .ok (.iload_n 0, 1) := by decide +kernel
theorem dX8_whichOf_1 : decode cX8_whichOf 1 = .ok (.iconst 2, 1) := by decide +kernel
theorem dX8_whichOf_2 : decode cX8_whichOf 2 = .ok (.irem, 1) := by decide +kernel
theorem dX8_whichOf_3 : decode cX8_whichOf 3 = .ok (.ireturn, 1) := by decide +kernel
set_option maxRecDepth 20000 in
theorem ggX8_isHad_X1_at : GoodIn wsX8_isHad wsX1_at := goodIn_r _ [5] (by decide +kernel) (by decide +kernel)
set_option maxRecDepth 20000 in
theorem gX8_isHad_X1_at : GoodIn wsX8_isHad (va_wsS RX8 36 yX1_at wsX1_at) := goodIn_app (goodIn_of _ (by decide +kernel)) ggX8_isHad_X1_at
set_option maxRecDepth 20000 in
theorem ggX8_isHad_X8_singerOf : GoodIn wsX8_isHad wsX8_singerOf := goodIn_r _ [9] (by decide +kernel) (by decide +kernel)
set_option maxRecDepth 20000 in
theorem gX8_isHad_X8_singerOf : GoodIn wsX8_isHad (va_wsS RX8 46 yX8_singerOf wsX8_singerOf) := goodIn_app (goodIn_of _ (by decide +kernel)) ggX8_isHad_X8_singerOf
theorem dX8_isHad_0 : decode cX8_isHad 0 = .ok (.aload_n 0, 1) := by decide +kernel
theorem dX8_isHad_1 : decode cX8_isHad 1 = .ok (.getfield 15, 3) := by decide +kernel
theorem dX8_isHad_4 : decode cX8_isHad 4 = .ok (.iload_n 1, 1) := by decide +kernel
theorem dX8_isHad_5 : decode cX8_isHad 5 = .ok (.bipush 24, 2) := by decide +kernel
theorem dX8_isHad_7 : decode cX8_isHad 7 = .ok (.irem, 1) := by decide +kernel
theorem dX8_isHad_8 : decode cX8_isHad 8 = .ok (.invokestatic 36, 3) := by decide +kernel
theorem dX8_isHad_11 : decode cX8_isHad 11 = .ok (.iload_n 1, 1) := by decide +kernel
theorem dX8_isHad_12 : decode cX8_isHad 12 = .ok (.invokestatic 46, 3) := by decide +kernel
theorem dX8_isHad_15 : decode cX8_isHad 15 = .ok (.ishr, 1) := by decide +kernel
theorem dX8_isHad_16 : decode cX8_isHad 16 = .ok (.iconst 1, 1) := by decide +kernel
theorem dX8_isHad_17 : decode cX8_isHad 17 = .ok (.iand, 1) := by decide +kernel
theorem dX8_isHad_18 : decode cX8_isHad 18 = .ok (.iconst 1, 1) := by decide +kernel
theorem dX8_isHad_19 : decode cX8_isHad 19 = .ok (.if_icmp .ne 7, 3) := by decide +kernel
theorem dX8_isHad_22 : decode cX8_isHad 22 = .ok (.iconst 1, 1) := by decide +kernel
theorem dX8_isHad_23 : decode cX8_isHad 23 = .ok (.goto 4, 3) := by decide +kernel
theorem dX8_isHad_26 : decode cX8_isHad 26 = .ok (.iconst 0, 1) := by decide +kernel
theorem dX8_isHad_27 : decode cX8_isHad 27 = .ok (.ireturn, 1) := by decide +kernel
set_option maxRecDepth 20000 in
theorem ggX8_isLacked_X8_lineOf : GoodIn wsX8_isLacked wsX8_lineOf := goodIn_r _ [4] (by decide +kernel) (by decide +kernel)
set_option maxRecDepth 20000 in
theorem gX8_isLacked_X8_lineOf : GoodIn wsX8_isLacked (va_wsS RX8 50 yX8_lineOf wsX8_lineOf) := goodIn_app (goodIn_of _ (by decide +kernel)) ggX8_isLacked_X8_lineOf
set_option maxRecDepth 20000 in
theorem ggX8_isLacked_X8_isLine : GoodIn wsX8_isLacked wsX8_isLine := goodIn_r _ [8, 9, 22, 23, 24, 25, 26] (by decide +kernel) (by decide +kernel)
set_option maxRecDepth 20000 in
theorem gX8_isLacked_X8_isLine : GoodIn wsX8_isLacked (wsV RX8 53 RX8 yX8_isLine wsX8_isLine) := goodIn_app (goodIn_of _ (by decide +kernel)) ggX8_isLacked_X8_isLine
set_option maxRecDepth 20000 in
theorem ggX8_isLacked_X8_isHad : GoodIn wsX8_isLacked wsX8_isHad := goodIn_r _ [13, 14, 15, 16, 17, 18, 19, 20, 3, 21, 22, 23, 24, 25, 26] (by decide +kernel) (by decide +kernel)
set_option maxRecDepth 20000 in
theorem gX8_isLacked_X8_isHad : GoodIn wsX8_isLacked (wsV RX8 57 RX8 yX8_isHad wsX8_isHad) := goodIn_app (goodIn_of _ (by decide +kernel)) ggX8_isLacked_X8_isHad
theorem dX8_isLacked_0 : decode cX8_isLacked 0 = .ok (.aload_n 0, 1) := by decide +kernel
theorem dX8_isLacked_1 : decode cX8_isLacked 1 = .ok (.iload_n 1, 1) := by decide +kernel
theorem dX8_isLacked_2 : decode cX8_isLacked 2 = .ok (.invokestatic 50, 3) := by decide +kernel
theorem dX8_isLacked_5 : decode cX8_isLacked 5 = .ok (.invokevirtual 53, 3) := by decide +kernel
theorem dX8_isLacked_8 : decode cX8_isLacked 8 = .ok (.ifCond .eq 15, 3) := by decide +kernel
theorem dX8_isLacked_11 : decode cX8_isLacked 11 = .ok (.aload_n 0, 1) := by decide +kernel
theorem dX8_isLacked_12 : decode cX8_isLacked 12 = .ok (.iload_n 1, 1) := by decide +kernel
theorem dX8_isLacked_13 : decode cX8_isLacked 13 = .ok (.invokevirtual 57, 3) := by decide +kernel
theorem dX8_isLacked_16 : decode cX8_isLacked 16 = .ok (.ifCond .ne 7, 3) := by decide +kernel
theorem dX8_isLacked_19 : decode cX8_isLacked 19 = .ok (.iconst 1, 1) := by decide +kernel
theorem dX8_isLacked_20 : decode cX8_isLacked 20 = .ok (.goto 4, 3) := by decide +kernel
theorem dX8_isLacked_23 : decode cX8_isLacked 23 = .ok (.iconst 0, 1) := by decide +kernel
theorem dX8_isLacked_24 : decode cX8_isLacked 24 = .ok (.ireturn, 1) := by decide +kernel
set_option maxRecDepth 20000 in
theorem ggX8_setHad_X8_singerOf : GoodIn wsX8_setHad wsX8_singerOf := goodIn_r _ [5] (by decide +kernel) (by decide +kernel)
set_option maxRecDepth 20000 in
theorem gX8_setHad_X8_singerOf : GoodIn wsX8_setHad (va_wsS RX8 46 yX8_singerOf wsX8_singerOf) := goodIn_app (goodIn_of _ (by decide +kernel)) ggX8_setHad_X8_singerOf
set_option maxRecDepth 20000 in
theorem ggX8_setHad_X1_at : GoodIn wsX8_setHad wsX1_at := goodIn_r _ [9] (by decide +kernel) (by decide +kernel)
set_option maxRecDepth 20000 in
theorem gX8_setHad_X1_at : GoodIn wsX8_setHad (va_wsS RX8 36 yX1_at wsX1_at) := goodIn_app (goodIn_of _ (by decide +kernel)) ggX8_setHad_X1_at
set_option maxRecDepth 20000 in
theorem ggX8_setHad_X1_set : GoodIn wsX8_setHad wsX1_set := goodIn_r _ [12] (by decide +kernel) (by decide +kernel)
set_option maxRecDepth 20000 in
theorem gX8_setHad_X1_set : GoodIn wsX8_setHad (va_wsS RX8 42 yX1_set wsX1_set) := goodIn_app (goodIn_of _ (by decide +kernel)) ggX8_setHad_X1_set
theorem dX8_setHad_0 : decode cX8_setHad 0 = .ok (.iload_n 1, 1) := by decide +kernel
theorem dX8_setHad_1 : decode cX8_setHad 1 = .ok (.bipush 24, 2) := by decide +kernel
theorem dX8_setHad_3 : decode cX8_setHad 3 = .ok (.irem, 1) := by decide +kernel
theorem dX8_setHad_4 : decode cX8_setHad 4 = .ok (.istore_n 3, 1) := by decide +kernel
theorem dX8_setHad_5 : decode cX8_setHad 5 = .ok (.iconst 1, 1) := by decide +kernel
theorem dX8_setHad_6 : decode cX8_setHad 6 = .ok (.iload_n 1, 1) := by decide +kernel
theorem dX8_setHad_7 : decode cX8_setHad 7 = .ok (.invokestatic 46, 3) := by decide +kernel
theorem dX8_setHad_10 : decode cX8_setHad 10 = .ok (.ishl, 1) := by decide +kernel
theorem dX8_setHad_11 : decode cX8_setHad 11 = .ok (.istore 4, 2) := by decide +kernel
theorem dX8_setHad_13 : decode cX8_setHad 13 = .ok (.aload_n 0, 1) := by decide +kernel
theorem dX8_setHad_14 : decode cX8_setHad 14 = .ok (.getfield 15, 3) := by decide +kernel
theorem dX8_setHad_17 : decode cX8_setHad 17 = .ok (.iload_n 3, 1) := by decide +kernel
theorem dX8_setHad_18 : decode cX8_setHad 18 = .ok (.invokestatic 36, 3) := by decide +kernel
theorem dX8_setHad_21 : decode cX8_setHad 21 = .ok (.iload 4, 2) := by decide +kernel
theorem dX8_setHad_23 : decode cX8_setHad 23 = .ok (.iconst (-1), 1) := by decide +kernel
theorem dX8_setHad_24 : decode cX8_setHad 24 = .ok (.ixor, 1) := by decide +kernel
theorem dX8_setHad_25 : decode cX8_setHad 25 = .ok (.iand, 1) := by decide +kernel
theorem dX8_setHad_26 : decode cX8_setHad 26 = .ok (.istore 5, 2) := by decide +kernel
theorem dX8_setHad_28 : decode cX8_setHad 28 = .ok (.aload_n 0, 1) := by decide +kernel
theorem dX8_setHad_29 : decode cX8_setHad 29 = .ok (.getfield 15, 3) := by decide +kernel
theorem dX8_setHad_32 : decode cX8_setHad 32 = .ok (.iload_n 3, 1) := by decide +kernel
theorem dX8_setHad_33 : decode cX8_setHad 33 = .ok (.iload_n 2, 1) := by decide +kernel
theorem dX8_setHad_34 : decode cX8_setHad 34 = .ok (.ifCond .eq 11, 3) := by decide +kernel
theorem dX8_setHad_37 : decode cX8_setHad 37 = .ok (.iload 5, 2) := by decide +kernel
theorem dX8_setHad_39 : decode cX8_setHad 39 = .ok (.iload 4, 2) := by decide +kernel
theorem dX8_setHad_41 : decode cX8_setHad 41 = .ok (.ior, 1) := by decide +kernel
theorem dX8_setHad_42 : decode cX8_setHad 42 = .ok (.goto 5, 3) := by decide +kernel
theorem dX8_setHad_45 : decode cX8_setHad 45 = .ok (.iload 5, 2) := by decide +kernel
theorem dX8_setHad_47 : decode cX8_setHad 47 = .ok (.invokestatic 42, 3) := by decide +kernel
theorem dX8_setHad_50 : decode cX8_setHad 50 = .ok (.return_, 1) := by decide +kernel
set_option maxRecDepth 20000 in
theorem ggX8_havers_X1_at : GoodIn wsX8_havers wsX1_at := goodIn_r _ [5] (by decide +kernel) (by decide +kernel)
set_option maxRecDepth 20000 in
theorem gX8_havers_X1_at : GoodIn wsX8_havers (va_wsS RX8 36 yX1_at wsX1_at) := goodIn_app (goodIn_of _ (by decide +kernel)) ggX8_havers_X1_at
theorem dX8_havers_0 : decode cX8_havers 0 = .ok (.aload_n 0, 1) := by decide +kernel
theorem dX8_havers_1 : decode cX8_havers 1 = .ok (.getfield 15, 3) := by decide +kernel
theorem dX8_havers_4 : decode cX8_havers 4 = .ok (.iconst 2, 1) := by decide +kernel
theorem dX8_havers_5 : decode cX8_havers 5 = .ok (.iload_n 1, 1) := by decide +kernel
theorem dX8_havers_6 : decode cX8_havers 6 = .ok (.imul, 1) := by decide +kernel
theorem dX8_havers_7 : decode cX8_havers 7 = .ok (.iload_n 2, 1) := by decide +kernel
theorem dX8_havers_8 : decode cX8_havers 8 = .ok (.iadd, 1) := by decide +kernel
theorem dX8_havers_9 : decode cX8_havers 9 = .ok (.invokestatic 36, 3) := by decide +kernel
theorem dX8_havers_12 : decode cX8_havers 12 = .ok (.ireturn, 1) := by decide +kernel
set_option maxRecDepth 20000 in
theorem ggX8_minds_X8_havers : GoodIn wsX8_minds wsX8_havers := goodIn_r _ [5, 6, 7, 8, 9, 10, 11, 12, 13, 14, 15] (by decide +kernel) (by decide +kernel)
set_option maxRecDepth 20000 in
theorem gX8_minds_X8_havers : GoodIn wsX8_minds (wsV RX8 60 RX8 yX8_havers wsX8_havers) := goodIn_app (goodIn_of _ (by decide +kernel)) ggX8_minds_X8_havers
theorem dX8_minds_0 : decode cX8_minds 0 = .ok (.aload_n 0, 1) := by decide +kernel
theorem dX8_minds_1 : decode cX8_minds 1 = .ok (.iload_n 1, 1) := by decide +kernel
theorem dX8_minds_2 : decode cX8_minds 2 = .ok (.iconst 0, 1) := by decide +kernel
theorem dX8_minds_3 : decode cX8_minds 3 = .ok (.invokevirtual 60, 3) := by decide +kernel
theorem dX8_minds_6 : decode cX8_minds 6 = .ok (.aload_n 0, 1) := by decide +kernel
theorem dX8_minds_7 : decode cX8_minds 7 = .ok (.iload_n 1, 1) := by decide +kernel
theorem dX8_minds_8 : decode cX8_minds 8 = .ok (.iconst 1, 1) := by decide +kernel
theorem dX8_minds_9 : decode cX8_minds 9 = .ok (.invokevirtual 60, 3) := by decide +kernel
theorem dX8_minds_12 : decode cX8_minds 12 = .ok (.ior, 1) := by decide +kernel
theorem dX8_minds_13 : decode cX8_minds 13 = .ok (.ireturn, 1) := by decide +kernel
set_option maxRecDepth 20000 in
theorem ggX8_canBeSung_X8_havers : GoodIn wsX8_canBeSung wsX8_havers := goodIn_r _ [5, 6, 7, 8, 9, 10, 11, 12, 13, 14, 15] (by decide +kernel) (by decide +kernel)
set_option maxRecDepth 20000 in
theorem gX8_canBeSung_X8_havers : GoodIn wsX8_canBeSung (wsV RX8 60 RX8 yX8_havers wsX8_havers) := goodIn_app (goodIn_of _ (by decide +kernel)) ggX8_canBeSung_X8_havers
theorem dX8_canBeSung_0 : decode cX8_canBeSung 0 = .ok (.aload_n 0, 1) := by decide +kernel
theorem dX8_canBeSung_1 : decode cX8_canBeSung 1 = .ok (.iload_n 1, 1) := by decide +kernel
theorem dX8_canBeSung_2 : decode cX8_canBeSung 2 = .ok (.iconst 0, 1) := by decide +kernel
theorem dX8_canBeSung_3 : decode cX8_canBeSung 3 = .ok (.invokevirtual 60, 3) := by decide +kernel
theorem dX8_canBeSung_6 : decode cX8_canBeSung 6 = .ok (.ifCond .eq 16, 3) := by decide +kernel
theorem dX8_canBeSung_9 : decode cX8_canBeSung 9 = .ok (.aload_n 0, 1) := by decide +kernel
theorem dX8_canBeSung_10 : decode cX8_canBeSung 10 = .ok (.iload_n 1, 1) := by decide +kernel
theorem dX8_canBeSung_11 : decode cX8_canBeSung 11 = .ok (.iconst 1, 1) := by decide +kernel
theorem dX8_canBeSung_12 : decode cX8_canBeSung 12 = .ok (.invokevirtual 60, 3) := by decide +kernel
theorem dX8_canBeSung_15 : decode cX8_canBeSung 15 = .ok (.ifCond .eq 7, 3) := by decide +kernel
theorem dX8_canBeSung_18 : decode cX8_canBeSung 18 = .ok (.iconst 1, 1) := by decide +kernel
theorem dX8_canBeSung_19 : decode cX8_canBeSung 19 = .ok (.goto 4, 3) := by decide +kernel
theorem dX8_canBeSung_22 : decode cX8_canBeSung 22 = .ok (.iconst 0, 1) := by decide +kernel
theorem dX8_canBeSung_23 : decode cX8_canBeSung 23 = .ok (.ireturn, 1) := by decide +kernel
set_option maxRecDepth 20000 in
theorem ggX8_bitsHad_J6_bitCount_0f7a4 : GoodIn wsX8_bitsHad wsJ6_bitCount_0f7a4 := goodIn_r _ [5, 6, 7, 8] (by decide +kernel) (by decide +kernel)
set_option maxRecDepth 20000 in
theorem gX8_bitsHad_J6_bitCount_0f7a4 : GoodIn wsX8_bitsHad (va_wsS RX8 63 yJ6_bitCount_0f7a4 wsJ6_bitCount_0f7a4) := goodIn_app (goodIn_of _ (by decide +kernel)) ggX8_bitsHad_J6_bitCount_0f7a4
theorem dX8_bitsHad_0 : decode cX8_bitsHad 0 = .ok (.iconst 0, 1) := by decide +kernel
theorem dX8_bitsHad_1 : decode cX8_bitsHad 1 = .ok (.istore_n 1, 1) := by decide +kernel
theorem dX8_bitsHad_2 : decode cX8_bitsHad 2 = .ok (.iconst 0, 1) := by decide +kernel
theorem dX8_bitsHad_3 : decode cX8_bitsHad 3 = .ok (.istore_n 2, 1) := by decide +kernel
theorem dX8_bitsHad_4 : decode cX8_bitsHad 4 = .ok (.iload_n 2, 1) := by decide +kernel
theorem dX8_bitsHad_5 : decode cX8_bitsHad 5 = .ok (.aload_n 0, 1) := by decide +kernel
theorem dX8_bitsHad_6 : decode cX8_bitsHad 6 = .ok (.getfield 15, 3) := by decide +kernel
theorem dX8_bitsHad_9 : decode cX8_bitsHad 9 = .ok (.arraylength, 1) := by decide +kernel
theorem dX8_bitsHad_10 : decode cX8_bitsHad 10 = .ok (.if_icmp .ge 21, 3) := by decide +kernel
theorem dX8_bitsHad_13 : decode cX8_bitsHad 13 = .ok (.iload_n 1, 1) := by decide +kernel
theorem dX8_bitsHad_14 : decode cX8_bitsHad 14 = .ok (.aload_n 0, 1) := by decide +kernel
theorem dX8_bitsHad_15 : decode cX8_bitsHad 15 = .ok (.getfield 15, 3) := by decide +kernel
theorem dX8_bitsHad_18 : decode cX8_bitsHad 18 = .ok (.iload_n 2, 1) := by decide +kernel
theorem dX8_bitsHad_19 : decode cX8_bitsHad 19 = .ok (.iaload, 1) := by decide +kernel
theorem dX8_bitsHad_20 : decode cX8_bitsHad 20 = .ok (.invokestatic 63, 3) := by decide +kernel
theorem dX8_bitsHad_23 : decode cX8_bitsHad 23 = .ok (.iadd, 1) := by decide +kernel
theorem dX8_bitsHad_24 : decode cX8_bitsHad 24 = .ok (.istore_n 1, 1) := by decide +kernel
theorem dX8_bitsHad_25 : decode cX8_bitsHad 25 = .ok (.iinc 2 1, 3) := by decide +kernel
theorem dX8_bitsHad_28 : decode cX8_bitsHad 28 = .ok (.goto (-24), 3) := by decide +kernel
theorem dX8_bitsHad_31 : decode cX8_bitsHad 31 = .ok (.iload_n 1, 1) := by decide +kernel
theorem dX8_bitsHad_32 : decode cX8_bitsHad 32 = .ok (.ireturn, 1) := by decide +kernel
set_option maxRecDepth 20000 in
theorem ggX8_likeness_X8_part : GoodIn wsX8_likeness wsX8_part := goodIn_r _ [5, 6, 7, 8, 9, 10, 11, 12, 13, 14, 15] (by decide +kernel) (by decide +kernel)
set_option maxRecDepth 20000 in
theorem gX8_likeness_X8_part : GoodIn wsX8_likeness (wsV RX8 68 RX8 yX8_part wsX8_part) := goodIn_app (goodIn_of _ (by decide +kernel)) ggX8_likeness_X8_part
theorem dX8_likeness_0 : decode cX8_likeness 0 = .ok (.iload_n 2, 1) := by decide +kernel
theorem dX8_likeness_1 : decode cX8_likeness 1 = .ok (.iload_n 1, 1) := by decide +kernel
theorem dX8_likeness_2 : decode cX8_likeness 2 = .ok (.iconst 1, 1) := by decide +kernel
theorem dX8_likeness_3 : decode cX8_likeness 3 = .ok (.iadd, 1) := by decide +kernel
theorem dX8_likeness_4 : decode cX8_likeness 4 = .ok (.if_icmp .ne 7, 3) := by decide +kernel
theorem dX8_likeness_7 : decode cX8_likeness 7 = .ok (.iconst 1, 1) := by decide +kernel
theorem dX8_likeness_8 : decode cX8_likeness 8 = .ok (.goto 4, 3) := by decide +kernel
theorem dX8_likeness_11 : decode cX8_likeness 11 = .ok (.iconst 0, 1) := by decide +kernel
theorem dX8_likeness_12 : decode cX8_likeness 12 = .ok (.istore_n 3, 1) := by decide +kernel
theorem dX8_likeness_13 : decode cX8_likeness 13 = .ok (.iconst 0, 1) := by decide +kernel
theorem dX8_likeness_14 : decode cX8_likeness 14 = .ok (.istore 4, 2) := by decide +kernel
theorem dX8_likeness_16 : decode cX8_likeness 16 = .ok (.iload 4, 2) := by decide +kernel
theorem dX8_likeness_18 : decode cX8_likeness 18 = .ok (.iconst 2, 1) := by decide +kernel
theorem dX8_likeness_19 : decode cX8_likeness 19 = .ok (.if_icmp .gt 33, 3) := by decide +kernel
theorem dX8_likeness_22 : decode cX8_likeness 22 = .ok (.aload_n 0, 1) := by decide +kernel
theorem dX8_likeness_23 : decode cX8_likeness 23 = .ok (.iload_n 2, 1) := by decide +kernel
theorem dX8_likeness_24 : decode cX8_likeness 24 = .ok (.iload 4, 2) := by decide +kernel
theorem dX8_likeness_26 : decode cX8_likeness 26 = .ok (.invokevirtual 68, 3) := by decide +kernel
theorem dX8_likeness_29 : decode cX8_likeness 29 = .ok (.aload_n 0, 1) := by decide +kernel
theorem dX8_likeness_30 : decode cX8_likeness 30 = .ok (.iload_n 1, 1) := by decide +kernel
theorem dX8_likeness_31 : decode cX8_likeness 31 = .ok (.iload 4, 2) := by decide +kernel
theorem dX8_likeness_33 : decode cX8_likeness 33 = .ok (.invokevirtual 68, 3) := by decide +kernel
theorem dX8_likeness_36 : decode cX8_likeness 36 = .ok (.if_icmp .ne 10, 3) := by decide +kernel
theorem dX8_likeness_39 : decode cX8_likeness 39 = .ok (.iload_n 3, 1) := by decide +kernel
theorem dX8_likeness_40 : decode cX8_likeness 40 = .ok (.iconst 2, 1) := by decide +kernel
theorem dX8_likeness_41 : decode cX8_likeness 41 = .ok (.iload 4, 2) := by decide +kernel
theorem dX8_likeness_43 : decode cX8_likeness 43 = .ok (.ishl, 1) := by decide +kernel
theorem dX8_likeness_44 : decode cX8_likeness 44 = .ok (.ior, 1) := by decide +kernel
theorem dX8_likeness_45 : decode cX8_likeness 45 = .ok (.istore_n 3, 1) := by decide +kernel
theorem dX8_likeness_46 : decode cX8_likeness 46 = .ok (.iinc 4 1, 3) := by decide +kernel
theorem dX8_likeness_49 : decode cX8_likeness 49 = .ok (.goto (-33), 3) := by decide +kernel
theorem dX8_likeness_52 : decode cX8_likeness 52 = .ok (.iload_n 3, 1) := by decide +kernel
theorem dX8_likeness_53 : decode cX8_likeness 53 = .ok (.ireturn, 1) := by decide +kernel
set_option maxRecDepth 20000 in
theorem ggX8_tunesHad_X8_havers : GoodIn wsX8_tunesHad wsX8_havers := goodIn_r _ [6, 7, 8, 9, 10, 11, 17, 18, 19, 20, 21] (by decide +kernel) (by decide +kernel)
set_option maxRecDepth 20000 in
theorem gX8_tunesHad_X8_havers : GoodIn wsX8_tunesHad (wsV RX8 60 RX8 yX8_havers wsX8_havers) := goodIn_app (goodIn_of _ (by decide +kernel)) ggX8_tunesHad_X8_havers
set_option maxRecDepth 20000 in
theorem ggX8_tunesHad_X8_part : GoodIn wsX8_tunesHad wsX8_part := goodIn_r _ [15, 16, 8, 9, 10, 11, 17, 18, 19, 20, 21] (by decide +kernel) (by decide +kernel)
set_option maxRecDepth 20000 in
theorem gX8_tunesHad_X8_part : GoodIn wsX8_tunesHad (wsV RX8 68 RX8 yX8_part wsX8_part) := goodIn_app (goodIn_of _ (by decide +kernel)) ggX8_tunesHad_X8_part
theorem dX8_tunesHad_0 : decode cX8_tunesHad 0 = .ok (.iconst 0, 1) := by decide +kernel
theorem dX8_tunesHad_1 : decode cX8_tunesHad 1 = .ok (.istore_n 1, 1) := by decide +kernel
theorem dX8_tunesHad_2 : decode cX8_tunesHad 2 = .ok (.iconst 0, 1) := by decide +kernel
theorem dX8_tunesHad_3 : decode cX8_tunesHad 3 = .ok (.istore_n 2, 1) := by decide +kernel
theorem dX8_tunesHad_4 : decode cX8_tunesHad 4 = .ok (.iload_n 2, 1) := by decide +kernel
theorem dX8_tunesHad_5 : decode cX8_tunesHad 5 = .ok (.aload_n 0, 1) := by decide +kernel
theorem dX8_tunesHad_6 : decode cX8_tunesHad 6 = .ok (.getfield 28, 3) := by decide +kernel
theorem dX8_tunesHad_9 : decode cX8_tunesHad 9 = .ok (.if_icmp .ge 29, 3) := by decide +kernel
theorem dX8_tunesHad_12 : decode cX8_tunesHad 12 = .ok (.aload_n 0, 1) := by decide +kernel
theorem dX8_tunesHad_13 : decode cX8_tunesHad 13 = .ok (.iload_n 2, 1) := by decide +kernel
theorem dX8_tunesHad_14 : decode cX8_tunesHad 14 = .ok (.iconst 0, 1) := by decide +kernel
theorem dX8_tunesHad_15 : decode cX8_tunesHad 15 = .ok (.invokevirtual 60, 3) := by decide +kernel
theorem dX8_tunesHad_18 : decode cX8_tunesHad 18 = .ok (.ifCond .eq 14, 3) := by decide +kernel
theorem dX8_tunesHad_21 : decode cX8_tunesHad 21 = .ok (.iload_n 1, 1) := by decide +kernel
theorem dX8_tunesHad_22 : decode cX8_tunesHad 22 = .ok (.iconst 1, 1) := by decide +kernel
theorem dX8_tunesHad_23 : decode cX8_tunesHad 23 = .ok (.aload_n 0, 1) := by decide +kernel
theorem dX8_tunesHad_24 : decode cX8_tunesHad 24 = .ok (.iload_n 2, 1) := by decide +kernel
theorem dX8_tunesHad_25 : decode cX8_tunesHad 25 = .ok (.iconst 0, 1) := by decide +kernel
theorem dX8_tunesHad_26 : decode cX8_tunesHad 26 = .ok (.invokevirtual 68, 3) := by decide +kernel
theorem dX8_tunesHad_29 : decode cX8_tunesHad 29 = .ok (.ishl, 1) := by decide +kernel
theorem dX8_tunesHad_30 : decode cX8_tunesHad 30 = .ok (.ior, 1) := by decide +kernel
theorem dX8_tunesHad_31 : decode cX8_tunesHad 31 = .ok (.istore_n 1, 1) := by decide +kernel
theorem dX8_tunesHad_32 : decode cX8_tunesHad 32 = .ok (.iinc 2 1, 3) := by decide +kernel
theorem dX8_tunesHad_35 : decode cX8_tunesHad 35 = .ok (.goto (-31), 3) := by decide +kernel
theorem dX8_tunesHad_38 : decode cX8_tunesHad 38 = .ok (.iload_n 1, 1) := by decide +kernel
theorem dX8_tunesHad_39 : decode cX8_tunesHad 39 = .ok (.ireturn, 1) := by decide +kernel
set_option maxRecDepth 20000 in
theorem ggX8_placeOf_X6_length : GoodIn wsX8_placeOf wsX6_length := goodIn_r _ [6, 7, 32, 33, 34, 35, 36] (by decide +kernel) (by decide +kernel)
set_option maxRecDepth 20000 in
theorem gX8_placeOf_X6_length : GoodIn wsX8_placeOf (wsV RX8 71 RX6 yX6_length wsX6_length) := goodIn_app (goodIn_of _ (by decide +kernel)) ggX8_placeOf_X6_length
set_option maxRecDepth 20000 in
theorem ggX8_placeOf_X8_part : GoodIn wsX8_placeOf wsX8_part := goodIn_r _ [12, 13, 14, 15, 16, 17, 27, 28, 29, 30, 31] (by decide +kernel) (by decide +kernel)
set_option maxRecDepth 20000 in
theorem gX8_placeOf_X8_part : GoodIn wsX8_placeOf (wsV RX8 68 RX8 yX8_part wsX8_part) := goodIn_app (goodIn_of _ (by decide +kernel)) ggX8_placeOf_X8_part
set_option maxRecDepth 20000 in
theorem ggX8_placeOf_X6_small : GoodIn wsX8_placeOf wsX6_small := goodIn_r _ [21, 22, 23, 24, 5, 25, 26, 32, 33, 34, 35, 36] (by decide +kernel) (by decide +kernel)
set_option maxRecDepth 20000 in
theorem gX8_placeOf_X6_small : GoodIn wsX8_placeOf (wsV RX8 77 RX6 yX6_small wsX6_small) := goodIn_app (goodIn_of _ (by decide +kernel)) ggX8_placeOf_X6_small
theorem dX8_placeOf_0 : decode cX8_placeOf 0 = .ok (.iconst 0, 1) := by decide +kernel
theorem dX8_placeOf_1 : decode cX8_placeOf 1 = .ok (.istore_n 2, 1) := by decide +kernel
theorem dX8_placeOf_2 : decode cX8_placeOf 2 = .ok (.iload_n 2, 1) := by decide +kernel
theorem dX8_placeOf_3 : decode cX8_placeOf 3 = .ok (.aload_n 1, 1) := by decide +kernel
theorem dX8_placeOf_4 : decode cX8_placeOf 4 = .ok (.invokevirtual 71, 3) := by decide +kernel
theorem dX8_placeOf_7 : decode cX8_placeOf 7 = .ok (.iadd, 1) := by decide +kernel
theorem dX8_placeOf_8 : decode cX8_placeOf 8 = .ok (.aload_n 0, 1) := by decide +kernel
theorem dX8_placeOf_9 : decode cX8_placeOf 9 = .ok (.getfield 28, 3) := by decide +kernel
theorem dX8_placeOf_12 : decode cX8_placeOf 12 = .ok (.if_icmp .gt 51, 3) := by decide +kernel
theorem dX8_placeOf_15 : decode cX8_placeOf 15 = .ok (.iconst 0, 1) := by decide +kernel
theorem dX8_placeOf_16 : decode cX8_placeOf 16 = .ok (.istore_n 3, 1) := by decide +kernel
theorem dX8_placeOf_17 : decode cX8_placeOf 17 = .ok (.iload_n 3, 1) := by decide +kernel
theorem dX8_placeOf_18 : decode cX8_placeOf 18 = .ok (.aload_n 1, 1) := by decide +kernel
theorem dX8_placeOf_19 : decode cX8_placeOf 19 = .ok (.invokevirtual 71, 3) := by decide +kernel
theorem dX8_placeOf_22 : decode cX8_placeOf 22 = .ok (.if_icmp .ge 25, 3) := by decide +kernel
theorem dX8_placeOf_25 : decode cX8_placeOf 25 = .ok (.aload_n 0, 1) := by decide +kernel
theorem dX8_placeOf_26 : decode cX8_placeOf 26 = .ok (.iload_n 2, 1) := by decide +kernel
theorem dX8_placeOf_27 : decode cX8_placeOf 27 = .ok (.iload_n 3, 1) := by decide +kernel
theorem dX8_placeOf_28 : decode cX8_placeOf 28 = .ok (.iadd, 1) := by decide +kernel
theorem dX8_placeOf_29 : decode cX8_placeOf 29 = .ok (.iconst 0, 1) := by decide +kernel
theorem dX8_placeOf_30 : decode cX8_placeOf 30 = .ok (.invokevirtual 68, 3) := by decide +kernel
theorem dX8_placeOf_33 : decode cX8_placeOf 33 = .ok (.aload_n 1, 1) := by decide +kernel
theorem dX8_placeOf_34 : decode cX8_placeOf 34 = .ok (.iload_n 3, 1) := by decide +kernel
theorem dX8_placeOf_35 : decode cX8_placeOf 35 = .ok (.invokevirtual 77, 3) := by decide +kernel
theorem dX8_placeOf_38 : decode cX8_placeOf 38 = .ok (.if_icmp .ne 9, 3) := by decide +kernel
theorem dX8_placeOf_41 : decode cX8_placeOf 41 = .ok (.iinc 3 1, 3) := by decide +kernel
theorem dX8_placeOf_44 : decode cX8_placeOf 44 = .ok (.goto (-27), 3) := by decide +kernel
theorem dX8_placeOf_47 : decode cX8_placeOf 47 = .ok (.iload_n 3, 1) := by decide +kernel
theorem dX8_placeOf_48 : decode cX8_placeOf 48 = .ok (.aload_n 1, 1) := by decide +kernel
theorem dX8_placeOf_49 : decode cX8_placeOf 49 = .ok (.invokevirtual 71, 3) := by decide +kernel
theorem dX8_placeOf_52 : decode cX8_placeOf 52 = .ok (.if_icmp .ne 5, 3) := by decide +kernel
theorem dX8_placeOf_55 : decode cX8_placeOf 55 = .ok (.iload_n 2, 1) := by decide +kernel
theorem dX8_placeOf_56 : decode cX8_placeOf 56 = .ok (.ireturn, 1) := by decide +kernel
theorem dX8_placeOf_57 : decode cX8_placeOf 57 = .ok (.iinc 2 1, 3) := by decide +kernel
theorem dX8_placeOf_60 : decode cX8_placeOf 60 = .ok (.goto (-58), 3) := by decide +kernel
theorem dX8_placeOf_63 : decode cX8_placeOf 63 = .ok (.bipush (-2), 2) := by decide +kernel
theorem dX8_placeOf_65 : decode cX8_placeOf 65 = .ok (.ireturn, 1) := by decide +kernel
set_option maxRecDepth 20000 in
theorem ggX8_alikeFrom_X8_isLine : GoodIn wsX8_alikeFrom wsX8_isLine := goodIn_r _ [5, 6, 16, 17, 18, 19, 20] (by decide +kernel) (by decide +kernel)
set_option maxRecDepth 20000 in
theorem gX8_alikeFrom_X8_isLine : GoodIn wsX8_alikeFrom (wsV RX8 53 RX8 yX8_isLine wsX8_isLine) := goodIn_app (goodIn_of _ (by decide +kernel)) ggX8_alikeFrom_X8_isLine
set_option maxRecDepth 20000 in
theorem ggX8_alikeFrom_X8_part : GoodIn wsX8_alikeFrom wsX8_part := goodIn_r _ [10, 11, 12, 13, 14, 15, 16, 17, 18, 19, 20] (by decide +kernel) (by decide +kernel)
set_option maxRecDepth 20000 in
theorem gX8_alikeFrom_X8_part : GoodIn wsX8_alikeFrom (wsV RX8 68 RX8 yX8_part wsX8_part) := goodIn_app (goodIn_of _ (by decide +kernel)) ggX8_alikeFrom_X8_part
theorem dX8_alikeFrom_0 : decode cX8_alikeFrom 0 = .ok (.iconst 0, 1) := by decide +kernel
theorem dX8_alikeFrom_1 : decode cX8_alikeFrom 1 = .ok (.istore 4, 2) := by decide +kernel
theorem dX8_alikeFrom_3 : decode cX8_alikeFrom 3 = .ok (.iload 4, 2) := by decide +kernel
theorem dX8_alikeFrom_5 : decode cX8_alikeFrom 5 = .ok (.bipush 12, 2) := by decide +kernel
theorem dX8_alikeFrom_7 : decode cX8_alikeFrom 7 = .ok (.if_icmp .ge 52, 3) := by decide +kernel
theorem dX8_alikeFrom_10 : decode cX8_alikeFrom 10 = .ok (.aload_n 0, 1) := by decide +kernel
theorem dX8_alikeFrom_11 : decode cX8_alikeFrom 11 = .ok (.iload_n 1, 1) := by decide +kernel
theorem dX8_alikeFrom_12 : decode cX8_alikeFrom 12 = .ok (.iload 4, 2) := by decide +kernel
theorem dX8_alikeFrom_14 : decode cX8_alikeFrom 14 = .ok (.iadd, 1) := by decide +kernel
theorem dX8_alikeFrom_15 : decode cX8_alikeFrom 15 = .ok (.invokevirtual 53, 3) := by decide +kernel
theorem dX8_alikeFrom_18 : decode cX8_alikeFrom 18 = .ok (.ifCond .eq 41, 3) := by decide +kernel
theorem dX8_alikeFrom_21 : decode cX8_alikeFrom 21 = .ok (.aload_n 2, 1) := by decide +kernel
theorem dX8_alikeFrom_22 : decode cX8_alikeFrom 22 = .ok (.iload_n 3, 1) := by decide +kernel
theorem dX8_alikeFrom_23 : decode cX8_alikeFrom 23 = .ok (.iload 4, 2) := by decide +kernel
theorem dX8_alikeFrom_25 : decode cX8_alikeFrom 25 = .ok (.iadd, 1) := by decide +kernel
theorem dX8_alikeFrom_26 : decode cX8_alikeFrom 26 = .ok (.invokevirtual 53, 3) := by decide +kernel
theorem dX8_alikeFrom_29 : decode cX8_alikeFrom 29 = .ok (.ifCond .eq 30, 3) := by decide +kernel
theorem dX8_alikeFrom_32 : decode cX8_alikeFrom 32 = .ok (.aload_n 0, 1) := by decide +kernel
theorem dX8_alikeFrom_33 : decode cX8_alikeFrom 33 = .ok (.iload_n 1, 1) := by decide +kernel
theorem dX8_alikeFrom_34 : decode cX8_alikeFrom 34 = .ok (.iload 4, 2) := by decide +kernel
theorem dX8_alikeFrom_36 : decode cX8_alikeFrom 36 = .ok (.iadd, 1) := by decide +kernel
theorem dX8_alikeFrom_37 : decode cX8_alikeFrom 37 = .ok (.iconst 0, 1) := by decide +kernel
theorem dX8_alikeFrom_38 : decode cX8_alikeFrom 38 = .ok (.invokevirtual 68, 3) := by decide +kernel
theorem dX8_alikeFrom_41 : decode cX8_alikeFrom 41 = .ok (.aload_n 2, 1) := by decide +kernel
theorem dX8_alikeFrom_42 : decode cX8_alikeFrom 42 = .ok (.iload_n 3, 1) := by decide +kernel
theorem dX8_alikeFrom_43 : decode cX8_alikeFrom 43 = .ok (.iload 4, 2) := by decide +kernel
theorem dX8_alikeFrom_45 : decode cX8_alikeFrom 45 = .ok (.iadd, 1) := by decide +kernel
theorem dX8_alikeFrom_46 : decode cX8_alikeFrom 46 = .ok (.iconst 0, 1) := by decide +kernel
theorem dX8_alikeFrom_47 : decode cX8_alikeFrom 47 = .ok (.invokevirtual 68, 3) := by decide +kernel
theorem dX8_alikeFrom_50 : decode cX8_alikeFrom 50 = .ok (.if_icmp .ne 9, 3) := by decide +kernel
theorem dX8_alikeFrom_53 : decode cX8_alikeFrom 53 = .ok (.iinc 4 1, 3) := by decide +kernel
theorem dX8_alikeFrom_56 : decode cX8_alikeFrom 56 = .ok (.goto (-53), 3) := by decide +kernel
theorem dX8_alikeFrom_59 : decode cX8_alikeFrom 59 = .ok (.iload 4, 2) := by decide +kernel
theorem dX8_alikeFrom_61 : decode cX8_alikeFrom 61 = .ok (.ireturn, 1) := by decide +kernel
set_option maxRecDepth 20000 in
theorem ggX8_setAside_X1_copy : GoodIn wsX8_setAside wsX1_copy := goodIn_r _ [6, 7, 8, 9, 10, 11, 12, 13, 14] (by decide +kernel) (by decide +kernel)
set_option maxRecDepth 20000 in
theorem gX8_setAside_X1_copy : GoodIn wsX8_setAside (va_wsS RX8 80 yX1_copy wsX1_copy) := goodIn_app (goodIn_of _ (by decide +kernel)) ggX8_setAside_X1_copy
theorem dX8_setAside_0 : decode cX8_setAside 0 = .ok (.aload_n 0, 1) := by decide +kernel
theorem dX8_setAside_1 : decode cX8_setAside 1 = .ok (.getfield 15, 3) := by decide +kernel
theorem dX8_setAside_4 : decode cX8_setAside 4 = .ok (.aload_n 0, 1) := by decide +kernel
theorem dX8_setAside_5 : decode cX8_setAside 5 = .ok (.getfield 18, 3) := by decide +kernel
theorem dX8_setAside_8 : decode cX8_setAside 8 = .ok (.invokestatic 80, 3) := by decide +kernel
theorem dX8_setAside_11 : decode cX8_setAside 11 = .ok (.return_, 1) := by decide +kernel
set_option maxRecDepth 20000 in
theorem ggX8_takeBack_X1_copy : GoodIn wsX8_takeBack wsX1_copy := goodIn_r _ [6, 7, 8, 9, 10, 11, 12, 13, 14] (by decide +kernel) (by decide +kernel)
set_option maxRecDepth 20000 in
theorem gX8_takeBack_X1_copy : GoodIn wsX8_takeBack (va_wsS RX8 80 yX1_copy wsX1_copy) := goodIn_app (goodIn_of _ (by decide +kernel)) ggX8_takeBack_X1_copy
theorem dX8_takeBack_0 : decode cX8_takeBack 0 = .ok (.aload_n 0, 1) := by decide +kernel
theorem dX8_takeBack_1 : decode cX8_takeBack 1 = .ok (.getfield 18, 3) := by decide +kernel
theorem dX8_takeBack_4 : decode cX8_takeBack 4 = .ok (.aload_n 0, 1) := by decide +kernel
theorem dX8_takeBack_5 : decode cX8_takeBack 5 = .ok (.getfield 15, 3) := by decide +kernel
theorem dX8_takeBack_8 : decode cX8_takeBack 8 = .ok (.invokestatic 80, 3) := by decide +kernel
theorem dX8_takeBack_11 : decode cX8_takeBack 11 = .ok (.return_, 1) := by decide +kernel
set_option maxRecDepth 20000 in
theorem ggX8_keepImage_X1_copy : GoodIn wsX8_keepImage wsX1_copy := goodIn_r _ [6, 7, 8, 9, 10, 11, 12, 13, 14] (by decide +kernel) (by decide +kernel)
set_option maxRecDepth 20000 in
theorem gX8_keepImage_X1_copy : GoodIn wsX8_keepImage (va_wsS RX8 80 yX1_copy wsX1_copy) := goodIn_app (goodIn_of _ (by decide +kernel)) ggX8_keepImage_X1_copy
theorem dX8_keepImage_0 : decode cX8_keepImage 0 = .ok (.aload_n 0, 1) := by decide +kernel
theorem dX8_keepImage_1 : decode cX8_keepImage 1 = .ok (.getfield 15, 3) := by decide +kernel
theorem dX8_keepImage_4 : decode cX8_keepImage 4 = .ok (.aload_n 0, 1) := by decide +kernel
theorem dX8_keepImage_5 : decode cX8_keepImage 5 = .ok (.getfield 21, 3) := by decide +kernel
theorem dX8_keepImage_8 : decode cX8_keepImage 8 = .ok (.invokestatic 80, 3) := by decide +kernel
theorem dX8_keepImage_11 : decode cX8_keepImage 11 = .ok (.return_, 1) := by decide +kernel
set_option maxRecDepth 20000 in
theorem ggX8_layImageBack_X1_copy : GoodIn wsX8_layImageBack wsX1_copy := goodIn_r _ [6, 7, 8, 9, 10, 11, 12, 13, 14] (by decide +kernel) (by decide +kernel)
set_option maxRecDepth 20000 in
theorem gX8_layImageBack_X1_copy : GoodIn wsX8_layImageBack (va_wsS RX8 80 yX1_copy wsX1_copy) := goodIn_app (goodIn_of _ (by decide +kernel)) ggX8_layImageBack_X1_copy
theorem dX8_layImageBack_0 : decode cX8_layImageBack 0 = .ok (.aload_n 0, 1) := by decide +kernel
theorem dX8_layImageBack_1 : decode cX8_layImageBack 1 = .ok (.getfield 21, 3) := by decide +kernel
theorem dX8_layImageBack_4 : decode cX8_layImageBack 4 = .ok (.aload_n 0, 1) := by decide +kernel
theorem dX8_layImageBack_5 : decode cX8_layImageBack 5 = .ok (.getfield 15, 3) := by decide +kernel
theorem dX8_layImageBack_8 : decode cX8_layImageBack 8 = .ok (.invokestatic 80, 3) := by decide +kernel
theorem dX8_layImageBack_11 : decode cX8_layImageBack 11 = .ok (.return_, 1) := by decide +kernel
theorem dX9_init_0 : decode cX9_init 0 = .ok (.aload_n 0, 1) := by decide +kernel
theorem dX9_init_1 : decode cX9_init 1 = .ok (.invokespecial 3, 3) := by decide +kernel
theorem dX9_init_4 : decode cX9_init 4 = .ok (.aload_n 0, 1) := by decide +kernel
theorem dX9_init_5 : decode cX9_init 5 = .ok (.bipush 120, 2) := by decide +kernel
theorem dX9_init_7 : decode cX9_init 7 = .ok (.newarray .int, 2) := by decide +kernel
theorem dX9_init_9 : decode cX9_init 9 = .ok (.putfield 9, 3) := by decide +kernel
theorem dX9_init_12 : decode cX9_init 12 = .ok (.aload_n 0, 1) := by decide +kernel
theorem dX9_init_13 : decode cX9_init 13 = .ok (.aload_n 1, 1) := by decide +kernel
theorem dX9_init_14 : decode cX9_init 14 = .ok (.putfield 15, 3) := by decide +kernel
theorem dX9_init_17 : decode cX9_init 17 = .ok (.return_, 1) := by decide +kernel
theorem dX9_isFull_0 : decode cX9_isFull 0 = .ok (.aload_n 0, 1) := by decide +kernel
theorem dX9_isFull_1 : decode cX9_isFull 1 = .ok (.getfield 19, 3) := by decide +kernel
theorem dX9_isFull_4 : decode cX9_isFull 4 = .ok (.aload_n 0, 1) := by decide +kernel
theorem dX9_isFull_5 : decode cX9_isFull 5 = .ok (.getfield 9, 3) := by decide +kernel
theorem dX9_isFull_8 : decode cX9_isFull 8 = .ok (.arraylength, 1) := by decide +kernel
theorem dX9_isFull_9 : decode cX9_isFull 9 = .ok (.if_icmp .lt 7, 3) := by decide +kernel
theorem dX9_isFull_12 : decode cX9_isFull 12 = .ok (.iconst 1, 1) := by decide +kernel
theorem dX9_isFull_13 : decode cX9_isFull 13 = .ok (.goto 4, 3) := by decide +kernel
theorem dX9_isFull_16 : decode cX9_isFull 16 = .ok (.iconst 0, 1) := by decide +kernel
theorem dX9_isFull_17 : decode cX9_isFull 17 = .ok (.ireturn, 1) := by decide +kernel
theorem dX9_length_0 : decode cX9_length 0 = .ok (.aload_n 0, 1) := by decide +kernel
theorem dX9_length_1 : decode cX9_length 1 = .ok (.getfield 19, 3) := by decide +kernel
theorem dX9_length_4 : decode cX9_length 4 = .ok (.ireturn, 1) := by decide +kernel
set_option maxRecDepth 20000 in
theorem ggX9_take_X9_isFull : GoodIn wsX9_take wsX9_isFull := goodIn_r _ [7, 2, 1, 12, 13, 14, 15, 16] (by decide +kernel) (by decide +kernel)
set_option maxRecDepth 20000 in
theorem gX9_take_X9_isFull : GoodIn wsX9_take (wsV RX9 23 RX9 yX9_isFull wsX9_isFull) := goodIn_app (goodIn_of _ (by decide +kernel)) ggX9_take_X9_isFull
set_option maxRecDepth 20000 in
theorem ggX9_take_X1_set : GoodIn wsX9_take wsX1_set := goodIn_r _ [11] (by decide +kernel) (by decide +kernel)
set_option maxRecDepth 20000 in
theorem gX9_take_X1_set : GoodIn wsX9_take (va_wsS RX9 27 yX1_set wsX1_set) := goodIn_app (goodIn_of _ (by decide +kernel)) ggX9_take_X1_set
theorem dX9_take_0 : decode cX9_take 0 = .ok (.aload_n 0, 1) := by decide +kernel
theorem dX9_take_1 : decode cX9_take 1 = .ok (.invokevirtual 23, 3) := by decide +kernel
theorem dX9_take_4 : decode cX9_take 4 = .ok (.ifCond .eq 4, 3) := by decide +kernel
theorem dX9_take_7 : decode cX9_take 7 = .ok (.return_, 1) := by decide +kernel
theorem dX9_take_8 : decode cX9_take 8 = .ok (.aload_n 0, 1) := by decide +kernel
theorem dX9_take_9 : decode cX9_take 9 = .ok (.getfield 9, 3) := by decide +kernel
theorem dX9_take_12 : decode cX9_take 12 = .ok (.aload_n 0, 1) := by decide +kernel
theorem dX9_take_13 : decode cX9_take 13 = .ok (.getfield 19, 3) := by decide +kernel
theorem dX9_take_16 : decode cX9_take 16 = .ok (.iload_n 1, 1) := by decide +kernel
theorem dX9_take_17 : decode cX9_take 17 = .ok (.invokestatic 27, 3) := by decide +kernel
theorem dX9_take_20 : decode cX9_take 20 = .ok (.aload_n 0, 1) := by decide +kernel
theorem dX9_take_21 : decode cX9_take 21 = .ok (.dup, 1) := by decide +kernel
theorem dX9_take_22 : decode cX9_take 22 = .ok (.getfield 19, 3) := by decide +kernel
theorem dX9_take_25 : decode cX9_take 25 = .ok (.iconst 1, 1) := by decide +kernel
theorem dX9_take_26 : decode cX9_take 26 = .ok (.iadd, 1) := by decide +kernel
theorem dX9_take_27 : decode cX9_take 27 = .ok (.putfield 19, 3) := by decide +kernel
theorem dX9_take_30 : decode cX9_take 30 = .ok (.return_, 1) := by decide +kernel
set_option maxRecDepth 20000 in
theorem ggX9_readInto_X5_clear : GoodIn wsX9_readInto wsX5_clear := goodIn_r _ [9, 10, 11, 12, 13, 14, 15, 70, 71, 72, 73, 74, 75, 76] (by decide +kernel) (by decide +kernel)
set_option maxRecDepth 20000 in
theorem gX9_readInto_X5_clear : GoodIn wsX9_readInto (wsV RX9 33 RX5 yX5_clear wsX5_clear) := goodIn_app (goodIn_of _ (by decide +kernel)) ggX9_readInto_X5_clear
set_option maxRecDepth 20000 in
theorem ggX9_readInto_X9_readLine : GoodIn wsX9_readInto wsX9_readLine := goodIn_r _ [20, 1, 2, 21, 22, 23, 19, 24, 25, 26, 27, 28, 29, 30, 31, 3, 4, 32, 33, 34, 35, 36, 37, 38, 39, 40, 41, 42, 8, 43, 10, 44, 45, 46, 47, 48, 49, 50, 51, 52, 53, 54, 55, 56, 57, 58, 59, 60, 61, 62, 63, 64, 65, 66, 67, 68, 69, 70, 71, 72, 73, 74, 75, 76] (by decide +kernel) (by decide +kernel)
set_option maxRecDepth 20000 in
theorem gX9_readInto_X9_readLine : GoodIn wsX9_readInto (wsV RX9 45 RX9 yX9_readLine wsX9_readLine) := goodIn_app (goodIn_of _ (by decide +kernel)) ggX9_readInto_X9_readLine
set_option maxRecDepth 20000 in
theorem ggX9_readInto_X9_peek : GoodIn wsX9_readInto wsX9_peek := goodIn_r _ [31, 3, 2, 4, 32, 33, 34, 35, 36, 65, 66, 67, 68, 69] (by decide +kernel) (by decide +kernel)
set_option maxRecDepth 20000 in
theorem gX9_readInto_X9_peek : GoodIn wsX9_readInto (wsV RX9 48 RX9 yX9_peek wsX9_peek) := goodIn_app (goodIn_of _ (by decide +kernel)) ggX9_readInto_X9_peek
theorem dX9_readInto_0 : decode cX9_readInto 0 = .ok (.aload_n 0, 1) := by decide +kernel
theorem dX9_readInto_1 : decode cX9_readInto 1 = .ok (.aload_n 1, 1) := by decide +kernel
theorem dX9_readInto_2 : decode cX9_readInto 2 = .ok (.putfield 15, 3) := by decide +kernel
theorem dX9_readInto_5 : decode cX9_readInto 5 = .ok (.aload_n 0, 1) := by decide +kernel
theorem dX9_readInto_6 : decode cX9_readInto 6 = .ok (.getfield 15, 3) := by decide +kernel
theorem dX9_readInto_9 : decode cX9_readInto 9 = .ok (.invokevirtual 33, 3) := by decide +kernel
theorem dX9_readInto_12 : decode cX9_readInto 12 = .ok (.aload_n 0, 1) := by decide +kernel
theorem dX9_readInto_13 : decode cX9_readInto 13 = .ok (.iconst 0, 1) := by decide +kernel
theorem dX9_readInto_14 : decode cX9_readInto 14 = .ok (.putfield 38, 3) := by decide +kernel
theorem dX9_readInto_17 : decode cX9_readInto 17 = .ok (.aload_n 0, 1) := by decide +kernel
theorem dX9_readInto_18 : decode cX9_readInto 18 = .ok (.iconst 0, 1) := by decide +kernel
theorem dX9_readInto_19 : decode cX9_readInto 19 = .ok (.putfield 41, 3) := by decide +kernel
theorem dX9_readInto_22 : decode cX9_readInto 22 = .ok (.aload_n 0, 1) := by decide +kernel
theorem dX9_readInto_23 : decode cX9_readInto 23 = .ok (.invokevirtual 45, 3) := by decide +kernel
theorem dX9_readInto_26 : decode cX9_readInto 26 = .ok (.iconst 0, 1) := by decide +kernel
theorem dX9_readInto_27 : decode cX9_readInto 27 = .ok (.istore_n 2, 1) := by decide +kernel
theorem dX9_readInto_28 : decode cX9_readInto 28 = .ok (.iload_n 2, 1) := by decide +kernel
theorem dX9_readInto_29 : decode cX9_readInto 29 = .ok (.bipush 120, 2) := by decide +kernel
theorem dX9_readInto_31 : decode cX9_readInto 31 = .ok (.if_icmp .ge 32, 3) := by decide +kernel
theorem dX9_readInto_34 : decode cX9_readInto 34 = .ok (.aload_n 0, 1) := by decide +kernel
theorem dX9_readInto_35 : decode cX9_readInto 35 = .ok (.invokevirtual 48, 3) := by decide +kernel
theorem dX9_readInto_38 : decode cX9_readInto 38 = .ok (.bipush 59, 2) := by decide +kernel
theorem dX9_readInto_40 : decode cX9_readInto 40 = .ok (.if_icmp .ne 23, 3) := by decide +kernel
theorem dX9_readInto_43 : decode cX9_readInto 43 = .ok (.aload_n 0, 1) := by decide +kernel
theorem dX9_readInto_44 : decode cX9_readInto 44 = .ok (.dup, 1) := by decide +kernel
theorem dX9_readInto_45 : decode cX9_readInto 45 = .ok (.getfield 38, 3) := by decide +kernel
theorem dX9_readInto_48 : decode cX9_readInto 48 = .ok (.iconst 1, 1) := by decide +kernel
theorem dX9_readInto_49 : decode cX9_readInto 49 = .ok (.iadd, 1) := by decide +kernel
theorem dX9_readInto_50 : decode cX9_readInto 50 = .ok (.putfield 38, 3) := by decide +kernel
theorem dX9_readInto_53 : decode cX9_readInto 53 = .ok (.aload_n 0, 1) := by decide +kernel
theorem dX9_readInto_54 : decode cX9_readInto 54 = .ok (.invokevirtual 45, 3) := by decide +kernel
theorem dX9_readInto_57 : decode cX9_readInto 57 = .ok (.iinc 2 1, 3) := by decide +kernel
theorem dX9_readInto_60 : decode cX9_readInto 60 = .ok (.goto (-32), 3) := by decide +kernel
theorem dX9_readInto_63 : decode cX9_readInto 63 = .ok (.aload_n 0, 1) := by decide +kernel
theorem dX9_readInto_64 : decode cX9_readInto 64 = .ok (.getfield 41, 3) := by decide +kernel
theorem dX9_readInto_67 : decode cX9_readInto 67 = .ok (.ifCond .ne 14, 3) := by decide +kernel
theorem dX9_readInto_70 : decode cX9_readInto 70 = .ok (.aload_n 0, 1) := by decide +kernel
theorem dX9_readInto_71 : decode cX9_readInto 71 = .ok (.getfield 38, 3) := by decide +kernel
theorem dX9_readInto_74 : decode cX9_readInto 74 = .ok (.aload_n 0, 1) := by decide +kernel
theorem dX9_readInto_75 : decode cX9_readInto 75 = .ok (.getfield 19, 3) := by decide +kernel
theorem dX9_readInto_78 : decode cX9_readInto 78 = .ok (.if_icmp .ge 10, 3) := by decide +kernel
theorem dX9_readInto_81 : decode cX9_readInto 81 = .ok (.aload_n 0, 1) := by decide +kernel
theorem dX9_readInto_82 : decode cX9_readInto 82 = .ok (.getfield 38, 3) := by decide +kernel
theorem dX9_readInto_85 : decode cX9_readInto 85 = .ok (.goto 4, 3) := by decide +kernel
theorem dX9_readInto_88 : decode cX9_readInto 88 = .ok (.iconst (-1), 1) := by decide +kernel
theorem dX9_readInto_89 : decode cX9_readInto 89 = .ok (.istore_n 2, 1) := by decide +kernel
theorem dX9_readInto_90 : decode cX9_readInto 90 = .ok (.aload_n 0, 1) := by decide +kernel
theorem dX9_readInto_91 : decode cX9_readInto 91 = .ok (.iconst 0, 1) := by decide +kernel
theorem dX9_readInto_92 : decode cX9_readInto 92 = .ok (.putfield 19, 3) := by decide +kernel
theorem dX9_readInto_95 : decode cX9_readInto 95 = .ok (.iload_n 2, 1) := by decide +kernel
theorem dX9_readInto_96 : decode cX9_readInto 96 = .ok (.ireturn, 1) := by decide +kernel
set_option maxRecDepth 20000 in
theorem ggX9_peek_X1_at : GoodIn wsX9_peek wsX1_at := goodIn_r _ [8] (by decide +kernel) (by decide +kernel)
set_option maxRecDepth 20000 in
theorem gX9_peek_X1_at : GoodIn wsX9_peek (va_wsS RX9 52 yX1_at wsX1_at) := goodIn_app (goodIn_of _ (by decide +kernel)) ggX9_peek_X1_at
theorem dX9_peek_0 : decode cX9_peek 0 = .ok (.aload_n 0, 1) := by decide +kernel
theorem dX9_peek_1 : decode cX9_peek 1 = .ok (.getfield 41, 3) := by decide +kernel
theorem dX9_peek_4 : decode cX9_peek 4 = .ok (.ifCond .ne 14, 3) := by decide +kernel
theorem dX9_peek_7 : decode cX9_peek 7 = .ok (.aload_n 0, 1) := by decide +kernel
theorem dX9_peek_8 : decode cX9_peek 8 = .ok (.getfield 38, 3) := by decide +kernel
theorem dX9_peek_11 : decode cX9_peek 11 = .ok (.aload_n 0, 1) := by decide +kernel
theorem dX9_peek_12 : decode cX9_peek 12 = .ok (.getfield 19, 3) := by decide +kernel
theorem dX9_peek_15 : decode cX9_peek 15 = .ok (.if_icmp .lt 7, 3) := by decide +kernel
theorem dX9_peek_18 : decode cX9_peek 18 = .ok (.iconst (-1), 1) := by decide +kernel
theorem dX9_peek_19 : decode cX9_peek 19 = .ok (.goto 14, 3) := by decide +kernel
theorem dX9_peek_22 : decode cX9_peek 22 = .ok (.aload_n 0, 1) := by decide +kernel
theorem dX9_peek_23 : decode cX9_peek 23 = .ok (.getfield 9, 3) := by decide +kernel
theorem dX9_peek_26 : decode cX9_peek 26 = .ok (.aload_n 0, 1) := by decide +kernel
theorem dX9_peek_27 : decode cX9_peek 27 = .ok (.getfield 38, 3) := by decide +kernel
theorem dX9_peek_30 : decode cX9_peek 30 = .ok (.invokestatic 52, 3) := by decide +kernel
theorem dX9_peek_33 : decode cX9_peek 33 = .ok (.ireturn, 1) := by decide +kernel
set_option maxRecDepth 20000 in
theorem ggX9_readLine_X9_readTerms : GoodIn wsX9_readLine wsX9_readTerms := goodIn_r _ [7, 2, 1, 8, 9, 10, 6, 3, 4, 5, 11, 12, 13, 14, 15, 16, 17, 18, 19, 20, 21, 22, 23, 24, 25, 26, 27, 28, 29, 30, 31, 32, 33, 34, 35, 36, 37, 38, 39, 40, 52, 53, 54, 55, 56, 57, 58, 59, 60, 61, 62, 63] (by decide +kernel) (by decide +kernel)
set_option maxRecDepth 20000 in
theorem gX9_readLine_X9_readTerms : GoodIn wsX9_readLine (wsV RX9 56 RX9 yX9_readTerms wsX9_readTerms) := goodIn_app (goodIn_of _ (by decide +kernel)) ggX9_readLine_X9_readTerms
set_option maxRecDepth 20000 in
theorem ggX9_readLine_X9_peek : GoodIn wsX9_readLine wsX9_peek := goodIn_r _ [14, 15, 2, 16, 17, 18, 19, 20, 21, 52, 53, 54, 55, 56] (by decide +kernel) (by decide +kernel)
set_option maxRecDepth 20000 in
theorem gX9_readLine_X9_peek : GoodIn wsX9_readLine (wsV RX9 48 RX9 yX9_peek wsX9_peek) := goodIn_app (goodIn_of _ (by decide +kernel)) ggX9_readLine_X9_peek
set_option maxRecDepth 20000 in
theorem ggX9_readLine_X5_add : GoodIn wsX9_readLine wsX5_add := goodIn_r _ [29, 30, 31, 32, 57, 58, 59, 60, 61, 62, 63] (by decide +kernel) (by decide +kernel)
set_option maxRecDepth 20000 in
theorem gX9_readLine_X5_add : GoodIn wsX9_readLine (wsV RX9 60 RX5 yX5_add wsX5_add) := goodIn_app (goodIn_of _ (by decide +kernel)) ggX9_readLine_X5_add
set_option maxRecDepth 20000 in
theorem ggX9_readLine_X5_size : GoodIn wsX9_readLine wsX5_size := goodIn_r _ [44, 30, 57, 58, 59, 60, 61, 62, 63] (by decide +kernel) (by decide +kernel)
set_option maxRecDepth 20000 in
theorem gX9_readLine_X5_size : GoodIn wsX9_readLine (wsV RX9 63 RX5 yX5_size wsX5_size) := goodIn_app (goodIn_of _ (by decide +kernel)) ggX9_readLine_X5_size
set_option maxRecDepth 20000 in
theorem ggX9_readLine_X5_leadOn : GoodIn wsX9_readLine wsX5_leadOn := goodIn_r _ [48, 32, 30, 49, 50, 20, 51, 57, 58, 59, 60, 61, 62, 63] (by decide +kernel) (by decide +kernel)
set_option maxRecDepth 20000 in
theorem gX9_readLine_X5_leadOn : GoodIn wsX9_readLine (wsV RX9 66 RX5 yX5_leadOn wsX5_leadOn) := goodIn_app (goodIn_of _ (by decide +kernel)) ggX9_readLine_X5_leadOn
theorem dX9_readLine_0 : decode cX9_readLine 0 = .ok (.aload_n 0, 1) := by decide +kernel
theorem dX9_readLine_1 : decode cX9_readLine 1 = .ok (.iconst 0, 1) := by decide +kernel
theorem dX9_readLine_2 : decode cX9_readLine 2 = .ok (.iconst 0, 1) := by decide +kernel
theorem dX9_readLine_3 : decode cX9_readLine 3 = .ok (.invokevirtual 56, 3) := by decide +kernel
theorem dX9_readLine_6 : decode cX9_readLine 6 = .ok (.aload_n 0, 1) := by decide +kernel
theorem dX9_readLine_7 : decode cX9_readLine 7 = .ok (.invokevirtual 48, 3) := by decide +kernel
theorem dX9_readLine_10 : decode cX9_readLine 10 = .ok (.bipush 63, 2) := by decide +kernel
theorem dX9_readLine_12 : decode cX9_readLine 12 = .ok (.if_icmp .eq 14, 3) := by decide +kernel
theorem dX9_readLine_15 : decode cX9_readLine 15 = .ok (.aload_n 0, 1) := by decide +kernel
theorem dX9_readLine_16 : decode cX9_readLine 16 = .ok (.getfield 15, 3) := by decide +kernel
theorem dX9_readLine_19 : decode cX9_readLine 19 = .ok (.bipush 59, 2) := by decide +kernel
theorem dX9_readLine_21 : decode cX9_readLine 21 = .ok (.iconst 0, 1) := by decide +kernel
theorem dX9_readLine_22 : decode cX9_readLine 22 = .ok (.invokevirtual 60, 3) := by decide +kernel
theorem dX9_readLine_25 : decode cX9_readLine 25 = .ok (.return_, 1) := by decide +kernel
theorem dX9_readLine_26 : decode cX9_readLine 26 = .ok (.aload_n 0, 1) := by decide +kernel
theorem dX9_readLine_27 : decode cX9_readLine 27 = .ok (.dup, 1) := by decide +kernel
theorem dX9_readLine_28 : decode cX9_readLine 28 = .ok (.getfield 38, 3) := by decide +kernel
theorem dX9_readLine_31 : decode cX9_readLine 31 = .ok (.iconst 1, 1) := by decide +kernel
theorem dX9_readLine_32 : decode cX9_readLine 32 = .ok (.iadd, 1) := by decide +kernel
theorem dX9_readLine_33 : decode cX9_readLine 33 = .ok (.putfield 38, 3) := by decide +kernel
theorem dX9_readLine_36 : decode cX9_readLine 36 = .ok (.aload_n 0, 1) := by decide +kernel
theorem dX9_readLine_37 : decode cX9_readLine 37 = .ok (.getfield 15, 3) := by decide +kernel
theorem dX9_readLine_40 : decode cX9_readLine 40 = .ok (.invokevirtual 63, 3) := by decide +kernel
theorem dX9_readLine_43 : decode cX9_readLine 43 = .ok (.istore_n 1, 1) := by decide +kernel
theorem dX9_readLine_44 : decode cX9_readLine 44 = .ok (.aload_n 0, 1) := by decide +kernel
theorem dX9_readLine_45 : decode cX9_readLine 45 = .ok (.getfield 15, 3) := by decide +kernel
theorem dX9_readLine_48 : decode cX9_readLine 48 = .ok (.bipush 63, 2) := by decide +kernel
theorem dX9_readLine_50 : decode cX9_readLine 50 = .ok (.iconst 0, 1) := by decide +kernel
theorem dX9_readLine_51 : decode cX9_readLine 51 = .ok (.invokevirtual 60, 3) := by decide +kernel
theorem dX9_readLine_54 : decode cX9_readLine 54 = .ok (.aload_n 0, 1) := by decide +kernel
theorem dX9_readLine_55 : decode cX9_readLine 55 = .ok (.iconst 0, 1) := by decide +kernel
theorem dX9_readLine_56 : decode cX9_readLine 56 = .ok (.iconst 0, 1) := by decide +kernel
theorem dX9_readLine_57 : decode cX9_readLine 57 = .ok (.invokevirtual 56, 3) := by decide +kernel
theorem dX9_readLine_60 : decode cX9_readLine 60 = .ok (.aload_n 0, 1) := by decide +kernel
theorem dX9_readLine_61 : decode cX9_readLine 61 = .ok (.getfield 15, 3) := by decide +kernel
theorem dX9_readLine_64 : decode cX9_readLine 64 = .ok (.bipush 59, 2) := by decide +kernel
theorem dX9_readLine_66 : decode cX9_readLine 66 = .ok (.iconst 0, 1) := by decide +kernel
theorem dX9_readLine_67 : decode cX9_readLine 67 = .ok (.invokevirtual 60, 3) := by decide +kernel
theorem dX9_readLine_70 : decode cX9_readLine 70 = .ok (.aload_n 0, 1) := by decide +kernel
theorem dX9_readLine_71 : decode cX9_readLine 71 = .ok (.getfield 15, 3) := by decide +kernel
theorem dX9_readLine_74 : decode cX9_readLine 74 = .ok (.iload_n 1, 1) := by decide +kernel
theorem dX9_readLine_75 : decode cX9_readLine 75 = .ok (.invokevirtual 66, 3) := by decide +kernel
theorem dX9_readLine_78 : decode cX9_readLine 78 = .ok (.return_, 1) := by decide +kernel
set_option maxRecDepth 20000 in
theorem ggX9_readTerms_X9_readOperand : GoodIn wsX9_readTerms wsX9_readOperand := goodIn_r _ [32, 1, 2, 14, 10, 11, 12, 6, 13, 15, 16, 17, 18, 19, 20, 33, 34, 35, 36, 24, 25, 26, 27, 28, 29, 30, 31, 37, 38, 39, 7, 8, 9, 3, 4, 5, 0, 21, 22, 23, 40, 41, 42, 43, 44, 45, 46, 47, 48, 49, 50, 51] (by decide +kernel) (by decide +kernel)
set_option maxRecDepth 20000 in
theorem gX9_readTerms_X9_readOperand : GoodIn wsX9_readTerms (wsV RX9 70 RX9 yX9_readOperand wsX9_readOperand) := goodIn_app (goodIn_of _ (by decide +kernel)) ggX9_readTerms_X9_readOperand
set_option maxRecDepth 20000 in
theorem ggX9_readTerms_X9_readTerms : GoodIn wsX9_readTerms wsX9_readTerms := goodIn_r _ [0, 1, 2, 3, 4, 5, 6, 7, 8, 9, 10, 11, 12, 13, 14, 15, 16, 17, 18, 19, 20, 21, 22, 23, 24, 25, 26, 27, 28, 29, 30, 31, 32, 33, 34, 35, 36, 37, 38, 39, 40, 41, 42, 43, 44, 45, 46, 47, 48, 49, 50, 51] (by decide +kernel) (by decide +kernel)
set_option maxRecDepth 20000 in
theorem gX9_readTerms_X9_readTerms : GoodIn wsX9_readTerms (wsV RX9 56 RX9 yX9_readTerms wsX9_readTerms) := goodIn_app (goodIn_of _ (by decide +kernel)) ggX9_readTerms_X9_readTerms
set_option maxRecDepth 20000 in
theorem ggX9_readTerms_X9_peek : GoodIn wsX9_readTerms wsX9_peek := goodIn_r _ [13, 14, 1, 15, 16, 17, 18, 19, 20, 40, 41, 42, 43, 44] (by decide +kernel) (by decide +kernel)
set_option maxRecDepth 20000 in
theorem gX9_readTerms_X9_peek : GoodIn wsX9_readTerms (wsV RX9 48 RX9 yX9_peek wsX9_peek) := goodIn_app (goodIn_of _ (by decide +kernel)) ggX9_readTerms_X9_peek
set_option maxRecDepth 20000 in
theorem ggX9_readTerms_X9_levelOf : GoodIn wsX9_readTerms wsX9_levelOf := goodIn_r _ [23] (by decide +kernel) (by decide +kernel)
set_option maxRecDepth 20000 in
theorem gX9_readTerms_X9_levelOf : GoodIn wsX9_readTerms (va_wsS RX9 73 yX9_levelOf wsX9_levelOf) := goodIn_app (goodIn_of _ (by decide +kernel)) ggX9_readTerms_X9_levelOf
set_option maxRecDepth 20000 in
theorem ggX9_readTerms_X5_add : GoodIn wsX9_readTerms wsX5_add := goodIn_r _ [28, 29, 30, 31, 45, 46, 47, 48, 49, 50, 51] (by decide +kernel) (by decide +kernel)
set_option maxRecDepth 20000 in
theorem gX9_readTerms_X5_add : GoodIn wsX9_readTerms (wsV RX9 60 RX5 yX5_add wsX5_add) := goodIn_app (goodIn_of _ (by decide +kernel)) ggX9_readTerms_X5_add
theorem dX9_readTerms_0 : decode cX9_readTerms 0 = .ok (.iload_n 1, 1) := by decide +kernel
theorem dX9_readTerms_1 : decode cX9_readTerms 1 = .ok (.iconst 5, 1) := by decide +kernel
theorem dX9_readTerms_2 : decode cX9_readTerms 2 = .ok (.if_icmp .lt 9, 3) := by decide +kernel
theorem dX9_readTerms_5 : decode cX9_readTerms 5 = .ok (.aload_n 0, 1) := by decide +kernel
theorem dX9_readTerms_6 : decode cX9_readTerms 6 = .ok (.iload_n 2, 1) := by decide +kernel
theorem dX9_readTerms_7 : decode cX9_readTerms 7 = .ok (.invokevirtual 70, 3) := by decide +kernel
theorem dX9_readTerms_10 : decode cX9_readTerms 10 = .ok (.return_, 1) := by decide +kernel
theorem dX9_readTerms_11 : decode cX9_readTerms 11 = .ok (.aload_n 0, 1) := by decide +kernel
theorem dX9_readTerms_12 : decode cX9_readTerms 12 = .ok (.iload_n 1, 1) := by decide +kernel
theorem dX9_readTerms_13 : decode cX9_readTerms 13 = .ok (.iconst 1, 1) := by decide +kernel
theorem dX9_readTerms_14 : decode cX9_readTerms 14 = .ok (.iadd, 1) := by decide +kernel
theorem dX9_readTerms_15 : decode cX9_readTerms 15 = .ok (.iload_n 2, 1) := by decide +kernel
theorem dX9_readTerms_16 : decode cX9_readTerms 16 = .ok (.invokevirtual 56, 3) := by decide +kernel
theorem dX9_readTerms_19 : decode cX9_readTerms 19 = .ok (.iconst 0, 1) := by decide +kernel
theorem dX9_readTerms_20 : decode cX9_readTerms 20 = .ok (.istore_n 3, 1) := by decide +kernel
theorem dX9_readTerms_21 : decode cX9_readTerms 21 = .ok (.iload_n 3, 1) := by decide +kernel
theorem dX9_readTerms_22 : decode cX9_readTerms 22 = .ok (.bipush 120, 2) := by decide +kernel
theorem dX9_readTerms_24 : decode cX9_readTerms 24 = .ok (.if_icmp .ge 60, 3) := by decide +kernel
theorem dX9_readTerms_27 : decode cX9_readTerms 27 = .ok (.aload_n 0, 1) := by decide +kernel
theorem dX9_readTerms_28 : decode cX9_readTerms 28 = .ok (.invokevirtual 48, 3) := by decide +kernel
theorem dX9_readTerms_31 : decode cX9_readTerms 31 = .ok (.invokestatic 73, 3) := by decide +kernel
theorem dX9_readTerms_34 : decode cX9_readTerms 34 = .ok (.iload_n 1, 1) := by decide +kernel
theorem dX9_readTerms_35 : decode cX9_readTerms 35 = .ok (.if_icmp .ne 49, 3) := by decide +kernel
theorem dX9_readTerms_38 : decode cX9_readTerms 38 = .ok (.aload_n 0, 1) := by decide +kernel
theorem dX9_readTerms_39 : decode cX9_readTerms 39 = .ok (.invokevirtual 48, 3) := by decide +kernel
theorem dX9_readTerms_42 : decode cX9_readTerms 42 = .ok (.istore 4, 2) := by decide +kernel
theorem dX9_readTerms_44 : decode cX9_readTerms 44 = .ok (.aload_n 0, 1) := by decide +kernel
theorem dX9_readTerms_45 : decode cX9_readTerms 45 = .ok (.dup, 1) := by decide +kernel
theorem dX9_readTerms_46 : decode cX9_readTerms 46 = .ok (.getfield 38, 3) := by decide +kernel
theorem dX9_readTerms_49 : decode cX9_readTerms 49 = .ok (.iconst 1, 1) := by decide +kernel
theorem dX9_readTerms_50 : decode cX9_readTerms 50 = .ok (.iadd, 1) := by decide +kernel
theorem dX9_readTerms_51 : decode cX9_readTerms 51 = .ok (.putfield 38, 3) := by decide +kernel
theorem dX9_readTerms_54 : decode cX9_readTerms 54 = .ok (.aload_n 0, 1) := by decide +kernel
theorem dX9_readTerms_55 : decode cX9_readTerms 55 = .ok (.iload_n 1, 1) := by decide +kernel
theorem dX9_readTerms_56 : decode cX9_readTerms 56 = .ok (.iconst 1, 1) := by decide +kernel
theorem dX9_readTerms_57 : decode cX9_readTerms 57 = .ok (.iadd, 1) := by decide +kernel
theorem dX9_readTerms_58 : decode cX9_readTerms 58 = .ok (.iload_n 2, 1) := by decide +kernel
theorem dX9_readTerms_59 : decode cX9_readTerms 59 = .ok (.invokevirtual 56, 3) := by decide +kernel
theorem dX9_readTerms_62 : decode cX9_readTerms 62 = .ok (.aload_n 0, 1) := by decide +kernel
theorem dX9_readTerms_63 : decode cX9_readTerms 63 = .ok (.getfield 15, 3) := by decide +kernel
theorem dX9_readTerms_66 : decode cX9_readTerms 66 = .ok (.iload 4, 2) := by decide +kernel
theorem dX9_readTerms_68 : decode cX9_readTerms 68 = .ok (.iconst 0, 1) := by decide +kernel
theorem dX9_readTerms_69 : decode cX9_readTerms 69 = .ok (.invokevirtual 60, 3) := by decide +kernel
theorem dX9_readTerms_72 : decode cX9_readTerms 72 = .ok (.iload_n 1, 1) := by decide +kernel
theorem dX9_readTerms_73 : decode cX9_readTerms 73 = .ok (.iconst 2, 1) := by decide +kernel
theorem dX9_readTerms_74 : decode cX9_readTerms 74 = .ok (.if_icmp .ne 4, 3) := by decide +kernel
theorem dX9_readTerms_77 : decode cX9_readTerms 77 = .ok (.return_, 1) := by decide +kernel
theorem dX9_readTerms_78 : decode cX9_readTerms 78 = .ok (.iinc 3 1, 3) := by decide +kernel
theorem dX9_readTerms_81 : decode cX9_readTerms 81 = .ok (.goto (-60), 3) := by decide +kernel
theorem dX9_readTerms_84 : decode cX9_readTerms 84 = .ok (.return_, 1) := by decide +kernel
set_option maxRecDepth 20000 in
theorem ggX9_readOperand_X9_peek : GoodIn wsX9_readOperand wsX9_peek := goodIn_r _ [8, 3, 1, 9, 10, 11, 12, 13, 14, 40, 41, 42, 43, 44] (by decide +kernel) (by decide +kernel)
set_option maxRecDepth 20000 in
theorem gX9_readOperand_X9_peek : GoodIn wsX9_readOperand (wsV RX9 48 RX9 yX9_peek wsX9_peek) := goodIn_app (goodIn_of _ (by decide +kernel)) ggX9_readOperand_X9_peek
set_option maxRecDepth 20000 in
theorem ggX9_readOperand_X9_readNumber : GoodIn wsX9_readOperand wsX9_readNumber := goodIn_r _ [18, 1, 2, 4, 5, 6, 7, 8, 3, 9, 10, 11, 12, 13, 14, 19, 20, 21, 22, 23, 24, 25, 26, 40, 41, 42, 43, 44, 45, 46, 47, 48, 49, 50, 51] (by decide +kernel) (by decide +kernel)
set_option maxRecDepth 20000 in
theorem gX9_readOperand_X9_readNumber : GoodIn wsX9_readOperand (wsV RX9 77 RX9 yX9_readNumber wsX9_readNumber) := goodIn_app (goodIn_of _ (by decide +kernel)) ggX9_readOperand_X9_readNumber
set_option maxRecDepth 20000 in
theorem ggX9_readOperand_X9_nameOf : GoodIn wsX9_readOperand wsX9_nameOf := goodIn_r _ [29] (by decide +kernel) (by decide +kernel)
set_option maxRecDepth 20000 in
theorem gX9_readOperand_X9_nameOf : GoodIn wsX9_readOperand (va_wsS RX9 80 yX9_nameOf wsX9_nameOf) := goodIn_app (goodIn_of _ (by decide +kernel)) ggX9_readOperand_X9_nameOf
set_option maxRecDepth 20000 in
theorem ggX9_readOperand_X5_add : GoodIn wsX9_readOperand wsX5_add := goodIn_r _ [23, 24, 25, 26, 45, 46, 47, 48, 49, 50, 51] (by decide +kernel) (by decide +kernel)
set_option maxRecDepth 20000 in
theorem gX9_readOperand_X5_add : GoodIn wsX9_readOperand (wsV RX9 60 RX5 yX5_add wsX5_add) := goodIn_app (goodIn_of _ (by decide +kernel)) ggX9_readOperand_X5_add
set_option maxRecDepth 20000 in
theorem ggX9_readOperand_X9_readTerms : GoodIn wsX9_readOperand wsX9_readTerms := goodIn_r _ [36, 1, 2, 33, 34, 35, 7, 30, 31, 32, 4, 5, 6, 8, 3, 9, 10, 11, 12, 13, 14, 37, 38, 39, 19, 20, 21, 22, 23, 24, 25, 26, 0, 15, 16, 17, 18, 27, 28, 29, 40, 41, 42, 43, 44, 45, 46, 47, 48, 49, 50, 51] (by decide +kernel) (by decide +kernel)
set_option maxRecDepth 20000 in
theorem gX9_readOperand_X9_readTerms : GoodIn wsX9_readOperand (wsV RX9 56 RX9 yX9_readTerms wsX9_readTerms) := goodIn_app (goodIn_of _ (by decide +kernel)) ggX9_readOperand_X9_readTerms
set_option maxRecDepth 20000 in
theorem ggX9_readOperand_X9_readOperand : GoodIn wsX9_readOperand wsX9_readOperand := goodIn_r _ [0, 1, 2, 3, 4, 5, 6, 7, 8, 9, 10, 11, 12, 13, 14, 15, 16, 17, 18, 19, 20, 21, 22, 23, 24, 25, 26, 27, 28, 29, 30, 31, 32, 33, 34, 35, 36, 37, 38, 39, 40, 41, 42, 43, 44, 45, 46, 47, 48, 49, 50, 51] (by decide +kernel) (by decide +kernel)
set_option maxRecDepth 20000 in
theorem gX9_readOperand_X9_readOperand : GoodIn wsX9_readOperand (wsV RX9 70 RX9 yX9_readOperand wsX9_readOperand) := goodIn_app (goodIn_of _ (by decide +kernel)) ggX9_readOperand_X9_readOperand
theorem dX9_readOperand_0 : decode cX9_readOperand 0 = .ok (.aload_n 0, 1) := by decide +kernel
theorem dX9_readOperand_1 : decode cX9_readOperand 1 = .ok (.invokevirtual 48, 3) := by decide +kernel
theorem dX9_readOperand_4 : decode cX9_readOperand 4 = .ok (.istore_n 2, 1) := by decide +kernel
theorem dX9_readOperand_5 : decode cX9_readOperand 5 = .ok (.iload_n 2, 1) := by decide +kernel
theorem dX9_readOperand_6 : decode cX9_readOperand 6 = .ok (.bipush 48, 2) := by decide +kernel
theorem dX9_readOperand_8 : decode cX9_readOperand 8 = .ok (.if_icmp .lt 16, 3) := by decide +kernel
theorem dX9_readOperand_11 : decode cX9_readOperand 11 = .ok (.iload_n 2, 1) := by decide +kernel
theorem dX9_readOperand_12 : decode cX9_readOperand 12 = .ok (.bipush 57, 2) := by decide +kernel
theorem dX9_readOperand_14 : decode cX9_readOperand 14 = .ok (.if_icmp .gt 10, 3) := by decide +kernel
theorem dX9_readOperand_17 : decode cX9_readOperand 17 = .ok (.aload_n 0, 1) := by decide +kernel
theorem dX9_readOperand_18 : decode cX9_readOperand 18 = .ok (.invokevirtual 77, 3) := by decide +kernel
theorem dX9_readOperand_21 : decode cX9_readOperand 21 = .ok (.goto 149, 3) := by decide +kernel
theorem dX9_readOperand_24 : decode cX9_readOperand 24 = .ok (.iload_n 2, 1) := by decide +kernel
theorem dX9_readOperand_25 : decode cX9_readOperand 25 = .ok (.invokestatic 80, 3) := by decide +kernel
theorem dX9_readOperand_28 : decode cX9_readOperand 28 = .ok (.ifCond .lt 29, 3) := by decide +kernel
theorem dX9_readOperand_31 : decode cX9_readOperand 31 = .ok (.aload_n 0, 1) := by decide +kernel
theorem dX9_readOperand_32 : decode cX9_readOperand 32 = .ok (.dup, 1) := by decide +kernel
theorem dX9_readOperand_33 : decode cX9_readOperand 33 = .ok (.getfield 38, 3) := by decide +kernel
theorem dX9_readOperand_36 : decode cX9_readOperand 36 = .ok (.iconst 1, 1) := by decide +kernel
theorem dX9_readOperand_37 : decode cX9_readOperand 37 = .ok (.iadd, 1) := by decide +kernel
theorem dX9_readOperand_38 : decode cX9_readOperand 38 = .ok (.putfield 38, 3) := by decide +kernel
theorem dX9_readOperand_41 : decode cX9_readOperand 41 = .ok (.aload_n 0, 1) := by decide +kernel
theorem dX9_readOperand_42 : decode cX9_readOperand 42 = .ok (.getfield 15, 3) := by decide +kernel
theorem dX9_readOperand_45 : decode cX9_readOperand 45 = .ok (.bipush 97, 2) := by decide +kernel
theorem dX9_readOperand_47 : decode cX9_readOperand 47 = .ok (.iload_n 2, 1) := by decide +kernel
theorem dX9_readOperand_48 : decode cX9_readOperand 48 = .ok (.invokestatic 80, 3) := by decide +kernel
theorem dX9_readOperand_51 : decode cX9_readOperand 51 = .ok (.invokevirtual 60, 3) := by decide +kernel
theorem dX9_readOperand_54 : decode cX9_readOperand 54 = .ok (.goto 116, 3) := by decide +kernel
theorem dX9_readOperand_57 : decode cX9_readOperand 57 = .ok (.iload_n 2, 1) := by decide +kernel
theorem dX9_readOperand_58 : decode cX9_readOperand 58 = .ok (.bipush 40, 2) := by decide +kernel
theorem dX9_readOperand_60 : decode cX9_readOperand 60 = .ok (.if_icmp .eq 15, 3) := by decide +kernel
theorem dX9_readOperand_63 : decode cX9_readOperand 63 = .ok (.iload_n 2, 1) := by decide +kernel
theorem dX9_readOperand_64 : decode cX9_readOperand 64 = .ok (.bipush 33, 2) := by decide +kernel
theorem dX9_readOperand_66 : decode cX9_readOperand 66 = .ok (.if_icmp .eq 9, 3) := by decide +kernel
theorem dX9_readOperand_69 : decode cX9_readOperand 69 = .ok (.iload_n 2, 1) := by decide +kernel
theorem dX9_readOperand_70 : decode cX9_readOperand 70 = .ok (.bipush 45, 2) := by decide +kernel
theorem dX9_readOperand_72 : decode cX9_readOperand 72 = .ok (.if_icmp .ne 93, 3) := by decide +kernel
theorem dX9_readOperand_75 : decode cX9_readOperand 75 = .ok (.iload_n 1, 1) := by decide +kernel
theorem dX9_readOperand_76 : decode cX9_readOperand 76 = .ok (.bipush 6, 2) := by decide +kernel
theorem dX9_readOperand_78 : decode cX9_readOperand 78 = .ok (.if_icmp .ge 87, 3) := by decide +kernel
theorem dX9_readOperand_81 : decode cX9_readOperand 81 = .ok (.aload_n 0, 1) := by decide +kernel
theorem dX9_readOperand_82 : decode cX9_readOperand 82 = .ok (.dup, 1) := by decide +kernel
theorem dX9_readOperand_83 : decode cX9_readOperand 83 = .ok (.getfield 38, 3) := by decide +kernel
theorem dX9_readOperand_86 : decode cX9_readOperand 86 = .ok (.iconst 1, 1) := by decide +kernel
theorem dX9_readOperand_87 : decode cX9_readOperand 87 = .ok (.iadd, 1) := by decide +kernel
theorem dX9_readOperand_88 : decode cX9_readOperand 88 = .ok (.putfield 38, 3) := by decide +kernel
theorem dX9_readOperand_91 : decode cX9_readOperand 91 = .ok (.iload_n 2, 1) := by decide +kernel
theorem dX9_readOperand_92 : decode cX9_readOperand 92 = .ok (.bipush 40, 2) := by decide +kernel
theorem dX9_readOperand_94 : decode cX9_readOperand 94 = .ok (.if_icmp .ne 41, 3) := by decide +kernel
theorem dX9_readOperand_97 : decode cX9_readOperand 97 = .ok (.aload_n 0, 1) := by decide +kernel
theorem dX9_readOperand_98 : decode cX9_readOperand 98 = .ok (.iconst 0, 1) := by decide +kernel
theorem dX9_readOperand_99 : decode cX9_readOperand 99 = .ok (.iload_n 1, 1) := by decide +kernel
theorem dX9_readOperand_100 : decode cX9_readOperand 100 = .ok (.iconst 1, 1) := by decide +kernel
theorem dX9_readOperand_101 : decode cX9_readOperand 101 = .ok (.iadd, 1) := by decide +kernel
theorem dX9_readOperand_102 : decode cX9_readOperand 102 = .ok (.invokevirtual 56, 3) := by decide +kernel
theorem dX9_readOperand_105 : decode cX9_readOperand 105 = .ok (.aload_n 0, 1) := by decide +kernel
theorem dX9_readOperand_106 : decode cX9_readOperand 106 = .ok (.invokevirtual 48, 3) := by decide +kernel
theorem dX9_readOperand_109 : decode cX9_readOperand 109 = .ok (.bipush 41, 2) := by decide +kernel
theorem dX9_readOperand_111 : decode cX9_readOperand 111 = .ok (.if_icmp .ne 16, 3) := by decide +kernel
theorem dX9_readOperand_114 : decode cX9_readOperand 114 = .ok (.aload_n 0, 1) := by decide +kernel
theorem dX9_readOperand_115 : decode cX9_readOperand 115 = .ok (.dup, 1) := by decide +kernel
theorem dX9_readOperand_116 : decode cX9_readOperand 116 = .ok (.getfield 38, 3) := by decide +kernel
theorem dX9_readOperand_119 : decode cX9_readOperand 119 = .ok (.iconst 1, 1) := by decide +kernel
theorem dX9_readOperand_120 : decode cX9_readOperand 120 = .ok (.iadd, 1) := by decide +kernel
theorem dX9_readOperand_121 : decode cX9_readOperand 121 = .ok (.putfield 38, 3) := by decide +kernel
theorem dX9_readOperand_124 : decode cX9_readOperand 124 = .ok (.goto 46, 3) := by decide +kernel
theorem dX9_readOperand_127 : decode cX9_readOperand 127 = .ok (.aload_n 0, 1) := by decide +kernel
theorem dX9_readOperand_128 : decode cX9_readOperand 128 = .ok (.iconst 1, 1) := by decide +kernel
theorem dX9_readOperand_129 : decode cX9_readOperand 129 = .ok (.putfield 41, 3) := by decide +kernel
theorem dX9_readOperand_132 : decode cX9_readOperand 132 = .ok (.goto 38, 3) := by decide +kernel
theorem dX9_readOperand_135 : decode cX9_readOperand 135 = .ok (.aload_n 0, 1) := by decide +kernel
theorem dX9_readOperand_136 : decode cX9_readOperand 136 = .ok (.iload_n 1, 1) := by decide +kernel
theorem dX9_readOperand_137 : decode cX9_readOperand 137 = .ok (.iconst 1, 1) := by decide +kernel
theorem dX9_readOperand_138 : decode cX9_readOperand 138 = .ok (.iadd, 1) := by decide +kernel
theorem dX9_readOperand_139 : decode cX9_readOperand 139 = .ok (.invokevirtual 70, 3) := by decide +kernel
theorem dX9_readOperand_142 : decode cX9_readOperand 142 = .ok (.aload_n 0, 1) := by decide +kernel
theorem dX9_readOperand_143 : decode cX9_readOperand 143 = .ok (.getfield 15, 3) := by decide +kernel
theorem dX9_readOperand_146 : decode cX9_readOperand 146 = .ok (.iload_n 2, 1) := by decide +kernel
theorem dX9_readOperand_147 : decode cX9_readOperand 147 = .ok (.bipush 45, 2) := by decide +kernel
theorem dX9_readOperand_149 : decode cX9_readOperand 149 = .ok (.if_icmp .ne 8, 3) := by decide +kernel
theorem dX9_readOperand_152 : decode cX9_readOperand 152 = .ok (.bipush 126, 2) := by decide +kernel
theorem dX9_readOperand_154 : decode cX9_readOperand 154 = .ok (.goto 4, 3) := by decide +kernel
theorem dX9_readOperand_157 : decode cX9_readOperand 157 = .ok (.iload_n 2, 1) := by decide +kernel
theorem dX9_readOperand_158 : decode cX9_readOperand 158 = .ok (.iconst 0, 1) := by decide +kernel
theorem dX9_readOperand_159 : decode cX9_readOperand 159 = .ok (.invokevirtual 60, 3) := by decide +kernel
theorem dX9_readOperand_162 : decode cX9_readOperand 162 = .ok (.goto 8, 3) := by decide +kernel
theorem dX9_readOperand_165 : decode cX9_readOperand 165 = .ok (.aload_n 0, 1) := by decide +kernel
theorem dX9_readOperand_166 : decode cX9_readOperand 166 = .ok (.iconst 1, 1) := by decide +kernel
theorem dX9_readOperand_167 : decode cX9_readOperand 167 = .ok (.putfield 41, 3) := by decide +kernel
theorem dX9_readOperand_170 : decode cX9_readOperand 170 = .ok (.return_, 1) := by decide +kernel
set_option maxRecDepth 20000 in
theorem ggX9_readNumber_X9_peek : GoodIn wsX9_readNumber wsX9_peek := goodIn_r _ [7, 8, 1, 9, 10, 11, 12, 13, 14, 23, 24, 25, 26, 27] (by decide +kernel) (by decide +kernel)
set_option maxRecDepth 20000 in
theorem gX9_readNumber_X9_peek : GoodIn wsX9_readNumber (wsV RX9 48 RX9 yX9_peek wsX9_peek) := goodIn_app (goodIn_of _ (by decide +kernel)) ggX9_readNumber_X9_peek
set_option maxRecDepth 20000 in
theorem ggX9_readNumber_X5_add : GoodIn wsX9_readNumber wsX5_add := goodIn_r _ [19, 20, 21, 22, 28, 29, 30, 31, 32, 33, 34] (by decide +kernel) (by decide +kernel)
set_option maxRecDepth 20000 in
theorem gX9_readNumber_X5_add : GoodIn wsX9_readNumber (wsV RX9 60 RX5 yX5_add wsX5_add) := goodIn_app (goodIn_of _ (by decide +kernel)) ggX9_readNumber_X5_add
theorem dX9_readNumber_0 : decode cX9_readNumber 0 = .ok (.iconst 0, 1) := by decide +kernel
theorem dX9_readNumber_1 : decode cX9_readNumber 1 = .ok (.istore_n 1, 1) := by decide +kernel
theorem dX9_readNumber_2 : decode cX9_readNumber 2 = .ok (.iconst 0, 1) := by decide +kernel
theorem dX9_readNumber_3 : decode cX9_readNumber 3 = .ok (.istore_n 2, 1) := by decide +kernel
theorem dX9_readNumber_4 : decode cX9_readNumber 4 = .ok (.iload_n 2, 1) := by decide +kernel
theorem dX9_readNumber_5 : decode cX9_readNumber 5 = .ok (.iconst 4, 1) := by decide +kernel
theorem dX9_readNumber_6 : decode cX9_readNumber 6 = .ok (.if_icmp .ge 50, 3) := by decide +kernel
theorem dX9_readNumber_9 : decode cX9_readNumber 9 = .ok (.aload_n 0, 1) := by decide +kernel
theorem dX9_readNumber_10 : decode cX9_readNumber 10 = .ok (.invokevirtual 48, 3) := by decide +kernel
theorem dX9_readNumber_13 : decode cX9_readNumber 13 = .ok (.bipush 48, 2) := by decide +kernel
theorem dX9_readNumber_15 : decode cX9_readNumber 15 = .ok (.if_icmp .lt 41, 3) := by decide +kernel
theorem dX9_readNumber_18 : decode cX9_readNumber 18 = .ok (.aload_n 0, 1) := by decide +kernel
theorem dX9_readNumber_19 : decode cX9_readNumber 19 = .ok (.invokevirtual 48, 3) := by decide +kernel
theorem dX9_readNumber_22 : decode cX9_readNumber 22 = .ok (.bipush 57, 2) := by decide +kernel
theorem dX9_readNumber_24 : decode cX9_readNumber 24 = .ok (.if_icmp .gt 32, 3) := by decide +kernel
theorem dX9_readNumber_27 : decode cX9_readNumber 27 = .ok (.iload_n 1, 1) := by decide +kernel
theorem dX9_readNumber_28 : decode cX9_readNumber 28 = .ok (.bipush 10, 2) := by decide +kernel
theorem dX9_readNumber_30 : decode cX9_readNumber 30 = .ok (.imul, 1) := by decide +kernel
theorem dX9_readNumber_31 : decode cX9_readNumber 31 = .ok (.aload_n 0, 1) := by decide +kernel
theorem dX9_readNumber_32 : decode cX9_readNumber 32 = .ok (.invokevirtual 48, 3) := by decide +kernel
theorem dX9_readNumber_35 : decode cX9_readNumber 35 = .ok (.iadd, 1) := by decide +kernel
theorem dX9_readNumber_36 : decode cX9_readNumber 36 = .ok (.bipush 48, 2) := by decide +kernel
theorem dX9_readNumber_38 : decode cX9_readNumber 38 = .ok (.isub, 1) := by decide +kernel
theorem dX9_readNumber_39 : decode cX9_readNumber 39 = .ok (.istore_n 1, 1) := by decide +kernel
theorem dX9_readNumber_40 : decode cX9_readNumber 40 = .ok (.aload_n 0, 1) := by decide +kernel
theorem dX9_readNumber_41 : decode cX9_readNumber 41 = .ok (.dup, 1) := by decide +kernel
theorem dX9_readNumber_42 : decode cX9_readNumber 42 = .ok (.getfield 38, 3) := by decide +kernel
theorem dX9_readNumber_45 : decode cX9_readNumber 45 = .ok (.iconst 1, 1) := by decide +kernel
theorem dX9_readNumber_46 : decode cX9_readNumber 46 = .ok (.iadd, 1) := by decide +kernel
theorem dX9_readNumber_47 : decode cX9_readNumber 47 = .ok (.putfield 38, 3) := by decide +kernel
theorem dX9_readNumber_50 : decode cX9_readNumber 50 = .ok (.iinc 2 1, 3) := by decide +kernel
theorem dX9_readNumber_53 : decode cX9_readNumber 53 = .ok (.goto (-49), 3) := by decide +kernel
theorem dX9_readNumber_56 : decode cX9_readNumber 56 = .ok (.aload_n 0, 1) := by decide +kernel
theorem dX9_readNumber_57 : decode cX9_readNumber 57 = .ok (.getfield 15, 3) := by decide +kernel
theorem dX9_readNumber_60 : decode cX9_readNumber 60 = .ok (.bipush 48, 2) := by decide +kernel
theorem dX9_readNumber_62 : decode cX9_readNumber 62 = .ok (.iload_n 1, 1) := by decide +kernel
theorem dX9_readNumber_63 : decode cX9_readNumber 63 = .ok (.invokevirtual 60, 3) := by decide +kernel
theorem dX9_readNumber_66 : decode cX9_readNumber 66 = .ok (.return_, 1) := by decide +kernel
theorem dX9_nameOf_0 : decode cX9_nameOf 0 = .ok (.iload_n 0, 1) := by decide +kernel
theorem dX9_nameOf_1 : decode cX9_nameOf 1 = .ok (.lookupswitch 71 #[(97, 59), (107, 69), (114, 65), (115, 67), (116, 61), (119, 63)], 59) := by decide +kernel
theorem dX9_nameOf_60 : decode cX9_nameOf 60 = .ok (.iconst 0, 1) := by decide +kernel
theorem dX9_nameOf_61 : decode cX9_nameOf 61 = .ok (.ireturn, 1) := by decide +kernel
theorem dX9_nameOf_62 : decode cX9_nameOf 62 = .ok (.iconst 1, 1) := by decide +kernel
theorem dX9_nameOf_63 : decode cX9_nameOf 63 = .ok (.ireturn, 1) := by decide +kernel
theorem dX9_nameOf_64 : decode cX9_nameOf 64 = .ok (.iconst 2, 1) := by decide +kernel
theorem dX9_nameOf_65 : decode cX9_nameOf 65 = .ok (.ireturn, 1) := by decide +kernel
theorem dX9_nameOf_66 : decode cX9_nameOf 66 = .ok (.iconst 3, 1) := by decide +kernel
theorem dX9_nameOf_67 : decode cX9_nameOf 67 = .ok (.ireturn, 1) := by decide +kernel
theorem dX9_nameOf_68 : decode cX9_nameOf 68 = .ok (.iconst 4, 1) := by decide +kernel
theorem dX9_nameOf_69 : decode cX9_nameOf 69 = .ok (.ireturn, 1) := by decide +kernel
theorem dX9_nameOf_70 : decode cX9_nameOf 70 = .ok (.iconst 5, 1) := by decide +kernel
theorem dX9_nameOf_71 : decode cX9_nameOf 71 = .ok (.ireturn, 1) := by decide +kernel
theorem dX9_nameOf_72 : decode cX9_nameOf 72 = .ok (.iconst (-1), 1) := by decide +kernel
theorem dX9_nameOf_73 : decode cX9_nameOf 73 = .ok (.ireturn, 1) := by decide +kernel
theorem dX9_levelOf_0 : decode cX9_levelOf 0 = .ok (.iload_n 0, 1) := by decide +kernel
theorem dX9_levelOf_1 : decode cX9_levelOf 1 = .ok (.lookupswitch 101 #[(37, 99), (38, 93), (42, 99), (43, 97), (45, 97), (47, 99), (60, 95), (61, 95), (62, 95), (124, 91)], 91) := by decide +kernel
theorem dX9_levelOf_92 : decode cX9_levelOf 92 = .ok (.iconst 0, 1) := by decide +kernel
theorem dX9_levelOf_93 : decode cX9_levelOf 93 = .ok (.ireturn, 1) := by decide +kernel
theorem dX9_levelOf_94 : decode cX9_levelOf 94 = .ok (.iconst 1, 1) := by decide +kernel
theorem dX9_levelOf_95 : decode cX9_levelOf 95 = .ok (.ireturn, 1) := by decide +kernel
theorem dX9_levelOf_96 : decode cX9_levelOf 96 = .ok (.iconst 2, 1) := by decide +kernel
theorem dX9_levelOf_97 : decode cX9_levelOf 97 = .ok (.ireturn, 1) := by decide +kernel
theorem dX9_levelOf_98 : decode cX9_levelOf 98 = .ok (.iconst 3, 1) := by decide +kernel
theorem dX9_levelOf_99 : decode cX9_levelOf 99 = .ok (.ireturn, 1) := by decide +kernel
theorem dX9_levelOf_100 : decode cX9_levelOf 100 = .ok (.iconst 4, 1) := by decide +kernel
theorem dX9_levelOf_101 : decode cX9_levelOf 101 = .ok (.ireturn, 1) := by decide +kernel
theorem dX9_levelOf_102 : decode cX9_levelOf 102 = .ok (.bipush (-2), 2) := by decide +kernel
theorem dX9_levelOf_104 : decode cX9_levelOf 104 = .ok (.ireturn, 1) := by decide +kernel
set_option maxRecDepth 20000 in
theorem ggX10_init_X2_init : GoodIn wsX10_init wsX2_init := goodIn_r _ [43, 44, 2, 3, 45, 46, 47, 48, 49, 236, 237, 238, 239, 240, 241] (by decide +kernel) (by decide +kernel)
set_option maxRecDepth 20000 in
theorem gX10_init_X2_init_n17 : GoodIn wsX10_init (wsX2_init) := ggX10_init_X2_init
set_option maxRecDepth 20000 in
theorem ggX10_init_X0_init : GoodIn wsX10_init wsX0_init := goodIn_r _ [51, 52, 2, 3, 45, 53, 54, 242, 243, 244, 245, 246] (by decide +kernel) (by decide +kernel)
set_option maxRecDepth 20000 in
theorem gX10_init_X0_init_n24 : GoodIn wsX10_init (wsX0_init) := ggX10_init_X0_init
set_option maxRecDepth 20000 in
theorem ggX10_init_X5_init : GoodIn wsX10_init wsX5_init := goodIn_r _ [56, 57, 2, 3, 45, 58, 59, 60, 61, 62, 63, 247, 248, 249, 250, 251, 252, 253] (by decide +kernel) (by decide +kernel)
set_option maxRecDepth 20000 in
theorem gX10_init_X5_init_n37 : GoodIn wsX10_init (wsX5_init) := ggX10_init_X5_init
set_option maxRecDepth 20000 in
theorem ggX10_init_X8_init : GoodIn wsX10_init wsX8_init := goodIn_r _ [65, 66, 2, 3, 45, 67, 68, 69, 70, 254, 255, 256, 257, 258] (by decide +kernel) (by decide +kernel)
set_option maxRecDepth 20000 in
theorem gX10_init_X8_init_n42 : GoodIn wsX10_init (wsX8_init) := ggX10_init_X8_init
set_option maxRecDepth 20000 in
theorem ggX10_init_X6_init : GoodIn wsX10_init wsX6_init := goodIn_r _ [72, 73, 2, 3, 74, 75, 76, 259, 260, 261, 262, 263] (by decide +kernel) (by decide +kernel)
set_option maxRecDepth 20000 in
theorem gX10_init_X6_init_n43 : GoodIn wsX10_init (wsX6_init) := ggX10_init_X6_init
set_option maxRecDepth 20000 in
theorem ggX10_init_X3_init : GoodIn wsX10_init wsX3_init := goodIn_r _ [79, 80, 2, 3, 45, 81, 82, 264, 265, 266] (by decide +kernel) (by decide +kernel)
set_option maxRecDepth 20000 in
theorem gX10_init_X3_init : GoodIn wsX10_init (wsX3_init) := ggX10_init_X3_init
set_option maxRecDepth 20000 in
theorem ggX10_init_X7_init : GoodIn wsX10_init wsX7_init := goodIn_r _ [85, 86, 2, 3, 45, 87, 88, 89, 90, 91, 267, 268, 269, 270, 271, 272, 273, 274] (by decide +kernel) (by decide +kernel)
set_option maxRecDepth 20000 in
theorem gX10_init_X7_init : GoodIn wsX10_init (wsX7_init) := ggX10_init_X7_init
set_option maxRecDepth 20000 in
theorem ggX10_init_X4_init : GoodIn wsX10_init wsX4_init := goodIn_r _ [94, 95, 2, 3, 96, 29, 30, 97, 98, 84, 85, 86, 45, 87, 88, 89, 90, 91, 267, 268, 269, 270, 271, 272, 273, 274, 275, 276, 277, 278, 279] (by decide +kernel) (by decide +kernel)
set_option maxRecDepth 20000 in
theorem gX10_init_X4_init : GoodIn wsX10_init (wsX4_init) := ggX10_init_X4_init
set_option maxRecDepth 20000 in
theorem ggX10_init_X9_init : GoodIn wsX10_init wsX9_init := goodIn_r _ [101, 102, 2, 3, 45, 103, 104, 280, 281, 282, 283, 284] (by decide +kernel) (by decide +kernel)
set_option maxRecDepth 20000 in
theorem gX10_init_X9_init : GoodIn wsX10_init (wsX9_init) := ggX10_init_X9_init
set_option maxRecDepth 20000 in
theorem ggX10_init_J0_length_8abf5 : GoodIn wsX10_init wsJ0_length_8abf5 := goodIn_r _ [109, 110, 111, 112, 113, 108, 114, 115, 116] (by decide +kernel) (by decide +kernel)
set_option maxRecDepth 20000 in
theorem gX10_init_J0_length_8abf5 : GoodIn wsX10_init (wsV RX10 84 RJ0 yJ0_length_8abf5 wsJ0_length_8abf5) := goodIn_app (goodIn_of _ (by decide +kernel)) ggX10_init_J0_length_8abf5
set_option maxRecDepth 20000 in
theorem ggX10_init_J0_charAt_5068e : GoodIn wsX10_init wsJ0_charAt_5068e := goodIn_r _ [120, 110, 121, 122, 123, 108, 124, 115, 116, 125, 126, 127, 128, 129, 130, 131, 132, 133, 134, 135, 136, 137, 138, 139, 140, 141, 142, 143, 144, 145, 146, 147, 148, 149, 150, 151, 152, 153] (by decide +kernel) (by decide +kernel)
set_option maxRecDepth 20000 in
theorem gX10_init_J0_charAt_5068e : GoodIn wsX10_init (wsV RX10 90 RJ0 yJ0_charAt_5068e wsJ0_charAt_5068e) := goodIn_app (goodIn_of _ (by decide +kernel)) ggX10_init_J0_charAt_5068e
set_option maxRecDepth 20000 in
theorem ggX10_init_X9_take : GoodIn wsX10_init wsX9_take := goodIn_r _ [157, 103, 158, 159, 160, 161, 39, 162, 163, 164, 165, 166, 280, 281, 282, 283, 284] (by decide +kernel) (by decide +kernel)
set_option maxRecDepth 20000 in
theorem gX10_init_X9_take : GoodIn wsX10_init (wsV RX10 94 RX9 yX9_take wsX9_take) := goodIn_app (goodIn_of _ (by decide +kernel)) ggX10_init_X9_take
set_option maxRecDepth 20000 in
theorem ggX10_init_X9_readInto : GoodIn wsX10_init wsX9_readInto := goodIn_r _ [170, 104, 171, 172, 158, 173, 174, 175, 18, 176, 177, 63, 178, 179, 180, 181, 182, 183, 184, 39, 185, 186, 187, 188, 189, 190, 191, 192, 193, 194, 195, 196, 103, 197, 198, 165, 199, 200, 201, 202, 203, 204, 205, 206, 58, 59, 207, 208, 209, 210, 211, 212, 213, 214, 215, 216, 217, 218, 219, 220, 221, 222, 223, 164, 166, 280, 281, 282, 283, 284, 247, 248, 249, 250, 251, 252, 253] (by decide +kernel) (by decide +kernel)
set_option maxRecDepth 20000 in
theorem gX10_init_X9_readInto : GoodIn wsX10_init (wsV RX10 98 RX9 yX9_readInto wsX9_readInto) := goodIn_app (goodIn_of _ (by decide +kernel)) ggX10_init_X9_readInto
theorem dX10_init_0 : decode cX10_init 0 = .ok (.aload_n 0, 1) := by decide +kernel
theorem dX10_init_1 : decode cX10_init 1 = .ok (.invokespecial 1, 3) := by decide +kernel
theorem dX10_init_4 : decode cX10_init 4 = .ok (.aload_n 0, 1) := by decide +kernel
theorem dX10_init_5 : decode cX10_init 5 = .ok (.iconst 3, 1) := by decide +kernel
theorem dX10_init_6 : decode cX10_init 6 = .ok (.anewarray 9, 3) := by decide +kernel
theorem dX10_init_9 : decode cX10_init 9 = .ok (.putfield 11, 3) := by decide +kernel
theorem dX10_init_12 : decode cX10_init 12 = .ok (.aload_n 0, 1) := by decide +kernel
theorem dX10_init_13 : decode cX10_init 13 = .ok (.new 15, 3) := by decide +kernel
theorem dX10_init_16 : decode cX10_init 16 = .ok (.dup, 1) := by decide +kernel
theorem dX10_init_17 : decode cX10_init 17 = .ok (.invokespecial 17, 3) := by decide +kernel
theorem dX10_init_20 : decode cX10_init 20 = .ok (.putfield 18, 3) := by decide +kernel
theorem dX10_init_23 : decode cX10_init 23 = .ok (.aload_n 0, 1) := by decide +kernel
theorem dX10_init_24 : decode cX10_init 24 = .ok (.new 22, 3) := by decide +kernel
theorem dX10_init_27 : decode cX10_init 27 = .ok (.dup, 1) := by decide +kernel
theorem dX10_init_28 : decode cX10_init 28 = .ok (.invokespecial 24, 3) := by decide +kernel
theorem dX10_init_31 : decode cX10_init 31 = .ok (.putfield 25, 3) := by decide +kernel
theorem dX10_init_34 : decode cX10_init 34 = .ok (.aload_n 0, 1) := by decide +kernel
theorem dX10_init_35 : decode cX10_init 35 = .ok (.bipush 6, 2) := by decide +kernel
theorem dX10_init_37 : decode cX10_init 37 = .ok (.anewarray 29, 3) := by decide +kernel
theorem dX10_init_40 : decode cX10_init 40 = .ok (.putfield 31, 3) := by decide +kernel
theorem dX10_init_43 : decode cX10_init 43 = .ok (.aload_n 0, 1) := by decide +kernel
theorem dX10_init_44 : decode cX10_init 44 = .ok (.new 35, 3) := by decide +kernel
theorem dX10_init_47 : decode cX10_init 47 = .ok (.dup, 1) := by decide +kernel
theorem dX10_init_48 : decode cX10_init 48 = .ok (.invokespecial 37, 3) := by decide +kernel
theorem dX10_init_51 : decode cX10_init 51 = .ok (.putfield 38, 3) := by decide +kernel
theorem dX10_init_54 : decode cX10_init 54 = .ok (.iconst 0, 1) := by decide +kernel
theorem dX10_init_55 : decode cX10_init 55 = .ok (.istore_n 1, 1) := by decide +kernel
theorem dX10_init_56 : decode cX10_init 56 = .ok (.iload_n 1, 1) := by decide +kernel
theorem dX10_init_57 : decode cX10_init 57 = .ok (.aload_n 0, 1) := by decide +kernel
theorem dX10_init_58 : decode cX10_init 58 = .ok (.getfield 11, 3) := by decide +kernel
theorem dX10_init_61 : decode cX10_init 61 = .ok (.arraylength, 1) := by decide +kernel
theorem dX10_init_62 : decode cX10_init 62 = .ok (.if_icmp .ge 22, 3) := by decide +kernel
theorem dX10_init_65 : decode cX10_init 65 = .ok (.aload_n 0, 1) := by decide +kernel
theorem dX10_init_66 : decode cX10_init 66 = .ok (.getfield 11, 3) := by decide +kernel
theorem dX10_init_69 : decode cX10_init 69 = .ok (.iload_n 1, 1) := by decide +kernel
theorem dX10_init_70 : decode cX10_init 70 = .ok (.new 9, 3) := by decide +kernel
theorem dX10_init_73 : decode cX10_init 73 = .ok (.dup, 1) := by decide +kernel
theorem dX10_init_74 : decode cX10_init 74 = .ok (.invokespecial 42, 3) := by decide +kernel
theorem dX10_init_77 : decode cX10_init 77 = .ok (.aastore, 1) := by decide +kernel
theorem dX10_init_78 : decode cX10_init 78 = .ok (.iinc 1 1, 3) := by decide +kernel
theorem dX10_init_81 : decode cX10_init 81 = .ok (.goto (-25), 3) := by decide +kernel
theorem dX10_init_84 : decode cX10_init 84 = .ok (.iconst 0, 1) := by decide +kernel
theorem dX10_init_85 : decode cX10_init 85 = .ok (.istore_n 1, 1) := by decide +kernel
theorem dX10_init_86 : decode cX10_init 86 = .ok (.iload_n 1, 1) := by decide +kernel
theorem dX10_init_87 : decode cX10_init 87 = .ok (.aload_n 0, 1) := by decide +kernel
theorem dX10_init_88 : decode cX10_init 88 = .ok (.getfield 31, 3) := by decide +kernel
theorem dX10_init_91 : decode cX10_init 91 = .ok (.arraylength, 1) := by decide +kernel
theorem dX10_init_92 : decode cX10_init 92 = .ok (.if_icmp .ge 22, 3) := by decide +kernel
theorem dX10_init_95 : decode cX10_init 95 = .ok (.aload_n 0, 1) := by decide +kernel
theorem dX10_init_96 : decode cX10_init 96 = .ok (.getfield 31, 3) := by decide +kernel
theorem dX10_init_99 : decode cX10_init 99 = .ok (.iload_n 1, 1) := by decide +kernel
theorem dX10_init_100 : decode cX10_init 100 = .ok (.new 29, 3) := by decide +kernel
theorem dX10_init_103 : decode cX10_init 103 = .ok (.dup, 1) := by decide +kernel
theorem dX10_init_104 : decode cX10_init 104 = .ok (.invokespecial 43, 3) := by decide +kernel
theorem dX10_init_107 : decode cX10_init 107 = .ok (.aastore, 1) := by decide +kernel
theorem dX10_init_108 : decode cX10_init 108 = .ok (.iinc 1 1, 3) := by decide +kernel
theorem dX10_init_111 : decode cX10_init 111 = .ok (.goto (-25), 3) := by decide +kernel
theorem dX10_init_114 : decode cX10_init 114 = .ok (.new 9, 3) := by decide +kernel
theorem dX10_init_117 : decode cX10_init 117 = .ok (.dup, 1) := by decide +kernel
theorem dX10_init_118 : decode cX10_init 118 = .ok (.invokespecial 42, 3) := by decide +kernel
theorem dX10_init_121 : decode cX10_init 121 = .ok (.astore_n 1, 1) := by decide +kernel
theorem dX10_init_122 : decode cX10_init 122 = .ok (.aload_n 0, 1) := by decide +kernel
theorem dX10_init_123 : decode cX10_init 123 = .ok (.new 44, 3) := by decide +kernel
theorem dX10_init_126 : decode cX10_init 126 = .ok (.dup, 1) := by decide +kernel
theorem dX10_init_127 : decode cX10_init 127 = .ok (.new 35, 3) := by decide +kernel
theorem dX10_init_130 : decode cX10_init 130 = .ok (.dup, 1) := by decide +kernel
theorem dX10_init_131 : decode cX10_init 131 = .ok (.invokespecial 37, 3) := by decide +kernel
theorem dX10_init_134 : decode cX10_init 134 = .ok (.invokespecial 46, 3) := by decide +kernel
theorem dX10_init_137 : decode cX10_init 137 = .ok (.putfield 49, 3) := by decide +kernel
theorem dX10_init_140 : decode cX10_init 140 = .ok (.aload_n 0, 1) := by decide +kernel
theorem dX10_init_141 : decode cX10_init 141 = .ok (.new 53, 3) := by decide +kernel
theorem dX10_init_144 : decode cX10_init 144 = .ok (.dup, 1) := by decide +kernel
theorem dX10_init_145 : decode cX10_init 145 = .ok (.aload_n 1, 1) := by decide +kernel
theorem dX10_init_146 : decode cX10_init 146 = .ok (.invokespecial 55, 3) := by decide +kernel
theorem dX10_init_149 : decode cX10_init 149 = .ok (.putfield 58, 3) := by decide +kernel
theorem dX10_init_152 : decode cX10_init 152 = .ok (.aload_n 0, 1) := by decide +kernel
theorem dX10_init_153 : decode cX10_init 153 = .ok (.new 62, 3) := by decide +kernel
theorem dX10_init_156 : decode cX10_init 156 = .ok (.dup, 1) := by decide +kernel
theorem dX10_init_157 : decode cX10_init 157 = .ok (.aload_n 1, 1) := by decide +kernel
theorem dX10_init_158 : decode cX10_init 158 = .ok (.invokespecial 64, 3) := by decide +kernel
theorem dX10_init_161 : decode cX10_init 161 = .ok (.putfield 65, 3) := by decide +kernel
theorem dX10_init_164 : decode cX10_init 164 = .ok (.aload_n 0, 1) := by decide +kernel
theorem dX10_init_165 : decode cX10_init 165 = .ok (.new 62, 3) := by decide +kernel
theorem dX10_init_168 : decode cX10_init 168 = .ok (.dup, 1) := by decide +kernel
theorem dX10_init_169 : decode cX10_init 169 = .ok (.aload_n 1, 1) := by decide +kernel
theorem dX10_init_170 : decode cX10_init 170 = .ok (.invokespecial 64, 3) := by decide +kernel
theorem dX10_init_173 : decode cX10_init 173 = .ok (.putfield 69, 3) := by decide +kernel
theorem dX10_init_176 : decode cX10_init 176 = .ok (.aload_n 0, 1) := by decide +kernel
theorem dX10_init_177 : decode cX10_init 177 = .ok (.new 72, 3) := by decide +kernel
theorem dX10_init_180 : decode cX10_init 180 = .ok (.dup, 1) := by decide +kernel
theorem dX10_init_181 : decode cX10_init 181 = .ok (.aload_n 0, 1) := by decide +kernel
theorem dX10_init_182 : decode cX10_init 182 = .ok (.getfield 49, 3) := by decide +kernel
theorem dX10_init_185 : decode cX10_init 185 = .ok (.getfield 74, 3) := by decide +kernel
theorem dX10_init_188 : decode cX10_init 188 = .ok (.invokespecial 77, 3) := by decide +kernel
theorem dX10_init_191 : decode cX10_init 191 = .ok (.putfield 78, 3) := by decide +kernel
theorem dX10_init_194 : decode cX10_init 194 = .ok (.iconst 0, 1) := by decide +kernel
theorem dX10_init_195 : decode cX10_init 195 = .ok (.istore_n 2, 1) := by decide +kernel
theorem dX10_init_196 : decode cX10_init 196 = .ok (.iload_n 2, 1) := by decide +kernel
theorem dX10_init_197 : decode cX10_init 197 = .ok (.ldc 82, 2) := by decide +kernel
theorem dX10_init_199 : decode cX10_init 199 = .ok (.invokevirtual 84, 3) := by decide +kernel
theorem dX10_init_202 : decode cX10_init 202 = .ok (.if_icmp .ge 22, 3) := by decide +kernel
theorem dX10_init_205 : decode cX10_init 205 = .ok (.aload_n 0, 1) := by decide +kernel
theorem dX10_init_206 : decode cX10_init 206 = .ok (.getfield 78, 3) := by decide +kernel
theorem dX10_init_209 : decode cX10_init 209 = .ok (.ldc 82, 2) := by decide +kernel
theorem dX10_init_211 : decode cX10_init 211 = .ok (.iload_n 2, 1) := by decide +kernel
theorem dX10_init_212 : decode cX10_init 212 = .ok (.invokevirtual 90, 3) := by decide +kernel
theorem dX10_init_215 : decode cX10_init 215 = .ok (.invokevirtual 94, 3) := by decide +kernel
theorem dX10_init_218 : decode cX10_init 218 = .ok (.iinc 2 1, 3) := by decide +kernel
theorem dX10_init_221 : decode cX10_init 221 = .ok (.goto (-25), 3) := by decide +kernel
theorem dX10_init_224 : decode cX10_init 224 = .ok (.aload_n 0, 1) := by decide +kernel
theorem dX10_init_225 : decode cX10_init 225 = .ok (.getfield 78, 3) := by decide +kernel
theorem dX10_init_228 : decode cX10_init 228 = .ok (.aload_n 0, 1) := by decide +kernel
theorem dX10_init_229 : decode cX10_init 229 = .ok (.getfield 49, 3) := by decide +kernel
theorem dX10_init_232 : decode cX10_init 232 = .ok (.getfield 74, 3) := by decide +kernel
theorem dX10_init_235 : decode cX10_init 235 = .ok (.invokevirtual 98, 3) := by decide +kernel
theorem dX10_init_238 : decode cX10_init 238 = .ok (.pop, 1) := by decide +kernel
theorem dX10_init_239 : decode cX10_init 239 = .ok (.return_, 1) := by decide +kernel
set_option maxRecDepth 20000 in
theorem ggX10_line_X10_songAt : GoodIn wsX10_line wsX10_songAt := goodIn_r _ [5, 6, 7, 8, 4, 9, 32, 33, 34, 35, 36, 37, 38, 39, 40, 41, 42, 43] (by decide +kernel) (by decide +kernel)
set_option maxRecDepth 20000 in
theorem gX10_line_X10_songAt : GoodIn wsX10_line (wsV RX10 102 RX10 yX10_songAt wsX10_songAt) := goodIn_app (goodIn_of _ (by decide +kernel)) ggX10_line_X10_songAt
set_option maxRecDepth 20000 in
theorem ggX10_line_X8_mayBe : GoodIn wsX10_line wsX8_mayBe := goodIn_r _ [13, 8, 4, 9] (by decide +kernel) (by decide +kernel)
set_option maxRecDepth 20000 in
theorem gX10_line_X8_mayBe : GoodIn wsX10_line (va_wsS RX10 106 yX8_mayBe wsX8_mayBe) := goodIn_app (goodIn_of _ (by decide +kernel)) ggX10_line_X8_mayBe
set_option maxRecDepth 20000 in
theorem ggX10_line_X8_isFull : GoodIn wsX10_line wsX8_isFull := goodIn_r _ [17, 18, 44, 45, 46, 47, 48] (by decide +kernel) (by decide +kernel)
set_option maxRecDepth 20000 in
theorem gX10_line_X8_isFull : GoodIn wsX10_line (wsV RX10 110 RX8 yX8_isFull wsX8_isFull) := goodIn_app (goodIn_of _ (by decide +kernel)) ggX10_line_X8_isFull
set_option maxRecDepth 20000 in
theorem ggX10_line_X8_addLine : GoodIn wsX10_line wsX8_addLine := goodIn_r _ [22, 18, 23, 24, 25, 12, 26, 27, 28, 29, 30, 31, 44, 45, 46, 47, 48] (by decide +kernel) (by decide +kernel)
