set_option maxRecDepth 20000 in
theorem gX11_has_X11_isLine : GoodIn wsX11_has (wsV RX11 142 RX11 yX11_isLine wsX11_isLine) := goodIn_app (goodIn_of _ (by decide +kernel)) ggX11_has_X11_isLine
set_option maxRecDepth 20000 in
theorem ggX11_has_X11_in : GoodIn wsX11_has wsX11_in := goodIn_r _ [7] rfl (by decide +kernel)
set_option maxRecDepth 20000 in
theorem gX11_has_X11_in : GoodIn wsX11_has (va_wsS RX11 118 yX11_in wsX11_in) := goodIn_app (goodIn_of _ (by decide +kernel)) ggX11_has_X11_in
set_option maxRecDepth 20000 in
theorem ggX11_has_X11_bitAt : GoodIn wsX11_has wsX11_bitAt := goodIn_r _ [19, 20, 21, 22, 3, 23, 28, 29, 30, 31, 32, 33, 34, 35, 36, 37, 38, 39, 40, 41, 42, 43, 44, 45, 46, 47, 48, 49, 50, 51, 52, 53, 54, 55, 56, 57, 58, 59, 60, 61, 62, 63, 64, 65, 66, 67, 68, 69, 70, 71, 72, 73, 74, 75, 76, 77] rfl (by decide +kernel)
set_option maxRecDepth 20000 in
theorem gX11_has_X11_bitAt : GoodIn wsX11_has (wsV RX11 145 RX11 yX11_bitAt wsX11_bitAt) := goodIn_app (goodIn_of _ (by decide +kernel)) ggX11_has_X11_bitAt
set_option maxRecDepth 20000 in
theorem ggX11_has_X11_give : GoodIn wsX11_has wsX11_give := goodIn_r _ [27, 20, 21, 22, 3, 23, 28, 29, 30, 31, 32, 33, 34, 35, 36, 37, 38, 39, 40, 41, 42, 43, 44, 45, 46, 47, 48, 49, 50, 51, 52, 53, 54, 55, 56, 57, 58, 59, 60, 61, 62, 63, 64, 65, 66, 67, 68, 69, 70, 71, 72, 73, 74, 75, 76, 77] rfl (by decide +kernel)
set_option maxRecDepth 20000 in
theorem gX11_has_X11_give : GoodIn wsX11_has (wsV RX11 148 RX11 yX11_give wsX11_give) := goodIn_app (goodIn_of _ (by decide +kernel)) ggX11_has_X11_give
theorem dX11_has_0 : decode cX11_has 0 = .ok (.iload_n 1, 1) := by decide +kernel
theorem dX11_has_1 : decode cX11_has 1 = .ok (.invokestatic 139, 3) := by decide +kernel
theorem dX11_has_4 : decode cX11_has 4 = .ok (.ifCond .eq 30, 3) := by decide +kernel
theorem dX11_has_7 : decode cX11_has 7 = .ok (.aload_n 0, 1) := by decide +kernel
theorem dX11_has_8 : decode cX11_has 8 = .ok (.iload_n 2, 1) := by decide +kernel
theorem dX11_has_9 : decode cX11_has 9 = .ok (.invokevirtual 142, 3) := by decide +kernel
theorem dX11_has_12 : decode cX11_has 12 = .ok (.ifCond .eq 22, 3) := by decide +kernel
theorem dX11_has_15 : decode cX11_has 15 = .ok (.iload_n 3, 1) := by decide +kernel
theorem dX11_has_16 : decode cX11_has 16 = .ok (.iconst 0, 1) := by decide +kernel
theorem dX11_has_17 : decode cX11_has 17 = .ok (.iconst 1, 1) := by decide +kernel
theorem dX11_has_18 : decode cX11_has 18 = .ok (.invokestatic 118, 3) := by decide +kernel
theorem dX11_has_21 : decode cX11_has 21 = .ok (.ifCond .eq 13, 3) := by decide +kernel
theorem dX11_has_24 : decode cX11_has 24 = .ok (.iload 4, 2) := by decide +kernel
theorem dX11_has_26 : decode cX11_has 26 = .ok (.iconst 0, 1) := by decide +kernel
theorem dX11_has_27 : decode cX11_has 27 = .ok (.iconst 1, 1) := by decide +kernel
theorem dX11_has_28 : decode cX11_has 28 = .ok (.invokestatic 118, 3) := by decide +kernel
theorem dX11_has_31 : decode cX11_has 31 = .ok (.ifCond .ne 5, 3) := by decide +kernel
theorem dX11_has_34 : decode cX11_has 34 = .ok (.iconst (-1), 1) := by decide +kernel
theorem dX11_has_35 : decode cX11_has 35 = .ok (.ireturn, 1) := by decide +kernel
theorem dX11_has_36 : decode cX11_has 36 = .ok (.aload_n 0, 1) := by decide +kernel
theorem dX11_has_37 : decode cX11_has 37 = .ok (.iload_n 2, 1) := by decide +kernel
theorem dX11_has_38 : decode cX11_has 38 = .ok (.bipush 100, 2) := by decide +kernel
theorem dX11_has_40 : decode cX11_has 40 = .ok (.idiv, 1) := by decide +kernel
theorem dX11_has_41 : decode cX11_has 41 = .ok (.iload_n 1, 1) := by decide +kernel
theorem dX11_has_42 : decode cX11_has 42 = .ok (.iload_n 2, 1) := by decide +kernel
theorem dX11_has_43 : decode cX11_has 43 = .ok (.bipush 100, 2) := by decide +kernel
theorem dX11_has_45 : decode cX11_has 45 = .ok (.irem, 1) := by decide +kernel
theorem dX11_has_46 : decode cX11_has 46 = .ok (.iload_n 3, 1) := by decide +kernel
theorem dX11_has_47 : decode cX11_has 47 = .ok (.invokevirtual 145, 3) := by decide +kernel
theorem dX11_has_50 : decode cX11_has 50 = .ok (.istore 5, 2) := by decide +kernel
theorem dX11_has_52 : decode cX11_has 52 = .ok (.aload_n 0, 1) := by decide +kernel
theorem dX11_has_53 : decode cX11_has 53 = .ok (.iload_n 2, 1) := by decide +kernel
theorem dX11_has_54 : decode cX11_has 54 = .ok (.bipush 100, 2) := by decide +kernel
theorem dX11_has_56 : decode cX11_has 56 = .ok (.idiv, 1) := by decide +kernel
theorem dX11_has_57 : decode cX11_has 57 = .ok (.iload_n 1, 1) := by decide +kernel
theorem dX11_has_58 : decode cX11_has 58 = .ok (.iload_n 2, 1) := by decide +kernel
theorem dX11_has_59 : decode cX11_has 59 = .ok (.bipush 100, 2) := by decide +kernel
theorem dX11_has_61 : decode cX11_has 61 = .ok (.irem, 1) := by decide +kernel
theorem dX11_has_62 : decode cX11_has 62 = .ok (.iload_n 3, 1) := by decide +kernel
theorem dX11_has_63 : decode cX11_has 63 = .ok (.iload 4, 2) := by decide +kernel
theorem dX11_has_65 : decode cX11_has 65 = .ok (.invokevirtual 148, 3) := by decide +kernel
theorem dX11_has_68 : decode cX11_has 68 = .ok (.iload 5, 2) := by decide +kernel
theorem dX11_has_70 : decode cX11_has 70 = .ok (.ireturn, 1) := by decide +kernel
set_option maxRecDepth 20000 in
theorem ggX11_valueAt_X11_spotAt : GoodIn wsX11_valueAt wsX11_spotAt := goodIn_r _ [9] rfl (by decide +kernel)
set_option maxRecDepth 20000 in
theorem gX11_valueAt_X11_spotAt : GoodIn wsX11_valueAt (va_wsS RX11 152 yX11_spotAt wsX11_spotAt) := goodIn_app (goodIn_of _ (by decide +kernel)) ggX11_valueAt_X11_spotAt
theorem dX11_valueAt_0 : decode cX11_valueAt 0 = .ok (.iload_n 1, 1) := by decide +kernel
theorem dX11_valueAt_1 : decode cX11_valueAt 1 = .ok (.tableswitch 68 0 3 #[31, 41, 51, 61], 31) := by decide +kernel
theorem dX11_valueAt_32 : decode cX11_valueAt 32 = .ok (.aload_n 0, 1) := by decide +kernel
theorem dX11_valueAt_33 : decode cX11_valueAt 33 = .ok (.getfield 15, 3) := by decide +kernel
theorem dX11_valueAt_36 : decode cX11_valueAt 36 = .ok (.iload_n 2, 1) := by decide +kernel
theorem dX11_valueAt_37 : decode cX11_valueAt 37 = .ok (.invokestatic 152, 3) := by decide +kernel
theorem dX11_valueAt_40 : decode cX11_valueAt 40 = .ok (.iaload, 1) := by decide +kernel
theorem dX11_valueAt_41 : decode cX11_valueAt 41 = .ok (.ireturn, 1) := by decide +kernel
theorem dX11_valueAt_42 : decode cX11_valueAt 42 = .ok (.aload_n 0, 1) := by decide +kernel
theorem dX11_valueAt_43 : decode cX11_valueAt 43 = .ok (.getfield 18, 3) := by decide +kernel
theorem dX11_valueAt_46 : decode cX11_valueAt 46 = .ok (.iload_n 2, 1) := by decide +kernel
theorem dX11_valueAt_47 : decode cX11_valueAt 47 = .ok (.invokestatic 152, 3) := by decide +kernel
theorem dX11_valueAt_50 : decode cX11_valueAt 50 = .ok (.iaload, 1) := by decide +kernel
theorem dX11_valueAt_51 : decode cX11_valueAt 51 = .ok (.ireturn, 1) := by decide +kernel
theorem dX11_valueAt_52 : decode cX11_valueAt 52 = .ok (.aload_n 0, 1) := by decide +kernel
theorem dX11_valueAt_53 : decode cX11_valueAt 53 = .ok (.getfield 21, 3) := by decide +kernel
theorem dX11_valueAt_56 : decode cX11_valueAt 56 = .ok (.iload_n 2, 1) := by decide +kernel
theorem dX11_valueAt_57 : decode cX11_valueAt 57 = .ok (.invokestatic 152, 3) := by decide +kernel
theorem dX11_valueAt_60 : decode cX11_valueAt 60 = .ok (.iaload, 1) := by decide +kernel
theorem dX11_valueAt_61 : decode cX11_valueAt 61 = .ok (.ireturn, 1) := by decide +kernel
theorem dX11_valueAt_62 : decode cX11_valueAt 62 = .ok (.aload_n 0, 1) := by decide +kernel
theorem dX11_valueAt_63 : decode cX11_valueAt 63 = .ok (.getfield 27, 3) := by decide +kernel
theorem dX11_valueAt_66 : decode cX11_valueAt 66 = .ok (.iload_n 2, 1) := by decide +kernel
theorem dX11_valueAt_67 : decode cX11_valueAt 67 = .ok (.iaload, 1) := by decide +kernel
theorem dX11_valueAt_68 : decode cX11_valueAt 68 = .ok (.ireturn, 1) := by decide +kernel
theorem dX11_valueAt_69 : decode cX11_valueAt 69 = .ok (.aload_n 0, 1) := by decide +kernel
theorem dX11_valueAt_70 : decode cX11_valueAt 70 = .ok (.getfield 156, 3) := by decide +kernel
theorem dX11_valueAt_73 : decode cX11_valueAt 73 = .ok (.ireturn, 1) := by decide +kernel
set_option maxRecDepth 20000 in
theorem ggX11_lays_X11_spotAt : GoodIn wsX11_lays wsX11_spotAt := goodIn_r _ [9] rfl (by decide +kernel)
set_option maxRecDepth 20000 in
theorem gX11_lays_X11_spotAt : GoodIn wsX11_lays (va_wsS RX11 152 yX11_spotAt wsX11_spotAt) := goodIn_app (goodIn_of _ (by decide +kernel)) ggX11_lays_X11_spotAt
theorem dX11_lays_0 : decode cX11_lays 0 = .ok (.iload_n 1, 1) := by decide +kernel
theorem dX11_lays_1 : decode cX11_lays 1 = .ok (.tableswitch 80 0 3 #[31, 44, 57, 70], 31) := by decide +kernel
theorem dX11_lays_32 : decode cX11_lays 32 = .ok (.aload_n 0, 1) := by decide +kernel
theorem dX11_lays_33 : decode cX11_lays 33 = .ok (.getfield 15, 3) := by decide +kernel
theorem dX11_lays_36 : decode cX11_lays 36 = .ok (.iload_n 2, 1) := by decide +kernel
theorem dX11_lays_37 : decode cX11_lays 37 = .ok (.invokestatic 152, 3) := by decide +kernel
theorem dX11_lays_40 : decode cX11_lays 40 = .ok (.iload_n 3, 1) := by decide +kernel
theorem dX11_lays_41 : decode cX11_lays 41 = .ok (.iastore, 1) := by decide +kernel
theorem dX11_lays_42 : decode cX11_lays 42 = .ok (.goto 44, 3) := by decide +kernel
theorem dX11_lays_45 : decode cX11_lays 45 = .ok (.aload_n 0, 1) := by decide +kernel
theorem dX11_lays_46 : decode cX11_lays 46 = .ok (.getfield 18, 3) := by decide +kernel
theorem dX11_lays_49 : decode cX11_lays 49 = .ok (.iload_n 2, 1) := by decide +kernel
theorem dX11_lays_50 : decode cX11_lays 50 = .ok (.invokestatic 152, 3) := by decide +kernel
theorem dX11_lays_53 : decode cX11_lays 53 = .ok (.iload_n 3, 1) := by decide +kernel
theorem dX11_lays_54 : decode cX11_lays 54 = .ok (.iastore, 1) := by decide +kernel
theorem dX11_lays_55 : decode cX11_lays 55 = .ok (.goto 31, 3) := by decide +kernel
theorem dX11_lays_58 : decode cX11_lays 58 = .ok (.aload_n 0, 1) := by decide +kernel
theorem dX11_lays_59 : decode cX11_lays 59 = .ok (.getfield 21, 3) := by decide +kernel
theorem dX11_lays_62 : decode cX11_lays 62 = .ok (.iload_n 2, 1) := by decide +kernel
theorem dX11_lays_63 : decode cX11_lays 63 = .ok (.invokestatic 152, 3) := by decide +kernel
theorem dX11_lays_66 : decode cX11_lays 66 = .ok (.iload_n 3, 1) := by decide +kernel
theorem dX11_lays_67 : decode cX11_lays 67 = .ok (.iastore, 1) := by decide +kernel
theorem dX11_lays_68 : decode cX11_lays 68 = .ok (.goto 18, 3) := by decide +kernel
theorem dX11_lays_71 : decode cX11_lays 71 = .ok (.aload_n 0, 1) := by decide +kernel
theorem dX11_lays_72 : decode cX11_lays 72 = .ok (.getfield 27, 3) := by decide +kernel
theorem dX11_lays_75 : decode cX11_lays 75 = .ok (.iload_n 2, 1) := by decide +kernel
theorem dX11_lays_76 : decode cX11_lays 76 = .ok (.iload_n 3, 1) := by decide +kernel
theorem dX11_lays_77 : decode cX11_lays 77 = .ok (.iastore, 1) := by decide +kernel
theorem dX11_lays_78 : decode cX11_lays 78 = .ok (.goto 8, 3) := by decide +kernel
theorem dX11_lays_81 : decode cX11_lays 81 = .ok (.aload_n 0, 1) := by decide +kernel
theorem dX11_lays_82 : decode cX11_lays 82 = .ok (.iload_n 3, 1) := by decide +kernel
theorem dX11_lays_83 : decode cX11_lays 83 = .ok (.putfield 156, 3) := by decide +kernel
theorem dX11_lays_86 : decode cX11_lays 86 = .ok (.return_, 1) := by decide +kernel
set_option maxRecDepth 20000 in
theorem ggX11_changes_X11_valueAt : GoodIn wsX11_changes wsX11_valueAt := goodIn_r _ [11, 12, 13, 14, 15, 16, 17, 18, 10, 19, 24, 25, 26, 27, 28, 29, 30, 31, 32, 33, 34, 35, 36, 37, 38, 39, 40, 41, 42, 43, 44, 45, 46, 47, 48, 49, 50, 51, 52, 53, 54, 55, 56, 57, 58, 59, 60, 61, 62, 63, 64, 65, 66, 67, 68, 69, 70, 71, 72, 73] rfl (by decide +kernel)
set_option maxRecDepth 20000 in
theorem gX11_changes_X11_valueAt : GoodIn wsX11_changes (wsV RX11 159 RX11 yX11_valueAt wsX11_valueAt) := goodIn_app (goodIn_of _ (by decide +kernel)) ggX11_changes_X11_valueAt
set_option maxRecDepth 20000 in
theorem ggX11_changes_X11_lays : GoodIn wsX11_changes wsX11_lays := goodIn_r _ [23, 12, 13, 14, 15, 16, 17, 18, 10, 19, 24, 25, 26, 27, 28, 29, 30, 31, 32, 33, 34, 35, 36, 37, 38, 39, 40, 41, 42, 43, 44, 45, 46, 47, 48, 49, 50, 51, 52, 53, 54, 55, 56, 57, 58, 59, 60, 61, 62, 63, 64, 65, 66, 67, 68, 69, 70, 71, 72, 73] rfl (by decide +kernel)
set_option maxRecDepth 20000 in
theorem gX11_changes_X11_lays : GoodIn wsX11_changes (wsV RX11 169 RX11 yX11_lays wsX11_lays) := goodIn_app (goodIn_of _ (by decide +kernel)) ggX11_changes_X11_lays
theorem dX11_changes_0 : decode cX11_changes 0 = .ok (.aload_n 0, 1) := by decide +kernel
theorem dX11_changes_1 : decode cX11_changes 1 = .ok (.iload_n 1, 1) := by decide +kernel
theorem dX11_changes_2 : decode cX11_changes 2 = .ok (.iload_n 2, 1) := by decide +kernel
theorem dX11_changes_3 : decode cX11_changes 3 = .ok (.invokevirtual 159, 3) := by decide +kernel
theorem dX11_changes_6 : decode cX11_changes 6 = .ok (.istore 4, 2) := by decide +kernel
theorem dX11_changes_8 : decode cX11_changes 8 = .ok (.iload 4, 2) := by decide +kernel
theorem dX11_changes_10 : decode cX11_changes 10 = .ok (.iload_n 3, 1) := by decide +kernel
theorem dX11_changes_11 : decode cX11_changes 11 = .ok (.if_icmp .ne 6, 3) := by decide +kernel
theorem dX11_changes_14 : decode cX11_changes 14 = .ok (.iload 4, 2) := by decide +kernel
theorem dX11_changes_16 : decode cX11_changes 16 = .ok (.ireturn, 1) := by decide +kernel
theorem dX11_changes_17 : decode cX11_changes 17 = .ok (.aload_n 0, 1) := by decide +kernel
theorem dX11_changes_18 : decode cX11_changes 18 = .ok (.iconst 0, 1) := by decide +kernel
theorem dX11_changes_19 : decode cX11_changes 19 = .ok (.putfield 163, 3) := by decide +kernel
theorem dX11_changes_22 : decode cX11_changes 22 = .ok (.aload_n 0, 1) := by decide +kernel
theorem dX11_changes_23 : decode cX11_changes 23 = .ok (.getfield 166, 3) := by decide +kernel
theorem dX11_changes_26 : decode cX11_changes 26 = .ok (.bipush 40, 2) := by decide +kernel
theorem dX11_changes_28 : decode cX11_changes 28 = .ok (.if_icmp .ne 93, 3) := by decide +kernel
theorem dX11_changes_31 : decode cX11_changes 31 = .ok (.iconst 1, 1) := by decide +kernel
theorem dX11_changes_32 : decode cX11_changes 32 = .ok (.istore 5, 2) := by decide +kernel
theorem dX11_changes_34 : decode cX11_changes 34 = .ok (.iload 5, 2) := by decide +kernel
theorem dX11_changes_36 : decode cX11_changes 36 = .ok (.bipush 40, 2) := by decide +kernel
theorem dX11_changes_38 : decode cX11_changes 38 = .ok (.if_icmp .ge 73, 3) := by decide +kernel
theorem dX11_changes_41 : decode cX11_changes 41 = .ok (.aload_n 0, 1) := by decide +kernel
theorem dX11_changes_42 : decode cX11_changes 42 = .ok (.getfield 30, 3) := by decide +kernel
theorem dX11_changes_45 : decode cX11_changes 45 = .ok (.iload 5, 2) := by decide +kernel
theorem dX11_changes_47 : decode cX11_changes 47 = .ok (.iconst 1, 1) := by decide +kernel
theorem dX11_changes_48 : decode cX11_changes 48 = .ok (.isub, 1) := by decide +kernel
theorem dX11_changes_49 : decode cX11_changes 49 = .ok (.aload_n 0, 1) := by decide +kernel
theorem dX11_changes_50 : decode cX11_changes 50 = .ok (.getfield 30, 3) := by decide +kernel
theorem dX11_changes_53 : decode cX11_changes 53 = .ok (.iload 5, 2) := by decide +kernel
theorem dX11_changes_55 : decode cX11_changes 55 = .ok (.iaload, 1) := by decide +kernel
theorem dX11_changes_56 : decode cX11_changes 56 = .ok (.iastore, 1) := by decide +kernel
theorem dX11_changes_57 : decode cX11_changes 57 = .ok (.aload_n 0, 1) := by decide +kernel
theorem dX11_changes_58 : decode cX11_changes 58 = .ok (.getfield 33, 3) := by decide +kernel
theorem dX11_changes_61 : decode cX11_changes 61 = .ok (.iload 5, 2) := by decide +kernel
theorem dX11_changes_63 : decode cX11_changes 63 = .ok (.iconst 1, 1) := by decide +kernel
theorem dX11_changes_64 : decode cX11_changes 64 = .ok (.isub, 1) := by decide +kernel
theorem dX11_changes_65 : decode cX11_changes 65 = .ok (.aload_n 0, 1) := by decide +kernel
theorem dX11_changes_66 : decode cX11_changes 66 = .ok (.getfield 33, 3) := by decide +kernel
theorem dX11_changes_69 : decode cX11_changes 69 = .ok (.iload 5, 2) := by decide +kernel
theorem dX11_changes_71 : decode cX11_changes 71 = .ok (.iaload, 1) := by decide +kernel
theorem dX11_changes_72 : decode cX11_changes 72 = .ok (.iastore, 1) := by decide +kernel
theorem dX11_changes_73 : decode cX11_changes 73 = .ok (.aload_n 0, 1) := by decide +kernel
theorem dX11_changes_74 : decode cX11_changes 74 = .ok (.getfield 36, 3) := by decide +kernel
theorem dX11_changes_77 : decode cX11_changes 77 = .ok (.iload 5, 2) := by decide +kernel
theorem dX11_changes_79 : decode cX11_changes 79 = .ok (.iconst 1, 1) := by decide +kernel
theorem dX11_changes_80 : decode cX11_changes 80 = .ok (.isub, 1) := by decide +kernel
theorem dX11_changes_81 : decode cX11_changes 81 = .ok (.aload_n 0, 1) := by decide +kernel
theorem dX11_changes_82 : decode cX11_changes 82 = .ok (.getfield 36, 3) := by decide +kernel
theorem dX11_changes_85 : decode cX11_changes 85 = .ok (.iload 5, 2) := by decide +kernel
theorem dX11_changes_87 : decode cX11_changes 87 = .ok (.iaload, 1) := by decide +kernel
theorem dX11_changes_88 : decode cX11_changes 88 = .ok (.iastore, 1) := by decide +kernel
theorem dX11_changes_89 : decode cX11_changes 89 = .ok (.aload_n 0, 1) := by decide +kernel
theorem dX11_changes_90 : decode cX11_changes 90 = .ok (.getfield 39, 3) := by decide +kernel
theorem dX11_changes_93 : decode cX11_changes 93 = .ok (.iload 5, 2) := by decide +kernel
theorem dX11_changes_95 : decode cX11_changes 95 = .ok (.iconst 1, 1) := by decide +kernel
theorem dX11_changes_96 : decode cX11_changes 96 = .ok (.isub, 1) := by decide +kernel
theorem dX11_changes_97 : decode cX11_changes 97 = .ok (.aload_n 0, 1) := by decide +kernel
theorem dX11_changes_98 : decode cX11_changes 98 = .ok (.getfield 39, 3) := by decide +kernel
theorem dX11_changes_101 : decode cX11_changes 101 = .ok (.iload 5, 2) := by decide +kernel
theorem dX11_changes_103 : decode cX11_changes 103 = .ok (.iaload, 1) := by decide +kernel
theorem dX11_changes_104 : decode cX11_changes 104 = .ok (.iastore, 1) := by decide +kernel
theorem dX11_changes_105 : decode cX11_changes 105 = .ok (.iinc 5 1, 3) := by decide +kernel
theorem dX11_changes_108 : decode cX11_changes 108 = .ok (.goto (-74), 3) := by decide +kernel
theorem dX11_changes_111 : decode cX11_changes 111 = .ok (.aload_n 0, 1) := by decide +kernel
theorem dX11_changes_112 : decode cX11_changes 112 = .ok (.dup, 1) := by decide +kernel
theorem dX11_changes_113 : decode cX11_changes 113 = .ok (.getfield 166, 3) := by decide +kernel
theorem dX11_changes_116 : decode cX11_changes 116 = .ok (.iconst 1, 1) := by decide +kernel
theorem dX11_changes_117 : decode cX11_changes 117 = .ok (.isub, 1) := by decide +kernel
theorem dX11_changes_118 : decode cX11_changes 118 = .ok (.putfield 166, 3) := by decide +kernel
theorem dX11_changes_121 : decode cX11_changes 121 = .ok (.aload_n 0, 1) := by decide +kernel
theorem dX11_changes_122 : decode cX11_changes 122 = .ok (.getfield 30, 3) := by decide +kernel
theorem dX11_changes_125 : decode cX11_changes 125 = .ok (.aload_n 0, 1) := by decide +kernel
theorem dX11_changes_126 : decode cX11_changes 126 = .ok (.getfield 166, 3) := by decide +kernel
theorem dX11_changes_129 : decode cX11_changes 129 = .ok (.iload_n 1, 1) := by decide +kernel
theorem dX11_changes_130 : decode cX11_changes 130 = .ok (.iastore, 1) := by decide +kernel
theorem dX11_changes_131 : decode cX11_changes 131 = .ok (.aload_n 0, 1) := by decide +kernel
theorem dX11_changes_132 : decode cX11_changes 132 = .ok (.getfield 33, 3) := by decide +kernel
theorem dX11_changes_135 : decode cX11_changes 135 = .ok (.aload_n 0, 1) := by decide +kernel
theorem dX11_changes_136 : decode cX11_changes 136 = .ok (.getfield 166, 3) := by decide +kernel
theorem dX11_changes_139 : decode cX11_changes 139 = .ok (.iload_n 2, 1) := by decide +kernel
theorem dX11_changes_140 : decode cX11_changes 140 = .ok (.iastore, 1) := by decide +kernel
theorem dX11_changes_141 : decode cX11_changes 141 = .ok (.aload_n 0, 1) := by decide +kernel
theorem dX11_changes_142 : decode cX11_changes 142 = .ok (.getfield 36, 3) := by decide +kernel
theorem dX11_changes_145 : decode cX11_changes 145 = .ok (.aload_n 0, 1) := by decide +kernel
theorem dX11_changes_146 : decode cX11_changes 146 = .ok (.getfield 166, 3) := by decide +kernel
theorem dX11_changes_149 : decode cX11_changes 149 = .ok (.iload 4, 2) := by decide +kernel
theorem dX11_changes_151 : decode cX11_changes 151 = .ok (.iastore, 1) := by decide +kernel
theorem dX11_changes_152 : decode cX11_changes 152 = .ok (.aload_n 0, 1) := by decide +kernel
theorem dX11_changes_153 : decode cX11_changes 153 = .ok (.getfield 39, 3) := by decide +kernel
theorem dX11_changes_156 : decode cX11_changes 156 = .ok (.aload_n 0, 1) := by decide +kernel
theorem dX11_changes_157 : decode cX11_changes 157 = .ok (.getfield 166, 3) := by decide +kernel
theorem dX11_changes_160 : decode cX11_changes 160 = .ok (.iload_n 3, 1) := by decide +kernel
theorem dX11_changes_161 : decode cX11_changes 161 = .ok (.iastore, 1) := by decide +kernel
theorem dX11_changes_162 : decode cX11_changes 162 = .ok (.aload_n 0, 1) := by decide +kernel
theorem dX11_changes_163 : decode cX11_changes 163 = .ok (.dup, 1) := by decide +kernel
theorem dX11_changes_164 : decode cX11_changes 164 = .ok (.getfield 166, 3) := by decide +kernel
theorem dX11_changes_167 : decode cX11_changes 167 = .ok (.iconst 1, 1) := by decide +kernel
theorem dX11_changes_168 : decode cX11_changes 168 = .ok (.iadd, 1) := by decide +kernel
theorem dX11_changes_169 : decode cX11_changes 169 = .ok (.putfield 166, 3) := by decide +kernel
theorem dX11_changes_172 : decode cX11_changes 172 = .ok (.aload_n 0, 1) := by decide +kernel
theorem dX11_changes_173 : decode cX11_changes 173 = .ok (.iload_n 1, 1) := by decide +kernel
theorem dX11_changes_174 : decode cX11_changes 174 = .ok (.iload_n 2, 1) := by decide +kernel
theorem dX11_changes_175 : decode cX11_changes 175 = .ok (.iload_n 3, 1) := by decide +kernel
theorem dX11_changes_176 : decode cX11_changes 176 = .ok (.invokevirtual 169, 3) := by decide +kernel
theorem dX11_changes_179 : decode cX11_changes 179 = .ok (.iload 4, 2) := by decide +kernel
theorem dX11_changes_181 : decode cX11_changes 181 = .ok (.ireturn, 1) := by decide +kernel
set_option maxRecDepth 20000 in
theorem ggX11_undo_X11_lays : GoodIn wsX11_undo wsX11_lays := goodIn_r _ [10, 11, 12, 13, 14, 15, 16, 17, 9, 18, 19, 20, 21, 22, 23, 24, 25, 26, 27, 28, 29, 30, 31, 32, 33, 34, 35, 36, 37, 38, 39, 40, 41, 42, 43, 44, 45, 46, 47, 48, 49, 50, 51, 52, 53, 54, 55, 56, 57, 58, 59, 60, 61, 62, 63, 64, 65, 66, 67, 68] rfl (by decide +kernel)
set_option maxRecDepth 20000 in
theorem gX11_undo_X11_lays : GoodIn wsX11_undo (wsV RX11 169 RX11 yX11_lays wsX11_lays) := goodIn_app (goodIn_of _ (by decide +kernel)) ggX11_undo_X11_lays
theorem dX11_undo_0 : decode cX11_undo 0 = .ok (.aload_n 0, 1) := by decide +kernel
theorem dX11_undo_1 : decode cX11_undo 1 = .ok (.getfield 166, 3) := by decide +kernel
theorem dX11_undo_4 : decode cX11_undo 4 = .ok (.ifCond .ne 6, 3) := by decide +kernel
theorem dX11_undo_7 : decode cX11_undo 7 = .ok (.bipush (-5), 2) := by decide +kernel
theorem dX11_undo_9 : decode cX11_undo 9 = .ok (.ireturn, 1) := by decide +kernel
theorem dX11_undo_10 : decode cX11_undo 10 = .ok (.aload_n 0, 1) := by decide +kernel
theorem dX11_undo_11 : decode cX11_undo 11 = .ok (.dup, 1) := by decide +kernel
theorem dX11_undo_12 : decode cX11_undo 12 = .ok (.getfield 166, 3) := by decide +kernel
theorem dX11_undo_15 : decode cX11_undo 15 = .ok (.iconst 1, 1) := by decide +kernel
theorem dX11_undo_16 : decode cX11_undo 16 = .ok (.isub, 1) := by decide +kernel
theorem dX11_undo_17 : decode cX11_undo 17 = .ok (.putfield 166, 3) := by decide +kernel
theorem dX11_undo_20 : decode cX11_undo 20 = .ok (.aload_n 0, 1) := by decide +kernel
theorem dX11_undo_21 : decode cX11_undo 21 = .ok (.dup, 1) := by decide +kernel
theorem dX11_undo_22 : decode cX11_undo 22 = .ok (.getfield 163, 3) := by decide +kernel
theorem dX11_undo_25 : decode cX11_undo 25 = .ok (.iconst 1, 1) := by decide +kernel
theorem dX11_undo_26 : decode cX11_undo 26 = .ok (.iadd, 1) := by decide +kernel
theorem dX11_undo_27 : decode cX11_undo 27 = .ok (.putfield 163, 3) := by decide +kernel
theorem dX11_undo_30 : decode cX11_undo 30 = .ok (.aload_n 0, 1) := by decide +kernel
theorem dX11_undo_31 : decode cX11_undo 31 = .ok (.aload_n 0, 1) := by decide +kernel
theorem dX11_undo_32 : decode cX11_undo 32 = .ok (.getfield 30, 3) := by decide +kernel
theorem dX11_undo_35 : decode cX11_undo 35 = .ok (.aload_n 0, 1) := by decide +kernel
theorem dX11_undo_36 : decode cX11_undo 36 = .ok (.getfield 166, 3) := by decide +kernel
theorem dX11_undo_39 : decode cX11_undo 39 = .ok (.iaload, 1) := by decide +kernel
theorem dX11_undo_40 : decode cX11_undo 40 = .ok (.aload_n 0, 1) := by decide +kernel
theorem dX11_undo_41 : decode cX11_undo 41 = .ok (.getfield 33, 3) := by decide +kernel
theorem dX11_undo_44 : decode cX11_undo 44 = .ok (.aload_n 0, 1) := by decide +kernel
theorem dX11_undo_45 : decode cX11_undo 45 = .ok (.getfield 166, 3) := by decide +kernel
theorem dX11_undo_48 : decode cX11_undo 48 = .ok (.iaload, 1) := by decide +kernel
theorem dX11_undo_49 : decode cX11_undo 49 = .ok (.aload_n 0, 1) := by decide +kernel
theorem dX11_undo_50 : decode cX11_undo 50 = .ok (.getfield 36, 3) := by decide +kernel
theorem dX11_undo_53 : decode cX11_undo 53 = .ok (.aload_n 0, 1) := by decide +kernel
theorem dX11_undo_54 : decode cX11_undo 54 = .ok (.getfield 166, 3) := by decide +kernel
theorem dX11_undo_57 : decode cX11_undo 57 = .ok (.iaload, 1) := by decide +kernel
theorem dX11_undo_58 : decode cX11_undo 58 = .ok (.invokevirtual 169, 3) := by decide +kernel
theorem dX11_undo_61 : decode cX11_undo 61 = .ok (.aload_n 0, 1) := by decide +kernel
theorem dX11_undo_62 : decode cX11_undo 62 = .ok (.getfield 166, 3) := by decide +kernel
theorem dX11_undo_65 : decode cX11_undo 65 = .ok (.ireturn, 1) := by decide +kernel
set_option maxRecDepth 20000 in
theorem ggX11_redo_X11_lays : GoodIn wsX11_redo wsX11_lays := goodIn_r _ [10, 11, 12, 13, 14, 15, 16, 17, 9, 18, 19, 20, 21, 22, 23, 24, 25, 26, 27, 28, 29, 30, 31, 32, 33, 34, 35, 36, 37, 38, 39, 40, 41, 42, 43, 44, 45, 46, 47, 48, 49, 50, 51, 52, 53, 54, 55, 56, 57, 58, 59, 60, 61, 62, 63, 64, 65, 66, 67, 68] rfl (by decide +kernel)
set_option maxRecDepth 20000 in
theorem gX11_redo_X11_lays : GoodIn wsX11_redo (wsV RX11 169 RX11 yX11_lays wsX11_lays) := goodIn_app (goodIn_of _ (by decide +kernel)) ggX11_redo_X11_lays
theorem dX11_redo_0 : decode cX11_redo 0 = .ok (.aload_n 0, 1) := by decide +kernel
theorem dX11_redo_1 : decode cX11_redo 1 = .ok (.getfield 163, 3) := by decide +kernel
theorem dX11_redo_4 : decode cX11_redo 4 = .ok (.ifCond .ne 6, 3) := by decide +kernel
theorem dX11_redo_7 : decode cX11_redo 7 = .ok (.bipush (-5), 2) := by decide +kernel
theorem dX11_redo_9 : decode cX11_redo 9 = .ok (.ireturn, 1) := by decide +kernel
theorem dX11_redo_10 : decode cX11_redo 10 = .ok (.aload_n 0, 1) := by decide +kernel
theorem dX11_redo_11 : decode cX11_redo 11 = .ok (.aload_n 0, 1) := by decide +kernel
theorem dX11_redo_12 : decode cX11_redo 12 = .ok (.getfield 30, 3) := by decide +kernel
theorem dX11_redo_15 : decode cX11_redo 15 = .ok (.aload_n 0, 1) := by decide +kernel
theorem dX11_redo_16 : decode cX11_redo 16 = .ok (.getfield 166, 3) := by decide +kernel
theorem dX11_redo_19 : decode cX11_redo 19 = .ok (.iaload, 1) := by decide +kernel
theorem dX11_redo_20 : decode cX11_redo 20 = .ok (.aload_n 0, 1) := by decide +kernel
theorem dX11_redo_21 : decode cX11_redo 21 = .ok (.getfield 33, 3) := by decide +kernel
theorem dX11_redo_24 : decode cX11_redo 24 = .ok (.aload_n 0, 1) := by decide +kernel
theorem dX11_redo_25 : decode cX11_redo 25 = .ok (.getfield 166, 3) := by decide +kernel
theorem dX11_redo_28 : decode cX11_redo 28 = .ok (.iaload, 1) := by decide +kernel
theorem dX11_redo_29 : decode cX11_redo 29 = .ok (.aload_n 0, 1) := by decide +kernel
theorem dX11_redo_30 : decode cX11_redo 30 = .ok (.getfield 39, 3) := by decide +kernel
theorem dX11_redo_33 : decode cX11_redo 33 = .ok (.aload_n 0, 1) := by decide +kernel
theorem dX11_redo_34 : decode cX11_redo 34 = .ok (.getfield 166, 3) := by decide +kernel
theorem dX11_redo_37 : decode cX11_redo 37 = .ok (.iaload, 1) := by decide +kernel
theorem dX11_redo_38 : decode cX11_redo 38 = .ok (.invokevirtual 169, 3) := by decide +kernel
theorem dX11_redo_41 : decode cX11_redo 41 = .ok (.aload_n 0, 1) := by decide +kernel
theorem dX11_redo_42 : decode cX11_redo 42 = .ok (.dup, 1) := by decide +kernel
theorem dX11_redo_43 : decode cX11_redo 43 = .ok (.getfield 166, 3) := by decide +kernel
theorem dX11_redo_46 : decode cX11_redo 46 = .ok (.iconst 1, 1) := by decide +kernel
theorem dX11_redo_47 : decode cX11_redo 47 = .ok (.iadd, 1) := by decide +kernel
theorem dX11_redo_48 : decode cX11_redo 48 = .ok (.putfield 166, 3) := by decide +kernel
theorem dX11_redo_51 : decode cX11_redo 51 = .ok (.aload_n 0, 1) := by decide +kernel
theorem dX11_redo_52 : decode cX11_redo 52 = .ok (.dup, 1) := by decide +kernel
theorem dX11_redo_53 : decode cX11_redo 53 = .ok (.getfield 163, 3) := by decide +kernel
theorem dX11_redo_56 : decode cX11_redo 56 = .ok (.iconst 1, 1) := by decide +kernel
theorem dX11_redo_57 : decode cX11_redo 57 = .ok (.isub, 1) := by decide +kernel
theorem dX11_redo_58 : decode cX11_redo 58 = .ok (.putfield 163, 3) := by decide +kernel
theorem dX11_redo_61 : decode cX11_redo 61 = .ok (.aload_n 0, 1) := by decide +kernel
theorem dX11_redo_62 : decode cX11_redo 62 = .ok (.getfield 163, 3) := by decide +kernel
theorem dX11_redo_65 : decode cX11_redo 65 = .ok (.ireturn, 1) := by decide +kernel
set_option maxRecDepth 20000 in
theorem ggX11_isOne_X11_in : GoodIn wsX11_isOne wsX11_in := goodIn_r _ [4] rfl (by decide +kernel)
set_option maxRecDepth 20000 in
theorem gX11_isOne_X11_in : GoodIn wsX11_isOne (va_wsS RX11 118 yX11_in wsX11_in) := goodIn_app (goodIn_of _ (by decide +kernel)) ggX11_isOne_X11_in
set_option maxRecDepth 20000 in
theorem ggX11_isOne_X11_isLine : GoodIn wsX11_isOne wsX11_isLine := goodIn_r _ [8, 9, 10, 11, 3, 12, 1, 2, 4, 16, 17, 18, 19, 20, 21, 22, 23, 24, 25, 26, 27, 28, 29, 30, 31, 32, 33, 34, 35, 36, 37, 38, 39, 40, 41, 42, 43, 44, 45, 46, 47, 48, 49, 50, 51, 52, 53, 54, 55, 56, 57, 58, 59, 60, 61, 62, 63, 64, 65] rfl (by decide +kernel)
set_option maxRecDepth 20000 in
theorem gX11_isOne_X11_isLine : GoodIn wsX11_isOne (wsV RX11 142 RX11 yX11_isLine wsX11_isLine) := goodIn_app (goodIn_of _ (by decide +kernel)) ggX11_isOne_X11_isLine
set_option maxRecDepth 20000 in
theorem ggX11_isOne_X11_isSinger : GoodIn wsX11_isOne wsX11_isSinger := goodIn_r _ [15, 1, 2, 3, 4] rfl (by decide +kernel)
set_option maxRecDepth 20000 in
theorem gX11_isOne_X11_isSinger : GoodIn wsX11_isOne (va_wsS RX11 139 yX11_isSinger wsX11_isSinger) := goodIn_app (goodIn_of _ (by decide +kernel)) ggX11_isOne_X11_isSinger
theorem dX11_isOne_0 : decode cX11_isOne 0 = .ok (.iload_n 2, 1) := by decide +kernel
theorem dX11_isOne_1 : decode cX11_isOne 1 = .ok (.iconst 0, 1) := by decide +kernel
theorem dX11_isOne_2 : decode cX11_isOne 2 = .ok (.iconst 2, 1) := by decide +kernel
theorem dX11_isOne_3 : decode cX11_isOne 3 = .ok (.invokestatic 118, 3) := by decide +kernel
theorem dX11_isOne_6 : decode cX11_isOne 6 = .ok (.ifCond .eq 9, 3) := by decide +kernel
theorem dX11_isOne_9 : decode cX11_isOne 9 = .ok (.aload_n 0, 1) := by decide +kernel
theorem dX11_isOne_10 : decode cX11_isOne 10 = .ok (.iload_n 1, 1) := by decide +kernel
theorem dX11_isOne_11 : decode cX11_isOne 11 = .ok (.invokevirtual 142, 3) := by decide +kernel
theorem dX11_isOne_14 : decode cX11_isOne 14 = .ok (.ireturn, 1) := by decide +kernel
theorem dX11_isOne_15 : decode cX11_isOne 15 = .ok (.iload_n 2, 1) := by decide +kernel
theorem dX11_isOne_16 : decode cX11_isOne 16 = .ok (.iconst 3, 1) := by decide +kernel
theorem dX11_isOne_17 : decode cX11_isOne 17 = .ok (.if_icmp .ne 10, 3) := by decide +kernel
theorem dX11_isOne_20 : decode cX11_isOne 20 = .ok (.iload_n 1, 1) := by decide +kernel
theorem dX11_isOne_21 : decode cX11_isOne 21 = .ok (.invokestatic 139, 3) := by decide +kernel
theorem dX11_isOne_24 : decode cX11_isOne 24 = .ok (.goto 17, 3) := by decide +kernel
theorem dX11_isOne_27 : decode cX11_isOne 27 = .ok (.iload_n 2, 1) := by decide +kernel
theorem dX11_isOne_28 : decode cX11_isOne 28 = .ok (.iconst 4, 1) := by decide +kernel
theorem dX11_isOne_29 : decode cX11_isOne 29 = .ok (.if_icmp .ne 11, 3) := by decide +kernel
theorem dX11_isOne_32 : decode cX11_isOne 32 = .ok (.iload_n 1, 1) := by decide +kernel
theorem dX11_isOne_33 : decode cX11_isOne 33 = .ok (.ifCond .ne 7, 3) := by decide +kernel
theorem dX11_isOne_36 : decode cX11_isOne 36 = .ok (.iconst 1, 1) := by decide +kernel
theorem dX11_isOne_37 : decode cX11_isOne 37 = .ok (.goto 4, 3) := by decide +kernel
theorem dX11_isOne_40 : decode cX11_isOne 40 = .ok (.iconst 0, 1) := by decide +kernel
theorem dX11_isOne_41 : decode cX11_isOne 41 = .ok (.ireturn, 1) := by decide +kernel
set_option maxRecDepth 20000 in
theorem ggX11_mayBe_X11_in : GoodIn wsX11_mayBe wsX11_in := goodIn_r _ [4] rfl (by decide +kernel)
set_option maxRecDepth 20000 in
theorem gX11_mayBe_X11_in : GoodIn wsX11_mayBe (va_wsS RX11 118 yX11_in wsX11_in) := goodIn_app (goodIn_of _ (by decide +kernel)) ggX11_mayBe_X11_in
theorem dX11_mayBe_0 : decode cX11_mayBe 0 = .ok (.iload_n 0, 1) := by decide +kernel
theorem dX11_mayBe_1 : decode cX11_mayBe 1 = .ok (.iconst 3, 1) := by decide +kernel
theorem dX11_mayBe_2 : decode cX11_mayBe 2 = .ok (.if_icmp .ge 13, 3) := by decide +kernel
theorem dX11_mayBe_5 : decode cX11_mayBe 5 = .ok (.iload_n 1, 1) := by decide +kernel
theorem dX11_mayBe_6 : decode cX11_mayBe 6 = .ok (.iconst 0, 1) := by decide +kernel
theorem dX11_mayBe_7 : decode cX11_mayBe 7 = .ok (.bipush 7, 2) := by decide +kernel
theorem dX11_mayBe_9 : decode cX11_mayBe 9 = .ok (.invokestatic 118, 3) := by decide +kernel
theorem dX11_mayBe_12 : decode cX11_mayBe 12 = .ok (.goto 25, 3) := by decide +kernel
theorem dX11_mayBe_15 : decode cX11_mayBe 15 = .ok (.iload_n 0, 1) := by decide +kernel
theorem dX11_mayBe_16 : decode cX11_mayBe 16 = .ok (.iconst 3, 1) := by decide +kernel
theorem dX11_mayBe_17 : decode cX11_mayBe 17 = .ok (.if_icmp .ne 13, 3) := by decide +kernel
theorem dX11_mayBe_20 : decode cX11_mayBe 20 = .ok (.iload_n 1, 1) := by decide +kernel
theorem dX11_mayBe_21 : decode cX11_mayBe 21 = .ok (.iconst 0, 1) := by decide +kernel
theorem dX11_mayBe_22 : decode cX11_mayBe 22 = .ok (.bipush 9, 2) := by decide +kernel
theorem dX11_mayBe_24 : decode cX11_mayBe 24 = .ok (.invokestatic 118, 3) := by decide +kernel
theorem dX11_mayBe_27 : decode cX11_mayBe 27 = .ok (.goto 10, 3) := by decide +kernel
theorem dX11_mayBe_30 : decode cX11_mayBe 30 = .ok (.iload_n 1, 1) := by decide +kernel
theorem dX11_mayBe_31 : decode cX11_mayBe 31 = .ok (.iconst 0, 1) := by decide +kernel
theorem dX11_mayBe_32 : decode cX11_mayBe 32 = .ok (.bipush 12, 2) := by decide +kernel
theorem dX11_mayBe_34 : decode cX11_mayBe 34 = .ok (.invokestatic 118, 3) := by decide +kernel
theorem dX11_mayBe_37 : decode cX11_mayBe 37 = .ok (.ireturn, 1) := by decide +kernel
set_option maxRecDepth 20000 in
theorem ggX11_mend_X11_isOne : GoodIn wsX11_mend wsX11_isOne := goodIn_r _ [5, 6, 7, 4, 8, 9, 10, 11, 12, 13, 14, 15, 16, 17, 18, 19, 49, 50, 51, 52, 53, 54, 55, 56, 57, 58, 59, 60, 61, 62, 63, 64, 65, 66, 67, 68, 69, 70, 71, 72, 73, 74, 75, 76, 77, 78, 79, 80, 81, 82, 83, 84, 85, 86, 87, 88, 89, 90, 91, 92, 93, 94, 95, 96, 97, 98] rfl (by decide +kernel)
set_option maxRecDepth 20000 in
theorem gX11_mend_X11_isOne : GoodIn wsX11_mend (wsV RX11 173 RX11 yX11_isOne wsX11_isOne) := goodIn_app (goodIn_of _ (by decide +kernel)) ggX11_mend_X11_isOne
set_option maxRecDepth 20000 in
theorem ggX11_mend_X11_mayBe : GoodIn wsX11_mend wsX11_mayBe := goodIn_r _ [22, 6, 7, 4, 8] rfl (by decide +kernel)
set_option maxRecDepth 20000 in
theorem gX11_mend_X11_mayBe : GoodIn wsX11_mend (va_wsS RX11 177 yX11_mayBe wsX11_mayBe) := goodIn_app (goodIn_of _ (by decide +kernel)) ggX11_mend_X11_mayBe
set_option maxRecDepth 20000 in
theorem ggX11_mend_X11_changes : GoodIn wsX11_mend wsX11_changes := goodIn_r _ [26, 27, 28, 29, 30, 31, 32, 33, 34, 35, 4, 36, 37, 38, 39, 40, 41, 42, 43, 44, 45, 46, 47, 48, 49, 50, 51, 52, 53, 54, 55, 56, 57, 58, 59, 60, 61, 62, 63, 64, 65, 66, 67, 68, 69, 70, 71, 72, 73, 74, 75, 76, 77, 78, 79, 80, 81, 82, 83, 84, 85, 86, 87, 88, 89, 90, 91, 92, 93, 94, 95, 96, 97, 98] rfl (by decide +kernel)
set_option maxRecDepth 20000 in
theorem gX11_mend_X11_changes : GoodIn wsX11_mend (wsV RX11 180 RX11 yX11_changes wsX11_changes) := goodIn_app (goodIn_of _ (by decide +kernel)) ggX11_mend_X11_changes
theorem dX11_mend_0 : decode cX11_mend 0 = .ok (.aload_n 0, 1) := by decide +kernel
theorem dX11_mend_1 : decode cX11_mend 1 = .ok (.iload_n 1, 1) := by decide +kernel
theorem dX11_mend_2 : decode cX11_mend 2 = .ok (.iload_n 2, 1) := by decide +kernel
theorem dX11_mend_3 : decode cX11_mend 3 = .ok (.invokevirtual 173, 3) := by decide +kernel
theorem dX11_mend_6 : decode cX11_mend 6 = .ok (.ifCond .eq 21, 3) := by decide +kernel
theorem dX11_mend_9 : decode cX11_mend 9 = .ok (.iload_n 2, 1) := by decide +kernel
theorem dX11_mend_10 : decode cX11_mend 10 = .ok (.iload_n 3, 1) := by decide +kernel
theorem dX11_mend_11 : decode cX11_mend 11 = .ok (.invokestatic 177, 3) := by decide +kernel
theorem dX11_mend_14 : decode cX11_mend 14 = .ok (.ifCond .eq 13, 3) := by decide +kernel
theorem dX11_mend_17 : decode cX11_mend 17 = .ok (.aload_n 0, 1) := by decide +kernel
theorem dX11_mend_18 : decode cX11_mend 18 = .ok (.iload_n 2, 1) := by decide +kernel
theorem dX11_mend_19 : decode cX11_mend 19 = .ok (.iload_n 1, 1) := by decide +kernel
theorem dX11_mend_20 : decode cX11_mend 20 = .ok (.iload_n 3, 1) := by decide +kernel
theorem dX11_mend_21 : decode cX11_mend 21 = .ok (.invokevirtual 180, 3) := by decide +kernel
theorem dX11_mend_24 : decode cX11_mend 24 = .ok (.goto 4, 3) := by decide +kernel
theorem dX11_mend_27 : decode cX11_mend 27 = .ok (.iconst (-1), 1) := by decide +kernel
theorem dX11_mend_28 : decode cX11_mend 28 = .ok (.ireturn, 1) := by decide +kernel
set_option maxRecDepth 20000 in
theorem ggX11_whoHas_X11_bitAt : GoodIn wsX11_whoHas wsX11_bitAt := goodIn_r _ [5, 6, 7, 8, 4, 9, 10, 11, 12, 13, 14, 15, 16, 17, 18, 19, 20, 21, 22, 23, 24, 25, 26, 27, 28, 29, 30, 31, 32, 33, 34, 35, 36, 37, 38, 39, 40, 41, 42, 43, 44, 45, 46, 47, 48, 49, 50, 51, 52, 53, 54, 55, 56, 57, 58, 59] rfl (by decide +kernel)
set_option maxRecDepth 20000 in
theorem gX11_whoHas_X11_bitAt : GoodIn wsX11_whoHas (wsV RX11 145 RX11 yX11_bitAt wsX11_bitAt) := goodIn_app (goodIn_of _ (by decide +kernel)) ggX11_whoHas_X11_bitAt
theorem dX11_whoHas_0 : decode cX11_whoHas 0 = .ok (.iconst 0, 1) := by decide +kernel
theorem dX11_whoHas_1 : decode cX11_whoHas 1 = .ok (.istore 4, 2) := by decide +kernel
theorem dX11_whoHas_3 : decode cX11_whoHas 3 = .ok (.iconst 0, 1) := by decide +kernel
theorem dX11_whoHas_4 : decode cX11_whoHas 4 = .ok (.istore 5, 2) := by decide +kernel
theorem dX11_whoHas_6 : decode cX11_whoHas 6 = .ok (.iload 5, 2) := by decide +kernel
theorem dX11_whoHas_8 : decode cX11_whoHas 8 = .ok (.iconst 4, 1) := by decide +kernel
theorem dX11_whoHas_9 : decode cX11_whoHas 9 = .ok (.if_icmp .ge 26, 3) := by decide +kernel
theorem dX11_whoHas_12 : decode cX11_whoHas 12 = .ok (.iload 4, 2) := by decide +kernel
theorem dX11_whoHas_14 : decode cX11_whoHas 14 = .ok (.aload_n 0, 1) := by decide +kernel
theorem dX11_whoHas_15 : decode cX11_whoHas 15 = .ok (.iload_n 1, 1) := by decide +kernel
theorem dX11_whoHas_16 : decode cX11_whoHas 16 = .ok (.iload 5, 2) := by decide +kernel
theorem dX11_whoHas_18 : decode cX11_whoHas 18 = .ok (.iload_n 2, 1) := by decide +kernel
theorem dX11_whoHas_19 : decode cX11_whoHas 19 = .ok (.iload_n 3, 1) := by decide +kernel
theorem dX11_whoHas_20 : decode cX11_whoHas 20 = .ok (.invokevirtual 145, 3) := by decide +kernel
theorem dX11_whoHas_23 : decode cX11_whoHas 23 = .ok (.iload 5, 2) := by decide +kernel
theorem dX11_whoHas_25 : decode cX11_whoHas 25 = .ok (.ishl, 1) := by decide +kernel
theorem dX11_whoHas_26 : decode cX11_whoHas 26 = .ok (.ior, 1) := by decide +kernel
theorem dX11_whoHas_27 : decode cX11_whoHas 27 = .ok (.istore 4, 2) := by decide +kernel
theorem dX11_whoHas_29 : decode cX11_whoHas 29 = .ok (.iinc 5 1, 3) := by decide +kernel
theorem dX11_whoHas_32 : decode cX11_whoHas 32 = .ok (.goto (-26), 3) := by decide +kernel
theorem dX11_whoHas_35 : decode cX11_whoHas 35 = .ok (.iload 4, 2) := by decide +kernel
theorem dX11_whoHas_37 : decode cX11_whoHas 37 = .ok (.ireturn, 1) := by decide +kernel
set_option maxRecDepth 20000 in
theorem ggX11_of_X11_in : GoodIn wsX11_of wsX11_in := goodIn_r _ [5] rfl (by decide +kernel)
set_option maxRecDepth 20000 in
theorem gX11_of_X11_in : GoodIn wsX11_of (va_wsS RX11 118 yX11_in wsX11_in) := goodIn_app (goodIn_of _ (by decide +kernel)) ggX11_of_X11_in
set_option maxRecDepth 20000 in
theorem ggX11_of_X11_isOne : GoodIn wsX11_of wsX11_isOne := goodIn_r _ [9, 2, 3, 4, 5, 10, 11, 12, 13, 1, 14, 15, 16, 17, 18, 19, 44, 45, 46, 47, 48, 49, 50, 51, 52, 53, 54, 55, 56, 57, 58, 59, 60, 61, 62, 63, 64, 65, 66, 67, 68, 69, 70, 71, 72, 73, 74, 75, 76, 77, 78, 79, 80, 81, 82, 83, 84, 85, 86, 87, 88, 89, 90, 91, 92, 93] rfl (by decide +kernel)
set_option maxRecDepth 20000 in
theorem gX11_of_X11_isOne : GoodIn wsX11_of (wsV RX11 173 RX11 yX11_isOne wsX11_isOne) := goodIn_app (goodIn_of _ (by decide +kernel)) ggX11_of_X11_isOne
set_option maxRecDepth 20000 in
theorem ggX11_of_X11_valueAt : GoodIn wsX11_of wsX11_valueAt := goodIn_r _ [23, 24, 25, 26, 27, 28, 29, 30, 4, 31, 44, 45, 46, 47, 48, 49, 50, 51, 52, 53, 54, 55, 56, 57, 58, 59, 60, 61, 62, 63, 64, 65, 66, 67, 68, 69, 70, 71, 72, 73, 74, 75, 76, 77, 78, 79, 80, 81, 82, 83, 84, 85, 86, 87, 88, 89, 90, 91, 92, 93] rfl (by decide +kernel)
set_option maxRecDepth 20000 in
theorem gX11_of_X11_valueAt : GoodIn wsX11_of (wsV RX11 159 RX11 yX11_valueAt wsX11_valueAt) := goodIn_app (goodIn_of _ (by decide +kernel)) ggX11_of_X11_valueAt
set_option maxRecDepth 20000 in
theorem ggX11_of_X11_isSong : GoodIn wsX11_of wsX11_isSong := goodIn_r _ [16, 2, 3, 4, 5] rfl (by decide +kernel)
set_option maxRecDepth 20000 in
theorem gX11_of_X11_isSong : GoodIn wsX11_of (va_wsS RX11 122 yX11_isSong wsX11_isSong) := goodIn_app (goodIn_of _ (by decide +kernel)) ggX11_of_X11_isSong
set_option maxRecDepth 20000 in
theorem ggX11_of_X11_isLine : GoodIn wsX11_of wsX11_isLine := goodIn_r _ [13, 1, 14, 15, 4, 16, 2, 3, 5, 44, 45, 46, 47, 48, 49, 50, 51, 52, 53, 54, 55, 56, 57, 58, 59, 60, 61, 62, 63, 64, 65, 66, 67, 68, 69, 70, 71, 72, 73, 74, 75, 76, 77, 78, 79, 80, 81, 82, 83, 84, 85, 86, 87, 88, 89, 90, 91, 92, 93] rfl (by decide +kernel)
set_option maxRecDepth 20000 in
theorem gX11_of_X11_isLine : GoodIn wsX11_of (wsV RX11 142 RX11 yX11_isLine wsX11_isLine) := goodIn_app (goodIn_of _ (by decide +kernel)) ggX11_of_X11_isLine
set_option maxRecDepth 20000 in
theorem ggX11_of_X11_whoHas : GoodIn wsX11_of wsX11_whoHas := goodIn_r _ [35, 36, 37, 38, 4, 39, 40, 41, 42, 43, 44, 45, 46, 47, 48, 49, 50, 51, 52, 53, 54, 55, 56, 57, 58, 59, 60, 61, 62, 63, 64, 65, 66, 67, 68, 69, 70, 71, 72, 73, 74, 75, 76, 77, 78, 79, 80, 81, 82, 83, 84, 85, 86, 87, 88, 89, 90, 91, 92, 93] rfl (by decide +kernel)
set_option maxRecDepth 20000 in
theorem gX11_of_X11_whoHas : GoodIn wsX11_of (wsV RX11 183 RX11 yX11_whoHas wsX11_whoHas) := goodIn_app (goodIn_of _ (by decide +kernel)) ggX11_of_X11_whoHas
theorem dX11_of_0 : decode cX11_of 0 = .ok (.iload_n 2, 1) := by decide +kernel
theorem dX11_of_1 : decode cX11_of 1 = .ok (.iconst 0, 1) := by decide +kernel
theorem dX11_of_2 : decode cX11_of 2 = .ok (.iconst 4, 1) := by decide +kernel
theorem dX11_of_3 : decode cX11_of 3 = .ok (.invokestatic 118, 3) := by decide +kernel
theorem dX11_of_6 : decode cX11_of 6 = .ok (.ifCond .eq 23, 3) := by decide +kernel
theorem dX11_of_9 : decode cX11_of 9 = .ok (.aload_n 0, 1) := by decide +kernel
theorem dX11_of_10 : decode cX11_of 10 = .ok (.iload_n 1, 1) := by decide +kernel
theorem dX11_of_11 : decode cX11_of 11 = .ok (.iload_n 2, 1) := by decide +kernel
theorem dX11_of_12 : decode cX11_of 12 = .ok (.invokevirtual 173, 3) := by decide +kernel
theorem dX11_of_15 : decode cX11_of 15 = .ok (.ifCond .eq 12, 3) := by decide +kernel
theorem dX11_of_18 : decode cX11_of 18 = .ok (.aload_n 0, 1) := by decide +kernel
theorem dX11_of_19 : decode cX11_of 19 = .ok (.iload_n 2, 1) := by decide +kernel
theorem dX11_of_20 : decode cX11_of 20 = .ok (.iload_n 1, 1) := by decide +kernel
theorem dX11_of_21 : decode cX11_of 21 = .ok (.invokevirtual 159, 3) := by decide +kernel
theorem dX11_of_24 : decode cX11_of 24 = .ok (.goto 4, 3) := by decide +kernel
theorem dX11_of_27 : decode cX11_of 27 = .ok (.iconst (-1), 1) := by decide +kernel
theorem dX11_of_28 : decode cX11_of 28 = .ok (.ireturn, 1) := by decide +kernel
theorem dX11_of_29 : decode cX11_of 29 = .ok (.iload_n 2, 1) := by decide +kernel
theorem dX11_of_30 : decode cX11_of 30 = .ok (.iconst 5, 1) := by decide +kernel
theorem dX11_of_31 : decode cX11_of 31 = .ok (.if_icmp .ne 21, 3) := by decide +kernel
theorem dX11_of_34 : decode cX11_of 34 = .ok (.iload_n 1, 1) := by decide +kernel
theorem dX11_of_35 : decode cX11_of 35 = .ok (.invokestatic 122, 3) := by decide +kernel
theorem dX11_of_38 : decode cX11_of 38 = .ok (.ifCond .eq 12, 3) := by decide +kernel
theorem dX11_of_41 : decode cX11_of 41 = .ok (.aload_n 0, 1) := by decide +kernel
theorem dX11_of_42 : decode cX11_of 42 = .ok (.getfield 9, 3) := by decide +kernel
theorem dX11_of_45 : decode cX11_of 45 = .ok (.iload_n 1, 1) := by decide +kernel
theorem dX11_of_46 : decode cX11_of 46 = .ok (.iaload, 1) := by decide +kernel
theorem dX11_of_47 : decode cX11_of 47 = .ok (.goto 4, 3) := by decide +kernel
theorem dX11_of_50 : decode cX11_of 50 = .ok (.iconst (-1), 1) := by decide +kernel
theorem dX11_of_51 : decode cX11_of 51 = .ok (.ireturn, 1) := by decide +kernel
theorem dX11_of_52 : decode cX11_of 52 = .ok (.iload_n 2, 1) := by decide +kernel
theorem dX11_of_53 : decode cX11_of 53 = .ok (.bipush 6, 2) := by decide +kernel
theorem dX11_of_55 : decode cX11_of 55 = .ok (.bipush 7, 2) := by decide +kernel
theorem dX11_of_57 : decode cX11_of 57 = .ok (.invokestatic 118, 3) := by decide +kernel
theorem dX11_of_60 : decode cX11_of 60 = .ok (.ifCond .eq 30, 3) := by decide +kernel
theorem dX11_of_63 : decode cX11_of 63 = .ok (.aload_n 0, 1) := by decide +kernel
theorem dX11_of_64 : decode cX11_of 64 = .ok (.iload_n 1, 1) := by decide +kernel
theorem dX11_of_65 : decode cX11_of 65 = .ok (.invokevirtual 142, 3) := by decide +kernel
theorem dX11_of_68 : decode cX11_of 68 = .ok (.ifCond .eq 22, 3) := by decide +kernel
theorem dX11_of_71 : decode cX11_of 71 = .ok (.aload_n 0, 1) := by decide +kernel
theorem dX11_of_72 : decode cX11_of 72 = .ok (.iload_n 1, 1) := by decide +kernel
theorem dX11_of_73 : decode cX11_of 73 = .ok (.bipush 100, 2) := by decide +kernel
theorem dX11_of_75 : decode cX11_of 75 = .ok (.idiv, 1) := by decide +kernel
theorem dX11_of_76 : decode cX11_of 76 = .ok (.iload_n 1, 1) := by decide +kernel
theorem dX11_of_77 : decode cX11_of 77 = .ok (.bipush 100, 2) := by decide +kernel
theorem dX11_of_79 : decode cX11_of 79 = .ok (.irem, 1) := by decide +kernel
theorem dX11_of_80 : decode cX11_of 80 = .ok (.iload_n 2, 1) := by decide +kernel
theorem dX11_of_81 : decode cX11_of 81 = .ok (.bipush 6, 2) := by decide +kernel
theorem dX11_of_83 : decode cX11_of 83 = .ok (.isub, 1) := by decide +kernel
theorem dX11_of_84 : decode cX11_of 84 = .ok (.invokevirtual 183, 3) := by decide +kernel
theorem dX11_of_87 : decode cX11_of 87 = .ok (.goto 4, 3) := by decide +kernel
theorem dX11_of_90 : decode cX11_of 90 = .ok (.iconst (-1), 1) := by decide +kernel
theorem dX11_of_91 : decode cX11_of 91 = .ok (.ireturn, 1) := by decide +kernel
set_option maxRecDepth 20000 in
theorem ggX11_feed_X11_in : GoodIn wsX11_feed wsX11_in := goodIn_r _ [6] rfl (by decide +kernel)
set_option maxRecDepth 20000 in
theorem gX11_feed_X11_in : GoodIn wsX11_feed (va_wsS RX11 118 yX11_in wsX11_in) := goodIn_app (goodIn_of _ (by decide +kernel)) ggX11_feed_X11_in
theorem dX11_feed_0 : decode cX11_feed 0 = .ok (.iload_n 1, 1) := by decide +kernel
theorem dX11_feed_1 : decode cX11_feed 1 = .ok (.iconst 0, 1) := by decide +kernel
theorem dX11_feed_2 : decode cX11_feed 2 = .ok (.sipush 255, 3) := by decide +kernel
theorem dX11_feed_5 : decode cX11_feed 5 = .ok (.invokestatic 118, 3) := by decide +kernel
theorem dX11_feed_8 : decode cX11_feed 8 = .ok (.ifCond .ne 5, 3) := by decide +kernel
theorem dX11_feed_11 : decode cX11_feed 11 = .ok (.iconst (-1), 1) := by decide +kernel
theorem dX11_feed_12 : decode cX11_feed 12 = .ok (.ireturn, 1) := by decide +kernel
theorem dX11_feed_13 : decode cX11_feed 13 = .ok (.aload_n 0, 1) := by decide +kernel
theorem dX11_feed_14 : decode cX11_feed 14 = .ok (.getfield 186, 3) := by decide +kernel
theorem dX11_feed_17 : decode cX11_feed 17 = .ok (.bipush 120, 2) := by decide +kernel
theorem dX11_feed_19 : decode cX11_feed 19 = .ok (.if_icmp .ne 6, 3) := by decide +kernel
theorem dX11_feed_22 : decode cX11_feed 22 = .ok (.bipush (-3), 2) := by decide +kernel
theorem dX11_feed_24 : decode cX11_feed 24 = .ok (.ireturn, 1) := by decide +kernel
theorem dX11_feed_25 : decode cX11_feed 25 = .ok (.aload_n 0, 1) := by decide +kernel
theorem dX11_feed_26 : decode cX11_feed 26 = .ok (.getfield 42, 3) := by decide +kernel
theorem dX11_feed_29 : decode cX11_feed 29 = .ok (.aload_n 0, 1) := by decide +kernel
theorem dX11_feed_30 : decode cX11_feed 30 = .ok (.getfield 186, 3) := by decide +kernel
theorem dX11_feed_33 : decode cX11_feed 33 = .ok (.iload_n 1, 1) := by decide +kernel
theorem dX11_feed_34 : decode cX11_feed 34 = .ok (.i2b, 1) := by decide +kernel
theorem dX11_feed_35 : decode cX11_feed 35 = .ok (.bastore, 1) := by decide +kernel
theorem dX11_feed_36 : decode cX11_feed 36 = .ok (.aload_n 0, 1) := by decide +kernel
theorem dX11_feed_37 : decode cX11_feed 37 = .ok (.dup, 1) := by decide +kernel
theorem dX11_feed_38 : decode cX11_feed 38 = .ok (.getfield 186, 3) := by decide +kernel
theorem dX11_feed_41 : decode cX11_feed 41 = .ok (.iconst 1, 1) := by decide +kernel
theorem dX11_feed_42 : decode cX11_feed 42 = .ok (.iadd, 1) := by decide +kernel
theorem dX11_feed_43 : decode cX11_feed 43 = .ok (.putfield 186, 3) := by decide +kernel
theorem dX11_feed_46 : decode cX11_feed 46 = .ok (.aload_n 0, 1) := by decide +kernel
theorem dX11_feed_47 : decode cX11_feed 47 = .ok (.getfield 186, 3) := by decide +kernel
theorem dX11_feed_50 : decode cX11_feed 50 = .ok (.ireturn, 1) := by decide +kernel
theorem dX11_look_0 : decode cX11_look 0 = .ok (.aload_n 0, 1) := by decide +kernel
theorem dX11_look_1 : decode cX11_look 1 = .ok (.getfield 189, 3) := by decide +kernel
theorem dX11_look_4 : decode cX11_look 4 = .ok (.aload_n 0, 1) := by decide +kernel
theorem dX11_look_5 : decode cX11_look 5 = .ok (.getfield 186, 3) := by decide +kernel
theorem dX11_look_8 : decode cX11_look 8 = .ok (.if_icmp .ge 15, 3) := by decide +kernel
theorem dX11_look_11 : decode cX11_look 11 = .ok (.aload_n 0, 1) := by decide +kernel
theorem dX11_look_12 : decode cX11_look 12 = .ok (.getfield 42, 3) := by decide +kernel
theorem dX11_look_15 : decode cX11_look 15 = .ok (.aload_n 0, 1) := by decide +kernel
theorem dX11_look_16 : decode cX11_look 16 = .ok (.getfield 189, 3) := by decide +kernel
theorem dX11_look_19 : decode cX11_look 19 = .ok (.baload, 1) := by decide +kernel
theorem dX11_look_20 : decode cX11_look 20 = .ok (.goto 4, 3) := by decide +kernel
theorem dX11_look_23 : decode cX11_look 23 = .ok (.iconst (-1), 1) := by decide +kernel
theorem dX11_look_24 : decode cX11_look 24 = .ok (.ireturn, 1) := by decide +kernel
theorem dX11_faulty_0 : decode cX11_faulty 0 = .ok (.aload_n 0, 1) := by decide +kernel
theorem dX11_faulty_1 : decode cX11_faulty 1 = .ok (.getfield 192, 3) := by decide +kernel
theorem dX11_faulty_4 : decode cX11_faulty 4 = .ok (.ifCond .ge 11, 3) := by decide +kernel
theorem dX11_faulty_7 : decode cX11_faulty 7 = .ok (.aload_n 0, 1) := by decide +kernel
theorem dX11_faulty_8 : decode cX11_faulty 8 = .ok (.aload_n 0, 1) := by decide +kernel
theorem dX11_faulty_9 : decode cX11_faulty 9 = .ok (.getfield 189, 3) := by decide +kernel
theorem dX11_faulty_12 : decode cX11_faulty 12 = .ok (.putfield 192, 3) := by decide +kernel
theorem dX11_faulty_15 : decode cX11_faulty 15 = .ok (.return_, 1) := by decide +kernel
theorem dX11_addStep_0 : decode cX11_addStep 0 = .ok (.aload_n 0, 1) := by decide +kernel
theorem dX11_addStep_1 : decode cX11_addStep 1 = .ok (.getfield 46, 3) := by decide +kernel
theorem dX11_addStep_4 : decode cX11_addStep 4 = .ok (.sipush 130, 3) := by decide +kernel
theorem dX11_addStep_7 : decode cX11_addStep 7 = .ok (.aload_n 0, 1) := by decide +kernel
theorem dX11_addStep_8 : decode cX11_addStep 8 = .ok (.getfield 195, 3) := by decide +kernel
theorem dX11_addStep_11 : decode cX11_addStep 11 = .ok (.iadd, 1) := by decide +kernel
theorem dX11_addStep_12 : decode cX11_addStep 12 = .ok (.iload_n 1, 1) := by decide +kernel
theorem dX11_addStep_13 : decode cX11_addStep 13 = .ok (.i2b, 1) := by decide +kernel
theorem dX11_addStep_14 : decode cX11_addStep 14 = .ok (.bastore, 1) := by decide +kernel
theorem dX11_addStep_15 : decode cX11_addStep 15 = .ok (.aload_n 0, 1) := by decide +kernel
theorem dX11_addStep_16 : decode cX11_addStep 16 = .ok (.getfield 49, 3) := by decide +kernel
theorem dX11_addStep_19 : decode cX11_addStep 19 = .ok (.sipush 130, 3) := by decide +kernel
theorem dX11_addStep_22 : decode cX11_addStep 22 = .ok (.aload_n 0, 1) := by decide +kernel
theorem dX11_addStep_23 : decode cX11_addStep 23 = .ok (.getfield 195, 3) := by decide +kernel
theorem dX11_addStep_26 : decode cX11_addStep 26 = .ok (.iadd, 1) := by decide +kernel
theorem dX11_addStep_27 : decode cX11_addStep 27 = .ok (.iload_n 2, 1) := by decide +kernel
theorem dX11_addStep_28 : decode cX11_addStep 28 = .ok (.iastore, 1) := by decide +kernel
theorem dX11_addStep_29 : decode cX11_addStep 29 = .ok (.aload_n 0, 1) := by decide +kernel
theorem dX11_addStep_30 : decode cX11_addStep 30 = .ok (.dup, 1) := by decide +kernel
theorem dX11_addStep_31 : decode cX11_addStep 31 = .ok (.getfield 195, 3) := by decide +kernel
theorem dX11_addStep_34 : decode cX11_addStep 34 = .ok (.iconst 1, 1) := by decide +kernel
theorem dX11_addStep_35 : decode cX11_addStep 35 = .ok (.iadd, 1) := by decide +kernel
theorem dX11_addStep_36 : decode cX11_addStep 36 = .ok (.putfield 195, 3) := by decide +kernel
theorem dX11_addStep_39 : decode cX11_addStep 39 = .ok (.return_, 1) := by decide +kernel
theorem dX11_nameOf_0 : decode cX11_nameOf 0 = .ok (.iload_n 0, 1) := by decide +kernel
theorem dX11_nameOf_1 : decode cX11_nameOf 1 = .ok (.lookupswitch 71 #[(97, 59), (107, 69), (114, 65), (115, 67), (116, 61), (119, 63)], 59) := by decide +kernel
theorem dX11_nameOf_60 : decode cX11_nameOf 60 = .ok (.iconst 0, 1) := by decide +kernel
theorem dX11_nameOf_61 : decode cX11_nameOf 61 = .ok (.ireturn, 1) := by decide +kernel
theorem dX11_nameOf_62 : decode cX11_nameOf 62 = .ok (.iconst 1, 1) := by decide +kernel
theorem dX11_nameOf_63 : decode cX11_nameOf 63 = .ok (.ireturn, 1) := by decide +kernel
theorem dX11_nameOf_64 : decode cX11_nameOf 64 = .ok (.iconst 2, 1) := by decide +kernel
theorem dX11_nameOf_65 : decode cX11_nameOf 65 = .ok (.ireturn, 1) := by decide +kernel
theorem dX11_nameOf_66 : decode cX11_nameOf 66 = .ok (.iconst 3, 1) := by decide +kernel
theorem dX11_nameOf_67 : decode cX11_nameOf 67 = .ok (.ireturn, 1) := by decide +kernel
theorem dX11_nameOf_68 : decode cX11_nameOf 68 = .ok (.iconst 4, 1) := by decide +kernel
theorem dX11_nameOf_69 : decode cX11_nameOf 69 = .ok (.ireturn, 1) := by decide +kernel
theorem dX11_nameOf_70 : decode cX11_nameOf 70 = .ok (.iconst 5, 1) := by decide +kernel
theorem dX11_nameOf_71 : decode cX11_nameOf 71 = .ok (.ireturn, 1) := by decide +kernel
theorem dX11_nameOf_72 : decode cX11_nameOf 72 = .ok (.iconst (-1), 1) := by decide +kernel
theorem dX11_nameOf_73 : decode cX11_nameOf 73 = .ok (.ireturn, 1) := by decide +kernel
set_option maxRecDepth 20000 in
theorem ggX11_opens_X11_faulty : GoodIn wsX11_opens wsX11_faulty := goodIn_r _ [7, 8, 2, 9, 10, 11, 12, 13, 14, 15, 16, 17, 18, 19, 20, 21, 22, 23, 24, 25, 26, 27, 28, 29, 30, 31, 32, 33, 34, 35, 36, 37, 38, 39, 40, 41, 42, 43, 44, 45, 46, 47, 48, 49, 50, 51, 52, 53, 54, 55, 56, 57, 58] rfl (by decide +kernel)
set_option maxRecDepth 20000 in
theorem gX11_opens_X11_faulty : GoodIn wsX11_opens (wsV RX11 201 RX11 yX11_faulty wsX11_faulty) := goodIn_app (goodIn_of _ (by decide +kernel)) ggX11_opens_X11_faulty
theorem dX11_opens_0 : decode cX11_opens 0 = .ok (.aload_n 0, 1) := by decide +kernel
theorem dX11_opens_1 : decode cX11_opens 1 = .ok (.getfield 198, 3) := by decide +kernel
theorem dX11_opens_4 : decode cX11_opens 4 = .ok (.bipush 6, 2) := by decide +kernel
theorem dX11_opens_6 : decode cX11_opens 6 = .ok (.if_icmp .ne 9, 3) := by decide +kernel
theorem dX11_opens_9 : decode cX11_opens 9 = .ok (.aload_n 0, 1) := by decide +kernel
theorem dX11_opens_10 : decode cX11_opens 10 = .ok (.invokevirtual 201, 3) := by decide +kernel
theorem dX11_opens_13 : decode cX11_opens 13 = .ok (.iconst 0, 1) := by decide +kernel
theorem dX11_opens_14 : decode cX11_opens 14 = .ok (.ireturn, 1) := by decide +kernel
theorem dX11_opens_15 : decode cX11_opens 15 = .ok (.aload_n 0, 1) := by decide +kernel
theorem dX11_opens_16 : decode cX11_opens 16 = .ok (.dup, 1) := by decide +kernel
theorem dX11_opens_17 : decode cX11_opens 17 = .ok (.getfield 198, 3) := by decide +kernel
theorem dX11_opens_20 : decode cX11_opens 20 = .ok (.iconst 1, 1) := by decide +kernel
theorem dX11_opens_21 : decode cX11_opens 21 = .ok (.iadd, 1) := by decide +kernel
theorem dX11_opens_22 : decode cX11_opens 22 = .ok (.putfield 198, 3) := by decide +kernel
theorem dX11_opens_25 : decode cX11_opens 25 = .ok (.aload_n 0, 1) := by decide +kernel
theorem dX11_opens_26 : decode cX11_opens 26 = .ok (.dup, 1) := by decide +kernel
theorem dX11_opens_27 : decode cX11_opens 27 = .ok (.getfield 189, 3) := by decide +kernel
theorem dX11_opens_30 : decode cX11_opens 30 = .ok (.iconst 1, 1) := by decide +kernel
theorem dX11_opens_31 : decode cX11_opens 31 = .ok (.iadd, 1) := by decide +kernel
theorem dX11_opens_32 : decode cX11_opens 32 = .ok (.putfield 189, 3) := by decide +kernel
theorem dX11_opens_35 : decode cX11_opens 35 = .ok (.iconst 1, 1) := by decide +kernel
theorem dX11_opens_36 : decode cX11_opens 36 = .ok (.ireturn, 1) := by decide +kernel
set_option maxRecDepth 20000 in
theorem ggX11_figure_X11_look : GoodIn wsX11_figure wsX11_look := goodIn_r _ [6, 1, 7, 8, 24, 25, 26, 27, 28, 29, 30, 31, 32, 33, 34, 35, 36, 37, 38, 39, 40, 41, 42, 43, 44, 45, 46, 47, 48, 49, 50, 51, 52, 53, 54, 55, 56, 57, 58, 59, 60, 61, 62, 63, 64, 65, 66, 67, 68, 69, 70, 71, 72, 73] rfl (by decide +kernel)
set_option maxRecDepth 20000 in
theorem gX11_figure_X11_look : GoodIn wsX11_figure (wsV RX11 204 RX11 yX11_look wsX11_look) := goodIn_app (goodIn_of _ (by decide +kernel)) ggX11_figure_X11_look
set_option maxRecDepth 20000 in
theorem ggX11_figure_X11_in : GoodIn wsX11_figure wsX11_in := goodIn_r _ [11] rfl (by decide +kernel)
set_option maxRecDepth 20000 in
theorem gX11_figure_X11_in : GoodIn wsX11_figure (va_wsS RX11 118 yX11_in wsX11_in) := goodIn_app (goodIn_of _ (by decide +kernel)) ggX11_figure_X11_in
set_option maxRecDepth 20000 in
theorem ggX11_figure_X11_faulty : GoodIn wsX11_figure wsX11_faulty := goodIn_r _ [15, 16, 1, 24, 25, 26, 27, 28, 29, 30, 31, 32, 33, 34, 35, 36, 37, 38, 39, 40, 41, 42, 43, 44, 45, 46, 47, 48, 49, 50, 51, 52, 53, 54, 55, 56, 57, 58, 59, 60, 61, 62, 63, 64, 65, 66, 67, 68, 69, 70, 71, 72, 73] rfl (by decide +kernel)
set_option maxRecDepth 20000 in
theorem gX11_figure_X11_faulty : GoodIn wsX11_figure (wsV RX11 201 RX11 yX11_faulty wsX11_faulty) := goodIn_app (goodIn_of _ (by decide +kernel)) ggX11_figure_X11_faulty
set_option maxRecDepth 20000 in
theorem ggX11_figure_X11_addStep : GoodIn wsX11_figure wsX11_addStep := goodIn_r _ [20, 21, 22, 23, 24, 25, 26, 27, 28, 29, 30, 31, 32, 33, 34, 35, 36, 37, 38, 39, 40, 41, 42, 43, 44, 45, 46, 47, 48, 49, 50, 51, 52, 53, 54, 55, 56, 57, 58, 59, 60, 61, 62, 63, 64, 65, 66, 67, 68, 69, 70, 71, 72, 73] rfl (by decide +kernel)
set_option maxRecDepth 20000 in
theorem gX11_figure_X11_addStep : GoodIn wsX11_figure (wsV RX11 208 RX11 yX11_addStep wsX11_addStep) := goodIn_app (goodIn_of _ (by decide +kernel)) ggX11_figure_X11_addStep
theorem dX11_figure_0 : decode cX11_figure 0 = .ok (.iconst 0, 1) := by decide +kernel
theorem dX11_figure_1 : decode cX11_figure 1 = .ok (.istore_n 1, 1) := by decide +kernel
theorem dX11_figure_2 : decode cX11_figure 2 = .ok (.iconst 0, 1) := by decide +kernel
theorem dX11_figure_3 : decode cX11_figure 3 = .ok (.istore_n 2, 1) := by decide +kernel
theorem dX11_figure_4 : decode cX11_figure 4 = .ok (.iload_n 2, 1) := by decide +kernel
theorem dX11_figure_5 : decode cX11_figure 5 = .ok (.iconst 4, 1) := by decide +kernel
theorem dX11_figure_6 : decode cX11_figure 6 = .ok (.if_icmp .ge 46, 3) := by decide +kernel
theorem dX11_figure_9 : decode cX11_figure 9 = .ok (.aload_n 0, 1) := by decide +kernel
theorem dX11_figure_10 : decode cX11_figure 10 = .ok (.invokevirtual 204, 3) := by decide +kernel
theorem dX11_figure_13 : decode cX11_figure 13 = .ok (.bipush 48, 2) := by decide +kernel
theorem dX11_figure_15 : decode cX11_figure 15 = .ok (.bipush 57, 2) := by decide +kernel
theorem dX11_figure_17 : decode cX11_figure 17 = .ok (.invokestatic 118, 3) := by decide +kernel
theorem dX11_figure_20 : decode cX11_figure 20 = .ok (.ifCond .eq 32, 3) := by decide +kernel
theorem dX11_figure_23 : decode cX11_figure 23 = .ok (.bipush 10, 2) := by decide +kernel
theorem dX11_figure_25 : decode cX11_figure 25 = .ok (.iload_n 1, 1) := by decide +kernel
theorem dX11_figure_26 : decode cX11_figure 26 = .ok (.imul, 1) := by decide +kernel
theorem dX11_figure_27 : decode cX11_figure 27 = .ok (.aload_n 0, 1) := by decide +kernel
theorem dX11_figure_28 : decode cX11_figure 28 = .ok (.invokevirtual 204, 3) := by decide +kernel
theorem dX11_figure_31 : decode cX11_figure 31 = .ok (.iadd, 1) := by decide +kernel
theorem dX11_figure_32 : decode cX11_figure 32 = .ok (.bipush 48, 2) := by decide +kernel
theorem dX11_figure_34 : decode cX11_figure 34 = .ok (.isub, 1) := by decide +kernel
theorem dX11_figure_35 : decode cX11_figure 35 = .ok (.istore_n 1, 1) := by decide +kernel
theorem dX11_figure_36 : decode cX11_figure 36 = .ok (.iinc 2 1, 3) := by decide +kernel
theorem dX11_figure_39 : decode cX11_figure 39 = .ok (.aload_n 0, 1) := by decide +kernel
theorem dX11_figure_40 : decode cX11_figure 40 = .ok (.dup, 1) := by decide +kernel
theorem dX11_figure_41 : decode cX11_figure 41 = .ok (.getfield 189, 3) := by decide +kernel
theorem dX11_figure_44 : decode cX11_figure 44 = .ok (.iconst 1, 1) := by decide +kernel
theorem dX11_figure_45 : decode cX11_figure 45 = .ok (.iadd, 1) := by decide +kernel
theorem dX11_figure_46 : decode cX11_figure 46 = .ok (.putfield 189, 3) := by decide +kernel
theorem dX11_figure_49 : decode cX11_figure 49 = .ok (.goto (-45), 3) := by decide +kernel
theorem dX11_figure_52 : decode cX11_figure 52 = .ok (.iload_n 2, 1) := by decide +kernel
theorem dX11_figure_53 : decode cX11_figure 53 = .ok (.ifCond .eq 17, 3) := by decide +kernel
theorem dX11_figure_56 : decode cX11_figure 56 = .ok (.aload_n 0, 1) := by decide +kernel
theorem dX11_figure_57 : decode cX11_figure 57 = .ok (.invokevirtual 204, 3) := by decide +kernel
theorem dX11_figure_60 : decode cX11_figure 60 = .ok (.bipush 48, 2) := by decide +kernel
theorem dX11_figure_62 : decode cX11_figure 62 = .ok (.bipush 57, 2) := by decide +kernel
theorem dX11_figure_64 : decode cX11_figure 64 = .ok (.invokestatic 118, 3) := by decide +kernel
theorem dX11_figure_67 : decode cX11_figure 67 = .ok (.ifCond .eq 7, 3) := by decide +kernel
theorem dX11_figure_70 : decode cX11_figure 70 = .ok (.aload_n 0, 1) := by decide +kernel
theorem dX11_figure_71 : decode cX11_figure 71 = .ok (.invokevirtual 201, 3) := by decide +kernel
theorem dX11_figure_74 : decode cX11_figure 74 = .ok (.aload_n 0, 1) := by decide +kernel
theorem dX11_figure_75 : decode cX11_figure 75 = .ok (.iconst 1, 1) := by decide +kernel
theorem dX11_figure_76 : decode cX11_figure 76 = .ok (.iload_n 1, 1) := by decide +kernel
theorem dX11_figure_77 : decode cX11_figure 77 = .ok (.invokevirtual 208, 3) := by decide +kernel
theorem dX11_figure_80 : decode cX11_figure 80 = .ok (.return_, 1) := by decide +kernel
set_option maxRecDepth 20000 in
theorem ggX11_operand_X11_look : GoodIn wsX11_operand wsX11_look := goodIn_r _ [8, 1, 9, 10, 59, 60, 61, 62, 63, 64, 65, 66, 67, 68, 69, 70, 71, 72, 73, 74, 75, 76, 77, 78, 79, 80, 81, 82, 83, 84, 85, 86, 87, 88, 89, 90, 91, 92, 93, 94, 95, 96, 97, 98, 99, 100, 101, 102, 103, 104, 105, 106, 107, 108] rfl (by decide +kernel)
set_option maxRecDepth 20000 in
theorem gX11_operand_X11_look : GoodIn wsX11_operand (wsV RX11 204 RX11 yX11_look wsX11_look) := goodIn_app (goodIn_of _ (by decide +kernel)) ggX11_operand_X11_look
set_option maxRecDepth 20000 in
theorem ggX11_operand_X11_nameOf : GoodIn wsX11_operand wsX11_nameOf := goodIn_r _ [13] rfl (by decide +kernel)
set_option maxRecDepth 20000 in
theorem gX11_operand_X11_nameOf : GoodIn wsX11_operand (va_wsS RX11 212 yX11_nameOf wsX11_nameOf) := goodIn_app (goodIn_of _ (by decide +kernel)) ggX11_operand_X11_nameOf
set_option maxRecDepth 20000 in
theorem ggX11_operand_X11_addStep : GoodIn wsX11_operand wsX11_addStep := goodIn_r _ [17, 18, 19, 20, 59, 60, 61, 62, 63, 64, 65, 66, 67, 68, 69, 70, 71, 72, 73, 74, 75, 76, 77, 78, 79, 80, 81, 82, 83, 84, 85, 86, 87, 88, 89, 90, 91, 92, 93, 94, 95, 96, 97, 98, 99, 100, 101, 102, 103, 104, 105, 106, 107, 108] rfl (by decide +kernel)
set_option maxRecDepth 20000 in
theorem gX11_operand_X11_addStep : GoodIn wsX11_operand (wsV RX11 208 RX11 yX11_addStep wsX11_addStep) := goodIn_app (goodIn_of _ (by decide +kernel)) ggX11_operand_X11_addStep
set_option maxRecDepth 20000 in
theorem ggX11_operand_X11_opens : GoodIn wsX11_operand wsX11_opens := goodIn_r _ [24, 2, 1, 25, 26, 27, 7, 28, 3, 59, 60, 61, 62, 63, 64, 65, 66, 67, 68, 69, 70, 71, 72, 73, 74, 75, 76, 77, 78, 79, 80, 81, 82, 83, 84, 85, 86, 87, 88, 89, 90, 91, 92, 93, 94, 95, 96, 97, 98, 99, 100, 101, 102, 103, 104, 105, 106, 107, 108] rfl (by decide +kernel)
set_option maxRecDepth 20000 in
theorem gX11_operand_X11_opens : GoodIn wsX11_operand (wsV RX11 215 RX11 yX11_opens wsX11_opens) := goodIn_app (goodIn_of _ (by decide +kernel)) ggX11_operand_X11_opens
set_option maxRecDepth 20000 in
theorem ggX11_operand_X11_operand : GoodIn wsX11_operand wsX11_operand := goodIn_r _ [0, 1, 2, 3, 4, 5, 6, 7, 8, 9, 10, 11, 12, 13, 14, 15, 16, 17, 18, 19, 20, 21, 22, 23, 24, 25, 26, 27, 28, 29, 30, 31, 32, 33, 34, 35, 36, 37, 38, 39, 40, 41, 42, 43, 44, 45, 46, 47, 48, 49, 50, 51, 52, 53, 54, 55, 56, 57, 58, 59, 60, 61, 62, 63, 64, 65, 66, 67, 68, 69, 70, 71, 72, 73, 74, 75, 76, 77, 78, 79, 80, 81, 82, 83, 84, 85, 86, 87, 88, 89, 90, 91, 92, 93, 94, 95, 96, 97, 98, 99, 100, 101, 102, 103, 104, 105, 106, 107, 108] rfl (by decide +kernel)
set_option maxRecDepth 20000 in
theorem gX11_operand_X11_operand : GoodIn wsX11_operand (wsV RX11 219 RX11 yX11_operand wsX11_operand) := goodIn_app (goodIn_of _ (by decide +kernel)) ggX11_operand_X11_operand
set_option maxRecDepth 20000 in
theorem ggX11_operand_X11_either : GoodIn wsX11_operand wsX11_either := goodIn_r _ [50, 3, 1, 51, 52, 53, 7, 4, 5, 6, 8, 9, 10, 14, 15, 16, 17, 18, 19, 20, 42, 43, 44, 45, 46, 47, 48, 49, 0, 2, 11, 12, 13, 21, 22, 23, 24, 25, 26, 27, 28, 29, 30, 31, 32, 33, 34, 35, 36, 37, 38, 39, 40, 41, 54, 55, 56, 57, 58, 59, 60, 61, 62, 63, 64, 65, 66, 67, 68, 69, 70, 71, 72, 73, 74, 75, 76, 77, 78, 79, 80, 81, 82, 83, 84, 85, 86, 87, 88, 89, 90, 91, 92, 93, 94, 95, 96, 97, 98, 99, 100, 101, 102, 103, 104, 105, 106, 107, 108] rfl (by decide +kernel)
set_option maxRecDepth 20000 in
theorem gX11_operand_X11_either : GoodIn wsX11_operand (wsV RX11 222 RX11 yX11_either wsX11_either) := goodIn_app (goodIn_of _ (by decide +kernel)) ggX11_operand_X11_either
set_option maxRecDepth 20000 in
theorem ggX11_operand_X11_faulty : GoodIn wsX11_operand wsX11_faulty := goodIn_r _ [28, 3, 1, 59, 60, 61, 62, 63, 64, 65, 66, 67, 68, 69, 70, 71, 72, 73, 74, 75, 76, 77, 78, 79, 80, 81, 82, 83, 84, 85, 86, 87, 88, 89, 90, 91, 92, 93, 94, 95, 96, 97, 98, 99, 100, 101, 102, 103, 104, 105, 106, 107, 108] rfl (by decide +kernel)
set_option maxRecDepth 20000 in
theorem gX11_operand_X11_faulty : GoodIn wsX11_operand (wsV RX11 201 RX11 yX11_faulty wsX11_faulty) := goodIn_app (goodIn_of _ (by decide +kernel)) ggX11_operand_X11_faulty
set_option maxRecDepth 20000 in
theorem ggX11_operand_X11_figure : GoodIn wsX11_operand wsX11_figure := goodIn_r _ [38, 1, 4, 5, 6, 7, 8, 9, 10, 39, 40, 41, 25, 26, 27, 28, 3, 14, 15, 16, 17, 18, 19, 20, 59, 60, 61, 62, 63, 64, 65, 66, 67, 68, 69, 70, 71, 72, 73, 74, 75, 76, 77, 78, 79, 80, 81, 82, 83, 84, 85, 86, 87, 88, 89, 90, 91, 92, 93, 94, 95, 96, 97, 98, 99, 100, 101, 102, 103, 104, 105, 106, 107, 108] rfl (by decide +kernel)
set_option maxRecDepth 20000 in
theorem gX11_operand_X11_figure : GoodIn wsX11_operand (wsV RX11 225 RX11 yX11_figure wsX11_figure) := goodIn_app (goodIn_of _ (by decide +kernel)) ggX11_operand_X11_figure
theorem dX11_operand_0 : decode cX11_operand 0 = .ok (.aload_n 0, 1) := by decide +kernel
theorem dX11_operand_1 : decode cX11_operand 1 = .ok (.invokevirtual 204, 3) := by decide +kernel
theorem dX11_operand_4 : decode cX11_operand 4 = .ok (.istore_n 1, 1) := by decide +kernel
theorem dX11_operand_5 : decode cX11_operand 5 = .ok (.iload_n 1, 1) := by decide +kernel
theorem dX11_operand_6 : decode cX11_operand 6 = .ok (.invokestatic 212, 3) := by decide +kernel
theorem dX11_operand_9 : decode cX11_operand 9 = .ok (.ifCond .lt 25, 3) := by decide +kernel
theorem dX11_operand_12 : decode cX11_operand 12 = .ok (.aload_n 0, 1) := by decide +kernel
theorem dX11_operand_13 : decode cX11_operand 13 = .ok (.iconst 2, 1) := by decide +kernel
theorem dX11_operand_14 : decode cX11_operand 14 = .ok (.iload_n 1, 1) := by decide +kernel
theorem dX11_operand_15 : decode cX11_operand 15 = .ok (.invokestatic 212, 3) := by decide +kernel
theorem dX11_operand_18 : decode cX11_operand 18 = .ok (.invokevirtual 208, 3) := by decide +kernel
theorem dX11_operand_21 : decode cX11_operand 21 = .ok (.aload_n 0, 1) := by decide +kernel
theorem dX11_operand_22 : decode cX11_operand 22 = .ok (.dup, 1) := by decide +kernel
theorem dX11_operand_23 : decode cX11_operand 23 = .ok (.getfield 189, 3) := by decide +kernel
theorem dX11_operand_26 : decode cX11_operand 26 = .ok (.iconst 1, 1) := by decide +kernel
theorem dX11_operand_27 : decode cX11_operand 27 = .ok (.iadd, 1) := by decide +kernel
theorem dX11_operand_28 : decode cX11_operand 28 = .ok (.putfield 189, 3) := by decide +kernel
theorem dX11_operand_31 : decode cX11_operand 31 = .ok (.goto 123, 3) := by decide +kernel
theorem dX11_operand_34 : decode cX11_operand 34 = .ok (.iload_n 1, 1) := by decide +kernel
theorem dX11_operand_35 : decode cX11_operand 35 = .ok (.bipush 33, 2) := by decide +kernel
theorem dX11_operand_37 : decode cX11_operand 37 = .ok (.if_icmp .eq 9, 3) := by decide +kernel
theorem dX11_operand_40 : decode cX11_operand 40 = .ok (.iload_n 1, 1) := by decide +kernel
theorem dX11_operand_41 : decode cX11_operand 41 = .ok (.bipush 45, 2) := by decide +kernel
theorem dX11_operand_43 : decode cX11_operand 43 = .ok (.if_icmp .ne 44, 3) := by decide +kernel
theorem dX11_operand_46 : decode cX11_operand 46 = .ok (.aload_n 0, 1) := by decide +kernel
theorem dX11_operand_47 : decode cX11_operand 47 = .ok (.invokevirtual 215, 3) := by decide +kernel
theorem dX11_operand_50 : decode cX11_operand 50 = .ok (.ifCond .ne 4, 3) := by decide +kernel
theorem dX11_operand_53 : decode cX11_operand 53 = .ok (.return_, 1) := by decide +kernel
theorem dX11_operand_54 : decode cX11_operand 54 = .ok (.aload_n 0, 1) := by decide +kernel
theorem dX11_operand_55 : decode cX11_operand 55 = .ok (.invokevirtual 219, 3) := by decide +kernel
theorem dX11_operand_58 : decode cX11_operand 58 = .ok (.aload_n 0, 1) := by decide +kernel
theorem dX11_operand_59 : decode cX11_operand 59 = .ok (.dup, 1) := by decide +kernel
theorem dX11_operand_60 : decode cX11_operand 60 = .ok (.getfield 198, 3) := by decide +kernel
theorem dX11_operand_63 : decode cX11_operand 63 = .ok (.iconst 1, 1) := by decide +kernel
theorem dX11_operand_64 : decode cX11_operand 64 = .ok (.isub, 1) := by decide +kernel
theorem dX11_operand_65 : decode cX11_operand 65 = .ok (.putfield 198, 3) := by decide +kernel
theorem dX11_operand_68 : decode cX11_operand 68 = .ok (.aload_n 0, 1) := by decide +kernel
theorem dX11_operand_69 : decode cX11_operand 69 = .ok (.iload_n 1, 1) := by decide +kernel
theorem dX11_operand_70 : decode cX11_operand 70 = .ok (.bipush 33, 2) := by decide +kernel
theorem dX11_operand_72 : decode cX11_operand 72 = .ok (.if_icmp .ne 7, 3) := by decide +kernel
theorem dX11_operand_75 : decode cX11_operand 75 = .ok (.iconst 3, 1) := by decide +kernel
theorem dX11_operand_76 : decode cX11_operand 76 = .ok (.goto 4, 3) := by decide +kernel
theorem dX11_operand_79 : decode cX11_operand 79 = .ok (.iconst 4, 1) := by decide +kernel
theorem dX11_operand_80 : decode cX11_operand 80 = .ok (.iconst 0, 1) := by decide +kernel
theorem dX11_operand_81 : decode cX11_operand 81 = .ok (.invokevirtual 208, 3) := by decide +kernel
theorem dX11_operand_84 : decode cX11_operand 84 = .ok (.goto 70, 3) := by decide +kernel
theorem dX11_operand_87 : decode cX11_operand 87 = .ok (.iload_n 1, 1) := by decide +kernel
theorem dX11_operand_88 : decode cX11_operand 88 = .ok (.bipush 40, 2) := by decide +kernel
theorem dX11_operand_90 : decode cX11_operand 90 = .ok (.if_icmp .ne 60, 3) := by decide +kernel
theorem dX11_operand_93 : decode cX11_operand 93 = .ok (.aload_n 0, 1) := by decide +kernel
theorem dX11_operand_94 : decode cX11_operand 94 = .ok (.invokevirtual 215, 3) := by decide +kernel
theorem dX11_operand_97 : decode cX11_operand 97 = .ok (.ifCond .ne 4, 3) := by decide +kernel
theorem dX11_operand_100 : decode cX11_operand 100 = .ok (.return_, 1) := by decide +kernel
theorem dX11_operand_101 : decode cX11_operand 101 = .ok (.aload_n 0, 1) := by decide +kernel
theorem dX11_operand_102 : decode cX11_operand 102 = .ok (.invokevirtual 222, 3) := by decide +kernel
theorem dX11_operand_105 : decode cX11_operand 105 = .ok (.aload_n 0, 1) := by decide +kernel
theorem dX11_operand_106 : decode cX11_operand 106 = .ok (.getfield 192, 3) := by decide +kernel
theorem dX11_operand_109 : decode cX11_operand 109 = .ok (.ifCond .lt 4, 3) := by decide +kernel
theorem dX11_operand_112 : decode cX11_operand 112 = .ok (.return_, 1) := by decide +kernel
theorem dX11_operand_113 : decode cX11_operand 113 = .ok (.aload_n 0, 1) := by decide +kernel
theorem dX11_operand_114 : decode cX11_operand 114 = .ok (.invokevirtual 204, 3) := by decide +kernel
theorem dX11_operand_117 : decode cX11_operand 117 = .ok (.bipush 41, 2) := by decide +kernel
theorem dX11_operand_119 : decode cX11_operand 119 = .ok (.if_icmp .eq 8, 3) := by decide +kernel
theorem dX11_operand_122 : decode cX11_operand 122 = .ok (.aload_n 0, 1) := by decide +kernel
theorem dX11_operand_123 : decode cX11_operand 123 = .ok (.invokevirtual 201, 3) := by decide +kernel
theorem dX11_operand_126 : decode cX11_operand 126 = .ok (.return_, 1) := by decide +kernel
theorem dX11_operand_127 : decode cX11_operand 127 = .ok (.aload_n 0, 1) := by decide +kernel
theorem dX11_operand_128 : decode cX11_operand 128 = .ok (.dup, 1) := by decide +kernel
theorem dX11_operand_129 : decode cX11_operand 129 = .ok (.getfield 189, 3) := by decide +kernel
theorem dX11_operand_132 : decode cX11_operand 132 = .ok (.iconst 1, 1) := by decide +kernel
theorem dX11_operand_133 : decode cX11_operand 133 = .ok (.iadd, 1) := by decide +kernel
theorem dX11_operand_134 : decode cX11_operand 134 = .ok (.putfield 189, 3) := by decide +kernel
theorem dX11_operand_137 : decode cX11_operand 137 = .ok (.aload_n 0, 1) := by decide +kernel
theorem dX11_operand_138 : decode cX11_operand 138 = .ok (.dup, 1) := by decide +kernel
theorem dX11_operand_139 : decode cX11_operand 139 = .ok (.getfield 198, 3) := by decide +kernel
theorem dX11_operand_142 : decode cX11_operand 142 = .ok (.iconst 1, 1) := by decide +kernel
theorem dX11_operand_143 : decode cX11_operand 143 = .ok (.isub, 1) := by decide +kernel
theorem dX11_operand_144 : decode cX11_operand 144 = .ok (.putfield 198, 3) := by decide +kernel
theorem dX11_operand_147 : decode cX11_operand 147 = .ok (.goto 7, 3) := by decide +kernel
theorem dX11_operand_150 : decode cX11_operand 150 = .ok (.aload_n 0, 1) := by decide +kernel
theorem dX11_operand_151 : decode cX11_operand 151 = .ok (.invokevirtual 225, 3) := by decide +kernel
theorem dX11_operand_154 : decode cX11_operand 154 = .ok (.return_, 1) := by decide +kernel
set_option maxRecDepth 20000 in
theorem ggX11_product_X11_operand : GoodIn wsX11_product wsX11_operand := goodIn_r _ [32, 2, 33, 1, 7, 8, 9, 6, 10, 11, 12, 34, 35, 36, 13, 14, 15, 16, 17, 18, 19, 37, 38, 39, 40, 41, 42, 43, 44, 3, 4, 5, 45, 46, 47, 48, 49, 50, 51, 52, 53, 54, 20, 21, 22, 23, 24, 25, 26, 27, 28, 29, 30, 31, 0, 55, 56, 57, 58, 59, 60, 61, 62, 63, 64, 65, 66, 67, 68, 69, 70, 71, 72, 73, 74, 75, 76, 77, 78, 79, 80, 81, 82, 83, 84, 85, 86, 87, 88, 89, 90, 91, 92, 93, 94, 95, 96, 97, 98, 99, 100, 101, 102, 103, 104, 105, 106, 107, 108] rfl (by decide +kernel)
set_option maxRecDepth 20000 in
theorem gX11_product_X11_operand : GoodIn wsX11_product (wsV RX11 219 RX11 yX11_operand wsX11_operand) := goodIn_app (goodIn_of _ (by decide +kernel)) ggX11_product_X11_operand
set_option maxRecDepth 20000 in
theorem ggX11_product_X11_look : GoodIn wsX11_product wsX11_look := goodIn_r _ [10, 2, 11, 12, 59, 60, 61, 62, 63, 64, 65, 66, 67, 68, 69, 70, 71, 72, 73, 74, 75, 76, 77, 78, 79, 80, 81, 82, 83, 84, 85, 86, 87, 88, 89, 90, 91, 92, 93, 94, 95, 96, 97, 98, 99, 100, 101, 102, 103, 104, 105, 106, 107, 108] rfl (by decide +kernel)
set_option maxRecDepth 20000 in
theorem gX11_product_X11_look : GoodIn wsX11_product (wsV RX11 204 RX11 yX11_look wsX11_look) := goodIn_app (goodIn_of _ (by decide +kernel)) ggX11_product_X11_look
set_option maxRecDepth 20000 in
theorem ggX11_product_X11_addStep : GoodIn wsX11_product wsX11_addStep := goodIn_r _ [16, 17, 18, 19, 59, 60, 61, 62, 63, 64, 65, 66, 67, 68, 69, 70, 71, 72, 73, 74, 75, 76, 77, 78, 79, 80, 81, 82, 83, 84, 85, 86, 87, 88, 89, 90, 91, 92, 93, 94, 95, 96, 97, 98, 99, 100, 101, 102, 103, 104, 105, 106, 107, 108] rfl (by decide +kernel)
set_option maxRecDepth 20000 in
theorem gX11_product_X11_addStep : GoodIn wsX11_product (wsV RX11 208 RX11 yX11_addStep wsX11_addStep) := goodIn_app (goodIn_of _ (by decide +kernel)) ggX11_product_X11_addStep
theorem dX11_product_0 : decode cX11_product 0 = .ok (.aload_n 0, 1) := by decide +kernel
theorem dX11_product_1 : decode cX11_product 1 = .ok (.invokevirtual 219, 3) := by decide +kernel
theorem dX11_product_4 : decode cX11_product 4 = .ok (.aload_n 0, 1) := by decide +kernel
theorem dX11_product_5 : decode cX11_product 5 = .ok (.getfield 192, 3) := by decide +kernel
theorem dX11_product_8 : decode cX11_product 8 = .ok (.ifCond .ge 58, 3) := by decide +kernel
theorem dX11_product_11 : decode cX11_product 11 = .ok (.aload_n 0, 1) := by decide +kernel
theorem dX11_product_12 : decode cX11_product 12 = .ok (.invokevirtual 204, 3) := by decide +kernel
theorem dX11_product_15 : decode cX11_product 15 = .ok (.bipush 42, 2) := by decide +kernel
theorem dX11_product_17 : decode cX11_product 17 = .ok (.if_icmp .eq 21, 3) := by decide +kernel
theorem dX11_product_20 : decode cX11_product 20 = .ok (.aload_n 0, 1) := by decide +kernel
theorem dX11_product_21 : decode cX11_product 21 = .ok (.invokevirtual 204, 3) := by decide +kernel
theorem dX11_product_24 : decode cX11_product 24 = .ok (.bipush 47, 2) := by decide +kernel
theorem dX11_product_26 : decode cX11_product 26 = .ok (.if_icmp .eq 12, 3) := by decide +kernel
theorem dX11_product_29 : decode cX11_product 29 = .ok (.aload_n 0, 1) := by decide +kernel
theorem dX11_product_30 : decode cX11_product 30 = .ok (.invokevirtual 204, 3) := by decide +kernel
theorem dX11_product_33 : decode cX11_product 33 = .ok (.bipush 37, 2) := by decide +kernel
theorem dX11_product_35 : decode cX11_product 35 = .ok (.if_icmp .ne 31, 3) := by decide +kernel
theorem dX11_product_38 : decode cX11_product 38 = .ok (.aload_n 0, 1) := by decide +kernel
theorem dX11_product_39 : decode cX11_product 39 = .ok (.invokevirtual 204, 3) := by decide +kernel
theorem dX11_product_42 : decode cX11_product 42 = .ok (.istore_n 1, 1) := by decide +kernel
theorem dX11_product_43 : decode cX11_product 43 = .ok (.aload_n 0, 1) := by decide +kernel
theorem dX11_product_44 : decode cX11_product 44 = .ok (.dup, 1) := by decide +kernel
theorem dX11_product_45 : decode cX11_product 45 = .ok (.getfield 189, 3) := by decide +kernel
theorem dX11_product_48 : decode cX11_product 48 = .ok (.iconst 1, 1) := by decide +kernel
theorem dX11_product_49 : decode cX11_product 49 = .ok (.iadd, 1) := by decide +kernel
theorem dX11_product_50 : decode cX11_product 50 = .ok (.putfield 189, 3) := by decide +kernel
theorem dX11_product_53 : decode cX11_product 53 = .ok (.aload_n 0, 1) := by decide +kernel
theorem dX11_product_54 : decode cX11_product 54 = .ok (.invokevirtual 219, 3) := by decide +kernel
theorem dX11_product_57 : decode cX11_product 57 = .ok (.aload_n 0, 1) := by decide +kernel
theorem dX11_product_58 : decode cX11_product 58 = .ok (.iload_n 1, 1) := by decide +kernel
theorem dX11_product_59 : decode cX11_product 59 = .ok (.iconst 0, 1) := by decide +kernel
theorem dX11_product_60 : decode cX11_product 60 = .ok (.invokevirtual 208, 3) := by decide +kernel
theorem dX11_product_63 : decode cX11_product 63 = .ok (.goto (-59), 3) := by decide +kernel
theorem dX11_product_66 : decode cX11_product 66 = .ok (.return_, 1) := by decide +kernel
set_option maxRecDepth 20000 in
theorem ggX11_sum_X11_product : GoodIn wsX11_sum wsX11_product := goodIn_r _ [58, 1, 2, 45, 46, 47, 6, 7, 8, 9, 10, 11, 12, 13, 14, 15, 16, 17, 18, 19, 20, 21, 22, 23, 24, 25, 26, 27, 28, 29, 30, 31, 32, 33, 34, 35, 36, 37, 38, 39, 40, 41, 42, 43, 44, 48, 49, 50, 51, 52, 53, 54, 55, 56, 57, 0, 3, 4, 5, 59, 60, 61, 62, 63, 64, 65, 66, 67, 68, 69, 70, 71, 72, 73, 74, 75, 76, 77, 78, 79, 80, 81, 82, 83, 84, 85, 86, 87, 88, 89, 90, 91, 92, 93, 94, 95, 96, 97, 98, 99, 100, 101, 102, 103, 104, 105, 106, 107, 108] rfl (by decide +kernel)
set_option maxRecDepth 20000 in
theorem gX11_sum_X11_product : GoodIn wsX11_sum (wsV RX11 228 RX11 yX11_product wsX11_product) := goodIn_app (goodIn_of _ (by decide +kernel)) ggX11_sum_X11_product
set_option maxRecDepth 20000 in
theorem ggX11_sum_X11_look : GoodIn wsX11_sum wsX11_look := goodIn_r _ [10, 2, 11, 12, 59, 60, 61, 62, 63, 64, 65, 66, 67, 68, 69, 70, 71, 72, 73, 74, 75, 76, 77, 78, 79, 80, 81, 82, 83, 84, 85, 86, 87, 88, 89, 90, 91, 92, 93, 94, 95, 96, 97, 98, 99, 100, 101, 102, 103, 104, 105, 106, 107, 108] rfl (by decide +kernel)
set_option maxRecDepth 20000 in
theorem gX11_sum_X11_look : GoodIn wsX11_sum (wsV RX11 204 RX11 yX11_look wsX11_look) := goodIn_app (goodIn_of _ (by decide +kernel)) ggX11_sum_X11_look
set_option maxRecDepth 20000 in
theorem ggX11_sum_X11_addStep : GoodIn wsX11_sum wsX11_addStep := goodIn_r _ [16, 17, 18, 19, 59, 60, 61, 62, 63, 64, 65, 66, 67, 68, 69, 70, 71, 72, 73, 74, 75, 76, 77, 78, 79, 80, 81, 82, 83, 84, 85, 86, 87, 88, 89, 90, 91, 92, 93, 94, 95, 96, 97, 98, 99, 100, 101, 102, 103, 104, 105, 106, 107, 108] rfl (by decide +kernel)
set_option maxRecDepth 20000 in
theorem gX11_sum_X11_addStep : GoodIn wsX11_sum (wsV RX11 208 RX11 yX11_addStep wsX11_addStep) := goodIn_app (goodIn_of _ (by decide +kernel)) ggX11_sum_X11_addStep
theorem dX11_sum_0 : decode cX11_sum 0 = .ok (.aload_n 0, 1) := by decide +kernel
theorem dX11_sum_1 : decode cX11_sum 1 = .ok (.invokevirtual 228, 3) := by decide +kernel
theorem dX11_sum_4 : decode cX11_sum 4 = .ok (.aload_n 0, 1) := by decide +kernel
theorem dX11_sum_5 : decode cX11_sum 5 = .ok (.getfield 192, 3) := by decide +kernel
theorem dX11_sum_8 : decode cX11_sum 8 = .ok (.ifCond .ge 49, 3) := by decide +kernel
theorem dX11_sum_11 : decode cX11_sum 11 = .ok (.aload_n 0, 1) := by decide +kernel
theorem dX11_sum_12 : decode cX11_sum 12 = .ok (.invokevirtual 204, 3) := by decide +kernel
theorem dX11_sum_15 : decode cX11_sum 15 = .ok (.bipush 43, 2) := by decide +kernel
theorem dX11_sum_17 : decode cX11_sum 17 = .ok (.if_icmp .eq 12, 3) := by decide +kernel
theorem dX11_sum_20 : decode cX11_sum 20 = .ok (.aload_n 0, 1) := by decide +kernel
theorem dX11_sum_21 : decode cX11_sum 21 = .ok (.invokevirtual 204, 3) := by decide +kernel
theorem dX11_sum_24 : decode cX11_sum 24 = .ok (.bipush 45, 2) := by decide +kernel
theorem dX11_sum_26 : decode cX11_sum 26 = .ok (.if_icmp .ne 31, 3) := by decide +kernel
theorem dX11_sum_29 : decode cX11_sum 29 = .ok (.aload_n 0, 1) := by decide +kernel
theorem dX11_sum_30 : decode cX11_sum 30 = .ok (.invokevirtual 204, 3) := by decide +kernel
theorem dX11_sum_33 : decode cX11_sum 33 = .ok (.istore_n 1, 1) := by decide +kernel
theorem dX11_sum_34 : decode cX11_sum 34 = .ok (.aload_n 0, 1) := by decide +kernel
theorem dX11_sum_35 : decode cX11_sum 35 = .ok (.dup, 1) := by decide +kernel
theorem dX11_sum_36 : decode cX11_sum 36 = .ok (.getfield 189, 3) := by decide +kernel
theorem dX11_sum_39 : decode cX11_sum 39 = .ok (.iconst 1, 1) := by decide +kernel
theorem dX11_sum_40 : decode cX11_sum 40 = .ok (.iadd, 1) := by decide +kernel
theorem dX11_sum_41 : decode cX11_sum 41 = .ok (.putfield 189, 3) := by decide +kernel
theorem dX11_sum_44 : decode cX11_sum 44 = .ok (.aload_n 0, 1) := by decide +kernel
theorem dX11_sum_45 : decode cX11_sum 45 = .ok (.invokevirtual 228, 3) := by decide +kernel
theorem dX11_sum_48 : decode cX11_sum 48 = .ok (.aload_n 0, 1) := by decide +kernel
theorem dX11_sum_49 : decode cX11_sum 49 = .ok (.iload_n 1, 1) := by decide +kernel
theorem dX11_sum_50 : decode cX11_sum 50 = .ok (.iconst 0, 1) := by decide +kernel
theorem dX11_sum_51 : decode cX11_sum 51 = .ok (.invokevirtual 208, 3) := by decide +kernel
theorem dX11_sum_54 : decode cX11_sum 54 = .ok (.goto (-50), 3) := by decide +kernel
theorem dX11_sum_57 : decode cX11_sum 57 = .ok (.return_, 1) := by decide +kernel
set_option maxRecDepth 20000 in
theorem ggX11_compared_X11_sum : GoodIn wsX11_compared wsX11_sum := goodIn_r _ [55, 1, 2, 56, 57, 58, 6, 7, 8, 9, 10, 11, 12, 13, 14, 15, 16, 17, 18, 19, 20, 21, 22, 23, 0, 3, 4, 5, 24, 25, 26, 27, 28, 29, 30, 31, 32, 33, 34, 35, 36, 37, 38, 39, 40, 41, 42, 43, 44, 45, 46, 47, 48, 49, 50, 51, 52, 53, 54, 59, 60, 61, 62, 63, 64, 65, 66, 67, 68, 69, 70, 71, 72, 73, 74, 75, 76, 77, 78, 79, 80, 81, 82, 83, 84, 85, 86, 87, 88, 89, 90, 91, 92, 93, 94, 95, 96, 97, 98, 99, 100, 101, 102, 103, 104, 105, 106, 107, 108] rfl (by decide +kernel)
set_option maxRecDepth 20000 in
theorem gX11_compared_X11_sum : GoodIn wsX11_compared (wsV RX11 231 RX11 yX11_sum wsX11_sum) := goodIn_app (goodIn_of _ (by decide +kernel)) ggX11_compared_X11_sum
set_option maxRecDepth 20000 in
theorem ggX11_compared_X11_look : GoodIn wsX11_compared wsX11_look := goodIn_r _ [10, 2, 11, 12, 59, 60, 61, 62, 63, 64, 65, 66, 67, 68, 69, 70, 71, 72, 73, 74, 75, 76, 77, 78, 79, 80, 81, 82, 83, 84, 85, 86, 87, 88, 89, 90, 91, 92, 93, 94, 95, 96, 97, 98, 99, 100, 101, 102, 103, 104, 105, 106, 107, 108] rfl (by decide +kernel)
set_option maxRecDepth 20000 in
theorem gX11_compared_X11_look : GoodIn wsX11_compared (wsV RX11 204 RX11 yX11_look wsX11_look) := goodIn_app (goodIn_of _ (by decide +kernel)) ggX11_compared_X11_look
set_option maxRecDepth 20000 in
theorem ggX11_compared_X11_addStep : GoodIn wsX11_compared wsX11_addStep := goodIn_r _ [16, 17, 18, 19, 59, 60, 61, 62, 63, 64, 65, 66, 67, 68, 69, 70, 71, 72, 73, 74, 75, 76, 77, 78, 79, 80, 81, 82, 83, 84, 85, 86, 87, 88, 89, 90, 91, 92, 93, 94, 95, 96, 97, 98, 99, 100, 101, 102, 103, 104, 105, 106, 107, 108] rfl (by decide +kernel)
set_option maxRecDepth 20000 in
theorem gX11_compared_X11_addStep : GoodIn wsX11_compared (wsV RX11 208 RX11 yX11_addStep wsX11_addStep) := goodIn_app (goodIn_of _ (by decide +kernel)) ggX11_compared_X11_addStep
theorem dX11_compared_0 : decode cX11_compared 0 = .ok (.aload_n 0, 1) := by decide +kernel
theorem dX11_compared_1 : decode cX11_compared 1 = .ok (.invokevirtual 231, 3) := by decide +kernel
theorem dX11_compared_4 : decode cX11_compared 4 = .ok (.aload_n 0, 1) := by decide +kernel
theorem dX11_compared_5 : decode cX11_compared 5 = .ok (.invokevirtual 204, 3) := by decide +kernel
theorem dX11_compared_8 : decode cX11_compared 8 = .ok (.istore_n 1, 1) := by decide +kernel
theorem dX11_compared_9 : decode cX11_compared 9 = .ok (.aload_n 0, 1) := by decide +kernel
theorem dX11_compared_10 : decode cX11_compared 10 = .ok (.getfield 192, 3) := by decide +kernel
theorem dX11_compared_13 : decode cX11_compared 13 = .ok (.ifCond .ge 21, 3) := by decide +kernel
theorem dX11_compared_16 : decode cX11_compared 16 = .ok (.iload_n 1, 1) := by decide +kernel
theorem dX11_compared_17 : decode cX11_compared 17 = .ok (.bipush 60, 2) := by decide +kernel
theorem dX11_compared_19 : decode cX11_compared 19 = .ok (.if_icmp .eq 16, 3) := by decide +kernel
theorem dX11_compared_22 : decode cX11_compared 22 = .ok (.iload_n 1, 1) := by decide +kernel
theorem dX11_compared_23 : decode cX11_compared 23 = .ok (.bipush 61, 2) := by decide +kernel
theorem dX11_compared_25 : decode cX11_compared 25 = .ok (.if_icmp .eq 10, 3) := by decide +kernel
theorem dX11_compared_28 : decode cX11_compared 28 = .ok (.iload_n 1, 1) := by decide +kernel
theorem dX11_compared_29 : decode cX11_compared 29 = .ok (.bipush 62, 2) := by decide +kernel
theorem dX11_compared_31 : decode cX11_compared 31 = .ok (.if_icmp .eq 4, 3) := by decide +kernel
theorem dX11_compared_34 : decode cX11_compared 34 = .ok (.return_, 1) := by decide +kernel
theorem dX11_compared_35 : decode cX11_compared 35 = .ok (.aload_n 0, 1) := by decide +kernel
theorem dX11_compared_36 : decode cX11_compared 36 = .ok (.dup, 1) := by decide +kernel
theorem dX11_compared_37 : decode cX11_compared 37 = .ok (.getfield 189, 3) := by decide +kernel
theorem dX11_compared_40 : decode cX11_compared 40 = .ok (.iconst 1, 1) := by decide +kernel
theorem dX11_compared_41 : decode cX11_compared 41 = .ok (.iadd, 1) := by decide +kernel
theorem dX11_compared_42 : decode cX11_compared 42 = .ok (.putfield 189, 3) := by decide +kernel
theorem dX11_compared_45 : decode cX11_compared 45 = .ok (.aload_n 0, 1) := by decide +kernel
theorem dX11_compared_46 : decode cX11_compared 46 = .ok (.invokevirtual 231, 3) := by decide +kernel
theorem dX11_compared_49 : decode cX11_compared 49 = .ok (.aload_n 0, 1) := by decide +kernel
theorem dX11_compared_50 : decode cX11_compared 50 = .ok (.iload_n 1, 1) := by decide +kernel
theorem dX11_compared_51 : decode cX11_compared 51 = .ok (.iconst 0, 1) := by decide +kernel
theorem dX11_compared_52 : decode cX11_compared 52 = .ok (.invokevirtual 208, 3) := by decide +kernel
theorem dX11_compared_55 : decode cX11_compared 55 = .ok (.return_, 1) := by decide +kernel
set_option maxRecDepth 20000 in
theorem ggX11_both_X11_compared : GoodIn wsX11_both wsX11_compared := goodIn_r _ [20, 1, 2, 21, 22, 23, 6, 7, 8, 9, 10, 11, 12, 13, 14, 15, 16, 17, 18, 19, 0, 3, 4, 5, 24, 25, 26, 27, 28, 29, 30, 31, 32, 33, 34, 35, 36, 37, 38, 39, 40, 41, 42, 43, 44, 45, 46, 47, 48, 49, 50, 51, 52, 53, 54, 55, 56, 57, 58, 59, 60, 61, 62, 63, 64, 65, 66, 67, 68, 69, 70, 71, 72, 73, 74, 75, 76, 77, 78, 79, 80, 81, 82, 83, 84, 85, 86, 87, 88, 89, 90, 91, 92, 93, 94, 95, 96, 97, 98, 99, 100, 101, 102, 103, 104, 105, 106, 107, 108] rfl (by decide +kernel)
set_option maxRecDepth 20000 in
theorem gX11_both_X11_compared : GoodIn wsX11_both (wsV RX11 234 RX11 yX11_compared wsX11_compared) := goodIn_app (goodIn_of _ (by decide +kernel)) ggX11_both_X11_compared
set_option maxRecDepth 20000 in
theorem ggX11_both_X11_look : GoodIn wsX11_both wsX11_look := goodIn_r _ [10, 2, 11, 12, 59, 60, 61, 62, 63, 64, 65, 66, 67, 68, 69, 70, 71, 72, 73, 74, 75, 76, 77, 78, 79, 80, 81, 82, 83, 84, 85, 86, 87, 88, 89, 90, 91, 92, 93, 94, 95, 96, 97, 98, 99, 100, 101, 102, 103, 104, 105, 106, 107, 108] rfl (by decide +kernel)
set_option maxRecDepth 20000 in
theorem gX11_both_X11_look : GoodIn wsX11_both (wsV RX11 204 RX11 yX11_look wsX11_look) := goodIn_app (goodIn_of _ (by decide +kernel)) ggX11_both_X11_look
set_option maxRecDepth 20000 in
theorem ggX11_both_X11_addStep : GoodIn wsX11_both wsX11_addStep := goodIn_r _ [16, 17, 18, 19, 59, 60, 61, 62, 63, 64, 65, 66, 67, 68, 69, 70, 71, 72, 73, 74, 75, 76, 77, 78, 79, 80, 81, 82, 83, 84, 85, 86, 87, 88, 89, 90, 91, 92, 93, 94, 95, 96, 97, 98, 99, 100, 101, 102, 103, 104, 105, 106, 107, 108] rfl (by decide +kernel)
set_option maxRecDepth 20000 in
theorem gX11_both_X11_addStep : GoodIn wsX11_both (wsV RX11 208 RX11 yX11_addStep wsX11_addStep) := goodIn_app (goodIn_of _ (by decide +kernel)) ggX11_both_X11_addStep
theorem dX11_both_0 : decode cX11_both 0 = .ok (.aload_n 0, 1) := by decide +kernel
theorem dX11_both_1 : decode cX11_both 1 = .ok (.invokevirtual 234, 3) := by decide +kernel
theorem dX11_both_4 : decode cX11_both 4 = .ok (.aload_n 0, 1) := by decide +kernel
theorem dX11_both_5 : decode cX11_both 5 = .ok (.getfield 192, 3) := by decide +kernel
theorem dX11_both_8 : decode cX11_both 8 = .ok (.ifCond .ge 36, 3) := by decide +kernel
theorem dX11_both_11 : decode cX11_both 11 = .ok (.aload_n 0, 1) := by decide +kernel
theorem dX11_both_12 : decode cX11_both 12 = .ok (.invokevirtual 204, 3) := by decide +kernel
theorem dX11_both_15 : decode cX11_both 15 = .ok (.bipush 38, 2) := by decide +kernel
theorem dX11_both_17 : decode cX11_both 17 = .ok (.if_icmp .ne 27, 3) := by decide +kernel
theorem dX11_both_20 : decode cX11_both 20 = .ok (.aload_n 0, 1) := by decide +kernel
theorem dX11_both_21 : decode cX11_both 21 = .ok (.dup, 1) := by decide +kernel
theorem dX11_both_22 : decode cX11_both 22 = .ok (.getfield 189, 3) := by decide +kernel
theorem dX11_both_25 : decode cX11_both 25 = .ok (.iconst 1, 1) := by decide +kernel
theorem dX11_both_26 : decode cX11_both 26 = .ok (.iadd, 1) := by decide +kernel
theorem dX11_both_27 : decode cX11_both 27 = .ok (.putfield 189, 3) := by decide +kernel
theorem dX11_both_30 : decode cX11_both 30 = .ok (.aload_n 0, 1) := by decide +kernel
theorem dX11_both_31 : decode cX11_both 31 = .ok (.invokevirtual 234, 3) := by decide +kernel
theorem dX11_both_34 : decode cX11_both 34 = .ok (.aload_n 0, 1) := by decide +kernel
theorem dX11_both_35 : decode cX11_both 35 = .ok (.bipush 38, 2) := by decide +kernel
theorem dX11_both_37 : decode cX11_both 37 = .ok (.iconst 0, 1) := by decide +kernel
theorem dX11_both_38 : decode cX11_both 38 = .ok (.invokevirtual 208, 3) := by decide +kernel
theorem dX11_both_41 : decode cX11_both 41 = .ok (.goto (-37), 3) := by decide +kernel
theorem dX11_both_44 : decode cX11_both 44 = .ok (.return_, 1) := by decide +kernel
set_option maxRecDepth 20000 in
theorem ggX11_either_X11_both : GoodIn wsX11_either wsX11_both := goodIn_r _ [20, 1, 2, 21, 22, 23, 6, 7, 8, 9, 10, 11, 12, 13, 14, 15, 16, 17, 18, 19, 24, 25, 26, 27, 0, 3, 4, 5, 28, 29, 30, 31, 32, 33, 34, 35, 36, 37, 38, 39, 40, 41, 42, 43, 44, 45, 46, 47, 48, 49, 50, 51, 52, 53, 54, 55, 56, 57, 58, 59, 60, 61, 62, 63, 64, 65, 66, 67, 68, 69, 70, 71, 72, 73, 74, 75, 76, 77, 78, 79, 80, 81, 82, 83, 84, 85, 86, 87, 88, 89, 90, 91, 92, 93, 94, 95, 96, 97, 98, 99, 100, 101, 102, 103, 104, 105, 106, 107, 108] rfl (by decide +kernel)
set_option maxRecDepth 20000 in
theorem gX11_either_X11_both : GoodIn wsX11_either (wsV RX11 237 RX11 yX11_both wsX11_both) := goodIn_app (goodIn_of _ (by decide +kernel)) ggX11_either_X11_both
set_option maxRecDepth 20000 in
theorem ggX11_either_X11_look : GoodIn wsX11_either wsX11_look := goodIn_r _ [10, 2, 11, 12, 59, 60, 61, 62, 63, 64, 65, 66, 67, 68, 69, 70, 71, 72, 73, 74, 75, 76, 77, 78, 79, 80, 81, 82, 83, 84, 85, 86, 87, 88, 89, 90, 91, 92, 93, 94, 95, 96, 97, 98, 99, 100, 101, 102, 103, 104, 105, 106, 107, 108] rfl (by decide +kernel)
set_option maxRecDepth 20000 in
theorem gX11_either_X11_look : GoodIn wsX11_either (wsV RX11 204 RX11 yX11_look wsX11_look) := goodIn_app (goodIn_of _ (by decide +kernel)) ggX11_either_X11_look
set_option maxRecDepth 20000 in
theorem ggX11_either_X11_addStep : GoodIn wsX11_either wsX11_addStep := goodIn_r _ [16, 17, 18, 19, 59, 60, 61, 62, 63, 64, 65, 66, 67, 68, 69, 70, 71, 72, 73, 74, 75, 76, 77, 78, 79, 80, 81, 82, 83, 84, 85, 86, 87, 88, 89, 90, 91, 92, 93, 94, 95, 96, 97, 98, 99, 100, 101, 102, 103, 104, 105, 106, 107, 108] rfl (by decide +kernel)
set_option maxRecDepth 20000 in
theorem gX11_either_X11_addStep : GoodIn wsX11_either (wsV RX11 208 RX11 yX11_addStep wsX11_addStep) := goodIn_app (goodIn_of _ (by decide +kernel)) ggX11_either_X11_addStep
theorem dX11_either_0 : decode cX11_either 0 = .ok (.aload_n 0, 1) := by decide +kernel
theorem dX11_either_1 : decode cX11_either 1 = .ok (.invokevirtual 237, 3) := by decide +kernel
theorem dX11_either_4 : decode cX11_either 4 = .ok (.aload_n 0, 1) := by decide +kernel
theorem dX11_either_5 : decode cX11_either 5 = .ok (.getfield 192, 3) := by decide +kernel
theorem dX11_either_8 : decode cX11_either 8 = .ok (.ifCond .ge 36, 3) := by decide +kernel
theorem dX11_either_11 : decode cX11_either 11 = .ok (.aload_n 0, 1) := by decide +kernel
theorem dX11_either_12 : decode cX11_either 12 = .ok (.invokevirtual 204, 3) := by decide +kernel
theorem dX11_either_15 : decode cX11_either 15 = .ok (.bipush 124, 2) := by decide +kernel
theorem dX11_either_17 : decode cX11_either 17 = .ok (.if_icmp .ne 27, 3) := by decide +kernel
theorem dX11_either_20 : decode cX11_either 20 = .ok (.aload_n 0, 1) := by decide +kernel
theorem dX11_either_21 : decode cX11_either 21 = .ok (.dup, 1) := by decide +kernel
theorem dX11_either_22 : decode cX11_either 22 = .ok (.getfield 189, 3) := by decide +kernel
theorem dX11_either_25 : decode cX11_either 25 = .ok (.iconst 1, 1) := by decide +kernel
theorem dX11_either_26 : decode cX11_either 26 = .ok (.iadd, 1) := by decide +kernel
theorem dX11_either_27 : decode cX11_either 27 = .ok (.putfield 189, 3) := by decide +kernel
theorem dX11_either_30 : decode cX11_either 30 = .ok (.aload_n 0, 1) := by decide +kernel
theorem dX11_either_31 : decode cX11_either 31 = .ok (.invokevirtual 237, 3) := by decide +kernel
theorem dX11_either_34 : decode cX11_either 34 = .ok (.aload_n 0, 1) := by decide +kernel
theorem dX11_either_35 : decode cX11_either 35 = .ok (.bipush 124, 2) := by decide +kernel
theorem dX11_either_37 : decode cX11_either 37 = .ok (.iconst 0, 1) := by decide +kernel
theorem dX11_either_38 : decode cX11_either 38 = .ok (.invokevirtual 208, 3) := by decide +kernel
theorem dX11_either_41 : decode cX11_either 41 = .ok (.goto (-37), 3) := by decide +kernel
theorem dX11_either_44 : decode cX11_either 44 = .ok (.return_, 1) := by decide +kernel
set_option maxRecDepth 20000 in
theorem ggX11_oneLine_X11_either : GoodIn wsX11_oneLine wsX11_either := goodIn_r _ [11, 4, 5, 12, 13, 14, 10, 15, 16, 17, 18, 19, 20, 21, 22, 23, 24, 25, 3, 26, 27, 28, 29, 30, 31, 32, 33, 34, 35, 36, 37, 38, 39, 40, 41, 42, 43, 44, 45, 46, 47, 48, 49, 50, 7, 8, 9, 51, 52, 53, 54, 55, 56, 57, 58, 59, 60, 61, 62, 63, 64, 65, 66, 67, 68, 69, 70, 71, 72, 73, 74, 75, 76, 77, 78, 79, 80, 81, 82, 83, 84, 85, 86, 87, 88, 89, 90, 91, 92, 93, 94, 95, 96, 97, 98, 99, 100, 101, 102, 103, 104, 105, 106, 107, 108, 109, 110, 111, 112] rfl (by decide +kernel)
set_option maxRecDepth 20000 in
theorem gX11_oneLine_X11_either : GoodIn wsX11_oneLine (wsV RX11 222 RX11 yX11_either wsX11_either) := goodIn_app (goodIn_of _ (by decide +kernel)) ggX11_oneLine_X11_either
set_option maxRecDepth 20000 in
theorem ggX11_oneLine_X11_look : GoodIn wsX11_oneLine wsX11_look := goodIn_r _ [18, 5, 19, 20, 63, 64, 65, 66, 67, 68, 69, 70, 71, 72, 73, 74, 75, 76, 77, 78, 79, 80, 81, 82, 83, 84, 85, 86, 87, 88, 89, 90, 91, 92, 93, 94, 95, 96, 97, 98, 99, 100, 101, 102, 103, 104, 105, 106, 107, 108, 109, 110, 111, 112] rfl (by decide +kernel)
set_option maxRecDepth 20000 in
theorem gX11_oneLine_X11_look : GoodIn wsX11_oneLine (wsV RX11 204 RX11 yX11_look wsX11_look) := goodIn_app (goodIn_of _ (by decide +kernel)) ggX11_oneLine_X11_look
theorem dX11_oneLine_0 : decode cX11_oneLine 0 = .ok (.bipush 61, 2) := by decide +kernel
theorem dX11_oneLine_2 : decode cX11_oneLine 2 = .ok (.aload_n 0, 1) := by decide +kernel
theorem dX11_oneLine_3 : decode cX11_oneLine 3 = .ok (.getfield 52, 3) := by decide +kernel
theorem dX11_oneLine_6 : decode cX11_oneLine 6 = .ok (.iconst 1, 1) := by decide +kernel
theorem dX11_oneLine_7 : decode cX11_oneLine 7 = .ok (.iaload, 1) := by decide +kernel
theorem dX11_oneLine_8 : decode cX11_oneLine 8 = .ok (.iadd, 1) := by decide +kernel
theorem dX11_oneLine_9 : decode cX11_oneLine 9 = .ok (.istore_n 1, 1) := by decide +kernel
theorem dX11_oneLine_10 : decode cX11_oneLine 10 = .ok (.aload_n 0, 1) := by decide +kernel
theorem dX11_oneLine_11 : decode cX11_oneLine 11 = .ok (.getfield 55, 3) := by decide +kernel
theorem dX11_oneLine_14 : decode cX11_oneLine 14 = .ok (.iload_n 1, 1) := by decide +kernel
theorem dX11_oneLine_15 : decode cX11_oneLine 15 = .ok (.aload_n 0, 1) := by decide +kernel
theorem dX11_oneLine_16 : decode cX11_oneLine 16 = .ok (.getfield 195, 3) := by decide +kernel
theorem dX11_oneLine_19 : decode cX11_oneLine 19 = .ok (.i2s, 1) := by decide +kernel
theorem dX11_oneLine_20 : decode cX11_oneLine 20 = .ok (.sastore, 1) := by decide +kernel
theorem dX11_oneLine_21 : decode cX11_oneLine 21 = .ok (.aload_n 0, 1) := by decide +kernel
theorem dX11_oneLine_22 : decode cX11_oneLine 22 = .ok (.invokevirtual 222, 3) := by decide +kernel
theorem dX11_oneLine_25 : decode cX11_oneLine 25 = .ok (.aload_n 0, 1) := by decide +kernel
theorem dX11_oneLine_26 : decode cX11_oneLine 26 = .ok (.getfield 192, 3) := by decide +kernel
theorem dX11_oneLine_29 : decode cX11_oneLine 29 = .ok (.ifCond .ge 37, 3) := by decide +kernel
theorem dX11_oneLine_32 : decode cX11_oneLine 32 = .ok (.aload_n 0, 1) := by decide +kernel
theorem dX11_oneLine_33 : decode cX11_oneLine 33 = .ok (.invokevirtual 204, 3) := by decide +kernel
theorem dX11_oneLine_36 : decode cX11_oneLine 36 = .ok (.bipush 63, 2) := by decide +kernel
theorem dX11_oneLine_38 : decode cX11_oneLine 38 = .ok (.if_icmp .ne 28, 3) := by decide +kernel
theorem dX11_oneLine_41 : decode cX11_oneLine 41 = .ok (.aload_n 0, 1) := by decide +kernel
theorem dX11_oneLine_42 : decode cX11_oneLine 42 = .ok (.dup, 1) := by decide +kernel
theorem dX11_oneLine_43 : decode cX11_oneLine 43 = .ok (.getfield 189, 3) := by decide +kernel
theorem dX11_oneLine_46 : decode cX11_oneLine 46 = .ok (.iconst 1, 1) := by decide +kernel
theorem dX11_oneLine_47 : decode cX11_oneLine 47 = .ok (.iadd, 1) := by decide +kernel
theorem dX11_oneLine_48 : decode cX11_oneLine 48 = .ok (.putfield 189, 3) := by decide +kernel
theorem dX11_oneLine_51 : decode cX11_oneLine 51 = .ok (.aload_n 0, 1) := by decide +kernel
theorem dX11_oneLine_52 : decode cX11_oneLine 52 = .ok (.getfield 55, 3) := by decide +kernel
theorem dX11_oneLine_55 : decode cX11_oneLine 55 = .ok (.iload_n 1, 1) := by decide +kernel
theorem dX11_oneLine_56 : decode cX11_oneLine 56 = .ok (.aload_n 0, 1) := by decide +kernel
theorem dX11_oneLine_57 : decode cX11_oneLine 57 = .ok (.getfield 195, 3) := by decide +kernel
theorem dX11_oneLine_60 : decode cX11_oneLine 60 = .ok (.i2s, 1) := by decide +kernel
theorem dX11_oneLine_61 : decode cX11_oneLine 61 = .ok (.sastore, 1) := by decide +kernel
theorem dX11_oneLine_62 : decode cX11_oneLine 62 = .ok (.aload_n 0, 1) := by decide +kernel
theorem dX11_oneLine_63 : decode cX11_oneLine 63 = .ok (.invokevirtual 222, 3) := by decide +kernel
theorem dX11_oneLine_66 : decode cX11_oneLine 66 = .ok (.aload_n 0, 1) := by decide +kernel
theorem dX11_oneLine_67 : decode cX11_oneLine 67 = .ok (.getfield 59, 3) := by decide +kernel
theorem dX11_oneLine_70 : decode cX11_oneLine 70 = .ok (.iload_n 1, 1) := by decide +kernel
theorem dX11_oneLine_71 : decode cX11_oneLine 71 = .ok (.aload_n 0, 1) := by decide +kernel
theorem dX11_oneLine_72 : decode cX11_oneLine 72 = .ok (.getfield 195, 3) := by decide +kernel
theorem dX11_oneLine_75 : decode cX11_oneLine 75 = .ok (.i2s, 1) := by decide +kernel
theorem dX11_oneLine_76 : decode cX11_oneLine 76 = .ok (.sastore, 1) := by decide +kernel
theorem dX11_oneLine_77 : decode cX11_oneLine 77 = .ok (.aload_n 0, 1) := by decide +kernel
theorem dX11_oneLine_78 : decode cX11_oneLine 78 = .ok (.getfield 52, 3) := by decide +kernel
theorem dX11_oneLine_81 : decode cX11_oneLine 81 = .ok (.iconst 1, 1) := by decide +kernel
theorem dX11_oneLine_82 : decode cX11_oneLine 82 = .ok (.dup2, 1) := by decide +kernel
theorem dX11_oneLine_83 : decode cX11_oneLine 83 = .ok (.iaload, 1) := by decide +kernel
theorem dX11_oneLine_84 : decode cX11_oneLine 84 = .ok (.iconst 1, 1) := by decide +kernel
theorem dX11_oneLine_85 : decode cX11_oneLine 85 = .ok (.iadd, 1) := by decide +kernel
theorem dX11_oneLine_86 : decode cX11_oneLine 86 = .ok (.iastore, 1) := by decide +kernel
theorem dX11_oneLine_87 : decode cX11_oneLine 87 = .ok (.return_, 1) := by decide +kernel
set_option maxRecDepth 20000 in
theorem ggX11_readText_X11_oneLine : GoodIn wsX11_readText wsX11_oneLine := goodIn_r _ [15, 5, 9, 4, 2, 1, 10, 16, 17, 18, 14, 19, 20, 21, 22, 23, 24, 25, 26, 6, 27, 28, 29, 30, 31, 7, 8, 32, 33, 34, 35, 36, 37, 38, 39, 40, 3, 41, 42, 43, 44, 45, 46, 47, 48, 49, 50, 51, 52, 53, 54, 55, 56, 57, 58, 59, 60, 61, 62, 63, 64, 65, 66, 67, 68, 69, 70, 71, 72, 73, 74, 75, 76, 77, 78, 79, 80, 81, 82, 83, 84, 85, 86, 87, 88, 89, 90, 91, 92, 93, 94, 95, 96, 97, 98, 99, 100, 101, 102, 103, 104, 105, 106, 107, 108, 109, 110, 111, 112, 113, 114, 115, 116] rfl (by decide +kernel)
set_option maxRecDepth 20000 in
theorem gX11_readText_X11_oneLine : GoodIn wsX11_readText (wsV RX11 240 RX11 yX11_oneLine wsX11_oneLine) := goodIn_app (goodIn_of _ (by decide +kernel)) ggX11_readText_X11_oneLine
set_option maxRecDepth 20000 in
theorem ggX11_readText_X11_look : GoodIn wsX11_readText wsX11_look := goodIn_r _ [26, 1, 6, 27, 67, 68, 69, 70, 71, 72, 73, 74, 75, 76, 77, 78, 79, 80, 81, 82, 83, 84, 85, 86, 87, 88, 89, 90, 91, 92, 93, 94, 95, 96, 97, 98, 99, 100, 101, 102, 103, 104, 105, 106, 107, 108, 109, 110, 111, 112, 113, 114, 115, 116] rfl (by decide +kernel)
set_option maxRecDepth 20000 in
theorem gX11_readText_X11_look : GoodIn wsX11_readText (wsV RX11 204 RX11 yX11_look wsX11_look) := goodIn_app (goodIn_of _ (by decide +kernel)) ggX11_readText_X11_look
set_option maxRecDepth 20000 in
theorem ggX11_readText_X11_faulty : GoodIn wsX11_readText wsX11_faulty := goodIn_r _ [51, 2, 1, 67, 68, 69, 70, 71, 72, 73, 74, 75, 76, 77, 78, 79, 80, 81, 82, 83, 84, 85, 86, 87, 88, 89, 90, 91, 92, 93, 94, 95, 96, 97, 98, 99, 100, 101, 102, 103, 104, 105, 106, 107, 108, 109, 110, 111, 112, 113, 114, 115, 116] rfl (by decide +kernel)
set_option maxRecDepth 20000 in
theorem gX11_readText_X11_faulty : GoodIn wsX11_readText (wsV RX11 201 RX11 yX11_faulty wsX11_faulty) := goodIn_app (goodIn_of _ (by decide +kernel)) ggX11_readText_X11_faulty
theorem dX11_readText_0 : decode cX11_readText 0 = .ok (.aload_n 0, 1) := by decide +kernel
theorem dX11_readText_1 : decode cX11_readText 1 = .ok (.iconst 0, 1) := by decide +kernel
theorem dX11_readText_2 : decode cX11_readText 2 = .ok (.putfield 189, 3) := by decide +kernel
theorem dX11_readText_5 : decode cX11_readText 5 = .ok (.aload_n 0, 1) := by decide +kernel
theorem dX11_readText_6 : decode cX11_readText 6 = .ok (.iconst (-1), 1) := by decide +kernel
theorem dX11_readText_7 : decode cX11_readText 7 = .ok (.putfield 192, 3) := by decide +kernel
theorem dX11_readText_10 : decode cX11_readText 10 = .ok (.aload_n 0, 1) := by decide +kernel
theorem dX11_readText_11 : decode cX11_readText 11 = .ok (.iconst 0, 1) := by decide +kernel
theorem dX11_readText_12 : decode cX11_readText 12 = .ok (.putfield 198, 3) := by decide +kernel
theorem dX11_readText_15 : decode cX11_readText 15 = .ok (.aload_n 0, 1) := by decide +kernel
theorem dX11_readText_16 : decode cX11_readText 16 = .ok (.iconst 0, 1) := by decide +kernel
theorem dX11_readText_17 : decode cX11_readText 17 = .ok (.putfield 195, 3) := by decide +kernel
theorem dX11_readText_20 : decode cX11_readText 20 = .ok (.aload_n 0, 1) := by decide +kernel
theorem dX11_readText_21 : decode cX11_readText 21 = .ok (.getfield 52, 3) := by decide +kernel
theorem dX11_readText_24 : decode cX11_readText 24 = .ok (.iconst 1, 1) := by decide +kernel
theorem dX11_readText_25 : decode cX11_readText 25 = .ok (.iconst 0, 1) := by decide +kernel
theorem dX11_readText_26 : decode cX11_readText 26 = .ok (.iastore, 1) := by decide +kernel
theorem dX11_readText_27 : decode cX11_readText 27 = .ok (.aload_n 0, 1) := by decide +kernel
theorem dX11_readText_28 : decode cX11_readText 28 = .ok (.invokevirtual 240, 3) := by decide +kernel
theorem dX11_readText_31 : decode cX11_readText 31 = .ok (.aload_n 0, 1) := by decide +kernel
theorem dX11_readText_32 : decode cX11_readText 32 = .ok (.getfield 192, 3) := by decide +kernel
theorem dX11_readText_35 : decode cX11_readText 35 = .ok (.ifCond .ge 29, 3) := by decide +kernel
theorem dX11_readText_38 : decode cX11_readText 38 = .ok (.aload_n 0, 1) := by decide +kernel
theorem dX11_readText_39 : decode cX11_readText 39 = .ok (.invokevirtual 204, 3) := by decide +kernel
theorem dX11_readText_42 : decode cX11_readText 42 = .ok (.bipush 59, 2) := by decide +kernel
theorem dX11_readText_44 : decode cX11_readText 44 = .ok (.if_icmp .ne 20, 3) := by decide +kernel
theorem dX11_readText_47 : decode cX11_readText 47 = .ok (.aload_n 0, 1) := by decide +kernel
theorem dX11_readText_48 : decode cX11_readText 48 = .ok (.dup, 1) := by decide +kernel
theorem dX11_readText_49 : decode cX11_readText 49 = .ok (.getfield 189, 3) := by decide +kernel
theorem dX11_readText_52 : decode cX11_readText 52 = .ok (.iconst 1, 1) := by decide +kernel
theorem dX11_readText_53 : decode cX11_readText 53 = .ok (.iadd, 1) := by decide +kernel
theorem dX11_readText_54 : decode cX11_readText 54 = .ok (.putfield 189, 3) := by decide +kernel
theorem dX11_readText_57 : decode cX11_readText 57 = .ok (.aload_n 0, 1) := by decide +kernel
theorem dX11_readText_58 : decode cX11_readText 58 = .ok (.invokevirtual 240, 3) := by decide +kernel
theorem dX11_readText_61 : decode cX11_readText 61 = .ok (.goto (-30), 3) := by decide +kernel
theorem dX11_readText_64 : decode cX11_readText 64 = .ok (.aload_n 0, 1) := by decide +kernel
theorem dX11_readText_65 : decode cX11_readText 65 = .ok (.getfield 192, 3) := by decide +kernel
theorem dX11_readText_68 : decode cX11_readText 68 = .ok (.ifCond .ge 18, 3) := by decide +kernel
theorem dX11_readText_71 : decode cX11_readText 71 = .ok (.aload_n 0, 1) := by decide +kernel
theorem dX11_readText_72 : decode cX11_readText 72 = .ok (.getfield 189, 3) := by decide +kernel
theorem dX11_readText_75 : decode cX11_readText 75 = .ok (.aload_n 0, 1) := by decide +kernel
theorem dX11_readText_76 : decode cX11_readText 76 = .ok (.getfield 186, 3) := by decide +kernel
theorem dX11_readText_79 : decode cX11_readText 79 = .ok (.if_icmp .ge 7, 3) := by decide +kernel
theorem dX11_readText_82 : decode cX11_readText 82 = .ok (.aload_n 0, 1) := by decide +kernel
theorem dX11_readText_83 : decode cX11_readText 83 = .ok (.invokevirtual 201, 3) := by decide +kernel
theorem dX11_readText_86 : decode cX11_readText 86 = .ok (.aload_n 0, 1) := by decide +kernel
theorem dX11_readText_87 : decode cX11_readText 87 = .ok (.iconst 0, 1) := by decide +kernel
theorem dX11_readText_88 : decode cX11_readText 88 = .ok (.putfield 186, 3) := by decide +kernel
theorem dX11_readText_91 : decode cX11_readText 91 = .ok (.aload_n 0, 1) := by decide +kernel
theorem dX11_readText_92 : decode cX11_readText 92 = .ok (.getfield 192, 3) := by decide +kernel
theorem dX11_readText_95 : decode cX11_readText 95 = .ok (.ifCond .lt 8, 3) := by decide +kernel
theorem dX11_readText_98 : decode cX11_readText 98 = .ok (.aload_n 0, 1) := by decide +kernel
theorem dX11_readText_99 : decode cX11_readText 99 = .ok (.getfield 192, 3) := by decide +kernel
theorem dX11_readText_102 : decode cX11_readText 102 = .ok (.ireturn, 1) := by decide +kernel
theorem dX11_readText_103 : decode cX11_readText 103 = .ok (.iconst 0, 1) := by decide +kernel
theorem dX11_readText_104 : decode cX11_readText 104 = .ok (.istore_n 2, 1) := by decide +kernel
theorem dX11_readText_105 : decode cX11_readText 105 = .ok (.iload_n 2, 1) := by decide +kernel
theorem dX11_readText_106 : decode cX11_readText 106 = .ok (.aload_n 0, 1) := by decide +kernel
theorem dX11_readText_107 : decode cX11_readText 107 = .ok (.getfield 195, 3) := by decide +kernel
theorem dX11_readText_110 : decode cX11_readText 110 = .ok (.if_icmp .ge 53, 3) := by decide +kernel
theorem dX11_readText_113 : decode cX11_readText 113 = .ok (.aload_n 0, 1) := by decide +kernel
theorem dX11_readText_114 : decode cX11_readText 114 = .ok (.getfield 46, 3) := by decide +kernel
theorem dX11_readText_117 : decode cX11_readText 117 = .ok (.sipush 130, 3) := by decide +kernel
theorem dX11_readText_120 : decode cX11_readText 120 = .ok (.iload_n 1, 1) := by decide +kernel
theorem dX11_readText_121 : decode cX11_readText 121 = .ok (.imul, 1) := by decide +kernel
theorem dX11_readText_122 : decode cX11_readText 122 = .ok (.iload_n 2, 1) := by decide +kernel
theorem dX11_readText_123 : decode cX11_readText 123 = .ok (.iadd, 1) := by decide +kernel
theorem dX11_readText_124 : decode cX11_readText 124 = .ok (.aload_n 0, 1) := by decide +kernel
theorem dX11_readText_125 : decode cX11_readText 125 = .ok (.getfield 46, 3) := by decide +kernel
theorem dX11_readText_128 : decode cX11_readText 128 = .ok (.sipush 130, 3) := by decide +kernel
theorem dX11_readText_131 : decode cX11_readText 131 = .ok (.iload_n 2, 1) := by decide +kernel
theorem dX11_readText_132 : decode cX11_readText 132 = .ok (.iadd, 1) := by decide +kernel
theorem dX11_readText_133 : decode cX11_readText 133 = .ok (.baload, 1) := by decide +kernel
theorem dX11_readText_134 : decode cX11_readText 134 = .ok (.bastore, 1) := by decide +kernel
theorem dX11_readText_135 : decode cX11_readText 135 = .ok (.aload_n 0, 1) := by decide +kernel
theorem dX11_readText_136 : decode cX11_readText 136 = .ok (.getfield 49, 3) := by decide +kernel
theorem dX11_readText_139 : decode cX11_readText 139 = .ok (.sipush 130, 3) := by decide +kernel
theorem dX11_readText_142 : decode cX11_readText 142 = .ok (.iload_n 1, 1) := by decide +kernel
theorem dX11_readText_143 : decode cX11_readText 143 = .ok (.imul, 1) := by decide +kernel
theorem dX11_readText_144 : decode cX11_readText 144 = .ok (.iload_n 2, 1) := by decide +kernel
theorem dX11_readText_145 : decode cX11_readText 145 = .ok (.iadd, 1) := by decide +kernel
theorem dX11_readText_146 : decode cX11_readText 146 = .ok (.aload_n 0, 1) := by decide +kernel
theorem dX11_readText_147 : decode cX11_readText 147 = .ok (.getfield 49, 3) := by decide +kernel
theorem dX11_readText_150 : decode cX11_readText 150 = .ok (.sipush 130, 3) := by decide +kernel
theorem dX11_readText_153 : decode cX11_readText 153 = .ok (.iload_n 2, 1) := by decide +kernel
theorem dX11_readText_154 : decode cX11_readText 154 = .ok (.iadd, 1) := by decide +kernel
theorem dX11_readText_155 : decode cX11_readText 155 = .ok (.iaload, 1) := by decide +kernel
theorem dX11_readText_156 : decode cX11_readText 156 = .ok (.iastore, 1) := by decide +kernel
theorem dX11_readText_157 : decode cX11_readText 157 = .ok (.iinc 2 1, 3) := by decide +kernel
theorem dX11_readText_160 : decode cX11_readText 160 = .ok (.goto (-55), 3) := by decide +kernel
theorem dX11_readText_163 : decode cX11_readText 163 = .ok (.aload_n 0, 1) := by decide +kernel
theorem dX11_readText_164 : decode cX11_readText 164 = .ok (.getfield 52, 3) := by decide +kernel
theorem dX11_readText_167 : decode cX11_readText 167 = .ok (.iload_n 1, 1) := by decide +kernel
theorem dX11_readText_168 : decode cX11_readText 168 = .ok (.aload_n 0, 1) := by decide +kernel
theorem dX11_readText_169 : decode cX11_readText 169 = .ok (.getfield 52, 3) := by decide +kernel
theorem dX11_readText_172 : decode cX11_readText 172 = .ok (.iconst 1, 1) := by decide +kernel
theorem dX11_readText_173 : decode cX11_readText 173 = .ok (.iaload, 1) := by decide +kernel
theorem dX11_readText_174 : decode cX11_readText 174 = .ok (.iastore, 1) := by decide +kernel
theorem dX11_readText_175 : decode cX11_readText 175 = .ok (.iconst 0, 1) := by decide +kernel
theorem dX11_readText_176 : decode cX11_readText 176 = .ok (.istore_n 2, 1) := by decide +kernel
theorem dX11_readText_177 : decode cX11_readText 177 = .ok (.iload_n 2, 1) := by decide +kernel
theorem dX11_readText_178 : decode cX11_readText 178 = .ok (.aload_n 0, 1) := by decide +kernel
theorem dX11_readText_179 : decode cX11_readText 179 = .ok (.getfield 52, 3) := by decide +kernel
theorem dX11_readText_182 : decode cX11_readText 182 = .ok (.iload_n 1, 1) := by decide +kernel
theorem dX11_readText_183 : decode cX11_readText 183 = .ok (.iaload, 1) := by decide +kernel
theorem dX11_readText_184 : decode cX11_readText 184 = .ok (.if_icmp .ge 49, 3) := by decide +kernel
theorem dX11_readText_187 : decode cX11_readText 187 = .ok (.aload_n 0, 1) := by decide +kernel
theorem dX11_readText_188 : decode cX11_readText 188 = .ok (.getfield 55, 3) := by decide +kernel
theorem dX11_readText_191 : decode cX11_readText 191 = .ok (.bipush 61, 2) := by decide +kernel
theorem dX11_readText_193 : decode cX11_readText 193 = .ok (.iload_n 1, 1) := by decide +kernel
theorem dX11_readText_194 : decode cX11_readText 194 = .ok (.imul, 1) := by decide +kernel
theorem dX11_readText_195 : decode cX11_readText 195 = .ok (.iload_n 2, 1) := by decide +kernel
theorem dX11_readText_196 : decode cX11_readText 196 = .ok (.iadd, 1) := by decide +kernel
theorem dX11_readText_197 : decode cX11_readText 197 = .ok (.aload_n 0, 1) := by decide +kernel
theorem dX11_readText_198 : decode cX11_readText 198 = .ok (.getfield 55, 3) := by decide +kernel
theorem dX11_readText_201 : decode cX11_readText 201 = .ok (.bipush 61, 2) := by decide +kernel
theorem dX11_readText_203 : decode cX11_readText 203 = .ok (.iload_n 2, 1) := by decide +kernel
theorem dX11_readText_204 : decode cX11_readText 204 = .ok (.iadd, 1) := by decide +kernel
theorem dX11_readText_205 : decode cX11_readText 205 = .ok (.saload, 1) := by decide +kernel
theorem dX11_readText_206 : decode cX11_readText 206 = .ok (.sastore, 1) := by decide +kernel
theorem dX11_readText_207 : decode cX11_readText 207 = .ok (.aload_n 0, 1) := by decide +kernel
theorem dX11_readText_208 : decode cX11_readText 208 = .ok (.getfield 59, 3) := by decide +kernel
theorem dX11_readText_211 : decode cX11_readText 211 = .ok (.bipush 61, 2) := by decide +kernel
theorem dX11_readText_213 : decode cX11_readText 213 = .ok (.iload_n 1, 1) := by decide +kernel
theorem dX11_readText_214 : decode cX11_readText 214 = .ok (.imul, 1) := by decide +kernel
theorem dX11_readText_215 : decode cX11_readText 215 = .ok (.iload_n 2, 1) := by decide +kernel
theorem dX11_readText_216 : decode cX11_readText 216 = .ok (.iadd, 1) := by decide +kernel
theorem dX11_readText_217 : decode cX11_readText 217 = .ok (.aload_n 0, 1) := by decide +kernel
theorem dX11_readText_218 : decode cX11_readText 218 = .ok (.getfield 59, 3) := by decide +kernel
theorem dX11_readText_221 : decode cX11_readText 221 = .ok (.bipush 61, 2) := by decide +kernel
theorem dX11_readText_223 : decode cX11_readText 223 = .ok (.iload_n 2, 1) := by decide +kernel
theorem dX11_readText_224 : decode cX11_readText 224 = .ok (.iadd, 1) := by decide +kernel
theorem dX11_readText_225 : decode cX11_readText 225 = .ok (.saload, 1) := by decide +kernel
theorem dX11_readText_226 : decode cX11_readText 226 = .ok (.sastore, 1) := by decide +kernel
theorem dX11_readText_227 : decode cX11_readText 227 = .ok (.iinc 2 1, 3) := by decide +kernel
theorem dX11_readText_230 : decode cX11_readText 230 = .ok (.goto (-53), 3) := by decide +kernel
theorem dX11_readText_233 : decode cX11_readText 233 = .ok (.iconst (-1), 1) := by decide +kernel
theorem dX11_readText_234 : decode cX11_readText 234 = .ok (.ireturn, 1) := by decide +kernel
theorem dX11_twoOf_0 : decode cX11_twoOf 0 = .ok (.iload_n 0, 1) := by decide +kernel
theorem dX11_twoOf_1 : decode cX11_twoOf 1 = .ok (.tableswitch 217 37 62 #[153, 203, 217, 217, 217, 127, 119, 217, 123, 217, 131, 217, 217, 217, 217, 217, 217, 217, 217, 217, 217, 217, 217, 170, 181, 192], 119) := by decide +kernel
theorem dX11_twoOf_120 : decode cX11_twoOf 120 = .ok (.iload_n 1, 1) := by decide +kernel
theorem dX11_twoOf_121 : decode cX11_twoOf 121 = .ok (.iload_n 2, 1) := by decide +kernel
theorem dX11_twoOf_122 : decode cX11_twoOf 122 = .ok (.iadd, 1) := by decide +kernel
theorem dX11_twoOf_123 : decode cX11_twoOf 123 = .ok (.ireturn, 1) := by decide +kernel
theorem dX11_twoOf_124 : decode cX11_twoOf 124 = .ok (.iload_n 1, 1) := by decide +kernel
theorem dX11_twoOf_125 : decode cX11_twoOf 125 = .ok (.iload_n 2, 1) := by decide +kernel
theorem dX11_twoOf_126 : decode cX11_twoOf 126 = .ok (.isub, 1) := by decide +kernel
theorem dX11_twoOf_127 : decode cX11_twoOf 127 = .ok (.ireturn, 1) := by decide +kernel
theorem dX11_twoOf_128 : decode cX11_twoOf 128 = .ok (.iload_n 1, 1) := by decide +kernel
theorem dX11_twoOf_129 : decode cX11_twoOf 129 = .ok (.iload_n 2, 1) := by decide +kernel
theorem dX11_twoOf_130 : decode cX11_twoOf 130 = .ok (.imul, 1) := by decide +kernel
theorem dX11_twoOf_131 : decode cX11_twoOf 131 = .ok (.ireturn, 1) := by decide +kernel
theorem dX11_twoOf_132 : decode cX11_twoOf 132 = .ok (.iload_n 2, 1) := by decide +kernel
theorem dX11_twoOf_133 : decode cX11_twoOf 133 = .ok (.ifCond .ne 7, 3) := by decide +kernel
theorem dX11_twoOf_136 : decode cX11_twoOf 136 = .ok (.iconst 0, 1) := by decide +kernel
theorem dX11_twoOf_137 : decode cX11_twoOf 137 = .ok (.goto 16, 3) := by decide +kernel
theorem dX11_twoOf_140 : decode cX11_twoOf 140 = .ok (.iload_n 2, 1) := by decide +kernel
theorem dX11_twoOf_141 : decode cX11_twoOf 141 = .ok (.iconst (-1), 1) := by decide +kernel
theorem dX11_twoOf_142 : decode cX11_twoOf 142 = .ok (.if_icmp .ne 8, 3) := by decide +kernel
theorem dX11_twoOf_145 : decode cX11_twoOf 145 = .ok (.iload_n 1, 1) := by decide +kernel
theorem dX11_twoOf_146 : decode cX11_twoOf 146 = .ok (.ineg, 1) := by decide +kernel
theorem dX11_twoOf_147 : decode cX11_twoOf 147 = .ok (.goto 6, 3) := by decide +kernel
theorem dX11_twoOf_150 : decode cX11_twoOf 150 = .ok (.iload_n 1, 1) := by decide +kernel
theorem dX11_twoOf_151 : decode cX11_twoOf 151 = .ok (.iload_n 2, 1) := by decide +kernel
theorem dX11_twoOf_152 : decode cX11_twoOf 152 = .ok (.idiv, 1) := by decide +kernel
theorem dX11_twoOf_153 : decode cX11_twoOf 153 = .ok (.ireturn, 1) := by decide +kernel
theorem dX11_twoOf_154 : decode cX11_twoOf 154 = .ok (.iload_n 2, 1) := by decide +kernel
theorem dX11_twoOf_155 : decode cX11_twoOf 155 = .ok (.ifCond .eq 8, 3) := by decide +kernel
theorem dX11_twoOf_158 : decode cX11_twoOf 158 = .ok (.iload_n 2, 1) := by decide +kernel
theorem dX11_twoOf_159 : decode cX11_twoOf 159 = .ok (.iconst (-1), 1) := by decide +kernel
theorem dX11_twoOf_160 : decode cX11_twoOf 160 = .ok (.if_icmp .ne 7, 3) := by decide +kernel
theorem dX11_twoOf_163 : decode cX11_twoOf 163 = .ok (.iconst 0, 1) := by decide +kernel
theorem dX11_twoOf_164 : decode cX11_twoOf 164 = .ok (.goto 6, 3) := by decide +kernel
theorem dX11_twoOf_167 : decode cX11_twoOf 167 = .ok (.iload_n 1, 1) := by decide +kernel
theorem dX11_twoOf_168 : decode cX11_twoOf 168 = .ok (.iload_n 2, 1) := by decide +kernel
theorem dX11_twoOf_169 : decode cX11_twoOf 169 = .ok (.irem, 1) := by decide +kernel
theorem dX11_twoOf_170 : decode cX11_twoOf 170 = .ok (.ireturn, 1) := by decide +kernel
theorem dX11_twoOf_171 : decode cX11_twoOf 171 = .ok (.iload_n 1, 1) := by decide +kernel
theorem dX11_twoOf_172 : decode cX11_twoOf 172 = .ok (.iload_n 2, 1) := by decide +kernel
theorem dX11_twoOf_173 : decode cX11_twoOf 173 = .ok (.if_icmp .ge 7, 3) := by decide +kernel
theorem dX11_twoOf_176 : decode cX11_twoOf 176 = .ok (.iconst 1, 1) := by decide +kernel
theorem dX11_twoOf_177 : decode cX11_twoOf 177 = .ok (.goto 4, 3) := by decide +kernel
theorem dX11_twoOf_180 : decode cX11_twoOf 180 = .ok (.iconst 0, 1) := by decide +kernel
theorem dX11_twoOf_181 : decode cX11_twoOf 181 = .ok (.ireturn, 1) := by decide +kernel
theorem dX11_twoOf_182 : decode cX11_twoOf 182 = .ok (.iload_n 1, 1) := by decide +kernel
theorem dX11_twoOf_183 : decode cX11_twoOf 183 = .ok (.iload_n 2, 1) := by decide +kernel
theorem dX11_twoOf_184 : decode cX11_twoOf 184 = .ok (.if_icmp .ne 7, 3) := by decide +kernel
theorem dX11_twoOf_187 : decode cX11_twoOf 187 = .ok (.iconst 1, 1) := by decide +kernel
theorem dX11_twoOf_188 : decode cX11_twoOf 188 = .ok (.goto 4, 3) := by decide +kernel
theorem dX11_twoOf_191 : decode cX11_twoOf 191 = .ok (.iconst 0, 1) := by decide +kernel
theorem dX11_twoOf_192 : decode cX11_twoOf 192 = .ok (.ireturn, 1) := by decide +kernel
theorem dX11_twoOf_193 : decode cX11_twoOf 193 = .ok (.iload_n 1, 1) := by decide +kernel
theorem dX11_twoOf_194 : decode cX11_twoOf 194 = .ok (.iload_n 2, 1) := by decide +kernel
theorem dX11_twoOf_195 : decode cX11_twoOf 195 = .ok (.if_icmp .le 7, 3) := by decide +kernel
theorem dX11_twoOf_198 : decode cX11_twoOf 198 = .ok (.iconst 1, 1) := by decide +kernel
theorem dX11_twoOf_199 : decode cX11_twoOf 199 = .ok (.goto 4, 3) := by decide +kernel
theorem dX11_twoOf_202 : decode cX11_twoOf 202 = .ok (.iconst 0, 1) := by decide +kernel
theorem dX11_twoOf_203 : decode cX11_twoOf 203 = .ok (.ireturn, 1) := by decide +kernel
theorem dX11_twoOf_204 : decode cX11_twoOf 204 = .ok (.iload_n 1, 1) := by decide +kernel
theorem dX11_twoOf_205 : decode cX11_twoOf 205 = .ok (.ifCond .eq 11, 3) := by decide +kernel
theorem dX11_twoOf_208 : decode cX11_twoOf 208 = .ok (.iload_n 2, 1) := by decide +kernel
theorem dX11_twoOf_209 : decode cX11_twoOf 209 = .ok (.ifCond .eq 7, 3) := by decide +kernel
theorem dX11_twoOf_212 : decode cX11_twoOf 212 = .ok (.iconst 1, 1) := by decide +kernel
theorem dX11_twoOf_213 : decode cX11_twoOf 213 = .ok (.goto 4, 3) := by decide +kernel
theorem dX11_twoOf_216 : decode cX11_twoOf 216 = .ok (.iconst 0, 1) := by decide +kernel
theorem dX11_twoOf_217 : decode cX11_twoOf 217 = .ok (.ireturn, 1) := by decide +kernel
theorem dX11_twoOf_218 : decode cX11_twoOf 218 = .ok (.iload_n 1, 1) := by decide +kernel
theorem dX11_twoOf_219 : decode cX11_twoOf 219 = .ok (.ifCond .ne 7, 3) := by decide +kernel
theorem dX11_twoOf_222 : decode cX11_twoOf 222 = .ok (.iload_n 2, 1) := by decide +kernel
theorem dX11_twoOf_223 : decode cX11_twoOf 223 = .ok (.ifCond .eq 7, 3) := by decide +kernel
theorem dX11_twoOf_226 : decode cX11_twoOf 226 = .ok (.iconst 1, 1) := by decide +kernel
theorem dX11_twoOf_227 : decode cX11_twoOf 227 = .ok (.goto 4, 3) := by decide +kernel
theorem dX11_twoOf_230 : decode cX11_twoOf 230 = .ok (.iconst 0, 1) := by decide +kernel
theorem dX11_twoOf_231 : decode cX11_twoOf 231 = .ok (.ireturn, 1) := by decide +kernel
set_option maxRecDepth 20000 in
theorem ggX11_worked_X11_twoOf : GoodIn wsX11_worked wsX11_twoOf := goodIn_r _ [8] rfl (by decide +kernel)
set_option maxRecDepth 20000 in
theorem gX11_worked_X11_twoOf : GoodIn wsX11_worked (va_wsS RX11 243 yX11_twoOf wsX11_twoOf) := goodIn_app (goodIn_of _ (by decide +kernel)) ggX11_worked_X11_twoOf
theorem dX11_worked_0 : decode cX11_worked 0 = .ok (.iconst 0, 1) := by decide +kernel
theorem dX11_worked_1 : decode cX11_worked 1 = .ok (.istore 4, 2) := by decide +kernel
theorem dX11_worked_3 : decode cX11_worked 3 = .ok (.sipush 130, 3) := by decide +kernel
theorem dX11_worked_6 : decode cX11_worked 6 = .ok (.iload_n 1, 1) := by decide +kernel
theorem dX11_worked_7 : decode cX11_worked 7 = .ok (.imul, 1) := by decide +kernel
theorem dX11_worked_8 : decode cX11_worked 8 = .ok (.iload_n 2, 1) := by decide +kernel
theorem dX11_worked_9 : decode cX11_worked 9 = .ok (.iadd, 1) := by decide +kernel
theorem dX11_worked_10 : decode cX11_worked 10 = .ok (.istore 5, 2) := by decide +kernel
theorem dX11_worked_12 : decode cX11_worked 12 = .ok (.iload 5, 2) := by decide +kernel
theorem dX11_worked_14 : decode cX11_worked 14 = .ok (.sipush 130, 3) := by decide +kernel
theorem dX11_worked_17 : decode cX11_worked 17 = .ok (.iload_n 1, 1) := by decide +kernel
theorem dX11_worked_18 : decode cX11_worked 18 = .ok (.imul, 1) := by decide +kernel
theorem dX11_worked_19 : decode cX11_worked 19 = .ok (.iload_n 3, 1) := by decide +kernel
theorem dX11_worked_20 : decode cX11_worked 20 = .ok (.iadd, 1) := by decide +kernel
theorem dX11_worked_21 : decode cX11_worked 21 = .ok (.if_icmp .ge 167, 3) := by decide +kernel
theorem dX11_worked_24 : decode cX11_worked 24 = .ok (.aload_n 0, 1) := by decide +kernel
theorem dX11_worked_25 : decode cX11_worked 25 = .ok (.getfield 46, 3) := by decide +kernel
theorem dX11_worked_28 : decode cX11_worked 28 = .ok (.iload 5, 2) := by decide +kernel
theorem dX11_worked_30 : decode cX11_worked 30 = .ok (.baload, 1) := by decide +kernel
theorem dX11_worked_31 : decode cX11_worked 31 = .ok (.istore 6, 2) := by decide +kernel
theorem dX11_worked_33 : decode cX11_worked 33 = .ok (.iload 6, 2) := by decide +kernel
theorem dX11_worked_35 : decode cX11_worked 35 = .ok (.iconst 1, 1) := by decide +kernel
theorem dX11_worked_36 : decode cX11_worked 36 = .ok (.if_icmp .eq 9, 3) := by decide +kernel
theorem dX11_worked_39 : decode cX11_worked 39 = .ok (.iload 6, 2) := by decide +kernel
theorem dX11_worked_41 : decode cX11_worked 41 = .ok (.iconst 2, 1) := by decide +kernel
theorem dX11_worked_42 : decode cX11_worked 42 = .ok (.if_icmp .ne 44, 3) := by decide +kernel
theorem dX11_worked_45 : decode cX11_worked 45 = .ok (.aload_n 0, 1) := by decide +kernel
theorem dX11_worked_46 : decode cX11_worked 46 = .ok (.getfield 65, 3) := by decide +kernel
theorem dX11_worked_49 : decode cX11_worked 49 = .ok (.iload 4, 2) := by decide +kernel
theorem dX11_worked_51 : decode cX11_worked 51 = .ok (.iload 6, 2) := by decide +kernel
theorem dX11_worked_53 : decode cX11_worked 53 = .ok (.iconst 1, 1) := by decide +kernel
theorem dX11_worked_54 : decode cX11_worked 54 = .ok (.if_icmp .ne 13, 3) := by decide +kernel
theorem dX11_worked_57 : decode cX11_worked 57 = .ok (.aload_n 0, 1) := by decide +kernel
theorem dX11_worked_58 : decode cX11_worked 58 = .ok (.getfield 49, 3) := by decide +kernel
theorem dX11_worked_61 : decode cX11_worked 61 = .ok (.iload 5, 2) := by decide +kernel
theorem dX11_worked_63 : decode cX11_worked 63 = .ok (.iaload, 1) := by decide +kernel
theorem dX11_worked_64 : decode cX11_worked 64 = .ok (.goto 15, 3) := by decide +kernel
theorem dX11_worked_67 : decode cX11_worked 67 = .ok (.aload_n 0, 1) := by decide +kernel
theorem dX11_worked_68 : decode cX11_worked 68 = .ok (.getfield 62, 3) := by decide +kernel
theorem dX11_worked_71 : decode cX11_worked 71 = .ok (.aload_n 0, 1) := by decide +kernel
theorem dX11_worked_72 : decode cX11_worked 72 = .ok (.getfield 49, 3) := by decide +kernel
theorem dX11_worked_75 : decode cX11_worked 75 = .ok (.iload 5, 2) := by decide +kernel
theorem dX11_worked_77 : decode cX11_worked 77 = .ok (.iaload, 1) := by decide +kernel
theorem dX11_worked_78 : decode cX11_worked 78 = .ok (.iaload, 1) := by decide +kernel
theorem dX11_worked_79 : decode cX11_worked 79 = .ok (.iastore, 1) := by decide +kernel
theorem dX11_worked_80 : decode cX11_worked 80 = .ok (.iinc 4 1, 3) := by decide +kernel
theorem dX11_worked_83 : decode cX11_worked 83 = .ok (.goto 99, 3) := by decide +kernel
theorem dX11_worked_86 : decode cX11_worked 86 = .ok (.iload 6, 2) := by decide +kernel
theorem dX11_worked_88 : decode cX11_worked 88 = .ok (.iconst 3, 1) := by decide +kernel
theorem dX11_worked_89 : decode cX11_worked 89 = .ok (.if_icmp .ne 32, 3) := by decide +kernel
theorem dX11_worked_92 : decode cX11_worked 92 = .ok (.aload_n 0, 1) := by decide +kernel
theorem dX11_worked_93 : decode cX11_worked 93 = .ok (.getfield 65, 3) := by decide +kernel
theorem dX11_worked_96 : decode cX11_worked 96 = .ok (.iload 4, 2) := by decide +kernel
theorem dX11_worked_98 : decode cX11_worked 98 = .ok (.iconst 1, 1) := by decide +kernel
theorem dX11_worked_99 : decode cX11_worked 99 = .ok (.isub, 1) := by decide +kernel
theorem dX11_worked_100 : decode cX11_worked 100 = .ok (.aload_n 0, 1) := by decide +kernel
theorem dX11_worked_101 : decode cX11_worked 101 = .ok (.getfield 65, 3) := by decide +kernel
theorem dX11_worked_104 : decode cX11_worked 104 = .ok (.iload 4, 2) := by decide +kernel
theorem dX11_worked_106 : decode cX11_worked 106 = .ok (.iconst 1, 1) := by decide +kernel
theorem dX11_worked_107 : decode cX11_worked 107 = .ok (.isub, 1) := by decide +kernel
theorem dX11_worked_108 : decode cX11_worked 108 = .ok (.iaload, 1) := by decide +kernel
theorem dX11_worked_109 : decode cX11_worked 109 = .ok (.ifCond .ne 7, 3) := by decide +kernel
theorem dX11_worked_112 : decode cX11_worked 112 = .ok (.iconst 1, 1) := by decide +kernel
theorem dX11_worked_113 : decode cX11_worked 113 = .ok (.goto 4, 3) := by decide +kernel
theorem dX11_worked_116 : decode cX11_worked 116 = .ok (.iconst 0, 1) := by decide +kernel
theorem dX11_worked_117 : decode cX11_worked 117 = .ok (.iastore, 1) := by decide +kernel
theorem dX11_worked_118 : decode cX11_worked 118 = .ok (.goto 64, 3) := by decide +kernel
theorem dX11_worked_121 : decode cX11_worked 121 = .ok (.iload 6, 2) := by decide +kernel
theorem dX11_worked_123 : decode cX11_worked 123 = .ok (.iconst 4, 1) := by decide +kernel
theorem dX11_worked_124 : decode cX11_worked 124 = .ok (.if_icmp .ne 25, 3) := by decide +kernel
theorem dX11_worked_127 : decode cX11_worked 127 = .ok (.aload_n 0, 1) := by decide +kernel
theorem dX11_worked_128 : decode cX11_worked 128 = .ok (.getfield 65, 3) := by decide +kernel
theorem dX11_worked_131 : decode cX11_worked 131 = .ok (.iload 4, 2) := by decide +kernel
theorem dX11_worked_133 : decode cX11_worked 133 = .ok (.iconst 1, 1) := by decide +kernel
theorem dX11_worked_134 : decode cX11_worked 134 = .ok (.isub, 1) := by decide +kernel
theorem dX11_worked_135 : decode cX11_worked 135 = .ok (.aload_n 0, 1) := by decide +kernel
theorem dX11_worked_136 : decode cX11_worked 136 = .ok (.getfield 65, 3) := by decide +kernel
theorem dX11_worked_139 : decode cX11_worked 139 = .ok (.iload 4, 2) := by decide +kernel
theorem dX11_worked_141 : decode cX11_worked 141 = .ok (.iconst 1, 1) := by decide +kernel
theorem dX11_worked_142 : decode cX11_worked 142 = .ok (.isub, 1) := by decide +kernel
theorem dX11_worked_143 : decode cX11_worked 143 = .ok (.iaload, 1) := by decide +kernel
theorem dX11_worked_144 : decode cX11_worked 144 = .ok (.ineg, 1) := by decide +kernel
theorem dX11_worked_145 : decode cX11_worked 145 = .ok (.iastore, 1) := by decide +kernel
theorem dX11_worked_146 : decode cX11_worked 146 = .ok (.goto 36, 3) := by decide +kernel
theorem dX11_worked_149 : decode cX11_worked 149 = .ok (.iinc 4 (-1), 3) := by decide +kernel
theorem dX11_worked_152 : decode cX11_worked 152 = .ok (.aload_n 0, 1) := by decide +kernel
theorem dX11_worked_153 : decode cX11_worked 153 = .ok (.getfield 65, 3) := by decide +kernel
theorem dX11_worked_156 : decode cX11_worked 156 = .ok (.iload 4, 2) := by decide +kernel
theorem dX11_worked_158 : decode cX11_worked 158 = .ok (.iconst 1, 1) := by decide +kernel
theorem dX11_worked_159 : decode cX11_worked 159 = .ok (.isub, 1) := by decide +kernel
theorem dX11_worked_160 : decode cX11_worked 160 = .ok (.iload 6, 2) := by decide +kernel
theorem dX11_worked_162 : decode cX11_worked 162 = .ok (.aload_n 0, 1) := by decide +kernel
theorem dX11_worked_163 : decode cX11_worked 163 = .ok (.getfield 65, 3) := by decide +kernel
theorem dX11_worked_166 : decode cX11_worked 166 = .ok (.iload 4, 2) := by decide +kernel
theorem dX11_worked_168 : decode cX11_worked 168 = .ok (.iconst 1, 1) := by decide +kernel
theorem dX11_worked_169 : decode cX11_worked 169 = .ok (.isub, 1) := by decide +kernel
theorem dX11_worked_170 : decode cX11_worked 170 = .ok (.iaload, 1) := by decide +kernel
theorem dX11_worked_171 : decode cX11_worked 171 = .ok (.aload_n 0, 1) := by decide +kernel
theorem dX11_worked_172 : decode cX11_worked 172 = .ok (.getfield 65, 3) := by decide +kernel
theorem dX11_worked_175 : decode cX11_worked 175 = .ok (.iload 4, 2) := by decide +kernel
theorem dX11_worked_177 : decode cX11_worked 177 = .ok (.iaload, 1) := by decide +kernel
theorem dX11_worked_178 : decode cX11_worked 178 = .ok (.invokestatic 243, 3) := by decide +kernel
theorem dX11_worked_181 : decode cX11_worked 181 = .ok (.iastore, 1) := by decide +kernel
theorem dX11_worked_182 : decode cX11_worked 182 = .ok (.iinc 5 1, 3) := by decide +kernel
theorem dX11_worked_185 : decode cX11_worked 185 = .ok (.goto (-173), 3) := by decide +kernel
theorem dX11_worked_188 : decode cX11_worked 188 = .ok (.aload_n 0, 1) := by decide +kernel
theorem dX11_worked_189 : decode cX11_worked 189 = .ok (.getfield 65, 3) := by decide +kernel
theorem dX11_worked_192 : decode cX11_worked 192 = .ok (.iconst 0, 1) := by decide +kernel
theorem dX11_worked_193 : decode cX11_worked 193 = .ok (.iaload, 1) := by decide +kernel
theorem dX11_worked_194 : decode cX11_worked 194 = .ok (.ireturn, 1) := by decide +kernel
set_option maxRecDepth 20000 in
theorem ggX11_gives_X11_worked : GoodIn wsX11_gives wsX11_worked := goodIn_r _ [8, 9, 10, 11, 12, 13, 14, 7, 15, 16, 17, 18, 19, 20, 21, 22, 23, 24, 25, 26, 27, 28, 29, 30, 31, 32, 33, 34, 35, 36, 37, 38, 39, 40, 41, 42, 43, 44, 45, 46, 47, 48, 49, 50, 51, 52, 53, 54, 55, 56, 57, 58, 59, 60, 61, 62, 63, 64, 65] rfl (by decide +kernel)
set_option maxRecDepth 20000 in
theorem gX11_gives_X11_worked : GoodIn wsX11_gives (wsV RX11 246 RX11 yX11_worked wsX11_worked) := goodIn_app (goodIn_of _ (by decide +kernel)) ggX11_gives_X11_worked
theorem dX11_gives_0 : decode cX11_gives 0 = .ok (.iconst 0, 1) := by decide +kernel
theorem dX11_gives_1 : decode cX11_gives 1 = .ok (.istore_n 2, 1) := by decide +kernel
theorem dX11_gives_2 : decode cX11_gives 2 = .ok (.bipush 61, 2) := by decide +kernel
theorem dX11_gives_4 : decode cX11_gives 4 = .ok (.iload_n 1, 1) := by decide +kernel
theorem dX11_gives_5 : decode cX11_gives 5 = .ok (.imul, 1) := by decide +kernel
theorem dX11_gives_6 : decode cX11_gives 6 = .ok (.istore_n 3, 1) := by decide +kernel
theorem dX11_gives_7 : decode cX11_gives 7 = .ok (.iload_n 3, 1) := by decide +kernel
theorem dX11_gives_8 : decode cX11_gives 8 = .ok (.bipush 61, 2) := by decide +kernel
theorem dX11_gives_10 : decode cX11_gives 10 = .ok (.iload_n 1, 1) := by decide +kernel
theorem dX11_gives_11 : decode cX11_gives 11 = .ok (.imul, 1) := by decide +kernel
theorem dX11_gives_12 : decode cX11_gives 12 = .ok (.aload_n 0, 1) := by decide +kernel
theorem dX11_gives_13 : decode cX11_gives 13 = .ok (.getfield 52, 3) := by decide +kernel
theorem dX11_gives_16 : decode cX11_gives 16 = .ok (.iload_n 1, 1) := by decide +kernel
theorem dX11_gives_17 : decode cX11_gives 17 = .ok (.iaload, 1) := by decide +kernel
theorem dX11_gives_18 : decode cX11_gives 18 = .ok (.iadd, 1) := by decide +kernel
theorem dX11_gives_19 : decode cX11_gives 19 = .ok (.if_icmp .ge 59, 3) := by decide +kernel
theorem dX11_gives_22 : decode cX11_gives 22 = .ok (.aload_n 0, 1) := by decide +kernel
theorem dX11_gives_23 : decode cX11_gives 23 = .ok (.getfield 55, 3) := by decide +kernel
theorem dX11_gives_26 : decode cX11_gives 26 = .ok (.iload_n 3, 1) := by decide +kernel
theorem dX11_gives_27 : decode cX11_gives 27 = .ok (.saload, 1) := by decide +kernel
theorem dX11_gives_28 : decode cX11_gives 28 = .ok (.iload_n 2, 1) := by decide +kernel
theorem dX11_gives_29 : decode cX11_gives 29 = .ok (.if_icmp .eq 18, 3) := by decide +kernel
theorem dX11_gives_32 : decode cX11_gives 32 = .ok (.aload_n 0, 1) := by decide +kernel
theorem dX11_gives_33 : decode cX11_gives 33 = .ok (.iload_n 1, 1) := by decide +kernel
theorem dX11_gives_34 : decode cX11_gives 34 = .ok (.iload_n 2, 1) := by decide +kernel
theorem dX11_gives_35 : decode cX11_gives 35 = .ok (.aload_n 0, 1) := by decide +kernel
theorem dX11_gives_36 : decode cX11_gives 36 = .ok (.getfield 55, 3) := by decide +kernel
theorem dX11_gives_39 : decode cX11_gives 39 = .ok (.iload_n 3, 1) := by decide +kernel
theorem dX11_gives_40 : decode cX11_gives 40 = .ok (.saload, 1) := by decide +kernel
theorem dX11_gives_41 : decode cX11_gives 41 = .ok (.invokevirtual 246, 3) := by decide +kernel
theorem dX11_gives_44 : decode cX11_gives 44 = .ok (.ifCond .eq 21, 3) := by decide +kernel
theorem dX11_gives_47 : decode cX11_gives 47 = .ok (.aload_n 0, 1) := by decide +kernel
theorem dX11_gives_48 : decode cX11_gives 48 = .ok (.iload_n 1, 1) := by decide +kernel
theorem dX11_gives_49 : decode cX11_gives 49 = .ok (.aload_n 0, 1) := by decide +kernel
theorem dX11_gives_50 : decode cX11_gives 50 = .ok (.getfield 55, 3) := by decide +kernel
theorem dX11_gives_53 : decode cX11_gives 53 = .ok (.iload_n 3, 1) := by decide +kernel
theorem dX11_gives_54 : decode cX11_gives 54 = .ok (.saload, 1) := by decide +kernel
theorem dX11_gives_55 : decode cX11_gives 55 = .ok (.aload_n 0, 1) := by decide +kernel
theorem dX11_gives_56 : decode cX11_gives 56 = .ok (.getfield 59, 3) := by decide +kernel
theorem dX11_gives_59 : decode cX11_gives 59 = .ok (.iload_n 3, 1) := by decide +kernel
theorem dX11_gives_60 : decode cX11_gives 60 = .ok (.saload, 1) := by decide +kernel
theorem dX11_gives_61 : decode cX11_gives 61 = .ok (.invokevirtual 246, 3) := by decide +kernel
theorem dX11_gives_64 : decode cX11_gives 64 = .ok (.ireturn, 1) := by decide +kernel
theorem dX11_gives_65 : decode cX11_gives 65 = .ok (.aload_n 0, 1) := by decide +kernel
theorem dX11_gives_66 : decode cX11_gives 66 = .ok (.getfield 59, 3) := by decide +kernel
theorem dX11_gives_69 : decode cX11_gives 69 = .ok (.iload_n 3, 1) := by decide +kernel
theorem dX11_gives_70 : decode cX11_gives 70 = .ok (.saload, 1) := by decide +kernel
theorem dX11_gives_71 : decode cX11_gives 71 = .ok (.istore_n 2, 1) := by decide +kernel
theorem dX11_gives_72 : decode cX11_gives 72 = .ok (.iinc 3 1, 3) := by decide +kernel
theorem dX11_gives_75 : decode cX11_gives 75 = .ok (.goto (-68), 3) := by decide +kernel
theorem dX11_gives_78 : decode cX11_gives 78 = .ok (.iconst 0, 1) := by decide +kernel
theorem dX11_gives_79 : decode cX11_gives 79 = .ok (.ireturn, 1) := by decide +kernel
set_option maxRecDepth 20000 in
theorem ggX11_law_X11_readText : GoodIn wsX11_law wsX11_readText := goodIn_r _ [6, 7, 8, 9, 10, 11, 12, 13, 14, 15, 16, 17, 18, 19, 5, 20, 21, 22, 23, 24, 25, 26, 27, 28, 29, 30, 31, 32, 33, 34, 35, 36, 37, 38, 39, 40, 41, 42, 43, 44, 45, 46, 47, 48, 49, 50, 51, 52, 53, 54, 55, 56, 57, 58, 59, 60, 61, 62, 63, 64, 65, 66, 67, 68, 69, 70, 71, 72, 73, 74, 75, 76, 77, 78, 79, 80, 81, 82, 83, 84, 85, 86, 87, 88, 89, 90, 91, 92, 93, 94, 95, 96, 97, 98, 99, 100, 101, 102, 103, 104, 105, 106, 107, 108, 109, 110, 111, 112, 113, 114, 115, 116, 117, 118, 119, 120, 121] rfl (by decide +kernel)
set_option maxRecDepth 20000 in
theorem gX11_law_X11_readText : GoodIn wsX11_law (wsV RX11 249 RX11 yX11_readText wsX11_readText) := goodIn_app (goodIn_of _ (by decide +kernel)) ggX11_law_X11_readText
theorem dX11_law_0 : decode cX11_law 0 = .ok (.aload_n 0, 1) := by decide +kernel
theorem dX11_law_1 : decode cX11_law 1 = .ok (.iconst 0, 1) := by decide +kernel
theorem dX11_law_2 : decode cX11_law 2 = .ok (.invokevirtual 249, 3) := by decide +kernel
theorem dX11_law_5 : decode cX11_law 5 = .ok (.istore_n 1, 1) := by decide +kernel
theorem dX11_law_6 : decode cX11_law 6 = .ok (.iload_n 1, 1) := by decide +kernel
theorem dX11_law_7 : decode cX11_law 7 = .ok (.ifCond .lt 8, 3) := by decide +kernel
theorem dX11_law_10 : decode cX11_law 10 = .ok (.bipush (-100), 2) := by decide +kernel
theorem dX11_law_12 : decode cX11_law 12 = .ok (.iload_n 1, 1) := by decide +kernel
theorem dX11_law_13 : decode cX11_law 13 = .ok (.isub, 1) := by decide +kernel
theorem dX11_law_14 : decode cX11_law 14 = .ok (.ireturn, 1) := by decide +kernel
theorem dX11_law_15 : decode cX11_law 15 = .ok (.aload_n 0, 1) := by decide +kernel
theorem dX11_law_16 : decode cX11_law 16 = .ok (.iconst 1, 1) := by decide +kernel
theorem dX11_law_17 : decode cX11_law 17 = .ok (.putfield 252, 3) := by decide +kernel
theorem dX11_law_20 : decode cX11_law 20 = .ok (.iconst 1, 1) := by decide +kernel
theorem dX11_law_21 : decode cX11_law 21 = .ok (.ireturn, 1) := by decide +kernel
set_option maxRecDepth 20000 in
theorem ggX11_canSing_X11_whoHas : GoodIn wsX11_canSing wsX11_whoHas := goodIn_r _ [5, 6, 7, 8, 4, 9, 10, 11, 12, 13, 14, 15, 16, 17, 18, 19, 20, 21, 22, 23, 24, 25, 26, 27, 28, 29, 30, 31, 32, 33, 34, 35, 36, 37, 38, 39, 40, 41, 42, 43, 44, 45, 46, 47, 48, 49, 50, 51, 52, 53, 54, 55, 56, 57, 58, 59, 60, 61, 62, 63] rfl (by decide +kernel)
set_option maxRecDepth 20000 in
theorem gX11_canSing_X11_whoHas : GoodIn wsX11_canSing (wsV RX11 183 RX11 yX11_whoHas wsX11_whoHas) := goodIn_app (goodIn_of _ (by decide +kernel)) ggX11_canSing_X11_whoHas
theorem dX11_canSing_0 : decode cX11_canSing 0 = .ok (.aload_n 0, 1) := by decide +kernel
theorem dX11_canSing_1 : decode cX11_canSing 1 = .ok (.iload_n 1, 1) := by decide +kernel
theorem dX11_canSing_2 : decode cX11_canSing 2 = .ok (.iload_n 2, 1) := by decide +kernel
theorem dX11_canSing_3 : decode cX11_canSing 3 = .ok (.iconst 0, 1) := by decide +kernel
theorem dX11_canSing_4 : decode cX11_canSing 4 = .ok (.invokevirtual 183, 3) := by decide +kernel
theorem dX11_canSing_7 : decode cX11_canSing 7 = .ok (.ifCond .eq 17, 3) := by decide +kernel
theorem dX11_canSing_10 : decode cX11_canSing 10 = .ok (.aload_n 0, 1) := by decide +kernel
theorem dX11_canSing_11 : decode cX11_canSing 11 = .ok (.iload_n 1, 1) := by decide +kernel
theorem dX11_canSing_12 : decode cX11_canSing 12 = .ok (.iload_n 2, 1) := by decide +kernel
theorem dX11_canSing_13 : decode cX11_canSing 13 = .ok (.iconst 1, 1) := by decide +kernel
theorem dX11_canSing_14 : decode cX11_canSing 14 = .ok (.invokevirtual 183, 3) := by decide +kernel
theorem dX11_canSing_17 : decode cX11_canSing 17 = .ok (.ifCond .eq 7, 3) := by decide +kernel
theorem dX11_canSing_20 : decode cX11_canSing 20 = .ok (.iconst 1, 1) := by decide +kernel
theorem dX11_canSing_21 : decode cX11_canSing 21 = .ok (.goto 4, 3) := by decide +kernel
theorem dX11_canSing_24 : decode cX11_canSing 24 = .ok (.iconst 0, 1) := by decide +kernel
theorem dX11_canSing_25 : decode cX11_canSing 25 = .ok (.ireturn, 1) := by decide +kernel
set_option maxRecDepth 20000 in
theorem ggX11_comesTo_X11_gives : GoodIn wsX11_comesTo wsX11_gives := goodIn_r _ [12, 13, 14, 15, 16, 17, 18, 11, 19, 20, 21, 22, 6, 23, 24, 25, 26, 27, 28, 29, 30, 31, 32, 33, 34, 35, 36, 37, 38, 39, 40, 41, 42, 43, 44, 45, 46, 47, 48, 49, 50, 51, 52, 53, 54, 55, 56, 57, 58, 59, 60, 61, 62, 63, 64, 65, 66, 67, 68, 69, 70, 71, 72, 73, 74, 75] rfl (by decide +kernel)
set_option maxRecDepth 20000 in
theorem gX11_comesTo_X11_gives : GoodIn wsX11_comesTo (wsV RX11 256 RX11 yX11_gives wsX11_gives) := goodIn_app (goodIn_of _ (by decide +kernel)) ggX11_comesTo_X11_gives
theorem dX11_comesTo_0 : decode cX11_comesTo 0 = .ok (.iload_n 3, 1) := by decide +kernel
theorem dX11_comesTo_1 : decode cX11_comesTo 1 = .ok (.iload_n 2, 1) := by decide +kernel
theorem dX11_comesTo_2 : decode cX11_comesTo 2 = .ok (.iconst 1, 1) := by decide +kernel
theorem dX11_comesTo_3 : decode cX11_comesTo 3 = .ok (.iadd, 1) := by decide +kernel
theorem dX11_comesTo_4 : decode cX11_comesTo 4 = .ok (.if_icmp .ne 7, 3) := by decide +kernel
theorem dX11_comesTo_7 : decode cX11_comesTo 7 = .ok (.iconst 1, 1) := by decide +kernel
theorem dX11_comesTo_8 : decode cX11_comesTo 8 = .ok (.goto 4, 3) := by decide +kernel
theorem dX11_comesTo_11 : decode cX11_comesTo 11 = .ok (.iconst 0, 1) := by decide +kernel
theorem dX11_comesTo_12 : decode cX11_comesTo 12 = .ok (.istore 5, 2) := by decide +kernel
theorem dX11_comesTo_14 : decode cX11_comesTo 14 = .ok (.aload_n 0, 1) := by decide +kernel
theorem dX11_comesTo_15 : decode cX11_comesTo 15 = .ok (.getfield 15, 3) := by decide +kernel
theorem dX11_comesTo_18 : decode cX11_comesTo 18 = .ok (.bipush 12, 2) := by decide +kernel
theorem dX11_comesTo_20 : decode cX11_comesTo 20 = .ok (.iload_n 1, 1) := by decide +kernel
theorem dX11_comesTo_21 : decode cX11_comesTo 21 = .ok (.imul, 1) := by decide +kernel
theorem dX11_comesTo_22 : decode cX11_comesTo 22 = .ok (.iload_n 3, 1) := by decide +kernel
theorem dX11_comesTo_23 : decode cX11_comesTo 23 = .ok (.iadd, 1) := by decide +kernel
theorem dX11_comesTo_24 : decode cX11_comesTo 24 = .ok (.iaload, 1) := by decide +kernel
theorem dX11_comesTo_25 : decode cX11_comesTo 25 = .ok (.aload_n 0, 1) := by decide +kernel
theorem dX11_comesTo_26 : decode cX11_comesTo 26 = .ok (.getfield 15, 3) := by decide +kernel
theorem dX11_comesTo_29 : decode cX11_comesTo 29 = .ok (.bipush 12, 2) := by decide +kernel
theorem dX11_comesTo_31 : decode cX11_comesTo 31 = .ok (.iload_n 1, 1) := by decide +kernel
theorem dX11_comesTo_32 : decode cX11_comesTo 32 = .ok (.imul, 1) := by decide +kernel
theorem dX11_comesTo_33 : decode cX11_comesTo 33 = .ok (.iload_n 2, 1) := by decide +kernel
theorem dX11_comesTo_34 : decode cX11_comesTo 34 = .ok (.iadd, 1) := by decide +kernel
theorem dX11_comesTo_35 : decode cX11_comesTo 35 = .ok (.iaload, 1) := by decide +kernel
theorem dX11_comesTo_36 : decode cX11_comesTo 36 = .ok (.if_icmp .ne 7, 3) := by decide +kernel
theorem dX11_comesTo_39 : decode cX11_comesTo 39 = .ok (.iconst 1, 1) := by decide +kernel
theorem dX11_comesTo_40 : decode cX11_comesTo 40 = .ok (.goto 4, 3) := by decide +kernel
theorem dX11_comesTo_43 : decode cX11_comesTo 43 = .ok (.iconst 0, 1) := by decide +kernel
theorem dX11_comesTo_44 : decode cX11_comesTo 44 = .ok (.istore 6, 2) := by decide +kernel
theorem dX11_comesTo_46 : decode cX11_comesTo 46 = .ok (.aload_n 0, 1) := by decide +kernel
theorem dX11_comesTo_47 : decode cX11_comesTo 47 = .ok (.getfield 18, 3) := by decide +kernel
theorem dX11_comesTo_50 : decode cX11_comesTo 50 = .ok (.bipush 12, 2) := by decide +kernel
theorem dX11_comesTo_52 : decode cX11_comesTo 52 = .ok (.iload_n 1, 1) := by decide +kernel
theorem dX11_comesTo_53 : decode cX11_comesTo 53 = .ok (.imul, 1) := by decide +kernel
theorem dX11_comesTo_54 : decode cX11_comesTo 54 = .ok (.iload_n 3, 1) := by decide +kernel
theorem dX11_comesTo_55 : decode cX11_comesTo 55 = .ok (.iadd, 1) := by decide +kernel
theorem dX11_comesTo_56 : decode cX11_comesTo 56 = .ok (.iaload, 1) := by decide +kernel
theorem dX11_comesTo_57 : decode cX11_comesTo 57 = .ok (.aload_n 0, 1) := by decide +kernel
theorem dX11_comesTo_58 : decode cX11_comesTo 58 = .ok (.getfield 18, 3) := by decide +kernel
theorem dX11_comesTo_61 : decode cX11_comesTo 61 = .ok (.bipush 12, 2) := by decide +kernel
theorem dX11_comesTo_63 : decode cX11_comesTo 63 = .ok (.iload_n 1, 1) := by decide +kernel
theorem dX11_comesTo_64 : decode cX11_comesTo 64 = .ok (.imul, 1) := by decide +kernel
theorem dX11_comesTo_65 : decode cX11_comesTo 65 = .ok (.iload_n 2, 1) := by decide +kernel
theorem dX11_comesTo_66 : decode cX11_comesTo 66 = .ok (.iadd, 1) := by decide +kernel
theorem dX11_comesTo_67 : decode cX11_comesTo 67 = .ok (.iaload, 1) := by decide +kernel
theorem dX11_comesTo_68 : decode cX11_comesTo 68 = .ok (.if_icmp .ne 7, 3) := by decide +kernel
theorem dX11_comesTo_71 : decode cX11_comesTo 71 = .ok (.iconst 1, 1) := by decide +kernel
theorem dX11_comesTo_72 : decode cX11_comesTo 72 = .ok (.goto 4, 3) := by decide +kernel
theorem dX11_comesTo_75 : decode cX11_comesTo 75 = .ok (.iconst 0, 1) := by decide +kernel
theorem dX11_comesTo_76 : decode cX11_comesTo 76 = .ok (.istore 7, 2) := by decide +kernel
theorem dX11_comesTo_78 : decode cX11_comesTo 78 = .ok (.aload_n 0, 1) := by decide +kernel
theorem dX11_comesTo_79 : decode cX11_comesTo 79 = .ok (.getfield 21, 3) := by decide +kernel
theorem dX11_comesTo_82 : decode cX11_comesTo 82 = .ok (.bipush 12, 2) := by decide +kernel
theorem dX11_comesTo_84 : decode cX11_comesTo 84 = .ok (.iload_n 1, 1) := by decide +kernel
theorem dX11_comesTo_85 : decode cX11_comesTo 85 = .ok (.imul, 1) := by decide +kernel
theorem dX11_comesTo_86 : decode cX11_comesTo 86 = .ok (.iload_n 3, 1) := by decide +kernel
theorem dX11_comesTo_87 : decode cX11_comesTo 87 = .ok (.iadd, 1) := by decide +kernel
theorem dX11_comesTo_88 : decode cX11_comesTo 88 = .ok (.iaload, 1) := by decide +kernel
theorem dX11_comesTo_89 : decode cX11_comesTo 89 = .ok (.aload_n 0, 1) := by decide +kernel
theorem dX11_comesTo_90 : decode cX11_comesTo 90 = .ok (.getfield 21, 3) := by decide +kernel
theorem dX11_comesTo_93 : decode cX11_comesTo 93 = .ok (.bipush 12, 2) := by decide +kernel
theorem dX11_comesTo_95 : decode cX11_comesTo 95 = .ok (.iload_n 1, 1) := by decide +kernel
theorem dX11_comesTo_96 : decode cX11_comesTo 96 = .ok (.imul, 1) := by decide +kernel
theorem dX11_comesTo_97 : decode cX11_comesTo 97 = .ok (.iload_n 2, 1) := by decide +kernel
theorem dX11_comesTo_98 : decode cX11_comesTo 98 = .ok (.iadd, 1) := by decide +kernel
theorem dX11_comesTo_99 : decode cX11_comesTo 99 = .ok (.iaload, 1) := by decide +kernel
theorem dX11_comesTo_100 : decode cX11_comesTo 100 = .ok (.if_icmp .ne 7, 3) := by decide +kernel
theorem dX11_comesTo_103 : decode cX11_comesTo 103 = .ok (.iconst 1, 1) := by decide +kernel
theorem dX11_comesTo_104 : decode cX11_comesTo 104 = .ok (.goto 4, 3) := by decide +kernel
theorem dX11_comesTo_107 : decode cX11_comesTo 107 = .ok (.iconst 0, 1) := by decide +kernel
theorem dX11_comesTo_108 : decode cX11_comesTo 108 = .ok (.istore 8, 2) := by decide +kernel
theorem dX11_comesTo_110 : decode cX11_comesTo 110 = .ok (.aload_n 0, 1) := by decide +kernel
theorem dX11_comesTo_111 : decode cX11_comesTo 111 = .ok (.getfield 252, 3) := by decide +kernel
theorem dX11_comesTo_114 : decode cX11_comesTo 114 = .ok (.ifCond .ne 29, 3) := by decide +kernel
theorem dX11_comesTo_117 : decode cX11_comesTo 117 = .ok (.iload 5, 2) := by decide +kernel
theorem dX11_comesTo_119 : decode cX11_comesTo 119 = .ok (.bipush 8, 2) := by decide +kernel
theorem dX11_comesTo_121 : decode cX11_comesTo 121 = .ok (.imul, 1) := by decide +kernel
theorem dX11_comesTo_122 : decode cX11_comesTo 122 = .ok (.iload 6, 2) := by decide +kernel
theorem dX11_comesTo_124 : decode cX11_comesTo 124 = .ok (.iadd, 1) := by decide +kernel
theorem dX11_comesTo_125 : decode cX11_comesTo 125 = .ok (.iload 7, 2) := by decide +kernel
theorem dX11_comesTo_127 : decode cX11_comesTo 127 = .ok (.iconst 2, 1) := by decide +kernel
theorem dX11_comesTo_128 : decode cX11_comesTo 128 = .ok (.imul, 1) := by decide +kernel
theorem dX11_comesTo_129 : decode cX11_comesTo 129 = .ok (.iadd, 1) := by decide +kernel
theorem dX11_comesTo_130 : decode cX11_comesTo 130 = .ok (.iload 8, 2) := by decide +kernel
theorem dX11_comesTo_132 : decode cX11_comesTo 132 = .ok (.iadd, 1) := by decide +kernel
theorem dX11_comesTo_133 : decode cX11_comesTo 133 = .ok (.aload_n 0, 1) := by decide +kernel
