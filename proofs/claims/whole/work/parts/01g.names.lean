theorem dX11_comesTo_134 : decode cX11_comesTo 134 = .ok (.getfield 68, 3) := by decide +kernel
theorem dX11_comesTo_137 : decode cX11_comesTo 137 = .ok (.iload_n 3, 1) := by decide +kernel
theorem dX11_comesTo_138 : decode cX11_comesTo 138 = .ok (.iaload, 1) := by decide +kernel
theorem dX11_comesTo_139 : decode cX11_comesTo 139 = .ok (.iconst 3, 1) := by decide +kernel
theorem dX11_comesTo_140 : decode cX11_comesTo 140 = .ok (.imul, 1) := by decide +kernel
theorem dX11_comesTo_141 : decode cX11_comesTo 141 = .ok (.isub, 1) := by decide +kernel
theorem dX11_comesTo_142 : decode cX11_comesTo 142 = .ok (.ireturn, 1) := by decide +kernel
theorem dX11_comesTo_143 : decode cX11_comesTo 143 = .ok (.aload_n 0, 1) := by decide +kernel
theorem dX11_comesTo_144 : decode cX11_comesTo 144 = .ok (.getfield 62, 3) := by decide +kernel
theorem dX11_comesTo_147 : decode cX11_comesTo 147 = .ok (.iconst 0, 1) := by decide +kernel
theorem dX11_comesTo_148 : decode cX11_comesTo 148 = .ok (.iload 5, 2) := by decide +kernel
theorem dX11_comesTo_150 : decode cX11_comesTo 150 = .ok (.iastore, 1) := by decide +kernel
theorem dX11_comesTo_151 : decode cX11_comesTo 151 = .ok (.aload_n 0, 1) := by decide +kernel
theorem dX11_comesTo_152 : decode cX11_comesTo 152 = .ok (.getfield 62, 3) := by decide +kernel
theorem dX11_comesTo_155 : decode cX11_comesTo 155 = .ok (.iconst 1, 1) := by decide +kernel
theorem dX11_comesTo_156 : decode cX11_comesTo 156 = .ok (.iload 6, 2) := by decide +kernel
theorem dX11_comesTo_158 : decode cX11_comesTo 158 = .ok (.iastore, 1) := by decide +kernel
theorem dX11_comesTo_159 : decode cX11_comesTo 159 = .ok (.aload_n 0, 1) := by decide +kernel
theorem dX11_comesTo_160 : decode cX11_comesTo 160 = .ok (.getfield 62, 3) := by decide +kernel
theorem dX11_comesTo_163 : decode cX11_comesTo 163 = .ok (.iconst 2, 1) := by decide +kernel
theorem dX11_comesTo_164 : decode cX11_comesTo 164 = .ok (.iload 7, 2) := by decide +kernel
theorem dX11_comesTo_166 : decode cX11_comesTo 166 = .ok (.iastore, 1) := by decide +kernel
theorem dX11_comesTo_167 : decode cX11_comesTo 167 = .ok (.aload_n 0, 1) := by decide +kernel
theorem dX11_comesTo_168 : decode cX11_comesTo 168 = .ok (.getfield 62, 3) := by decide +kernel
theorem dX11_comesTo_171 : decode cX11_comesTo 171 = .ok (.iconst 3, 1) := by decide +kernel
theorem dX11_comesTo_172 : decode cX11_comesTo 172 = .ok (.iload 8, 2) := by decide +kernel
theorem dX11_comesTo_174 : decode cX11_comesTo 174 = .ok (.iastore, 1) := by decide +kernel
theorem dX11_comesTo_175 : decode cX11_comesTo 175 = .ok (.aload_n 0, 1) := by decide +kernel
theorem dX11_comesTo_176 : decode cX11_comesTo 176 = .ok (.getfield 62, 3) := by decide +kernel
theorem dX11_comesTo_179 : decode cX11_comesTo 179 = .ok (.iconst 4, 1) := by decide +kernel
theorem dX11_comesTo_180 : decode cX11_comesTo 180 = .ok (.aload_n 0, 1) := by decide +kernel
theorem dX11_comesTo_181 : decode cX11_comesTo 181 = .ok (.getfield 27, 3) := by decide +kernel
theorem dX11_comesTo_184 : decode cX11_comesTo 184 = .ok (.iload 4, 2) := by decide +kernel
theorem dX11_comesTo_186 : decode cX11_comesTo 186 = .ok (.iaload, 1) := by decide +kernel
theorem dX11_comesTo_187 : decode cX11_comesTo 187 = .ok (.iastore, 1) := by decide +kernel
theorem dX11_comesTo_188 : decode cX11_comesTo 188 = .ok (.aload_n 0, 1) := by decide +kernel
theorem dX11_comesTo_189 : decode cX11_comesTo 189 = .ok (.getfield 62, 3) := by decide +kernel
theorem dX11_comesTo_192 : decode cX11_comesTo 192 = .ok (.iconst 5, 1) := by decide +kernel
theorem dX11_comesTo_193 : decode cX11_comesTo 193 = .ok (.aload_n 0, 1) := by decide +kernel
theorem dX11_comesTo_194 : decode cX11_comesTo 194 = .ok (.getfield 68, 3) := by decide +kernel
theorem dX11_comesTo_197 : decode cX11_comesTo 197 = .ok (.iload_n 3, 1) := by decide +kernel
theorem dX11_comesTo_198 : decode cX11_comesTo 198 = .ok (.iaload, 1) := by decide +kernel
theorem dX11_comesTo_199 : decode cX11_comesTo 199 = .ok (.iastore, 1) := by decide +kernel
theorem dX11_comesTo_200 : decode cX11_comesTo 200 = .ok (.aload_n 0, 1) := by decide +kernel
theorem dX11_comesTo_201 : decode cX11_comesTo 201 = .ok (.iconst 0, 1) := by decide +kernel
theorem dX11_comesTo_202 : decode cX11_comesTo 202 = .ok (.invokevirtual 256, 3) := by decide +kernel
theorem dX11_comesTo_205 : decode cX11_comesTo 205 = .ok (.ireturn, 1) := by decide +kernel
set_option maxRecDepth 20000 in
theorem ggX11_nextOf_X11_bitAt : GoodIn wsX11_nextOf wsX11_bitAt := goodIn_r _ [7, 8, 9, 10, 6, 11, 40, 41, 42, 43, 44, 45, 46, 47, 48, 49, 50, 51, 52, 53, 54, 55, 56, 57, 58, 59, 60, 61, 62, 63, 64, 65, 66, 67, 68, 69, 70, 71, 72, 73, 74, 75, 76, 77, 78, 79, 80, 81, 82, 83, 84, 85, 86, 87, 88, 89] rfl (by decide +kernel)
set_option maxRecDepth 20000 in
theorem gX11_nextOf_X11_bitAt : GoodIn wsX11_nextOf (wsV RX11 145 RX11 yX11_bitAt wsX11_bitAt) := goodIn_app (goodIn_of _ (by decide +kernel)) ggX11_nextOf_X11_bitAt
set_option maxRecDepth 20000 in
theorem ggX11_nextOf_X11_comesTo : GoodIn wsX11_nextOf wsX11_comesTo := goodIn_r _ [15, 16, 17, 18, 19, 20, 21, 22, 23, 24, 25, 6, 26, 27, 28, 29, 30, 31, 32, 33, 34, 35, 36, 37, 38, 39, 40, 41, 42, 43, 44, 45, 46, 47, 48, 49, 50, 51, 52, 53, 54, 55, 56, 57, 58, 59, 60, 61, 62, 63, 64, 65, 66, 67, 68, 69, 70, 71, 72, 73, 74, 75, 76, 77, 78, 79, 80, 81, 82, 83, 84, 85, 86, 87, 88, 89] rfl (by decide +kernel)
set_option maxRecDepth 20000 in
theorem gX11_nextOf_X11_comesTo : GoodIn wsX11_nextOf (wsV RX11 259 RX11 yX11_comesTo wsX11_comesTo) := goodIn_app (goodIn_of _ (by decide +kernel)) ggX11_nextOf_X11_comesTo
theorem dX11_nextOf_0 : decode cX11_nextOf 0 = .ok (.iconst (-1), 1) := by decide +kernel
theorem dX11_nextOf_1 : decode cX11_nextOf 1 = .ok (.istore_n 3, 1) := by decide +kernel
theorem dX11_nextOf_2 : decode cX11_nextOf 2 = .ok (.iconst 0, 1) := by decide +kernel
theorem dX11_nextOf_3 : decode cX11_nextOf 3 = .ok (.istore 4, 2) := by decide +kernel
theorem dX11_nextOf_5 : decode cX11_nextOf 5 = .ok (.iconst 0, 1) := by decide +kernel
theorem dX11_nextOf_6 : decode cX11_nextOf 6 = .ok (.istore 5, 2) := by decide +kernel
theorem dX11_nextOf_8 : decode cX11_nextOf 8 = .ok (.iload 5, 2) := by decide +kernel
theorem dX11_nextOf_10 : decode cX11_nextOf 10 = .ok (.aload_n 0, 1) := by decide +kernel
theorem dX11_nextOf_11 : decode cX11_nextOf 11 = .ok (.getfield 9, 3) := by decide +kernel
theorem dX11_nextOf_14 : decode cX11_nextOf 14 = .ok (.iload_n 1, 1) := by decide +kernel
theorem dX11_nextOf_15 : decode cX11_nextOf 15 = .ok (.iaload, 1) := by decide +kernel
theorem dX11_nextOf_16 : decode cX11_nextOf 16 = .ok (.if_icmp .ge 97, 3) := by decide +kernel
theorem dX11_nextOf_19 : decode cX11_nextOf 19 = .ok (.iload 5, 2) := by decide +kernel
theorem dX11_nextOf_21 : decode cX11_nextOf 21 = .ok (.iload_n 2, 1) := by decide +kernel
theorem dX11_nextOf_22 : decode cX11_nextOf 22 = .ok (.if_icmp .ne 6, 3) := by decide +kernel
theorem dX11_nextOf_25 : decode cX11_nextOf 25 = .ok (.goto 82, 3) := by decide +kernel
theorem dX11_nextOf_28 : decode cX11_nextOf 28 = .ok (.iconst 0, 1) := by decide +kernel
theorem dX11_nextOf_29 : decode cX11_nextOf 29 = .ok (.istore 6, 2) := by decide +kernel
theorem dX11_nextOf_31 : decode cX11_nextOf 31 = .ok (.iload 6, 2) := by decide +kernel
theorem dX11_nextOf_33 : decode cX11_nextOf 33 = .ok (.iconst 4, 1) := by decide +kernel
theorem dX11_nextOf_34 : decode cX11_nextOf 34 = .ok (.if_icmp .ge 73, 3) := by decide +kernel
theorem dX11_nextOf_37 : decode cX11_nextOf 37 = .ok (.aload_n 0, 1) := by decide +kernel
theorem dX11_nextOf_38 : decode cX11_nextOf 38 = .ok (.iload_n 1, 1) := by decide +kernel
theorem dX11_nextOf_39 : decode cX11_nextOf 39 = .ok (.iload 6, 2) := by decide +kernel
theorem dX11_nextOf_41 : decode cX11_nextOf 41 = .ok (.iload 5, 2) := by decide +kernel
theorem dX11_nextOf_43 : decode cX11_nextOf 43 = .ok (.iconst 0, 1) := by decide +kernel
theorem dX11_nextOf_44 : decode cX11_nextOf 44 = .ok (.invokevirtual 145, 3) := by decide +kernel
theorem dX11_nextOf_47 : decode cX11_nextOf 47 = .ok (.ifCond .ne 19, 3) := by decide +kernel
theorem dX11_nextOf_50 : decode cX11_nextOf 50 = .ok (.aload_n 0, 1) := by decide +kernel
theorem dX11_nextOf_51 : decode cX11_nextOf 51 = .ok (.iload_n 1, 1) := by decide +kernel
theorem dX11_nextOf_52 : decode cX11_nextOf 52 = .ok (.iload 6, 2) := by decide +kernel
theorem dX11_nextOf_54 : decode cX11_nextOf 54 = .ok (.iload 5, 2) := by decide +kernel
theorem dX11_nextOf_56 : decode cX11_nextOf 56 = .ok (.iconst 1, 1) := by decide +kernel
theorem dX11_nextOf_57 : decode cX11_nextOf 57 = .ok (.invokevirtual 145, 3) := by decide +kernel
theorem dX11_nextOf_60 : decode cX11_nextOf 60 = .ok (.ifCond .ne 6, 3) := by decide +kernel
theorem dX11_nextOf_63 : decode cX11_nextOf 63 = .ok (.goto 38, 3) := by decide +kernel
theorem dX11_nextOf_66 : decode cX11_nextOf 66 = .ok (.aload_n 0, 1) := by decide +kernel
theorem dX11_nextOf_67 : decode cX11_nextOf 67 = .ok (.iload_n 1, 1) := by decide +kernel
theorem dX11_nextOf_68 : decode cX11_nextOf 68 = .ok (.iload_n 2, 1) := by decide +kernel
theorem dX11_nextOf_69 : decode cX11_nextOf 69 = .ok (.iload 5, 2) := by decide +kernel
theorem dX11_nextOf_71 : decode cX11_nextOf 71 = .ok (.iload 6, 2) := by decide +kernel
theorem dX11_nextOf_73 : decode cX11_nextOf 73 = .ok (.invokevirtual 259, 3) := by decide +kernel
theorem dX11_nextOf_76 : decode cX11_nextOf 76 = .ok (.istore 7, 2) := by decide +kernel
theorem dX11_nextOf_78 : decode cX11_nextOf 78 = .ok (.iload 7, 2) := by decide +kernel
theorem dX11_nextOf_80 : decode cX11_nextOf 80 = .ok (.iload 4, 2) := by decide +kernel
theorem dX11_nextOf_82 : decode cX11_nextOf 82 = .ok (.if_icmp .gt 6, 3) := by decide +kernel
theorem dX11_nextOf_85 : decode cX11_nextOf 85 = .ok (.goto 16, 3) := by decide +kernel
theorem dX11_nextOf_88 : decode cX11_nextOf 88 = .ok (.iload 7, 2) := by decide +kernel
theorem dX11_nextOf_90 : decode cX11_nextOf 90 = .ok (.istore 4, 2) := by decide +kernel
theorem dX11_nextOf_92 : decode cX11_nextOf 92 = .ok (.iload 5, 2) := by decide +kernel
theorem dX11_nextOf_94 : decode cX11_nextOf 94 = .ok (.istore_n 3, 1) := by decide +kernel
theorem dX11_nextOf_95 : decode cX11_nextOf 95 = .ok (.aload_n 0, 1) := by decide +kernel
theorem dX11_nextOf_96 : decode cX11_nextOf 96 = .ok (.iload 6, 2) := by decide +kernel
theorem dX11_nextOf_98 : decode cX11_nextOf 98 = .ok (.putfield 262, 3) := by decide +kernel
theorem dX11_nextOf_101 : decode cX11_nextOf 101 = .ok (.iinc 6 1, 3) := by decide +kernel
theorem dX11_nextOf_104 : decode cX11_nextOf 104 = .ok (.goto (-73), 3) := by decide +kernel
theorem dX11_nextOf_107 : decode cX11_nextOf 107 = .ok (.iinc 5 1, 3) := by decide +kernel
theorem dX11_nextOf_110 : decode cX11_nextOf 110 = .ok (.goto (-102), 3) := by decide +kernel
theorem dX11_nextOf_113 : decode cX11_nextOf 113 = .ok (.iload_n 3, 1) := by decide +kernel
theorem dX11_nextOf_114 : decode cX11_nextOf 114 = .ok (.ireturn, 1) := by decide +kernel
theorem dX11_beginSinging_0 : decode cX11_beginSinging 0 = .ok (.iconst 0, 1) := by decide +kernel
theorem dX11_beginSinging_1 : decode cX11_beginSinging 1 = .ok (.istore_n 1, 1) := by decide +kernel
theorem dX11_beginSinging_2 : decode cX11_beginSinging 2 = .ok (.iload_n 1, 1) := by decide +kernel
theorem dX11_beginSinging_3 : decode cX11_beginSinging 3 = .ok (.bipush 12, 2) := by decide +kernel
theorem dX11_beginSinging_5 : decode cX11_beginSinging 5 = .ok (.if_icmp .ge 16, 3) := by decide +kernel
theorem dX11_beginSinging_8 : decode cX11_beginSinging 8 = .ok (.aload_n 0, 1) := by decide +kernel
theorem dX11_beginSinging_9 : decode cX11_beginSinging 9 = .ok (.getfield 68, 3) := by decide +kernel
theorem dX11_beginSinging_12 : decode cX11_beginSinging 12 = .ok (.iload_n 1, 1) := by decide +kernel
theorem dX11_beginSinging_13 : decode cX11_beginSinging 13 = .ok (.iconst 0, 1) := by decide +kernel
theorem dX11_beginSinging_14 : decode cX11_beginSinging 14 = .ok (.iastore, 1) := by decide +kernel
theorem dX11_beginSinging_15 : decode cX11_beginSinging 15 = .ok (.iinc 1 1, 3) := by decide +kernel
theorem dX11_beginSinging_18 : decode cX11_beginSinging 18 = .ok (.goto (-16), 3) := by decide +kernel
theorem dX11_beginSinging_21 : decode cX11_beginSinging 21 = .ok (.return_, 1) := by decide +kernel
set_option maxRecDepth 20000 in
theorem ggX11_goSinging_X11_beginSinging : GoodIn wsX11_goSinging wsX11_beginSinging := goodIn_r _ [12, 7, 61, 62, 63, 64, 65, 66, 67, 68, 69, 70, 71, 72, 73, 74, 75, 76, 77, 78, 79, 80, 81, 82, 83, 84, 85, 86, 87, 88, 89, 90, 91, 92, 93, 94, 95, 96, 97, 98, 99, 100, 101, 102, 103, 104, 105, 106, 107, 108, 109, 110] rfl (by decide +kernel)
set_option maxRecDepth 20000 in
theorem gX11_goSinging_X11_beginSinging : GoodIn wsX11_goSinging (wsV RX11 265 RX11 yX11_beginSinging wsX11_beginSinging) := goodIn_app (goodIn_of _ (by decide +kernel)) ggX11_goSinging_X11_beginSinging
set_option maxRecDepth 20000 in
theorem ggX11_goSinging_X11_canSing : GoodIn wsX11_goSinging wsX11_canSing := goodIn_r _ [16, 17, 18, 19, 11, 20, 21, 22, 23, 24, 25, 26, 27, 28, 61, 62, 63, 64, 65, 66, 67, 68, 69, 70, 71, 72, 73, 74, 75, 76, 77, 78, 79, 80, 81, 82, 83, 84, 85, 86, 87, 88, 89, 90, 91, 92, 93, 94, 95, 96, 97, 98, 99, 100, 101, 102, 103, 104, 105, 106, 107, 108, 109, 110] rfl (by decide +kernel)
set_option maxRecDepth 20000 in
theorem gX11_goSinging_X11_canSing : GoodIn wsX11_goSinging (wsV RX11 274 RX11 yX11_canSing wsX11_canSing) := goodIn_app (goodIn_of _ (by decide +kernel)) ggX11_goSinging_X11_canSing
set_option maxRecDepth 20000 in
theorem ggX11_goSinging_X11_nextOf : GoodIn wsX11_goSinging wsX11_nextOf := goodIn_r _ [32, 33, 2, 21, 22, 23, 11, 24, 25, 26, 27, 28, 34, 35, 36, 37, 38, 39, 40, 41, 7, 42, 43, 44, 45, 46, 47, 48, 49, 50, 51, 52, 53, 54, 55, 56, 57, 58, 59, 60, 61, 62, 63, 64, 65, 66, 67, 68, 69, 70, 71, 72, 73, 74, 75, 76, 77, 78, 79, 80, 81, 82, 83, 84, 85, 86, 87, 88, 89, 90, 91, 92, 93, 94, 95, 96, 97, 98, 99, 100, 101, 102, 103, 104, 105, 106, 107, 108, 109, 110] rfl (by decide +kernel)
set_option maxRecDepth 20000 in
theorem gX11_goSinging_X11_nextOf : GoodIn wsX11_goSinging (wsV RX11 280 RX11 yX11_nextOf wsX11_nextOf) := goodIn_app (goodIn_of _ (by decide +kernel)) ggX11_goSinging_X11_nextOf
theorem dX11_goSinging_0 : decode cX11_goSinging 0 = .ok (.aload_n 0, 1) := by decide +kernel
theorem dX11_goSinging_1 : decode cX11_goSinging 1 = .ok (.invokevirtual 265, 3) := by decide +kernel
theorem dX11_goSinging_4 : decode cX11_goSinging 4 = .ok (.aload_n 0, 1) := by decide +kernel
theorem dX11_goSinging_5 : decode cX11_goSinging 5 = .ok (.iconst 0, 1) := by decide +kernel
theorem dX11_goSinging_6 : decode cX11_goSinging 6 = .ok (.putfield 268, 3) := by decide +kernel
theorem dX11_goSinging_9 : decode cX11_goSinging 9 = .ok (.iload_n 2, 1) := by decide +kernel
theorem dX11_goSinging_10 : decode cX11_goSinging 10 = .ok (.istore_n 3, 1) := by decide +kernel
theorem dX11_goSinging_11 : decode cX11_goSinging 11 = .ok (.aload_n 0, 1) := by decide +kernel
theorem dX11_goSinging_12 : decode cX11_goSinging 12 = .ok (.bipush (-2), 2) := by decide +kernel
theorem dX11_goSinging_14 : decode cX11_goSinging 14 = .ok (.putfield 262, 3) := by decide +kernel
theorem dX11_goSinging_17 : decode cX11_goSinging 17 = .ok (.aload_n 0, 1) := by decide +kernel
theorem dX11_goSinging_18 : decode cX11_goSinging 18 = .ok (.iload_n 3, 1) := by decide +kernel
theorem dX11_goSinging_19 : decode cX11_goSinging 19 = .ok (.putfield 271, 3) := by decide +kernel
theorem dX11_goSinging_22 : decode cX11_goSinging 22 = .ok (.aload_n 0, 1) := by decide +kernel
theorem dX11_goSinging_23 : decode cX11_goSinging 23 = .ok (.iload_n 1, 1) := by decide +kernel
theorem dX11_goSinging_24 : decode cX11_goSinging 24 = .ok (.iload_n 3, 1) := by decide +kernel
theorem dX11_goSinging_25 : decode cX11_goSinging 25 = .ok (.invokevirtual 274, 3) := by decide +kernel
theorem dX11_goSinging_28 : decode cX11_goSinging 28 = .ok (.ifCond .ne 9, 3) := by decide +kernel
theorem dX11_goSinging_31 : decode cX11_goSinging 31 = .ok (.aload_n 0, 1) := by decide +kernel
theorem dX11_goSinging_32 : decode cX11_goSinging 32 = .ok (.iconst 1, 1) := by decide +kernel
theorem dX11_goSinging_33 : decode cX11_goSinging 33 = .ok (.putfield 277, 3) := by decide +kernel
theorem dX11_goSinging_36 : decode cX11_goSinging 36 = .ok (.return_, 1) := by decide +kernel
theorem dX11_goSinging_37 : decode cX11_goSinging 37 = .ok (.aload_n 0, 1) := by decide +kernel
theorem dX11_goSinging_38 : decode cX11_goSinging 38 = .ok (.getfield 71, 3) := by decide +kernel
theorem dX11_goSinging_41 : decode cX11_goSinging 41 = .ok (.aload_n 0, 1) := by decide +kernel
theorem dX11_goSinging_42 : decode cX11_goSinging 42 = .ok (.getfield 268, 3) := by decide +kernel
theorem dX11_goSinging_45 : decode cX11_goSinging 45 = .ok (.iload_n 3, 1) := by decide +kernel
theorem dX11_goSinging_46 : decode cX11_goSinging 46 = .ok (.iastore, 1) := by decide +kernel
theorem dX11_goSinging_47 : decode cX11_goSinging 47 = .ok (.aload_n 0, 1) := by decide +kernel
theorem dX11_goSinging_48 : decode cX11_goSinging 48 = .ok (.getfield 74, 3) := by decide +kernel
theorem dX11_goSinging_51 : decode cX11_goSinging 51 = .ok (.aload_n 0, 1) := by decide +kernel
theorem dX11_goSinging_52 : decode cX11_goSinging 52 = .ok (.getfield 268, 3) := by decide +kernel
theorem dX11_goSinging_55 : decode cX11_goSinging 55 = .ok (.aload_n 0, 1) := by decide +kernel
theorem dX11_goSinging_56 : decode cX11_goSinging 56 = .ok (.getfield 262, 3) := by decide +kernel
theorem dX11_goSinging_59 : decode cX11_goSinging 59 = .ok (.iastore, 1) := by decide +kernel
theorem dX11_goSinging_60 : decode cX11_goSinging 60 = .ok (.aload_n 0, 1) := by decide +kernel
theorem dX11_goSinging_61 : decode cX11_goSinging 61 = .ok (.dup, 1) := by decide +kernel
theorem dX11_goSinging_62 : decode cX11_goSinging 62 = .ok (.getfield 268, 3) := by decide +kernel
theorem dX11_goSinging_65 : decode cX11_goSinging 65 = .ok (.iconst 1, 1) := by decide +kernel
theorem dX11_goSinging_66 : decode cX11_goSinging 66 = .ok (.iadd, 1) := by decide +kernel
theorem dX11_goSinging_67 : decode cX11_goSinging 67 = .ok (.putfield 268, 3) := by decide +kernel
theorem dX11_goSinging_70 : decode cX11_goSinging 70 = .ok (.aload_n 0, 1) := by decide +kernel
theorem dX11_goSinging_71 : decode cX11_goSinging 71 = .ok (.getfield 68, 3) := by decide +kernel
theorem dX11_goSinging_74 : decode cX11_goSinging 74 = .ok (.iload_n 3, 1) := by decide +kernel
theorem dX11_goSinging_75 : decode cX11_goSinging 75 = .ok (.dup2, 1) := by decide +kernel
theorem dX11_goSinging_76 : decode cX11_goSinging 76 = .ok (.iaload, 1) := by decide +kernel
theorem dX11_goSinging_77 : decode cX11_goSinging 77 = .ok (.iconst 1, 1) := by decide +kernel
theorem dX11_goSinging_78 : decode cX11_goSinging 78 = .ok (.iadd, 1) := by decide +kernel
theorem dX11_goSinging_79 : decode cX11_goSinging 79 = .ok (.iastore, 1) := by decide +kernel
theorem dX11_goSinging_80 : decode cX11_goSinging 80 = .ok (.aload_n 0, 1) := by decide +kernel
theorem dX11_goSinging_81 : decode cX11_goSinging 81 = .ok (.getfield 268, 3) := by decide +kernel
theorem dX11_goSinging_84 : decode cX11_goSinging 84 = .ok (.bipush 60, 2) := by decide +kernel
theorem dX11_goSinging_86 : decode cX11_goSinging 86 = .ok (.if_icmp .ne 9, 3) := by decide +kernel
theorem dX11_goSinging_89 : decode cX11_goSinging 89 = .ok (.aload_n 0, 1) := by decide +kernel
theorem dX11_goSinging_90 : decode cX11_goSinging 90 = .ok (.iconst 2, 1) := by decide +kernel
theorem dX11_goSinging_91 : decode cX11_goSinging 91 = .ok (.putfield 277, 3) := by decide +kernel
theorem dX11_goSinging_94 : decode cX11_goSinging 94 = .ok (.return_, 1) := by decide +kernel
theorem dX11_goSinging_95 : decode cX11_goSinging 95 = .ok (.aload_n 0, 1) := by decide +kernel
theorem dX11_goSinging_96 : decode cX11_goSinging 96 = .ok (.iload_n 1, 1) := by decide +kernel
theorem dX11_goSinging_97 : decode cX11_goSinging 97 = .ok (.iload_n 3, 1) := by decide +kernel
theorem dX11_goSinging_98 : decode cX11_goSinging 98 = .ok (.invokevirtual 280, 3) := by decide +kernel
theorem dX11_goSinging_101 : decode cX11_goSinging 101 = .ok (.istore 4, 2) := by decide +kernel
theorem dX11_goSinging_103 : decode cX11_goSinging 103 = .ok (.iload 4, 2) := by decide +kernel
theorem dX11_goSinging_105 : decode cX11_goSinging 105 = .ok (.ifCond .ge 9, 3) := by decide +kernel
theorem dX11_goSinging_108 : decode cX11_goSinging 108 = .ok (.aload_n 0, 1) := by decide +kernel
theorem dX11_goSinging_109 : decode cX11_goSinging 109 = .ok (.iconst 0, 1) := by decide +kernel
theorem dX11_goSinging_110 : decode cX11_goSinging 110 = .ok (.putfield 277, 3) := by decide +kernel
theorem dX11_goSinging_113 : decode cX11_goSinging 113 = .ok (.return_, 1) := by decide +kernel
theorem dX11_goSinging_114 : decode cX11_goSinging 114 = .ok (.iload 4, 2) := by decide +kernel
theorem dX11_goSinging_116 : decode cX11_goSinging 116 = .ok (.istore_n 3, 1) := by decide +kernel
theorem dX11_goSinging_117 : decode cX11_goSinging 117 = .ok (.goto (-100), 3) := by decide +kernel
set_option maxRecDepth 20000 in
theorem ggX11_rightFrom_X11_beginSinging : GoodIn wsX11_rightFrom wsX11_beginSinging := goodIn_r _ [7, 2, 56, 57, 58, 59, 60, 61, 62, 63, 64, 65, 66, 67, 68, 69, 70, 71, 72, 73, 74, 75, 76, 77, 78, 79, 80, 81, 82, 83, 84, 85, 86, 87, 88, 89, 90, 91, 92, 93, 94, 95, 96, 97, 98, 99, 100, 101, 102, 103, 104, 105] rfl (by decide +kernel)
set_option maxRecDepth 20000 in
theorem gX11_rightFrom_X11_beginSinging : GoodIn wsX11_rightFrom (wsV RX11 265 RX11 yX11_beginSinging wsX11_beginSinging) := goodIn_app (goodIn_of _ (by decide +kernel)) ggX11_rightFrom_X11_beginSinging
set_option maxRecDepth 20000 in
theorem ggX11_rightFrom_X11_canSing : GoodIn wsX11_rightFrom wsX11_canSing := goodIn_r _ [11, 12, 13, 14, 6, 15, 16, 17, 18, 19, 20, 21, 22, 23, 56, 57, 58, 59, 60, 61, 62, 63, 64, 65, 66, 67, 68, 69, 70, 71, 72, 73, 74, 75, 76, 77, 78, 79, 80, 81, 82, 83, 84, 85, 86, 87, 88, 89, 90, 91, 92, 93, 94, 95, 96, 97, 98, 99, 100, 101, 102, 103, 104, 105] rfl (by decide +kernel)
set_option maxRecDepth 20000 in
theorem gX11_rightFrom_X11_canSing : GoodIn wsX11_rightFrom (wsV RX11 274 RX11 yX11_canSing wsX11_canSing) := goodIn_app (goodIn_of _ (by decide +kernel)) ggX11_rightFrom_X11_canSing
set_option maxRecDepth 20000 in
theorem ggX11_rightFrom_X11_nextOf : GoodIn wsX11_rightFrom wsX11_nextOf := goodIn_r _ [27, 1, 28, 16, 17, 18, 6, 19, 20, 21, 22, 23, 29, 30, 31, 32, 33, 34, 35, 36, 2, 37, 38, 39, 40, 41, 42, 43, 44, 45, 46, 47, 48, 49, 50, 51, 52, 53, 54, 55, 56, 57, 58, 59, 60, 61, 62, 63, 64, 65, 66, 67, 68, 69, 70, 71, 72, 73, 74, 75, 76, 77, 78, 79, 80, 81, 82, 83, 84, 85, 86, 87, 88, 89, 90, 91, 92, 93, 94, 95, 96, 97, 98, 99, 100, 101, 102, 103, 104, 105] rfl (by decide +kernel)
set_option maxRecDepth 20000 in
theorem gX11_rightFrom_X11_nextOf : GoodIn wsX11_rightFrom (wsV RX11 280 RX11 yX11_nextOf wsX11_nextOf) := goodIn_app (goodIn_of _ (by decide +kernel)) ggX11_rightFrom_X11_nextOf
theorem dX11_rightFrom_0 : decode cX11_rightFrom 0 = .ok (.aload_n 0, 1) := by decide +kernel
theorem dX11_rightFrom_1 : decode cX11_rightFrom 1 = .ok (.invokevirtual 265, 3) := by decide +kernel
theorem dX11_rightFrom_4 : decode cX11_rightFrom 4 = .ok (.iconst 0, 1) := by decide +kernel
theorem dX11_rightFrom_5 : decode cX11_rightFrom 5 = .ok (.istore_n 3, 1) := by decide +kernel
theorem dX11_rightFrom_6 : decode cX11_rightFrom 6 = .ok (.iload_n 2, 1) := by decide +kernel
theorem dX11_rightFrom_7 : decode cX11_rightFrom 7 = .ok (.istore 4, 2) := by decide +kernel
theorem dX11_rightFrom_9 : decode cX11_rightFrom 9 = .ok (.iload 4, 2) := by decide +kernel
theorem dX11_rightFrom_11 : decode cX11_rightFrom 11 = .ok (.aload_n 0, 1) := by decide +kernel
theorem dX11_rightFrom_12 : decode cX11_rightFrom 12 = .ok (.getfield 9, 3) := by decide +kernel
theorem dX11_rightFrom_15 : decode cX11_rightFrom 15 = .ok (.iload_n 1, 1) := by decide +kernel
theorem dX11_rightFrom_16 : decode cX11_rightFrom 16 = .ok (.iaload, 1) := by decide +kernel
theorem dX11_rightFrom_17 : decode cX11_rightFrom 17 = .ok (.if_icmp .ge 49, 3) := by decide +kernel
theorem dX11_rightFrom_20 : decode cX11_rightFrom 20 = .ok (.aload_n 0, 1) := by decide +kernel
theorem dX11_rightFrom_21 : decode cX11_rightFrom 21 = .ok (.iload_n 1, 1) := by decide +kernel
theorem dX11_rightFrom_22 : decode cX11_rightFrom 22 = .ok (.iload 4, 2) := by decide +kernel
theorem dX11_rightFrom_24 : decode cX11_rightFrom 24 = .ok (.invokevirtual 274, 3) := by decide +kernel
theorem dX11_rightFrom_27 : decode cX11_rightFrom 27 = .ok (.ifCond .eq 39, 3) := by decide +kernel
theorem dX11_rightFrom_30 : decode cX11_rightFrom 30 = .ok (.iinc 3 1, 3) := by decide +kernel
theorem dX11_rightFrom_33 : decode cX11_rightFrom 33 = .ok (.aload_n 0, 1) := by decide +kernel
theorem dX11_rightFrom_34 : decode cX11_rightFrom 34 = .ok (.getfield 68, 3) := by decide +kernel
theorem dX11_rightFrom_37 : decode cX11_rightFrom 37 = .ok (.iload 4, 2) := by decide +kernel
theorem dX11_rightFrom_39 : decode cX11_rightFrom 39 = .ok (.dup2, 1) := by decide +kernel
theorem dX11_rightFrom_40 : decode cX11_rightFrom 40 = .ok (.iaload, 1) := by decide +kernel
theorem dX11_rightFrom_41 : decode cX11_rightFrom 41 = .ok (.iconst 1, 1) := by decide +kernel
theorem dX11_rightFrom_42 : decode cX11_rightFrom 42 = .ok (.iadd, 1) := by decide +kernel
theorem dX11_rightFrom_43 : decode cX11_rightFrom 43 = .ok (.iastore, 1) := by decide +kernel
theorem dX11_rightFrom_44 : decode cX11_rightFrom 44 = .ok (.aload_n 0, 1) := by decide +kernel
theorem dX11_rightFrom_45 : decode cX11_rightFrom 45 = .ok (.iload_n 1, 1) := by decide +kernel
theorem dX11_rightFrom_46 : decode cX11_rightFrom 46 = .ok (.iload 4, 2) := by decide +kernel
theorem dX11_rightFrom_48 : decode cX11_rightFrom 48 = .ok (.invokevirtual 280, 3) := by decide +kernel
theorem dX11_rightFrom_51 : decode cX11_rightFrom 51 = .ok (.iload 4, 2) := by decide +kernel
theorem dX11_rightFrom_53 : decode cX11_rightFrom 53 = .ok (.iconst 1, 1) := by decide +kernel
theorem dX11_rightFrom_54 : decode cX11_rightFrom 54 = .ok (.iadd, 1) := by decide +kernel
theorem dX11_rightFrom_55 : decode cX11_rightFrom 55 = .ok (.if_icmp .eq 5, 3) := by decide +kernel
theorem dX11_rightFrom_58 : decode cX11_rightFrom 58 = .ok (.iload_n 3, 1) := by decide +kernel
theorem dX11_rightFrom_59 : decode cX11_rightFrom 59 = .ok (.ireturn, 1) := by decide +kernel
theorem dX11_rightFrom_60 : decode cX11_rightFrom 60 = .ok (.iinc 4 1, 3) := by decide +kernel
theorem dX11_rightFrom_63 : decode cX11_rightFrom 63 = .ok (.goto (-54), 3) := by decide +kernel
theorem dX11_rightFrom_66 : decode cX11_rightFrom 66 = .ok (.iload_n 3, 1) := by decide +kernel
theorem dX11_rightFrom_67 : decode cX11_rightFrom 67 = .ok (.ireturn, 1) := by decide +kernel
set_option maxRecDepth 20000 in
theorem ggX11_sing_X11_isLine : GoodIn wsX11_sing wsX11_isLine := goodIn_r _ [8, 9, 10, 11, 7, 12, 13, 14, 15, 79, 80, 81, 82, 83, 84, 85, 86, 87, 88, 89, 90, 91, 92, 93, 94, 95, 96, 97, 98, 99, 100, 101, 102, 103, 104, 105, 106, 107, 108, 109, 110, 111, 112, 113, 114, 115, 116, 117, 118, 119, 120, 121, 122, 123, 124, 125, 126, 127, 128] rfl (by decide +kernel)
set_option maxRecDepth 20000 in
theorem gX11_sing_X11_isLine : GoodIn wsX11_sing (wsV RX11 142 RX11 yX11_isLine wsX11_isLine) := goodIn_app (goodIn_of _ (by decide +kernel)) ggX11_sing_X11_isLine
set_option maxRecDepth 20000 in
theorem ggX11_sing_X11_in : GoodIn wsX11_sing wsX11_in := goodIn_r _ [15] rfl (by decide +kernel)
set_option maxRecDepth 20000 in
theorem gX11_sing_X11_in : GoodIn wsX11_sing (va_wsS RX11 118 yX11_in wsX11_in) := goodIn_app (goodIn_of _ (by decide +kernel)) ggX11_sing_X11_in
set_option maxRecDepth 20000 in
theorem ggX11_sing_X11_rightFrom : GoodIn wsX11_sing wsX11_rightFrom := goodIn_r _ [19, 9, 20, 21, 22, 23, 7, 24, 25, 26, 27, 28, 29, 30, 31, 32, 33, 34, 35, 36, 37, 38, 39, 40, 41, 42, 43, 44, 45, 46, 47, 48, 49, 50, 51, 52, 53, 54, 55, 56, 57, 58, 59, 60, 61, 62, 63, 64, 65, 66, 67, 68, 69, 70, 71, 72, 79, 80, 81, 82, 83, 84, 85, 86, 87, 88, 89, 90, 91, 92, 93, 94, 95, 96, 97, 98, 99, 100, 101, 102, 103, 104, 105, 106, 107, 108, 109, 110, 111, 112, 113, 114, 115, 116, 117, 118, 119, 120, 121, 122, 123, 124, 125, 126, 127, 128] rfl (by decide +kernel)
set_option maxRecDepth 20000 in
theorem gX11_sing_X11_rightFrom : GoodIn wsX11_sing (wsV RX11 283 RX11 yX11_rightFrom wsX11_rightFrom) := goodIn_app (goodIn_of _ (by decide +kernel)) ggX11_sing_X11_rightFrom
set_option maxRecDepth 20000 in
theorem ggX11_sing_X11_goSinging : GoodIn wsX11_sing wsX11_goSinging := goodIn_r _ [76, 1, 45, 3, 2, 77, 78, 20, 21, 22, 23, 7, 24, 25, 26, 27, 28, 29, 30, 31, 32, 33, 34, 35, 36, 37, 38, 39, 40, 41, 42, 43, 44, 9, 46, 47, 48, 49, 50, 51, 52, 53, 54, 55, 56, 57, 58, 59, 60, 61, 62, 63, 64, 65, 66, 67, 68, 69, 70, 71, 72, 79, 80, 81, 82, 83, 84, 85, 86, 87, 88, 89, 90, 91, 92, 93, 94, 95, 96, 97, 98, 99, 100, 101, 102, 103, 104, 105, 106, 107, 108, 109, 110, 111, 112, 113, 114, 115, 116, 117, 118, 119, 120, 121, 122, 123, 124, 125, 126, 127, 128] rfl (by decide +kernel)
set_option maxRecDepth 20000 in
theorem gX11_sing_X11_goSinging : GoodIn wsX11_sing (wsV RX11 286 RX11 yX11_goSinging wsX11_goSinging) := goodIn_app (goodIn_of _ (by decide +kernel)) ggX11_sing_X11_goSinging
theorem dX11_sing_0 : decode cX11_sing 0 = .ok (.aload_n 0, 1) := by decide +kernel
theorem dX11_sing_1 : decode cX11_sing 1 = .ok (.iload_n 1, 1) := by decide +kernel
theorem dX11_sing_2 : decode cX11_sing 2 = .ok (.invokevirtual 142, 3) := by decide +kernel
theorem dX11_sing_5 : decode cX11_sing 5 = .ok (.ifCond .eq 12, 3) := by decide +kernel
theorem dX11_sing_8 : decode cX11_sing 8 = .ok (.iload_n 2, 1) := by decide +kernel
theorem dX11_sing_9 : decode cX11_sing 9 = .ok (.iconst 0, 1) := by decide +kernel
theorem dX11_sing_10 : decode cX11_sing 10 = .ok (.iconst 3, 1) := by decide +kernel
theorem dX11_sing_11 : decode cX11_sing 11 = .ok (.invokestatic 118, 3) := by decide +kernel
theorem dX11_sing_14 : decode cX11_sing 14 = .ok (.ifCond .ne 5, 3) := by decide +kernel
theorem dX11_sing_17 : decode cX11_sing 17 = .ok (.iconst (-1), 1) := by decide +kernel
theorem dX11_sing_18 : decode cX11_sing 18 = .ok (.ireturn, 1) := by decide +kernel
theorem dX11_sing_19 : decode cX11_sing 19 = .ok (.iload_n 2, 1) := by decide +kernel
theorem dX11_sing_20 : decode cX11_sing 20 = .ok (.iconst 3, 1) := by decide +kernel
theorem dX11_sing_21 : decode cX11_sing 21 = .ok (.if_icmp .ne 16, 3) := by decide +kernel
theorem dX11_sing_24 : decode cX11_sing 24 = .ok (.aload_n 0, 1) := by decide +kernel
theorem dX11_sing_25 : decode cX11_sing 25 = .ok (.iload_n 1, 1) := by decide +kernel
theorem dX11_sing_26 : decode cX11_sing 26 = .ok (.bipush 100, 2) := by decide +kernel
theorem dX11_sing_28 : decode cX11_sing 28 = .ok (.idiv, 1) := by decide +kernel
theorem dX11_sing_29 : decode cX11_sing 29 = .ok (.iload_n 1, 1) := by decide +kernel
theorem dX11_sing_30 : decode cX11_sing 30 = .ok (.bipush 100, 2) := by decide +kernel
theorem dX11_sing_32 : decode cX11_sing 32 = .ok (.irem, 1) := by decide +kernel
theorem dX11_sing_33 : decode cX11_sing 33 = .ok (.invokevirtual 283, 3) := by decide +kernel
theorem dX11_sing_36 : decode cX11_sing 36 = .ok (.ireturn, 1) := by decide +kernel
theorem dX11_sing_37 : decode cX11_sing 37 = .ok (.aload_n 0, 1) := by decide +kernel
theorem dX11_sing_38 : decode cX11_sing 38 = .ok (.iload_n 1, 1) := by decide +kernel
theorem dX11_sing_39 : decode cX11_sing 39 = .ok (.bipush 100, 2) := by decide +kernel
theorem dX11_sing_41 : decode cX11_sing 41 = .ok (.idiv, 1) := by decide +kernel
theorem dX11_sing_42 : decode cX11_sing 42 = .ok (.iload_n 1, 1) := by decide +kernel
theorem dX11_sing_43 : decode cX11_sing 43 = .ok (.bipush 100, 2) := by decide +kernel
theorem dX11_sing_45 : decode cX11_sing 45 = .ok (.irem, 1) := by decide +kernel
theorem dX11_sing_46 : decode cX11_sing 46 = .ok (.invokevirtual 286, 3) := by decide +kernel
theorem dX11_sing_49 : decode cX11_sing 49 = .ok (.iload_n 2, 1) := by decide +kernel
theorem dX11_sing_50 : decode cX11_sing 50 = .ok (.ifCond .ne 10, 3) := by decide +kernel
theorem dX11_sing_53 : decode cX11_sing 53 = .ok (.aload_n 0, 1) := by decide +kernel
theorem dX11_sing_54 : decode cX11_sing 54 = .ok (.getfield 268, 3) := by decide +kernel
theorem dX11_sing_57 : decode cX11_sing 57 = .ok (.goto 19, 3) := by decide +kernel
theorem dX11_sing_60 : decode cX11_sing 60 = .ok (.iload_n 2, 1) := by decide +kernel
theorem dX11_sing_61 : decode cX11_sing 61 = .ok (.iconst 1, 1) := by decide +kernel
theorem dX11_sing_62 : decode cX11_sing 62 = .ok (.if_icmp .ne 10, 3) := by decide +kernel
theorem dX11_sing_65 : decode cX11_sing 65 = .ok (.aload_n 0, 1) := by decide +kernel
theorem dX11_sing_66 : decode cX11_sing 66 = .ok (.getfield 277, 3) := by decide +kernel
theorem dX11_sing_69 : decode cX11_sing 69 = .ok (.goto 7, 3) := by decide +kernel
theorem dX11_sing_72 : decode cX11_sing 72 = .ok (.aload_n 0, 1) := by decide +kernel
theorem dX11_sing_73 : decode cX11_sing 73 = .ok (.getfield 271, 3) := by decide +kernel
theorem dX11_sing_76 : decode cX11_sing 76 = .ok (.ireturn, 1) := by decide +kernel
set_option maxRecDepth 20000 in
theorem ggX11_sung_X11_isLine : GoodIn wsX11_sung wsX11_isLine := goodIn_r _ [8, 9, 10, 11, 7, 12, 13, 14, 15, 75, 76, 77, 78, 79, 80, 81, 82, 83, 84, 85, 86, 87, 88, 89, 90, 91, 92, 93, 94, 95, 96, 97, 98, 99, 100, 101, 102, 103, 104, 105, 106, 107, 108, 109, 110, 111, 112, 113, 114, 115, 116, 117, 118, 119, 120, 121, 122, 123, 124] rfl (by decide +kernel)
set_option maxRecDepth 20000 in
theorem gX11_sung_X11_isLine : GoodIn wsX11_sung (wsV RX11 142 RX11 yX11_isLine wsX11_isLine) := goodIn_app (goodIn_of _ (by decide +kernel)) ggX11_sung_X11_isLine
set_option maxRecDepth 20000 in
theorem ggX11_sung_X11_in : GoodIn wsX11_sung wsX11_in := goodIn_r _ [15] rfl (by decide +kernel)
set_option maxRecDepth 20000 in
theorem gX11_sung_X11_in : GoodIn wsX11_sung (va_wsS RX11 118 yX11_in wsX11_in) := goodIn_app (goodIn_of _ (by decide +kernel)) ggX11_sung_X11_in
set_option maxRecDepth 20000 in
theorem ggX11_sung_X11_goSinging : GoodIn wsX11_sung wsX11_goSinging := goodIn_r _ [19, 1, 20, 21, 22, 2, 3, 23, 24, 25, 26, 7, 27, 28, 29, 30, 31, 32, 33, 34, 35, 36, 37, 38, 39, 40, 41, 42, 43, 44, 45, 46, 47, 9, 48, 49, 50, 51, 52, 53, 54, 55, 56, 57, 58, 59, 60, 61, 62, 63, 64, 65, 66, 67, 68, 69, 70, 71, 72, 73, 74, 75, 76, 77, 78, 79, 80, 81, 82, 83, 84, 85, 86, 87, 88, 89, 90, 91, 92, 93, 94, 95, 96, 97, 98, 99, 100, 101, 102, 103, 104, 105, 106, 107, 108, 109, 110, 111, 112, 113, 114, 115, 116, 117, 118, 119, 120, 121, 122, 123, 124] rfl (by decide +kernel)
set_option maxRecDepth 20000 in
theorem gX11_sung_X11_goSinging : GoodIn wsX11_sung (wsV RX11 286 RX11 yX11_goSinging wsX11_goSinging) := goodIn_app (goodIn_of _ (by decide +kernel)) ggX11_sung_X11_goSinging
theorem dX11_sung_0 : decode cX11_sung 0 = .ok (.aload_n 0, 1) := by decide +kernel
theorem dX11_sung_1 : decode cX11_sung 1 = .ok (.iload_n 1, 1) := by decide +kernel
theorem dX11_sung_2 : decode cX11_sung 2 = .ok (.invokevirtual 142, 3) := by decide +kernel
theorem dX11_sung_5 : decode cX11_sung 5 = .ok (.ifCond .eq 16, 3) := by decide +kernel
theorem dX11_sung_8 : decode cX11_sung 8 = .ok (.iload_n 2, 1) := by decide +kernel
theorem dX11_sung_9 : decode cX11_sung 9 = .ok (.ifCond .lt 12, 3) := by decide +kernel
theorem dX11_sung_12 : decode cX11_sung 12 = .ok (.iload_n 3, 1) := by decide +kernel
theorem dX11_sung_13 : decode cX11_sung 13 = .ok (.iconst 0, 1) := by decide +kernel
theorem dX11_sung_14 : decode cX11_sung 14 = .ok (.iconst 1, 1) := by decide +kernel
theorem dX11_sung_15 : decode cX11_sung 15 = .ok (.invokestatic 118, 3) := by decide +kernel
theorem dX11_sung_18 : decode cX11_sung 18 = .ok (.ifCond .ne 5, 3) := by decide +kernel
theorem dX11_sung_21 : decode cX11_sung 21 = .ok (.iconst (-1), 1) := by decide +kernel
theorem dX11_sung_22 : decode cX11_sung 22 = .ok (.ireturn, 1) := by decide +kernel
theorem dX11_sung_23 : decode cX11_sung 23 = .ok (.aload_n 0, 1) := by decide +kernel
theorem dX11_sung_24 : decode cX11_sung 24 = .ok (.iload_n 1, 1) := by decide +kernel
theorem dX11_sung_25 : decode cX11_sung 25 = .ok (.bipush 100, 2) := by decide +kernel
theorem dX11_sung_27 : decode cX11_sung 27 = .ok (.idiv, 1) := by decide +kernel
theorem dX11_sung_28 : decode cX11_sung 28 = .ok (.iload_n 1, 1) := by decide +kernel
theorem dX11_sung_29 : decode cX11_sung 29 = .ok (.bipush 100, 2) := by decide +kernel
theorem dX11_sung_31 : decode cX11_sung 31 = .ok (.irem, 1) := by decide +kernel
theorem dX11_sung_32 : decode cX11_sung 32 = .ok (.invokevirtual 286, 3) := by decide +kernel
theorem dX11_sung_35 : decode cX11_sung 35 = .ok (.iload_n 2, 1) := by decide +kernel
theorem dX11_sung_36 : decode cX11_sung 36 = .ok (.aload_n 0, 1) := by decide +kernel
theorem dX11_sung_37 : decode cX11_sung 37 = .ok (.getfield 268, 3) := by decide +kernel
theorem dX11_sung_40 : decode cX11_sung 40 = .ok (.if_icmp .lt 6, 3) := by decide +kernel
theorem dX11_sung_43 : decode cX11_sung 43 = .ok (.bipush (-2), 2) := by decide +kernel
theorem dX11_sung_45 : decode cX11_sung 45 = .ok (.ireturn, 1) := by decide +kernel
theorem dX11_sung_46 : decode cX11_sung 46 = .ok (.iload_n 3, 1) := by decide +kernel
theorem dX11_sung_47 : decode cX11_sung 47 = .ok (.ifCond .ne 12, 3) := by decide +kernel
theorem dX11_sung_50 : decode cX11_sung 50 = .ok (.aload_n 0, 1) := by decide +kernel
theorem dX11_sung_51 : decode cX11_sung 51 = .ok (.getfield 71, 3) := by decide +kernel
theorem dX11_sung_54 : decode cX11_sung 54 = .ok (.iload_n 2, 1) := by decide +kernel
theorem dX11_sung_55 : decode cX11_sung 55 = .ok (.iaload, 1) := by decide +kernel
theorem dX11_sung_56 : decode cX11_sung 56 = .ok (.goto 9, 3) := by decide +kernel
theorem dX11_sung_59 : decode cX11_sung 59 = .ok (.aload_n 0, 1) := by decide +kernel
theorem dX11_sung_60 : decode cX11_sung 60 = .ok (.getfield 74, 3) := by decide +kernel
theorem dX11_sung_63 : decode cX11_sung 63 = .ok (.iload_n 2, 1) := by decide +kernel
theorem dX11_sung_64 : decode cX11_sung 64 = .ok (.iaload, 1) := by decide +kernel
theorem dX11_sung_65 : decode cX11_sung 65 = .ok (.ireturn, 1) := by decide +kernel
set_option maxRecDepth 20000 in
theorem ggX11_runUp_X11_isSong : GoodIn wsX11_runUp wsX11_isSong := goodIn_r _ [5, 6, 7, 4, 8] rfl (by decide +kernel)
set_option maxRecDepth 20000 in
theorem gX11_runUp_X11_isSong : GoodIn wsX11_runUp (va_wsS RX11 122 yX11_isSong wsX11_isSong) := goodIn_app (goodIn_of _ (by decide +kernel)) ggX11_runUp_X11_isSong
set_option maxRecDepth 20000 in
theorem ggX11_runUp_X11_in : GoodIn wsX11_runUp wsX11_in := goodIn_r _ [8] rfl (by decide +kernel)
set_option maxRecDepth 20000 in
theorem gX11_runUp_X11_in : GoodIn wsX11_runUp (va_wsS RX11 118 yX11_in wsX11_in) := goodIn_app (goodIn_of _ (by decide +kernel)) ggX11_runUp_X11_in
set_option maxRecDepth 20000 in
theorem ggX11_runUp_X11_rightFrom : GoodIn wsX11_runUp wsX11_rightFrom := goodIn_r _ [12, 1, 13, 14, 15, 16, 4, 17, 18, 19, 20, 21, 22, 23, 24, 25, 26, 27, 28, 29, 30, 31, 32, 33, 34, 35, 36, 37, 38, 39, 40, 41, 42, 43, 44, 45, 46, 47, 48, 49, 50, 51, 52, 53, 54, 55, 56, 57, 58, 59, 60, 61, 62, 63, 64, 65, 66, 67, 68, 69, 70, 71, 72, 73, 74, 75, 76, 77, 78, 79, 80, 81, 82, 83, 84, 85, 86, 87, 88, 89, 90, 91, 92, 93, 94, 95, 96, 97, 98, 99, 100, 101, 102, 103, 104, 105, 106, 107, 108, 109, 110, 111, 112, 113, 114, 115] rfl (by decide +kernel)
set_option maxRecDepth 20000 in
theorem gX11_runUp_X11_rightFrom : GoodIn wsX11_runUp (wsV RX11 283 RX11 yX11_rightFrom wsX11_rightFrom) := goodIn_app (goodIn_of _ (by decide +kernel)) ggX11_runUp_X11_rightFrom
set_option maxRecDepth 20000 in
theorem ggX11_runUp_X11_canSing : GoodIn wsX11_runUp wsX11_canSing := goodIn_r _ [21, 22, 23, 24, 4, 25, 26, 27, 28, 29, 30, 31, 32, 33, 66, 67, 68, 69, 70, 71, 72, 73, 74, 75, 76, 77, 78, 79, 80, 81, 82, 83, 84, 85, 86, 87, 88, 89, 90, 91, 92, 93, 94, 95, 96, 97, 98, 99, 100, 101, 102, 103, 104, 105, 106, 107, 108, 109, 110, 111, 112, 113, 114, 115] rfl (by decide +kernel)
set_option maxRecDepth 20000 in
theorem gX11_runUp_X11_canSing : GoodIn wsX11_runUp (wsV RX11 274 RX11 yX11_canSing wsX11_canSing) := goodIn_app (goodIn_of _ (by decide +kernel)) ggX11_runUp_X11_canSing
theorem dX11_runUp_0 : decode cX11_runUp 0 = .ok (.iload_n 1, 1) := by decide +kernel
theorem dX11_runUp_1 : decode cX11_runUp 1 = .ok (.invokestatic 122, 3) := by decide +kernel
theorem dX11_runUp_4 : decode cX11_runUp 4 = .ok (.ifCond .eq 12, 3) := by decide +kernel
theorem dX11_runUp_7 : decode cX11_runUp 7 = .ok (.iload_n 2, 1) := by decide +kernel
theorem dX11_runUp_8 : decode cX11_runUp 8 = .ok (.iconst 0, 1) := by decide +kernel
theorem dX11_runUp_9 : decode cX11_runUp 9 = .ok (.iconst 3, 1) := by decide +kernel
theorem dX11_runUp_10 : decode cX11_runUp 10 = .ok (.invokestatic 118, 3) := by decide +kernel
theorem dX11_runUp_13 : decode cX11_runUp 13 = .ok (.ifCond .ne 5, 3) := by decide +kernel
theorem dX11_runUp_16 : decode cX11_runUp 16 = .ok (.iconst (-1), 1) := by decide +kernel
theorem dX11_runUp_17 : decode cX11_runUp 17 = .ok (.ireturn, 1) := by decide +kernel
theorem dX11_runUp_18 : decode cX11_runUp 18 = .ok (.bipush (-2), 2) := by decide +kernel
theorem dX11_runUp_20 : decode cX11_runUp 20 = .ok (.istore_n 3, 1) := by decide +kernel
theorem dX11_runUp_21 : decode cX11_runUp 21 = .ok (.bipush (-2), 2) := by decide +kernel
theorem dX11_runUp_23 : decode cX11_runUp 23 = .ok (.istore 4, 2) := by decide +kernel
theorem dX11_runUp_25 : decode cX11_runUp 25 = .ok (.iconst 0, 1) := by decide +kernel
theorem dX11_runUp_26 : decode cX11_runUp 26 = .ok (.istore 5, 2) := by decide +kernel
theorem dX11_runUp_28 : decode cX11_runUp 28 = .ok (.iconst 0, 1) := by decide +kernel
theorem dX11_runUp_29 : decode cX11_runUp 29 = .ok (.istore 6, 2) := by decide +kernel
theorem dX11_runUp_31 : decode cX11_runUp 31 = .ok (.iconst 0, 1) := by decide +kernel
theorem dX11_runUp_32 : decode cX11_runUp 32 = .ok (.istore 7, 2) := by decide +kernel
theorem dX11_runUp_34 : decode cX11_runUp 34 = .ok (.iload 7, 2) := by decide +kernel
theorem dX11_runUp_36 : decode cX11_runUp 36 = .ok (.aload_n 0, 1) := by decide +kernel
theorem dX11_runUp_37 : decode cX11_runUp 37 = .ok (.getfield 9, 3) := by decide +kernel
theorem dX11_runUp_40 : decode cX11_runUp 40 = .ok (.iload_n 1, 1) := by decide +kernel
theorem dX11_runUp_41 : decode cX11_runUp 41 = .ok (.iaload, 1) := by decide +kernel
theorem dX11_runUp_42 : decode cX11_runUp 42 = .ok (.if_icmp .ge 87, 3) := by decide +kernel
theorem dX11_runUp_45 : decode cX11_runUp 45 = .ok (.aload_n 0, 1) := by decide +kernel
theorem dX11_runUp_46 : decode cX11_runUp 46 = .ok (.iload_n 1, 1) := by decide +kernel
theorem dX11_runUp_47 : decode cX11_runUp 47 = .ok (.iload 7, 2) := by decide +kernel
theorem dX11_runUp_49 : decode cX11_runUp 49 = .ok (.invokevirtual 283, 3) := by decide +kernel
theorem dX11_runUp_52 : decode cX11_runUp 52 = .ok (.istore 8, 2) := by decide +kernel
theorem dX11_runUp_54 : decode cX11_runUp 54 = .ok (.iload 7, 2) := by decide +kernel
theorem dX11_runUp_56 : decode cX11_runUp 56 = .ok (.istore 9, 2) := by decide +kernel
theorem dX11_runUp_58 : decode cX11_runUp 58 = .ok (.iload 9, 2) := by decide +kernel
theorem dX11_runUp_60 : decode cX11_runUp 60 = .ok (.iload 7, 2) := by decide +kernel
theorem dX11_runUp_62 : decode cX11_runUp 62 = .ok (.iload 8, 2) := by decide +kernel
theorem dX11_runUp_64 : decode cX11_runUp 64 = .ok (.iadd, 1) := by decide +kernel
theorem dX11_runUp_65 : decode cX11_runUp 65 = .ok (.if_icmp .ge 18, 3) := by decide +kernel
theorem dX11_runUp_68 : decode cX11_runUp 68 = .ok (.iload 5, 2) := by decide +kernel
theorem dX11_runUp_70 : decode cX11_runUp 70 = .ok (.iconst 1, 1) := by decide +kernel
theorem dX11_runUp_71 : decode cX11_runUp 71 = .ok (.iload 9, 2) := by decide +kernel
theorem dX11_runUp_73 : decode cX11_runUp 73 = .ok (.ishl, 1) := by decide +kernel
theorem dX11_runUp_74 : decode cX11_runUp 74 = .ok (.ior, 1) := by decide +kernel
theorem dX11_runUp_75 : decode cX11_runUp 75 = .ok (.istore 5, 2) := by decide +kernel
theorem dX11_runUp_77 : decode cX11_runUp 77 = .ok (.iinc 9 1, 3) := by decide +kernel
theorem dX11_runUp_80 : decode cX11_runUp 80 = .ok (.goto (-22), 3) := by decide +kernel
theorem dX11_runUp_83 : decode cX11_runUp 83 = .ok (.aload_n 0, 1) := by decide +kernel
theorem dX11_runUp_84 : decode cX11_runUp 84 = .ok (.iload_n 1, 1) := by decide +kernel
theorem dX11_runUp_85 : decode cX11_runUp 85 = .ok (.iload 7, 2) := by decide +kernel
theorem dX11_runUp_87 : decode cX11_runUp 87 = .ok (.invokevirtual 274, 3) := by decide +kernel
theorem dX11_runUp_90 : decode cX11_runUp 90 = .ok (.ifCond .ne 12, 3) := by decide +kernel
theorem dX11_runUp_93 : decode cX11_runUp 93 = .ok (.iload 6, 2) := by decide +kernel
theorem dX11_runUp_95 : decode cX11_runUp 95 = .ok (.iconst 1, 1) := by decide +kernel
theorem dX11_runUp_96 : decode cX11_runUp 96 = .ok (.iload 7, 2) := by decide +kernel
theorem dX11_runUp_98 : decode cX11_runUp 98 = .ok (.ishl, 1) := by decide +kernel
theorem dX11_runUp_99 : decode cX11_runUp 99 = .ok (.ior, 1) := by decide +kernel
theorem dX11_runUp_100 : decode cX11_runUp 100 = .ok (.istore 6, 2) := by decide +kernel
theorem dX11_runUp_102 : decode cX11_runUp 102 = .ok (.iload_n 3, 1) := by decide +kernel
theorem dX11_runUp_103 : decode cX11_runUp 103 = .ok (.ifCond .lt 13, 3) := by decide +kernel
theorem dX11_runUp_106 : decode cX11_runUp 106 = .ok (.iload 8, 2) := by decide +kernel
theorem dX11_runUp_108 : decode cX11_runUp 108 = .ok (.iload 4, 2) := by decide +kernel
theorem dX11_runUp_110 : decode cX11_runUp 110 = .ok (.if_icmp .gt 6, 3) := by decide +kernel
theorem dX11_runUp_113 : decode cX11_runUp 113 = .ok (.goto 10, 3) := by decide +kernel
theorem dX11_runUp_116 : decode cX11_runUp 116 = .ok (.iload 7, 2) := by decide +kernel
theorem dX11_runUp_118 : decode cX11_runUp 118 = .ok (.istore_n 3, 1) := by decide +kernel
theorem dX11_runUp_119 : decode cX11_runUp 119 = .ok (.iload 8, 2) := by decide +kernel
theorem dX11_runUp_121 : decode cX11_runUp 121 = .ok (.istore 4, 2) := by decide +kernel
theorem dX11_runUp_123 : decode cX11_runUp 123 = .ok (.iinc 7 1, 3) := by decide +kernel
theorem dX11_runUp_126 : decode cX11_runUp 126 = .ok (.goto (-92), 3) := by decide +kernel
theorem dX11_runUp_129 : decode cX11_runUp 129 = .ok (.iload_n 2, 1) := by decide +kernel
theorem dX11_runUp_130 : decode cX11_runUp 130 = .ok (.ifCond .ne 7, 3) := by decide +kernel
theorem dX11_runUp_133 : decode cX11_runUp 133 = .ok (.iload_n 3, 1) := by decide +kernel
theorem dX11_runUp_134 : decode cX11_runUp 134 = .ok (.goto 25, 3) := by decide +kernel
theorem dX11_runUp_137 : decode cX11_runUp 137 = .ok (.iload_n 2, 1) := by decide +kernel
theorem dX11_runUp_138 : decode cX11_runUp 138 = .ok (.iconst 1, 1) := by decide +kernel
theorem dX11_runUp_139 : decode cX11_runUp 139 = .ok (.if_icmp .ne 8, 3) := by decide +kernel
theorem dX11_runUp_142 : decode cX11_runUp 142 = .ok (.iload 4, 2) := by decide +kernel
theorem dX11_runUp_144 : decode cX11_runUp 144 = .ok (.goto 15, 3) := by decide +kernel
theorem dX11_runUp_147 : decode cX11_runUp 147 = .ok (.iload_n 2, 1) := by decide +kernel
theorem dX11_runUp_148 : decode cX11_runUp 148 = .ok (.iconst 2, 1) := by decide +kernel
theorem dX11_runUp_149 : decode cX11_runUp 149 = .ok (.if_icmp .ne 8, 3) := by decide +kernel
theorem dX11_runUp_152 : decode cX11_runUp 152 = .ok (.iload 5, 2) := by decide +kernel
theorem dX11_runUp_154 : decode cX11_runUp 154 = .ok (.goto 5, 3) := by decide +kernel
theorem dX11_runUp_157 : decode cX11_runUp 157 = .ok (.iload 6, 2) := by decide +kernel
theorem dX11_runUp_159 : decode cX11_runUp 159 = .ok (.ireturn, 1) := by decide +kernel
theorem dX11_bitsFor_0 : decode cX11_bitsFor 0 = .ok (.bipush 8, 2) := by decide +kernel
theorem dX11_bitsFor_2 : decode cX11_bitsFor 2 = .ok (.aload_n 0, 1) := by decide +kernel
theorem dX11_bitsFor_3 : decode cX11_bitsFor 3 = .ok (.getfield 9, 3) := by decide +kernel
theorem dX11_bitsFor_6 : decode cX11_bitsFor 6 = .ok (.iload_n 1, 1) := by decide +kernel
theorem dX11_bitsFor_7 : decode cX11_bitsFor 7 = .ok (.iaload, 1) := by decide +kernel
theorem dX11_bitsFor_8 : decode cX11_bitsFor 8 = .ok (.imul, 1) := by decide +kernel
theorem dX11_bitsFor_9 : decode cX11_bitsFor 9 = .ok (.ireturn, 1) := by decide +kernel
set_option maxRecDepth 20000 in
theorem ggX11_bitOf_X11_bitAt : GoodIn wsX11_bitOf wsX11_bitAt := goodIn_r _ [6, 7, 8, 9, 5, 10, 11, 12, 13, 14, 15, 16, 17, 18, 19, 20, 21, 22, 23, 24, 25, 26, 27, 28, 29, 30, 31, 32, 33, 34, 35, 36, 37, 38, 39, 40, 41, 42, 43, 44, 45, 46, 47, 48, 49, 50, 51, 52, 53, 54, 55, 56, 57, 58, 59, 60] rfl (by decide +kernel)
set_option maxRecDepth 20000 in
theorem gX11_bitOf_X11_bitAt : GoodIn wsX11_bitOf (wsV RX11 145 RX11 yX11_bitAt wsX11_bitAt) := goodIn_app (goodIn_of _ (by decide +kernel)) ggX11_bitOf_X11_bitAt
theorem dX11_bitOf_0 : decode cX11_bitOf 0 = .ok (.aload_n 0, 1) := by decide +kernel
theorem dX11_bitOf_1 : decode cX11_bitOf 1 = .ok (.iload_n 1, 1) := by decide +kernel
theorem dX11_bitOf_2 : decode cX11_bitOf 2 = .ok (.iload_n 2, 1) := by decide +kernel
theorem dX11_bitOf_3 : decode cX11_bitOf 3 = .ok (.iconst 2, 1) := by decide +kernel
theorem dX11_bitOf_4 : decode cX11_bitOf 4 = .ok (.aload_n 0, 1) := by decide +kernel
theorem dX11_bitOf_5 : decode cX11_bitOf 5 = .ok (.getfield 9, 3) := by decide +kernel
theorem dX11_bitOf_8 : decode cX11_bitOf 8 = .ok (.iload_n 1, 1) := by decide +kernel
theorem dX11_bitOf_9 : decode cX11_bitOf 9 = .ok (.iaload, 1) := by decide +kernel
theorem dX11_bitOf_10 : decode cX11_bitOf 10 = .ok (.imul, 1) := by decide +kernel
theorem dX11_bitOf_11 : decode cX11_bitOf 11 = .ok (.idiv, 1) := by decide +kernel
theorem dX11_bitOf_12 : decode cX11_bitOf 12 = .ok (.iload_n 2, 1) := by decide +kernel
theorem dX11_bitOf_13 : decode cX11_bitOf 13 = .ok (.iconst 2, 1) := by decide +kernel
theorem dX11_bitOf_14 : decode cX11_bitOf 14 = .ok (.idiv, 1) := by decide +kernel
theorem dX11_bitOf_15 : decode cX11_bitOf 15 = .ok (.aload_n 0, 1) := by decide +kernel
theorem dX11_bitOf_16 : decode cX11_bitOf 16 = .ok (.getfield 9, 3) := by decide +kernel
theorem dX11_bitOf_19 : decode cX11_bitOf 19 = .ok (.iload_n 1, 1) := by decide +kernel
theorem dX11_bitOf_20 : decode cX11_bitOf 20 = .ok (.iaload, 1) := by decide +kernel
theorem dX11_bitOf_21 : decode cX11_bitOf 21 = .ok (.irem, 1) := by decide +kernel
theorem dX11_bitOf_22 : decode cX11_bitOf 22 = .ok (.iload_n 2, 1) := by decide +kernel
theorem dX11_bitOf_23 : decode cX11_bitOf 23 = .ok (.iconst 2, 1) := by decide +kernel
theorem dX11_bitOf_24 : decode cX11_bitOf 24 = .ok (.irem, 1) := by decide +kernel
theorem dX11_bitOf_25 : decode cX11_bitOf 25 = .ok (.invokevirtual 145, 3) := by decide +kernel
theorem dX11_bitOf_28 : decode cX11_bitOf 28 = .ok (.ireturn, 1) := by decide +kernel
set_option maxRecDepth 20000 in
theorem ggX11_giveBit_X11_give : GoodIn wsX11_giveBit wsX11_give := goodIn_r _ [6, 7, 8, 9, 5, 10, 11, 12, 13, 14, 15, 16, 17, 18, 19, 20, 21, 22, 23, 24, 25, 26, 27, 28, 29, 30, 31, 32, 33, 34, 35, 36, 37, 38, 39, 40, 41, 42, 43, 44, 45, 46, 47, 48, 49, 50, 51, 52, 53, 54, 55, 56, 57, 58, 59, 60] rfl (by decide +kernel)
set_option maxRecDepth 20000 in
theorem gX11_giveBit_X11_give : GoodIn wsX11_giveBit (wsV RX11 148 RX11 yX11_give wsX11_give) := goodIn_app (goodIn_of _ (by decide +kernel)) ggX11_giveBit_X11_give
theorem dX11_giveBit_0 : decode cX11_giveBit 0 = .ok (.aload_n 0, 1) := by decide +kernel
theorem dX11_giveBit_1 : decode cX11_giveBit 1 = .ok (.iload_n 1, 1) := by decide +kernel
theorem dX11_giveBit_2 : decode cX11_giveBit 2 = .ok (.iload_n 2, 1) := by decide +kernel
theorem dX11_giveBit_3 : decode cX11_giveBit 3 = .ok (.iconst 2, 1) := by decide +kernel
theorem dX11_giveBit_4 : decode cX11_giveBit 4 = .ok (.aload_n 0, 1) := by decide +kernel
theorem dX11_giveBit_5 : decode cX11_giveBit 5 = .ok (.getfield 9, 3) := by decide +kernel
theorem dX11_giveBit_8 : decode cX11_giveBit 8 = .ok (.iload_n 1, 1) := by decide +kernel
theorem dX11_giveBit_9 : decode cX11_giveBit 9 = .ok (.iaload, 1) := by decide +kernel
theorem dX11_giveBit_10 : decode cX11_giveBit 10 = .ok (.imul, 1) := by decide +kernel
theorem dX11_giveBit_11 : decode cX11_giveBit 11 = .ok (.idiv, 1) := by decide +kernel
theorem dX11_giveBit_12 : decode cX11_giveBit 12 = .ok (.iload_n 2, 1) := by decide +kernel
theorem dX11_giveBit_13 : decode cX11_giveBit 13 = .ok (.iconst 2, 1) := by decide +kernel
theorem dX11_giveBit_14 : decode cX11_giveBit 14 = .ok (.idiv, 1) := by decide +kernel
theorem dX11_giveBit_15 : decode cX11_giveBit 15 = .ok (.aload_n 0, 1) := by decide +kernel
theorem dX11_giveBit_16 : decode cX11_giveBit 16 = .ok (.getfield 9, 3) := by decide +kernel
theorem dX11_giveBit_19 : decode cX11_giveBit 19 = .ok (.iload_n 1, 1) := by decide +kernel
theorem dX11_giveBit_20 : decode cX11_giveBit 20 = .ok (.iaload, 1) := by decide +kernel
theorem dX11_giveBit_21 : decode cX11_giveBit 21 = .ok (.irem, 1) := by decide +kernel
theorem dX11_giveBit_22 : decode cX11_giveBit 22 = .ok (.iload_n 2, 1) := by decide +kernel
theorem dX11_giveBit_23 : decode cX11_giveBit 23 = .ok (.iconst 2, 1) := by decide +kernel
theorem dX11_giveBit_24 : decode cX11_giveBit 24 = .ok (.irem, 1) := by decide +kernel
theorem dX11_giveBit_25 : decode cX11_giveBit 25 = .ok (.iload_n 3, 1) := by decide +kernel
theorem dX11_giveBit_26 : decode cX11_giveBit 26 = .ok (.invokevirtual 148, 3) := by decide +kernel
theorem dX11_giveBit_29 : decode cX11_giveBit 29 = .ok (.return_, 1) := by decide +kernel
set_option maxRecDepth 20000 in
theorem ggX11_oneBit_X11_isSong : GoodIn wsX11_oneBit wsX11_isSong := goodIn_r _ [5, 6, 7, 4, 8] rfl (by decide +kernel)
set_option maxRecDepth 20000 in
theorem gX11_oneBit_X11_isSong : GoodIn wsX11_oneBit (va_wsS RX11 122 yX11_isSong wsX11_isSong) := goodIn_app (goodIn_of _ (by decide +kernel)) ggX11_oneBit_X11_isSong
set_option maxRecDepth 20000 in
theorem ggX11_oneBit_X11_in : GoodIn wsX11_oneBit wsX11_in := goodIn_r _ [8] rfl (by decide +kernel)
set_option maxRecDepth 20000 in
theorem gX11_oneBit_X11_in : GoodIn wsX11_oneBit (va_wsS RX11 118 yX11_in wsX11_in) := goodIn_app (goodIn_of _ (by decide +kernel)) ggX11_oneBit_X11_in
set_option maxRecDepth 20000 in
theorem ggX11_oneBit_X11_bitsFor : GoodIn wsX11_oneBit wsX11_bitsFor := goodIn_r _ [12, 1, 82, 83, 84, 85, 86, 87, 88, 89, 90, 91, 92, 93, 94, 95, 96, 97, 98, 99, 100, 101, 102, 103, 104, 105, 106, 107, 108, 109, 110, 111, 112, 113, 114, 115, 116, 117, 118, 119, 120, 121, 122, 123, 124, 125, 126, 127, 128, 129, 130, 131] rfl (by decide +kernel)
set_option maxRecDepth 20000 in
theorem gX11_oneBit_X11_bitsFor : GoodIn wsX11_oneBit (wsV RX11 289 RX11 yX11_bitsFor wsX11_bitsFor) := goodIn_app (goodIn_of _ (by decide +kernel)) ggX11_oneBit_X11_bitsFor
set_option maxRecDepth 20000 in
theorem ggX11_oneBit_X11_bitOf : GoodIn wsX11_oneBit wsX11_bitOf := goodIn_r _ [16, 1, 17, 18, 19, 4, 20, 21, 22, 23, 24, 82, 83, 84, 85, 86, 87, 88, 89, 90, 91, 92, 93, 94, 95, 96, 97, 98, 99, 100, 101, 102, 103, 104, 105, 106, 107, 108, 109, 110, 111, 112, 113, 114, 115, 116, 117, 118, 119, 120, 121, 122, 123, 124, 125, 126, 127, 128, 129, 130, 131] rfl (by decide +kernel)
set_option maxRecDepth 20000 in
theorem gX11_oneBit_X11_bitOf : GoodIn wsX11_oneBit (wsV RX11 292 RX11 yX11_bitOf wsX11_bitOf) := goodIn_app (goodIn_of _ (by decide +kernel)) ggX11_oneBit_X11_bitOf
set_option maxRecDepth 20000 in
theorem ggX11_oneBit_X11_giveBit : GoodIn wsX11_oneBit wsX11_giveBit := goodIn_r _ [28, 1, 29, 30, 31, 4, 32, 21, 22, 23, 24, 82, 83, 84, 85, 86, 87, 88, 89, 90, 91, 92, 93, 94, 95, 96, 97, 98, 99, 100, 101, 102, 103, 104, 105, 106, 107, 108, 109, 110, 111, 112, 113, 114, 115, 116, 117, 118, 119, 120, 121, 122, 123, 124, 125, 126, 127, 128, 129, 130, 131] rfl (by decide +kernel)
set_option maxRecDepth 20000 in
theorem gX11_oneBit_X11_giveBit : GoodIn wsX11_oneBit (wsV RX11 295 RX11 yX11_giveBit wsX11_giveBit) := goodIn_app (goodIn_of _ (by decide +kernel)) ggX11_oneBit_X11_giveBit
set_option maxRecDepth 20000 in
theorem ggX11_oneBit_X11_rightFrom : GoodIn wsX11_oneBit wsX11_rightFrom := goodIn_r _ [36, 1, 37, 38, 39, 40, 4, 41, 42, 43, 44, 45, 46, 47, 48, 49, 17, 18, 19, 20, 21, 22, 23, 24, 50, 51, 52, 53, 54, 55, 56, 57, 58, 59, 60, 61, 62, 63, 64, 65, 66, 67, 68, 69, 70, 71, 72, 73, 74, 75, 76, 77, 78, 79, 80, 81, 82, 83, 84, 85, 86, 87, 88, 89, 90, 91, 92, 93, 94, 95, 96, 97, 98, 99, 100, 101, 102, 103, 104, 105, 106, 107, 108, 109, 110, 111, 112, 113, 114, 115, 116, 117, 118, 119, 120, 121, 122, 123, 124, 125, 126, 127, 128, 129, 130, 131] rfl (by decide +kernel)
set_option maxRecDepth 20000 in
theorem gX11_oneBit_X11_rightFrom : GoodIn wsX11_oneBit (wsV RX11 283 RX11 yX11_rightFrom wsX11_rightFrom) := goodIn_app (goodIn_of _ (by decide +kernel)) ggX11_oneBit_X11_rightFrom
theorem dX11_oneBit_0 : decode cX11_oneBit 0 = .ok (.iload_n 1, 1) := by decide +kernel
theorem dX11_oneBit_1 : decode cX11_oneBit 1 = .ok (.invokestatic 122, 3) := by decide +kernel
theorem dX11_oneBit_4 : decode cX11_oneBit 4 = .ok (.ifCond .eq 12, 3) := by decide +kernel
theorem dX11_oneBit_7 : decode cX11_oneBit 7 = .ok (.iload_n 2, 1) := by decide +kernel
theorem dX11_oneBit_8 : decode cX11_oneBit 8 = .ok (.iconst 0, 1) := by decide +kernel
theorem dX11_oneBit_9 : decode cX11_oneBit 9 = .ok (.iconst 3, 1) := by decide +kernel
theorem dX11_oneBit_10 : decode cX11_oneBit 10 = .ok (.invokestatic 118, 3) := by decide +kernel
theorem dX11_oneBit_13 : decode cX11_oneBit 13 = .ok (.ifCond .ne 5, 3) := by decide +kernel
theorem dX11_oneBit_16 : decode cX11_oneBit 16 = .ok (.iconst (-1), 1) := by decide +kernel
theorem dX11_oneBit_17 : decode cX11_oneBit 17 = .ok (.ireturn, 1) := by decide +kernel
theorem dX11_oneBit_18 : decode cX11_oneBit 18 = .ok (.iconst (-1), 1) := by decide +kernel
theorem dX11_oneBit_19 : decode cX11_oneBit 19 = .ok (.istore_n 3, 1) := by decide +kernel
theorem dX11_oneBit_20 : decode cX11_oneBit 20 = .ok (.iconst 0, 1) := by decide +kernel
theorem dX11_oneBit_21 : decode cX11_oneBit 21 = .ok (.istore 4, 2) := by decide +kernel
theorem dX11_oneBit_23 : decode cX11_oneBit 23 = .ok (.iconst 0, 1) := by decide +kernel
theorem dX11_oneBit_24 : decode cX11_oneBit 24 = .ok (.istore 5, 2) := by decide +kernel
theorem dX11_oneBit_26 : decode cX11_oneBit 26 = .ok (.iload 5, 2) := by decide +kernel
theorem dX11_oneBit_28 : decode cX11_oneBit 28 = .ok (.aload_n 0, 1) := by decide +kernel
theorem dX11_oneBit_29 : decode cX11_oneBit 29 = .ok (.iload_n 1, 1) := by decide +kernel
theorem dX11_oneBit_30 : decode cX11_oneBit 30 = .ok (.invokevirtual 289, 3) := by decide +kernel
theorem dX11_oneBit_33 : decode cX11_oneBit 33 = .ok (.if_icmp .ge 68, 3) := by decide +kernel
theorem dX11_oneBit_36 : decode cX11_oneBit 36 = .ok (.aload_n 0, 1) := by decide +kernel
theorem dX11_oneBit_37 : decode cX11_oneBit 37 = .ok (.iload_n 1, 1) := by decide +kernel
theorem dX11_oneBit_38 : decode cX11_oneBit 38 = .ok (.iload 5, 2) := by decide +kernel
theorem dX11_oneBit_40 : decode cX11_oneBit 40 = .ok (.invokevirtual 292, 3) := by decide +kernel
theorem dX11_oneBit_43 : decode cX11_oneBit 43 = .ok (.iconst 1, 1) := by decide +kernel
theorem dX11_oneBit_44 : decode cX11_oneBit 44 = .ok (.if_icmp .ne 6, 3) := by decide +kernel
theorem dX11_oneBit_47 : decode cX11_oneBit 47 = .ok (.goto 48, 3) := by decide +kernel
theorem dX11_oneBit_50 : decode cX11_oneBit 50 = .ok (.aload_n 0, 1) := by decide +kernel
theorem dX11_oneBit_51 : decode cX11_oneBit 51 = .ok (.iload_n 1, 1) := by decide +kernel
theorem dX11_oneBit_52 : decode cX11_oneBit 52 = .ok (.iload 5, 2) := by decide +kernel
theorem dX11_oneBit_54 : decode cX11_oneBit 54 = .ok (.iconst 1, 1) := by decide +kernel
theorem dX11_oneBit_55 : decode cX11_oneBit 55 = .ok (.invokevirtual 295, 3) := by decide +kernel
theorem dX11_oneBit_58 : decode cX11_oneBit 58 = .ok (.aload_n 0, 1) := by decide +kernel
theorem dX11_oneBit_59 : decode cX11_oneBit 59 = .ok (.iload_n 1, 1) := by decide +kernel
theorem dX11_oneBit_60 : decode cX11_oneBit 60 = .ok (.iconst 0, 1) := by decide +kernel
theorem dX11_oneBit_61 : decode cX11_oneBit 61 = .ok (.invokevirtual 283, 3) := by decide +kernel
theorem dX11_oneBit_64 : decode cX11_oneBit 64 = .ok (.istore 6, 2) := by decide +kernel
theorem dX11_oneBit_66 : decode cX11_oneBit 66 = .ok (.aload_n 0, 1) := by decide +kernel
theorem dX11_oneBit_67 : decode cX11_oneBit 67 = .ok (.iload_n 1, 1) := by decide +kernel
theorem dX11_oneBit_68 : decode cX11_oneBit 68 = .ok (.iload 5, 2) := by decide +kernel
theorem dX11_oneBit_70 : decode cX11_oneBit 70 = .ok (.iconst 0, 1) := by decide +kernel
theorem dX11_oneBit_71 : decode cX11_oneBit 71 = .ok (.invokevirtual 295, 3) := by decide +kernel
theorem dX11_oneBit_74 : decode cX11_oneBit 74 = .ok (.iload_n 3, 1) := by decide +kernel
theorem dX11_oneBit_75 : decode cX11_oneBit 75 = .ok (.ifCond .lt 13, 3) := by decide +kernel
theorem dX11_oneBit_78 : decode cX11_oneBit 78 = .ok (.iload 6, 2) := by decide +kernel
theorem dX11_oneBit_80 : decode cX11_oneBit 80 = .ok (.iload 4, 2) := by decide +kernel
theorem dX11_oneBit_82 : decode cX11_oneBit 82 = .ok (.if_icmp .gt 6, 3) := by decide +kernel
theorem dX11_oneBit_85 : decode cX11_oneBit 85 = .ok (.goto 10, 3) := by decide +kernel
theorem dX11_oneBit_88 : decode cX11_oneBit 88 = .ok (.iload 5, 2) := by decide +kernel
theorem dX11_oneBit_90 : decode cX11_oneBit 90 = .ok (.istore_n 3, 1) := by decide +kernel
theorem dX11_oneBit_91 : decode cX11_oneBit 91 = .ok (.iload 6, 2) := by decide +kernel
theorem dX11_oneBit_93 : decode cX11_oneBit 93 = .ok (.istore 4, 2) := by decide +kernel
theorem dX11_oneBit_95 : decode cX11_oneBit 95 = .ok (.iinc 5 1, 3) := by decide +kernel
theorem dX11_oneBit_98 : decode cX11_oneBit 98 = .ok (.goto (-72), 3) := by decide +kernel
theorem dX11_oneBit_101 : decode cX11_oneBit 101 = .ok (.iload_n 3, 1) := by decide +kernel
theorem dX11_oneBit_102 : decode cX11_oneBit 102 = .ok (.ifCond .ge 6, 3) := by decide +kernel
theorem dX11_oneBit_105 : decode cX11_oneBit 105 = .ok (.bipush (-2), 2) := by decide +kernel
theorem dX11_oneBit_107 : decode cX11_oneBit 107 = .ok (.ireturn, 1) := by decide +kernel
theorem dX11_oneBit_108 : decode cX11_oneBit 108 = .ok (.iload_n 2, 1) := by decide +kernel
theorem dX11_oneBit_109 : decode cX11_oneBit 109 = .ok (.ifCond .ne 16, 3) := by decide +kernel
theorem dX11_oneBit_112 : decode cX11_oneBit 112 = .ok (.iload_n 3, 1) := by decide +kernel
theorem dX11_oneBit_113 : decode cX11_oneBit 113 = .ok (.iconst 2, 1) := by decide +kernel
theorem dX11_oneBit_114 : decode cX11_oneBit 114 = .ok (.aload_n 0, 1) := by decide +kernel
theorem dX11_oneBit_115 : decode cX11_oneBit 115 = .ok (.getfield 9, 3) := by decide +kernel
theorem dX11_oneBit_118 : decode cX11_oneBit 118 = .ok (.iload_n 1, 1) := by decide +kernel
theorem dX11_oneBit_119 : decode cX11_oneBit 119 = .ok (.iaload, 1) := by decide +kernel
theorem dX11_oneBit_120 : decode cX11_oneBit 120 = .ok (.imul, 1) := by decide +kernel
theorem dX11_oneBit_121 : decode cX11_oneBit 121 = .ok (.idiv, 1) := by decide +kernel
theorem dX11_oneBit_122 : decode cX11_oneBit 122 = .ok (.goto 34, 3) := by decide +kernel
theorem dX11_oneBit_125 : decode cX11_oneBit 125 = .ok (.iload_n 2, 1) := by decide +kernel
theorem dX11_oneBit_126 : decode cX11_oneBit 126 = .ok (.iconst 1, 1) := by decide +kernel
theorem dX11_oneBit_127 : decode cX11_oneBit 127 = .ok (.if_icmp .ne 16, 3) := by decide +kernel
theorem dX11_oneBit_130 : decode cX11_oneBit 130 = .ok (.iload_n 3, 1) := by decide +kernel
theorem dX11_oneBit_131 : decode cX11_oneBit 131 = .ok (.iconst 2, 1) := by decide +kernel
theorem dX11_oneBit_132 : decode cX11_oneBit 132 = .ok (.idiv, 1) := by decide +kernel
theorem dX11_oneBit_133 : decode cX11_oneBit 133 = .ok (.aload_n 0, 1) := by decide +kernel
theorem dX11_oneBit_134 : decode cX11_oneBit 134 = .ok (.getfield 9, 3) := by decide +kernel
theorem dX11_oneBit_137 : decode cX11_oneBit 137 = .ok (.iload_n 1, 1) := by decide +kernel
theorem dX11_oneBit_138 : decode cX11_oneBit 138 = .ok (.iaload, 1) := by decide +kernel
theorem dX11_oneBit_139 : decode cX11_oneBit 139 = .ok (.irem, 1) := by decide +kernel
theorem dX11_oneBit_140 : decode cX11_oneBit 140 = .ok (.goto 16, 3) := by decide +kernel
theorem dX11_oneBit_143 : decode cX11_oneBit 143 = .ok (.iload_n 2, 1) := by decide +kernel
theorem dX11_oneBit_144 : decode cX11_oneBit 144 = .ok (.iconst 2, 1) := by decide +kernel
theorem dX11_oneBit_145 : decode cX11_oneBit 145 = .ok (.if_icmp .ne 9, 3) := by decide +kernel
theorem dX11_oneBit_148 : decode cX11_oneBit 148 = .ok (.iload_n 3, 1) := by decide +kernel
theorem dX11_oneBit_149 : decode cX11_oneBit 149 = .ok (.iconst 2, 1) := by decide +kernel
theorem dX11_oneBit_150 : decode cX11_oneBit 150 = .ok (.irem, 1) := by decide +kernel
theorem dX11_oneBit_151 : decode cX11_oneBit 151 = .ok (.goto 5, 3) := by decide +kernel
theorem dX11_oneBit_154 : decode cX11_oneBit 154 = .ok (.iload 4, 2) := by decide +kernel
theorem dX11_oneBit_156 : decode cX11_oneBit 156 = .ok (.ireturn, 1) := by decide +kernel
set_option maxRecDepth 20000 in
theorem ggX11_isWhole_X11_rightFrom : GoodIn wsX11_isWhole wsX11_rightFrom := goodIn_r _ [6, 1, 7, 8, 9, 10, 5, 11, 12, 13, 14, 15, 16, 17, 18, 19, 20, 21, 22, 23, 24, 25, 26, 27, 28, 29, 30, 31, 32, 33, 34, 35, 36, 37, 38, 39, 40, 41, 42, 43, 44, 45, 46, 47, 48, 49, 50, 51, 52, 53, 54, 55, 56, 57, 58, 59, 60, 61, 62, 63, 64, 65, 66, 67, 68, 69, 70, 71, 72, 73, 74, 75, 76, 77, 78, 79, 80, 81, 82, 83, 84, 85, 86, 87, 88, 89, 90, 91, 92, 93, 94, 95, 96, 97, 98, 99, 100, 101, 102, 103, 104, 105, 106, 107, 108, 109] rfl (by decide +kernel)
set_option maxRecDepth 20000 in
theorem gX11_isWhole_X11_rightFrom : GoodIn wsX11_isWhole (wsV RX11 283 RX11 yX11_rightFrom wsX11_rightFrom) := goodIn_app (goodIn_of _ (by decide +kernel)) ggX11_isWhole_X11_rightFrom
theorem dX11_isWhole_0 : decode cX11_isWhole 0 = .ok (.aload_n 0, 1) := by decide +kernel
theorem dX11_isWhole_1 : decode cX11_isWhole 1 = .ok (.iload_n 1, 1) := by decide +kernel
theorem dX11_isWhole_2 : decode cX11_isWhole 2 = .ok (.iconst 0, 1) := by decide +kernel
theorem dX11_isWhole_3 : decode cX11_isWhole 3 = .ok (.invokevirtual 283, 3) := by decide +kernel
theorem dX11_isWhole_6 : decode cX11_isWhole 6 = .ok (.aload_n 0, 1) := by decide +kernel
theorem dX11_isWhole_7 : decode cX11_isWhole 7 = .ok (.getfield 9, 3) := by decide +kernel
theorem dX11_isWhole_10 : decode cX11_isWhole 10 = .ok (.iload_n 1, 1) := by decide +kernel
theorem dX11_isWhole_11 : decode cX11_isWhole 11 = .ok (.iaload, 1) := by decide +kernel
theorem dX11_isWhole_12 : decode cX11_isWhole 12 = .ok (.if_icmp .ne 7, 3) := by decide +kernel
theorem dX11_isWhole_15 : decode cX11_isWhole 15 = .ok (.iconst 1, 1) := by decide +kernel
theorem dX11_isWhole_16 : decode cX11_isWhole 16 = .ok (.goto 4, 3) := by decide +kernel
theorem dX11_isWhole_19 : decode cX11_isWhole 19 = .ok (.iconst 0, 1) := by decide +kernel
theorem dX11_isWhole_20 : decode cX11_isWhole 20 = .ok (.ireturn, 1) := by decide +kernel
set_option maxRecDepth 20000 in
theorem ggX11_isWholeBy_X11_isWhole : GoodIn wsX11_isWholeBy wsX11_isWhole := goodIn_r _ [5, 6, 7, 8, 9, 4, 10, 11, 12, 13, 14, 15, 16, 17, 18, 19, 20, 21, 22, 23, 24, 25, 26, 27, 28, 29, 30, 31, 32, 33, 34, 35, 36, 37, 38, 39, 40, 41, 42, 43, 44, 45, 46, 47, 48, 49, 50, 51, 52, 53, 54, 55, 56, 57, 58, 59, 60, 61, 62, 63, 83, 84, 85, 86, 87, 88, 89, 90, 91, 92, 93, 94, 95, 96, 97, 98, 99, 100, 101, 102, 103, 104, 105, 106, 107, 108, 109, 110, 111, 112, 113, 114, 115, 116, 117, 118, 119, 120, 121, 122, 123, 124, 125, 126, 127, 128, 129, 130, 131, 132] rfl (by decide +kernel)
set_option maxRecDepth 20000 in
theorem gX11_isWholeBy_X11_isWhole : GoodIn wsX11_isWholeBy (wsV RX11 298 RX11 yX11_isWhole wsX11_isWhole) := goodIn_app (goodIn_of _ (by decide +kernel)) ggX11_isWholeBy_X11_isWhole
set_option maxRecDepth 20000 in
theorem ggX11_isWholeBy_X11_bitsFor : GoodIn wsX11_isWholeBy wsX11_bitsFor := goodIn_r _ [67, 6, 83, 84, 85, 86, 87, 88, 89, 90, 91, 92, 93, 94, 95, 96, 97, 98, 99, 100, 101, 102, 103, 104, 105, 106, 107, 108, 109, 110, 111, 112, 113, 114, 115, 116, 117, 118, 119, 120, 121, 122, 123, 124, 125, 126, 127, 128, 129, 130, 131, 132] rfl (by decide +kernel)
set_option maxRecDepth 20000 in
theorem gX11_isWholeBy_X11_bitsFor : GoodIn wsX11_isWholeBy (wsV RX11 289 RX11 yX11_bitsFor wsX11_bitsFor) := goodIn_app (goodIn_of _ (by decide +kernel)) ggX11_isWholeBy_X11_bitsFor
set_option maxRecDepth 20000 in
theorem ggX11_isWholeBy_X11_bitOf : GoodIn wsX11_isWholeBy wsX11_bitOf := goodIn_r _ [71, 6, 24, 25, 26, 4, 27, 28, 29, 30, 31, 83, 84, 85, 86, 87, 88, 89, 90, 91, 92, 93, 94, 95, 96, 97, 98, 99, 100, 101, 102, 103, 104, 105, 106, 107, 108, 109, 110, 111, 112, 113, 114, 115, 116, 117, 118, 119, 120, 121, 122, 123, 124, 125, 126, 127, 128, 129, 130, 131, 132] rfl (by decide +kernel)
set_option maxRecDepth 20000 in
theorem gX11_isWholeBy_X11_bitOf : GoodIn wsX11_isWholeBy (wsV RX11 292 RX11 yX11_bitOf wsX11_bitOf) := goodIn_app (goodIn_of _ (by decide +kernel)) ggX11_isWholeBy_X11_bitOf
set_option maxRecDepth 20000 in
theorem ggX11_isWholeBy_X11_giveBit : GoodIn wsX11_isWholeBy wsX11_giveBit := goodIn_r _ [75, 6, 76, 77, 78, 4, 79, 28, 29, 30, 31, 83, 84, 85, 86, 87, 88, 89, 90, 91, 92, 93, 94, 95, 96, 97, 98, 99, 100, 101, 102, 103, 104, 105, 106, 107, 108, 109, 110, 111, 112, 113, 114, 115, 116, 117, 118, 119, 120, 121, 122, 123, 124, 125, 126, 127, 128, 129, 130, 131, 132] rfl (by decide +kernel)
set_option maxRecDepth 20000 in
theorem gX11_isWholeBy_X11_giveBit : GoodIn wsX11_isWholeBy (wsV RX11 295 RX11 yX11_giveBit wsX11_giveBit) := goodIn_app (goodIn_of _ (by decide +kernel)) ggX11_isWholeBy_X11_giveBit
set_option maxRecDepth 20000 in
theorem ggX11_isWholeBy_X11_isWholeBy : GoodIn wsX11_isWholeBy wsX11_isWholeBy := goodIn_r _ [0, 1, 2, 3, 4, 5, 6, 7, 8, 9, 10, 11, 12, 13, 14, 15, 16, 17, 18, 19, 20, 21, 22, 23, 24, 25, 26, 27, 28, 29, 30, 31, 32, 33, 34, 35, 36, 37, 38, 39, 40, 41, 42, 43, 44, 45, 46, 47, 48, 49, 50, 51, 52, 53, 54, 55, 56, 57, 58, 59, 60, 61, 62, 63, 64, 65, 66, 67, 68, 69, 70, 71, 72, 73, 74, 75, 76, 77, 78, 79, 80, 81, 82, 83, 84, 85, 86, 87, 88, 89, 90, 91, 92, 93, 94, 95, 96, 97, 98, 99, 100, 101, 102, 103, 104, 105, 106, 107, 108, 109, 110, 111, 112, 113, 114, 115, 116, 117, 118, 119, 120, 121, 122, 123, 124, 125, 126, 127, 128, 129, 130, 131, 132] rfl (by decide +kernel)
set_option maxRecDepth 20000 in
theorem gX11_isWholeBy_X11_isWholeBy : GoodIn wsX11_isWholeBy (wsV RX11 301 RX11 yX11_isWholeBy wsX11_isWholeBy) := goodIn_app (goodIn_of _ (by decide +kernel)) ggX11_isWholeBy_X11_isWholeBy
theorem dX11_isWholeBy_0 : decode cX11_isWholeBy 0 = .ok (.iload_n 2, 1) := by decide +kernel
theorem dX11_isWholeBy_1 : decode cX11_isWholeBy 1 = .ok (.ifCond .ne 9, 3) := by decide +kernel
theorem dX11_isWholeBy_4 : decode cX11_isWholeBy 4 = .ok (.aload_n 0, 1) := by decide +kernel
theorem dX11_isWholeBy_5 : decode cX11_isWholeBy 5 = .ok (.iload_n 1, 1) := by decide +kernel
theorem dX11_isWholeBy_6 : decode cX11_isWholeBy 6 = .ok (.invokevirtual 298, 3) := by decide +kernel
theorem dX11_isWholeBy_9 : decode cX11_isWholeBy 9 = .ok (.ireturn, 1) := by decide +kernel
theorem dX11_isWholeBy_10 : decode cX11_isWholeBy 10 = .ok (.iload_n 3, 1) := by decide +kernel
theorem dX11_isWholeBy_11 : decode cX11_isWholeBy 11 = .ok (.istore 4, 2) := by decide +kernel
theorem dX11_isWholeBy_13 : decode cX11_isWholeBy 13 = .ok (.iload 4, 2) := by decide +kernel
theorem dX11_isWholeBy_15 : decode cX11_isWholeBy 15 = .ok (.aload_n 0, 1) := by decide +kernel
theorem dX11_isWholeBy_16 : decode cX11_isWholeBy 16 = .ok (.iload_n 1, 1) := by decide +kernel
theorem dX11_isWholeBy_17 : decode cX11_isWholeBy 17 = .ok (.invokevirtual 289, 3) := by decide +kernel
theorem dX11_isWholeBy_20 : decode cX11_isWholeBy 20 = .ok (.if_icmp .ge 60, 3) := by decide +kernel
theorem dX11_isWholeBy_23 : decode cX11_isWholeBy 23 = .ok (.aload_n 0, 1) := by decide +kernel
theorem dX11_isWholeBy_24 : decode cX11_isWholeBy 24 = .ok (.iload_n 1, 1) := by decide +kernel
theorem dX11_isWholeBy_25 : decode cX11_isWholeBy 25 = .ok (.iload 4, 2) := by decide +kernel
theorem dX11_isWholeBy_27 : decode cX11_isWholeBy 27 = .ok (.invokevirtual 292, 3) := by decide +kernel
theorem dX11_isWholeBy_30 : decode cX11_isWholeBy 30 = .ok (.iconst 1, 1) := by decide +kernel
theorem dX11_isWholeBy_31 : decode cX11_isWholeBy 31 = .ok (.if_icmp .ne 6, 3) := by decide +kernel
theorem dX11_isWholeBy_34 : decode cX11_isWholeBy 34 = .ok (.goto 40, 3) := by decide +kernel
theorem dX11_isWholeBy_37 : decode cX11_isWholeBy 37 = .ok (.aload_n 0, 1) := by decide +kernel
theorem dX11_isWholeBy_38 : decode cX11_isWholeBy 38 = .ok (.iload_n 1, 1) := by decide +kernel
theorem dX11_isWholeBy_39 : decode cX11_isWholeBy 39 = .ok (.iload 4, 2) := by decide +kernel
theorem dX11_isWholeBy_41 : decode cX11_isWholeBy 41 = .ok (.iconst 1, 1) := by decide +kernel
theorem dX11_isWholeBy_42 : decode cX11_isWholeBy 42 = .ok (.invokevirtual 295, 3) := by decide +kernel
theorem dX11_isWholeBy_45 : decode cX11_isWholeBy 45 = .ok (.aload_n 0, 1) := by decide +kernel
theorem dX11_isWholeBy_46 : decode cX11_isWholeBy 46 = .ok (.iload_n 1, 1) := by decide +kernel
theorem dX11_isWholeBy_47 : decode cX11_isWholeBy 47 = .ok (.iload_n 2, 1) := by decide +kernel
theorem dX11_isWholeBy_48 : decode cX11_isWholeBy 48 = .ok (.iconst 1, 1) := by decide +kernel
theorem dX11_isWholeBy_49 : decode cX11_isWholeBy 49 = .ok (.isub, 1) := by decide +kernel
theorem dX11_isWholeBy_50 : decode cX11_isWholeBy 50 = .ok (.iload 4, 2) := by decide +kernel
theorem dX11_isWholeBy_52 : decode cX11_isWholeBy 52 = .ok (.iconst 1, 1) := by decide +kernel
theorem dX11_isWholeBy_53 : decode cX11_isWholeBy 53 = .ok (.iadd, 1) := by decide +kernel
theorem dX11_isWholeBy_54 : decode cX11_isWholeBy 54 = .ok (.invokevirtual 301, 3) := by decide +kernel
theorem dX11_isWholeBy_57 : decode cX11_isWholeBy 57 = .ok (.istore 5, 2) := by decide +kernel
theorem dX11_isWholeBy_59 : decode cX11_isWholeBy 59 = .ok (.aload_n 0, 1) := by decide +kernel
theorem dX11_isWholeBy_60 : decode cX11_isWholeBy 60 = .ok (.iload_n 1, 1) := by decide +kernel
theorem dX11_isWholeBy_61 : decode cX11_isWholeBy 61 = .ok (.iload 4, 2) := by decide +kernel
theorem dX11_isWholeBy_63 : decode cX11_isWholeBy 63 = .ok (.iconst 0, 1) := by decide +kernel
theorem dX11_isWholeBy_64 : decode cX11_isWholeBy 64 = .ok (.invokevirtual 295, 3) := by decide +kernel
theorem dX11_isWholeBy_67 : decode cX11_isWholeBy 67 = .ok (.iload 5, 2) := by decide +kernel
theorem dX11_isWholeBy_69 : decode cX11_isWholeBy 69 = .ok (.ifCond .eq 5, 3) := by decide +kernel
theorem dX11_isWholeBy_72 : decode cX11_isWholeBy 72 = .ok (.iconst 1, 1) := by decide +kernel
theorem dX11_isWholeBy_73 : decode cX11_isWholeBy 73 = .ok (.ireturn, 1) := by decide +kernel
theorem dX11_isWholeBy_74 : decode cX11_isWholeBy 74 = .ok (.iinc 4 1, 3) := by decide +kernel
theorem dX11_isWholeBy_77 : decode cX11_isWholeBy 77 = .ok (.goto (-64), 3) := by decide +kernel
theorem dX11_isWholeBy_80 : decode cX11_isWholeBy 80 = .ok (.iconst 0, 1) := by decide +kernel
theorem dX11_isWholeBy_81 : decode cX11_isWholeBy 81 = .ok (.ireturn, 1) := by decide +kernel
set_option maxRecDepth 20000 in
theorem ggX11_fewest_X11_isSong : GoodIn wsX11_fewest wsX11_isSong := goodIn_r _ [4, 5, 6, 3, 7] rfl (by decide +kernel)
set_option maxRecDepth 20000 in
theorem gX11_fewest_X11_isSong : GoodIn wsX11_fewest (va_wsS RX11 122 yX11_isSong wsX11_isSong) := goodIn_app (goodIn_of _ (by decide +kernel)) ggX11_fewest_X11_isSong
set_option maxRecDepth 20000 in
theorem ggX11_fewest_X11_isWholeBy : GoodIn wsX11_fewest wsX11_isWholeBy := goodIn_r _ [11, 12, 13, 14, 3, 15, 16, 17, 18, 19, 20, 21, 22, 23, 24, 25, 26, 27, 28, 29, 30, 31, 32, 33, 34, 35, 36, 37, 38, 39, 40, 41, 42, 43, 44, 45, 46, 47, 48, 49, 50, 51, 52, 53, 54, 55, 56, 57, 58, 59, 60, 61, 62, 63, 64, 65, 66, 67, 68, 69, 70, 71, 72, 73, 74, 75, 76, 77, 78, 79, 80, 81, 82, 83, 84, 85, 86, 87, 88, 89, 8, 9, 10, 90, 91, 92, 93, 94, 95, 96, 97, 98, 99, 100, 101, 102, 103, 104, 105, 106, 107, 108, 109, 110, 111, 112, 113, 114, 115, 116, 117, 118, 119, 120, 121, 122, 123, 124, 125, 126, 127, 128, 129, 130, 131, 132, 133, 134, 135, 136, 137, 138, 139] rfl (by decide +kernel)
set_option maxRecDepth 20000 in
theorem gX11_fewest_X11_isWholeBy : GoodIn wsX11_fewest (wsV RX11 301 RX11 yX11_isWholeBy wsX11_isWholeBy) := goodIn_app (goodIn_of _ (by decide +kernel)) ggX11_fewest_X11_isWholeBy
theorem dX11_fewest_0 : decode cX11_fewest 0 = .ok (.iload_n 1, 1) := by decide +kernel
theorem dX11_fewest_1 : decode cX11_fewest 1 = .ok (.invokestatic 122, 3) := by decide +kernel
theorem dX11_fewest_4 : decode cX11_fewest 4 = .ok (.ifCond .ne 5, 3) := by decide +kernel
theorem dX11_fewest_7 : decode cX11_fewest 7 = .ok (.iconst (-1), 1) := by decide +kernel
theorem dX11_fewest_8 : decode cX11_fewest 8 = .ok (.ireturn, 1) := by decide +kernel
theorem dX11_fewest_9 : decode cX11_fewest 9 = .ok (.iconst 0, 1) := by decide +kernel
theorem dX11_fewest_10 : decode cX11_fewest 10 = .ok (.istore_n 2, 1) := by decide +kernel
theorem dX11_fewest_11 : decode cX11_fewest 11 = .ok (.iload_n 2, 1) := by decide +kernel
theorem dX11_fewest_12 : decode cX11_fewest 12 = .ok (.iconst 2, 1) := by decide +kernel
theorem dX11_fewest_13 : decode cX11_fewest 13 = .ok (.if_icmp .gt 21, 3) := by decide +kernel
theorem dX11_fewest_16 : decode cX11_fewest 16 = .ok (.aload_n 0, 1) := by decide +kernel
theorem dX11_fewest_17 : decode cX11_fewest 17 = .ok (.iload_n 1, 1) := by decide +kernel
theorem dX11_fewest_18 : decode cX11_fewest 18 = .ok (.iload_n 2, 1) := by decide +kernel
theorem dX11_fewest_19 : decode cX11_fewest 19 = .ok (.iconst 0, 1) := by decide +kernel
theorem dX11_fewest_20 : decode cX11_fewest 20 = .ok (.invokevirtual 301, 3) := by decide +kernel
theorem dX11_fewest_23 : decode cX11_fewest 23 = .ok (.ifCond .eq 5, 3) := by decide +kernel
theorem dX11_fewest_26 : decode cX11_fewest 26 = .ok (.iload_n 2, 1) := by decide +kernel
theorem dX11_fewest_27 : decode cX11_fewest 27 = .ok (.ireturn, 1) := by decide +kernel
theorem dX11_fewest_28 : decode cX11_fewest 28 = .ok (.iinc 2 1, 3) := by decide +kernel
theorem dX11_fewest_31 : decode cX11_fewest 31 = .ok (.goto (-20), 3) := by decide +kernel
theorem dX11_fewest_34 : decode cX11_fewest 34 = .ok (.bipush (-2), 2) := by decide +kernel
theorem dX11_fewest_36 : decode cX11_fewest 36 = .ok (.ireturn, 1) := by decide +kernel
set_option maxRecDepth 20000 in
theorem ggX11_evenings_X11_isSong : GoodIn wsX11_evenings wsX11_isSong := goodIn_r _ [5, 6, 7, 4, 8] rfl (by decide +kernel)
set_option maxRecDepth 20000 in
theorem gX11_evenings_X11_isSong : GoodIn wsX11_evenings (va_wsS RX11 122 yX11_isSong wsX11_isSong) := goodIn_app (goodIn_of _ (by decide +kernel)) ggX11_evenings_X11_isSong
set_option maxRecDepth 20000 in
theorem ggX11_evenings_X11_isSinger : GoodIn wsX11_evenings wsX11_isSinger := goodIn_r _ [11, 6, 7, 4, 8] rfl (by decide +kernel)
set_option maxRecDepth 20000 in
theorem gX11_evenings_X11_isSinger : GoodIn wsX11_evenings (va_wsS RX11 139 yX11_isSinger wsX11_isSinger) := goodIn_app (goodIn_of _ (by decide +kernel)) ggX11_evenings_X11_isSinger
set_option maxRecDepth 20000 in
theorem ggX11_evenings_X11_bitAt : GoodIn wsX11_evenings wsX11_bitAt := goodIn_r _ [15, 16, 17, 18, 4, 19, 24, 25, 26, 27, 28, 29, 30, 31, 32, 33, 34, 35, 36, 37, 38, 39, 40, 41, 42, 43, 44, 45, 46, 47, 48, 49, 50, 51, 52, 53, 54, 55, 56, 57, 58, 59, 60, 61, 62, 63, 64, 65, 66, 67, 68, 69, 70, 71, 72, 73] rfl (by decide +kernel)
set_option maxRecDepth 20000 in
theorem gX11_evenings_X11_bitAt : GoodIn wsX11_evenings (wsV RX11 145 RX11 yX11_bitAt wsX11_bitAt) := goodIn_app (goodIn_of _ (by decide +kernel)) ggX11_evenings_X11_bitAt
set_option maxRecDepth 20000 in
theorem ggX11_evenings_X11_whoHas : GoodIn wsX11_evenings wsX11_whoHas := goodIn_r _ [23, 12, 13, 14, 4, 15, 16, 17, 18, 19, 24, 25, 26, 27, 28, 29, 30, 31, 32, 33, 34, 35, 36, 37, 38, 39, 40, 41, 42, 43, 44, 45, 46, 47, 48, 49, 50, 51, 52, 53, 54, 55, 56, 57, 58, 59, 60, 61, 62, 63, 64, 65, 66, 67, 68, 69, 70, 71, 72, 73] rfl (by decide +kernel)
set_option maxRecDepth 20000 in
theorem gX11_evenings_X11_whoHas : GoodIn wsX11_evenings (wsV RX11 183 RX11 yX11_whoHas wsX11_whoHas) := goodIn_app (goodIn_of _ (by decide +kernel)) ggX11_evenings_X11_whoHas
theorem dX11_evenings_0 : decode cX11_evenings 0 = .ok (.iload_n 1, 1) := by decide +kernel
theorem dX11_evenings_1 : decode cX11_evenings 1 = .ok (.invokestatic 122, 3) := by decide +kernel
theorem dX11_evenings_4 : decode cX11_evenings 4 = .ok (.ifCond .eq 10, 3) := by decide +kernel
theorem dX11_evenings_7 : decode cX11_evenings 7 = .ok (.iload_n 2, 1) := by decide +kernel
theorem dX11_evenings_8 : decode cX11_evenings 8 = .ok (.invokestatic 139, 3) := by decide +kernel
theorem dX11_evenings_11 : decode cX11_evenings 11 = .ok (.ifCond .ne 5, 3) := by decide +kernel
theorem dX11_evenings_14 : decode cX11_evenings 14 = .ok (.iconst (-1), 1) := by decide +kernel
theorem dX11_evenings_15 : decode cX11_evenings 15 = .ok (.ireturn, 1) := by decide +kernel
theorem dX11_evenings_16 : decode cX11_evenings 16 = .ok (.iconst 0, 1) := by decide +kernel
theorem dX11_evenings_17 : decode cX11_evenings 17 = .ok (.istore_n 3, 1) := by decide +kernel
theorem dX11_evenings_18 : decode cX11_evenings 18 = .ok (.iconst 0, 1) := by decide +kernel
theorem dX11_evenings_19 : decode cX11_evenings 19 = .ok (.istore 4, 2) := by decide +kernel
theorem dX11_evenings_21 : decode cX11_evenings 21 = .ok (.iload 4, 2) := by decide +kernel
theorem dX11_evenings_23 : decode cX11_evenings 23 = .ok (.aload_n 0, 1) := by decide +kernel
theorem dX11_evenings_24 : decode cX11_evenings 24 = .ok (.getfield 9, 3) := by decide +kernel
theorem dX11_evenings_27 : decode cX11_evenings 27 = .ok (.iload_n 1, 1) := by decide +kernel
theorem dX11_evenings_28 : decode cX11_evenings 28 = .ok (.iaload, 1) := by decide +kernel
theorem dX11_evenings_29 : decode cX11_evenings 29 = .ok (.if_icmp .ge 59, 3) := by decide +kernel
theorem dX11_evenings_32 : decode cX11_evenings 32 = .ok (.iconst 0, 1) := by decide +kernel
theorem dX11_evenings_33 : decode cX11_evenings 33 = .ok (.istore 5, 2) := by decide +kernel
theorem dX11_evenings_35 : decode cX11_evenings 35 = .ok (.iload 5, 2) := by decide +kernel
theorem dX11_evenings_37 : decode cX11_evenings 37 = .ok (.iconst 2, 1) := by decide +kernel
theorem dX11_evenings_38 : decode cX11_evenings 38 = .ok (.if_icmp .ge 44, 3) := by decide +kernel
theorem dX11_evenings_41 : decode cX11_evenings 41 = .ok (.aload_n 0, 1) := by decide +kernel
theorem dX11_evenings_42 : decode cX11_evenings 42 = .ok (.iload_n 1, 1) := by decide +kernel
theorem dX11_evenings_43 : decode cX11_evenings 43 = .ok (.iload_n 2, 1) := by decide +kernel
theorem dX11_evenings_44 : decode cX11_evenings 44 = .ok (.iload 4, 2) := by decide +kernel
theorem dX11_evenings_46 : decode cX11_evenings 46 = .ok (.iload 5, 2) := by decide +kernel
theorem dX11_evenings_48 : decode cX11_evenings 48 = .ok (.invokevirtual 145, 3) := by decide +kernel
theorem dX11_evenings_51 : decode cX11_evenings 51 = .ok (.iconst 1, 1) := by decide +kernel
theorem dX11_evenings_52 : decode cX11_evenings 52 = .ok (.if_icmp .ne 6, 3) := by decide +kernel
theorem dX11_evenings_55 : decode cX11_evenings 55 = .ok (.goto 21, 3) := by decide +kernel
theorem dX11_evenings_58 : decode cX11_evenings 58 = .ok (.aload_n 0, 1) := by decide +kernel
theorem dX11_evenings_59 : decode cX11_evenings 59 = .ok (.iload_n 1, 1) := by decide +kernel
theorem dX11_evenings_60 : decode cX11_evenings 60 = .ok (.iload 4, 2) := by decide +kernel
theorem dX11_evenings_62 : decode cX11_evenings 62 = .ok (.iload 5, 2) := by decide +kernel
theorem dX11_evenings_64 : decode cX11_evenings 64 = .ok (.invokevirtual 183, 3) := by decide +kernel
theorem dX11_evenings_67 : decode cX11_evenings 67 = .ok (.ifCond .ne 6, 3) := by decide +kernel
theorem dX11_evenings_70 : decode cX11_evenings 70 = .ok (.bipush (-2), 2) := by decide +kernel
theorem dX11_evenings_72 : decode cX11_evenings 72 = .ok (.ireturn, 1) := by decide +kernel
theorem dX11_evenings_73 : decode cX11_evenings 73 = .ok (.iinc 3 1, 3) := by decide +kernel
theorem dX11_evenings_76 : decode cX11_evenings 76 = .ok (.iinc 5 1, 3) := by decide +kernel
theorem dX11_evenings_79 : decode cX11_evenings 79 = .ok (.goto (-44), 3) := by decide +kernel
theorem dX11_evenings_82 : decode cX11_evenings 82 = .ok (.iinc 4 1, 3) := by decide +kernel
theorem dX11_evenings_85 : decode cX11_evenings 85 = .ok (.goto (-64), 3) := by decide +kernel
theorem dX11_evenings_88 : decode cX11_evenings 88 = .ok (.iload_n 3, 1) := by decide +kernel
theorem dX11_evenings_89 : decode cX11_evenings 89 = .ok (.ireturn, 1) := by decide +kernel
theorem dX11_rowFault_0 : decode cX11_rowFault 0 = .ok (.aload_n 0, 1) := by decide +kernel
theorem dX11_rowFault_1 : decode cX11_rowFault 1 = .ok (.getfield 101, 3) := by decide +kernel
theorem dX11_rowFault_4 : decode cX11_rowFault 4 = .ok (.iload_n 1, 1) := by decide +kernel
theorem dX11_rowFault_5 : decode cX11_rowFault 5 = .ok (.iaload, 1) := by decide +kernel
theorem dX11_rowFault_6 : decode cX11_rowFault 6 = .ok (.iconst (-1), 1) := by decide +kernel
theorem dX11_rowFault_7 : decode cX11_rowFault 7 = .ok (.if_icmp .ne 8, 3) := by decide +kernel
theorem dX11_rowFault_10 : decode cX11_rowFault 10 = .ok (.bipush (-11), 2) := by decide +kernel
theorem dX11_rowFault_12 : decode cX11_rowFault 12 = .ok (.goto 20, 3) := by decide +kernel
theorem dX11_rowFault_15 : decode cX11_rowFault 15 = .ok (.aload_n 0, 1) := by decide +kernel
theorem dX11_rowFault_16 : decode cX11_rowFault 16 = .ok (.getfield 101, 3) := by decide +kernel
theorem dX11_rowFault_19 : decode cX11_rowFault 19 = .ok (.iload_n 1, 1) := by decide +kernel
theorem dX11_rowFault_20 : decode cX11_rowFault 20 = .ok (.iaload, 1) := by decide +kernel
theorem dX11_rowFault_21 : decode cX11_rowFault 21 = .ok (.bipush (-2), 2) := by decide +kernel
theorem dX11_rowFault_23 : decode cX11_rowFault 23 = .ok (.if_icmp .ne 7, 3) := by decide +kernel
theorem dX11_rowFault_26 : decode cX11_rowFault 26 = .ok (.iconst 0, 1) := by decide +kernel
theorem dX11_rowFault_27 : decode cX11_rowFault 27 = .ok (.goto 5, 3) := by decide +kernel
theorem dX11_rowFault_30 : decode cX11_rowFault 30 = .ok (.bipush (-12), 2) := by decide +kernel
theorem dX11_rowFault_32 : decode cX11_rowFault 32 = .ok (.ireturn, 1) := by decide +kernel
theorem dX11_byteAt_0 : decode cX11_byteAt 0 = .ok (.aload_n 0, 1) := by decide +kernel
theorem dX11_byteAt_1 : decode cX11_byteAt 1 = .ok (.getfield 107, 3) := by decide +kernel
theorem dX11_byteAt_4 : decode cX11_byteAt 4 = .ok (.bipush 60, 2) := by decide +kernel
theorem dX11_byteAt_6 : decode cX11_byteAt 6 = .ok (.iload_n 1, 1) := by decide +kernel
theorem dX11_byteAt_7 : decode cX11_byteAt 7 = .ok (.imul, 1) := by decide +kernel
theorem dX11_byteAt_8 : decode cX11_byteAt 8 = .ok (.iload_n 2, 1) := by decide +kernel
theorem dX11_byteAt_9 : decode cX11_byteAt 9 = .ok (.iadd, 1) := by decide +kernel
theorem dX11_byteAt_10 : decode cX11_byteAt 10 = .ok (.laload, 1) := by decide +kernel
theorem dX11_byteAt_11 : decode cX11_byteAt 11 = .ok (.l2i, 1) := by decide +kernel
theorem dX11_byteAt_12 : decode cX11_byteAt 12 = .ok (.ireturn, 1) := by decide +kernel
set_option maxRecDepth 20000 in
theorem ggX11_fromOf_X11_byteAt : GoodIn wsX11_fromOf wsX11_byteAt := goodIn_r _ [8, 9, 10, 11, 12, 13, 14, 15, 16, 17, 18, 19, 20, 21, 22, 23, 24, 25, 26, 27, 28, 29, 30, 31, 32, 33, 34, 35, 36, 37, 38, 39, 40, 41, 42, 43, 44, 45, 46, 47, 48, 49, 50, 51, 52, 53, 54, 55, 56, 57, 58, 59] rfl (by decide +kernel)
set_option maxRecDepth 20000 in
theorem gX11_fromOf_X11_byteAt : GoodIn wsX11_fromOf (wsV RX11 304 RX11 yX11_byteAt wsX11_byteAt) := goodIn_app (goodIn_of _ (by decide +kernel)) ggX11_fromOf_X11_byteAt
theorem dX11_fromOf_0 : decode cX11_fromOf 0 = .ok (.iconst 0, 1) := by decide +kernel
theorem dX11_fromOf_1 : decode cX11_fromOf 1 = .ok (.istore_n 3, 1) := by decide +kernel
theorem dX11_fromOf_2 : decode cX11_fromOf 2 = .ok (.iload_n 3, 1) := by decide +kernel
theorem dX11_fromOf_3 : decode cX11_fromOf 3 = .ok (.aload_n 0, 1) := by decide +kernel
theorem dX11_fromOf_4 : decode cX11_fromOf 4 = .ok (.getfield 104, 3) := by decide +kernel
theorem dX11_fromOf_7 : decode cX11_fromOf 7 = .ok (.iload_n 1, 1) := by decide +kernel
theorem dX11_fromOf_8 : decode cX11_fromOf 8 = .ok (.iaload, 1) := by decide +kernel
theorem dX11_fromOf_9 : decode cX11_fromOf 9 = .ok (.iadd, 1) := by decide +kernel
theorem dX11_fromOf_10 : decode cX11_fromOf 10 = .ok (.aload_n 0, 1) := by decide +kernel
theorem dX11_fromOf_11 : decode cX11_fromOf 11 = .ok (.getfield 9, 3) := by decide +kernel
theorem dX11_fromOf_14 : decode cX11_fromOf 14 = .ok (.iload_n 2, 1) := by decide +kernel
theorem dX11_fromOf_15 : decode cX11_fromOf 15 = .ok (.iaload, 1) := by decide +kernel
theorem dX11_fromOf_16 : decode cX11_fromOf 16 = .ok (.if_icmp .gt 66, 3) := by decide +kernel
theorem dX11_fromOf_19 : decode cX11_fromOf 19 = .ok (.iconst 1, 1) := by decide +kernel
theorem dX11_fromOf_20 : decode cX11_fromOf 20 = .ok (.istore 4, 2) := by decide +kernel
theorem dX11_fromOf_22 : decode cX11_fromOf 22 = .ok (.iconst 0, 1) := by decide +kernel
theorem dX11_fromOf_23 : decode cX11_fromOf 23 = .ok (.istore 5, 2) := by decide +kernel
theorem dX11_fromOf_25 : decode cX11_fromOf 25 = .ok (.iload 5, 2) := by decide +kernel
theorem dX11_fromOf_27 : decode cX11_fromOf 27 = .ok (.aload_n 0, 1) := by decide +kernel
theorem dX11_fromOf_28 : decode cX11_fromOf 28 = .ok (.getfield 104, 3) := by decide +kernel
theorem dX11_fromOf_31 : decode cX11_fromOf 31 = .ok (.iload_n 1, 1) := by decide +kernel
theorem dX11_fromOf_32 : decode cX11_fromOf 32 = .ok (.iaload, 1) := by decide +kernel
theorem dX11_fromOf_33 : decode cX11_fromOf 33 = .ok (.if_icmp .ge 36, 3) := by decide +kernel
theorem dX11_fromOf_36 : decode cX11_fromOf 36 = .ok (.aload_n 0, 1) := by decide +kernel
theorem dX11_fromOf_37 : decode cX11_fromOf 37 = .ok (.getfield 15, 3) := by decide +kernel
theorem dX11_fromOf_40 : decode cX11_fromOf 40 = .ok (.bipush 12, 2) := by decide +kernel
theorem dX11_fromOf_42 : decode cX11_fromOf 42 = .ok (.iload_n 2, 1) := by decide +kernel
theorem dX11_fromOf_43 : decode cX11_fromOf 43 = .ok (.imul, 1) := by decide +kernel
theorem dX11_fromOf_44 : decode cX11_fromOf 44 = .ok (.iload_n 3, 1) := by decide +kernel
theorem dX11_fromOf_45 : decode cX11_fromOf 45 = .ok (.iadd, 1) := by decide +kernel
theorem dX11_fromOf_46 : decode cX11_fromOf 46 = .ok (.iload 5, 2) := by decide +kernel
theorem dX11_fromOf_48 : decode cX11_fromOf 48 = .ok (.iadd, 1) := by decide +kernel
theorem dX11_fromOf_49 : decode cX11_fromOf 49 = .ok (.iaload, 1) := by decide +kernel
theorem dX11_fromOf_50 : decode cX11_fromOf 50 = .ok (.aload_n 0, 1) := by decide +kernel
theorem dX11_fromOf_51 : decode cX11_fromOf 51 = .ok (.iload_n 1, 1) := by decide +kernel
theorem dX11_fromOf_52 : decode cX11_fromOf 52 = .ok (.iload 5, 2) := by decide +kernel
theorem dX11_fromOf_54 : decode cX11_fromOf 54 = .ok (.invokevirtual 304, 3) := by decide +kernel
theorem dX11_fromOf_57 : decode cX11_fromOf 57 = .ok (.if_icmp .eq 6, 3) := by decide +kernel
theorem dX11_fromOf_60 : decode cX11_fromOf 60 = .ok (.iconst 0, 1) := by decide +kernel
theorem dX11_fromOf_61 : decode cX11_fromOf 61 = .ok (.istore 4, 2) := by decide +kernel
theorem dX11_fromOf_63 : decode cX11_fromOf 63 = .ok (.iinc 5 1, 3) := by decide +kernel
theorem dX11_fromOf_66 : decode cX11_fromOf 66 = .ok (.goto (-41), 3) := by decide +kernel
theorem dX11_fromOf_69 : decode cX11_fromOf 69 = .ok (.iload 4, 2) := by decide +kernel
theorem dX11_fromOf_71 : decode cX11_fromOf 71 = .ok (.ifCond .eq 5, 3) := by decide +kernel
theorem dX11_fromOf_74 : decode cX11_fromOf 74 = .ok (.iload_n 3, 1) := by decide +kernel
theorem dX11_fromOf_75 : decode cX11_fromOf 75 = .ok (.ireturn, 1) := by decide +kernel
theorem dX11_fromOf_76 : decode cX11_fromOf 76 = .ok (.iinc 3 1, 3) := by decide +kernel
theorem dX11_fromOf_79 : decode cX11_fromOf 79 = .ok (.goto (-77), 3) := by decide +kernel
theorem dX11_fromOf_82 : decode cX11_fromOf 82 = .ok (.bipush (-2), 2) := by decide +kernel
theorem dX11_fromOf_84 : decode cX11_fromOf 84 = .ok (.ireturn, 1) := by decide +kernel
set_option maxRecDepth 20000 in
theorem ggX11_which_X11_isShelf : GoodIn wsX11_which wsX11_isShelf := goodIn_r _ [4, 5, 6, 3, 7] rfl (by decide +kernel)
set_option maxRecDepth 20000 in
theorem gX11_which_X11_isShelf : GoodIn wsX11_which (va_wsS RX11 130 yX11_isShelf wsX11_isShelf) := goodIn_app (goodIn_of _ (by decide +kernel)) ggX11_which_X11_isShelf
set_option maxRecDepth 20000 in
theorem ggX11_which_X11_rowFault : GoodIn wsX11_which wsX11_rowFault := goodIn_r _ [11, 12, 25, 26, 27, 28, 29, 30, 31, 32, 33, 34, 35, 36, 37, 38, 39, 40, 41, 42, 43, 44, 45, 46, 47, 48, 49, 50, 51, 52, 53, 54, 55, 56, 57, 58, 59, 60, 61, 62, 63, 64, 65, 66, 67, 68, 69, 70, 71, 72, 73, 74] rfl (by decide +kernel)
set_option maxRecDepth 20000 in
theorem gX11_which_X11_rowFault : GoodIn wsX11_which (wsV RX11 307 RX11 yX11_rowFault wsX11_rowFault) := goodIn_app (goodIn_of _ (by decide +kernel)) ggX11_which_X11_rowFault
set_option maxRecDepth 20000 in
theorem ggX11_which_X11_fromOf : GoodIn wsX11_which wsX11_fromOf := goodIn_r _ [16, 17, 18, 19, 20, 21, 22, 3, 23, 24, 25, 26, 27, 28, 29, 30, 31, 32, 33, 34, 35, 36, 37, 38, 39, 40, 41, 42, 43, 44, 45, 46, 47, 48, 49, 50, 51, 52, 53, 54, 55, 56, 57, 58, 59, 60, 61, 62, 63, 64, 65, 66, 67, 68, 69, 70, 71, 72, 73, 74] rfl (by decide +kernel)
set_option maxRecDepth 20000 in
theorem gX11_which_X11_fromOf : GoodIn wsX11_which (wsV RX11 310 RX11 yX11_fromOf wsX11_fromOf) := goodIn_app (goodIn_of _ (by decide +kernel)) ggX11_which_X11_fromOf
theorem dX11_which_0 : decode cX11_which 0 = .ok (.iload_n 1, 1) := by decide +kernel
theorem dX11_which_1 : decode cX11_which 1 = .ok (.invokestatic 130, 3) := by decide +kernel
theorem dX11_which_4 : decode cX11_which 4 = .ok (.ifCond .ne 5, 3) := by decide +kernel
theorem dX11_which_7 : decode cX11_which 7 = .ok (.iconst (-1), 1) := by decide +kernel
theorem dX11_which_8 : decode cX11_which 8 = .ok (.ireturn, 1) := by decide +kernel
theorem dX11_which_9 : decode cX11_which 9 = .ok (.aload_n 0, 1) := by decide +kernel
theorem dX11_which_10 : decode cX11_which 10 = .ok (.iload_n 1, 1) := by decide +kernel
theorem dX11_which_11 : decode cX11_which 11 = .ok (.invokevirtual 307, 3) := by decide +kernel
theorem dX11_which_14 : decode cX11_which 14 = .ok (.ifCond .ge 9, 3) := by decide +kernel
theorem dX11_which_17 : decode cX11_which 17 = .ok (.aload_n 0, 1) := by decide +kernel
theorem dX11_which_18 : decode cX11_which 18 = .ok (.iload_n 1, 1) := by decide +kernel
theorem dX11_which_19 : decode cX11_which 19 = .ok (.invokevirtual 307, 3) := by decide +kernel
theorem dX11_which_22 : decode cX11_which 22 = .ok (.ireturn, 1) := by decide +kernel
theorem dX11_which_23 : decode cX11_which 23 = .ok (.iconst 0, 1) := by decide +kernel
theorem dX11_which_24 : decode cX11_which 24 = .ok (.istore_n 2, 1) := by decide +kernel
theorem dX11_which_25 : decode cX11_which 25 = .ok (.iconst 0, 1) := by decide +kernel
theorem dX11_which_26 : decode cX11_which 26 = .ok (.istore_n 3, 1) := by decide +kernel
theorem dX11_which_27 : decode cX11_which 27 = .ok (.iload_n 3, 1) := by decide +kernel
theorem dX11_which_28 : decode cX11_which 28 = .ok (.iconst 3, 1) := by decide +kernel
theorem dX11_which_29 : decode cX11_which 29 = .ok (.if_icmp .ge 24, 3) := by decide +kernel
theorem dX11_which_32 : decode cX11_which 32 = .ok (.aload_n 0, 1) := by decide +kernel
theorem dX11_which_33 : decode cX11_which 33 = .ok (.iload_n 1, 1) := by decide +kernel
theorem dX11_which_34 : decode cX11_which 34 = .ok (.iload_n 3, 1) := by decide +kernel
theorem dX11_which_35 : decode cX11_which 35 = .ok (.invokevirtual 310, 3) := by decide +kernel
theorem dX11_which_38 : decode cX11_which 38 = .ok (.ifCond .lt 9, 3) := by decide +kernel
theorem dX11_which_41 : decode cX11_which 41 = .ok (.iload_n 2, 1) := by decide +kernel
theorem dX11_which_42 : decode cX11_which 42 = .ok (.iconst 1, 1) := by decide +kernel
theorem dX11_which_43 : decode cX11_which 43 = .ok (.iload_n 3, 1) := by decide +kernel
theorem dX11_which_44 : decode cX11_which 44 = .ok (.ishl, 1) := by decide +kernel
theorem dX11_which_45 : decode cX11_which 45 = .ok (.ior, 1) := by decide +kernel
theorem dX11_which_46 : decode cX11_which 46 = .ok (.istore_n 2, 1) := by decide +kernel
theorem dX11_which_47 : decode cX11_which 47 = .ok (.iinc 3 1, 3) := by decide +kernel
theorem dX11_which_50 : decode cX11_which 50 = .ok (.goto (-23), 3) := by decide +kernel
theorem dX11_which_53 : decode cX11_which 53 = .ok (.iload_n 2, 1) := by decide +kernel
theorem dX11_which_54 : decode cX11_which 54 = .ok (.ireturn, 1) := by decide +kernel
set_option maxRecDepth 20000 in
theorem ggX11_from_X11_isShelf : GoodIn wsX11_from wsX11_isShelf := goodIn_r _ [4, 5, 6, 3, 7] rfl (by decide +kernel)
set_option maxRecDepth 20000 in
theorem gX11_from_X11_isShelf : GoodIn wsX11_from (va_wsS RX11 130 yX11_isShelf wsX11_isShelf) := goodIn_app (goodIn_of _ (by decide +kernel)) ggX11_from_X11_isShelf
set_option maxRecDepth 20000 in
theorem ggX11_from_X11_isSong : GoodIn wsX11_from wsX11_isSong := goodIn_r _ [10, 5, 6, 3, 7] rfl (by decide +kernel)
set_option maxRecDepth 20000 in
theorem gX11_from_X11_isSong : GoodIn wsX11_from (va_wsS RX11 122 yX11_isSong wsX11_isSong) := goodIn_app (goodIn_of _ (by decide +kernel)) ggX11_from_X11_isSong
set_option maxRecDepth 20000 in
theorem ggX11_from_X11_rowFault : GoodIn wsX11_from wsX11_rowFault := goodIn_r _ [14, 15, 28, 29, 30, 31, 32, 33, 34, 35, 36, 37, 38, 39, 40, 41, 42, 43, 44, 45, 46, 47, 48, 49, 50, 51, 52, 53, 54, 55, 56, 57, 58, 59, 60, 61, 62, 63, 64, 65, 66, 67, 68, 69, 70, 71, 72, 73, 74, 75, 76, 77] rfl (by decide +kernel)
set_option maxRecDepth 20000 in
theorem gX11_from_X11_rowFault : GoodIn wsX11_from (wsV RX11 307 RX11 yX11_rowFault wsX11_rowFault) := goodIn_app (goodIn_of _ (by decide +kernel)) ggX11_from_X11_rowFault
set_option maxRecDepth 20000 in
theorem ggX11_from_X11_fromOf : GoodIn wsX11_from wsX11_fromOf := goodIn_r _ [19, 20, 21, 22, 23, 24, 25, 3, 26, 27, 28, 29, 30, 31, 32, 33, 34, 35, 36, 37, 38, 39, 40, 41, 42, 43, 44, 45, 46, 47, 48, 49, 50, 51, 52, 53, 54, 55, 56, 57, 58, 59, 60, 61, 62, 63, 64, 65, 66, 67, 68, 69, 70, 71, 72, 73, 74, 75, 76, 77] rfl (by decide +kernel)
set_option maxRecDepth 20000 in
theorem gX11_from_X11_fromOf : GoodIn wsX11_from (wsV RX11 310 RX11 yX11_fromOf wsX11_fromOf) := goodIn_app (goodIn_of _ (by decide +kernel)) ggX11_from_X11_fromOf
theorem dX11_from_0 : decode cX11_from 0 = .ok (.iload_n 1, 1) := by decide +kernel
theorem dX11_from_1 : decode cX11_from 1 = .ok (.invokestatic 130, 3) := by decide +kernel
theorem dX11_from_4 : decode cX11_from 4 = .ok (.ifCond .eq 10, 3) := by decide +kernel
theorem dX11_from_7 : decode cX11_from 7 = .ok (.iload_n 2, 1) := by decide +kernel
theorem dX11_from_8 : decode cX11_from 8 = .ok (.invokestatic 122, 3) := by decide +kernel
theorem dX11_from_11 : decode cX11_from 11 = .ok (.ifCond .ne 5, 3) := by decide +kernel
theorem dX11_from_14 : decode cX11_from 14 = .ok (.iconst (-1), 1) := by decide +kernel
theorem dX11_from_15 : decode cX11_from 15 = .ok (.ireturn, 1) := by decide +kernel
theorem dX11_from_16 : decode cX11_from 16 = .ok (.aload_n 0, 1) := by decide +kernel
theorem dX11_from_17 : decode cX11_from 17 = .ok (.iload_n 1, 1) := by decide +kernel
theorem dX11_from_18 : decode cX11_from 18 = .ok (.invokevirtual 307, 3) := by decide +kernel
theorem dX11_from_21 : decode cX11_from 21 = .ok (.ifCond .ge 11, 3) := by decide +kernel
theorem dX11_from_24 : decode cX11_from 24 = .ok (.aload_n 0, 1) := by decide +kernel
theorem dX11_from_25 : decode cX11_from 25 = .ok (.iload_n 1, 1) := by decide +kernel
theorem dX11_from_26 : decode cX11_from 26 = .ok (.invokevirtual 307, 3) := by decide +kernel
theorem dX11_from_29 : decode cX11_from 29 = .ok (.goto 9, 3) := by decide +kernel
theorem dX11_from_32 : decode cX11_from 32 = .ok (.aload_n 0, 1) := by decide +kernel
theorem dX11_from_33 : decode cX11_from 33 = .ok (.iload_n 1, 1) := by decide +kernel
theorem dX11_from_34 : decode cX11_from 34 = .ok (.iload_n 2, 1) := by decide +kernel
theorem dX11_from_35 : decode cX11_from 35 = .ok (.invokevirtual 310, 3) := by decide +kernel
theorem dX11_from_38 : decode cX11_from 38 = .ok (.ireturn, 1) := by decide +kernel
set_option maxRecDepth 20000 in
theorem ggX11_wrongIn_X11_byteAt : GoodIn wsX11_wrongIn wsX11_byteAt := goodIn_r _ [9, 10, 74, 75, 76, 77, 78, 79, 80, 81, 82, 83, 84, 85, 86, 87, 88, 89, 90, 91, 92, 93, 94, 95, 96, 97, 98, 99, 100, 101, 102, 103, 104, 105, 106, 107, 108, 109, 110, 111, 112, 113, 114, 115, 116, 117, 118, 119, 120, 121, 122, 123] rfl (by decide +kernel)
set_option maxRecDepth 20000 in
theorem gX11_wrongIn_X11_byteAt : GoodIn wsX11_wrongIn (wsV RX11 304 RX11 yX11_byteAt wsX11_byteAt) := goodIn_app (goodIn_of _ (by decide +kernel)) ggX11_wrongIn_X11_byteAt
set_option maxRecDepth 20000 in
theorem ggX11_wrongIn_X11_in : GoodIn wsX11_wrongIn wsX11_in := goodIn_r _ [13] rfl (by decide +kernel)
set_option maxRecDepth 20000 in
theorem gX11_wrongIn_X11_in : GoodIn wsX11_wrongIn (va_wsS RX11 118 yX11_in wsX11_in) := goodIn_app (goodIn_of _ (by decide +kernel)) ggX11_wrongIn_X11_in
set_option maxRecDepth 20000 in
theorem ggX11_wrongIn_X11_goSinging : GoodIn wsX11_wrongIn wsX11_goSinging := goodIn_r _ [17, 3, 18, 19, 20, 4, 21, 22, 23, 24, 25, 8, 26, 27, 28, 29, 30, 31, 32, 33, 34, 35, 36, 37, 38, 39, 40, 41, 42, 43, 44, 45, 46, 2, 47, 48, 49, 50, 51, 52, 53, 54, 55, 56, 57, 58, 59, 60, 61, 62, 63, 64, 65, 66, 67, 68, 69, 70, 71, 72, 73, 74, 75, 76, 77, 78, 79, 80, 81, 82, 83, 84, 85, 86, 87, 88, 89, 90, 91, 92, 93, 94, 95, 96, 97, 98, 99, 100, 101, 102, 103, 104, 105, 106, 107, 108, 109, 110, 111, 112, 113, 114, 115, 116, 117, 118, 119, 120, 121, 122, 123] rfl (by decide +kernel)
set_option maxRecDepth 20000 in
theorem gX11_wrongIn_X11_goSinging : GoodIn wsX11_wrongIn (wsV RX11 286 RX11 yX11_goSinging wsX11_goSinging) := goodIn_app (goodIn_of _ (by decide +kernel)) ggX11_wrongIn_X11_goSinging
theorem dX11_wrongIn_0 : decode cX11_wrongIn 0 = .ok (.aload_n 0, 1) := by decide +kernel
theorem dX11_wrongIn_1 : decode cX11_wrongIn 1 = .ok (.getfield 104, 3) := by decide +kernel
theorem dX11_wrongIn_4 : decode cX11_wrongIn 4 = .ok (.iload_n 1, 1) := by decide +kernel
theorem dX11_wrongIn_5 : decode cX11_wrongIn 5 = .ok (.iaload, 1) := by decide +kernel
theorem dX11_wrongIn_6 : decode cX11_wrongIn 6 = .ok (.ifCond .ne 6, 3) := by decide +kernel
theorem dX11_wrongIn_9 : decode cX11_wrongIn 9 = .ok (.bipush (-2), 2) := by decide +kernel
theorem dX11_wrongIn_11 : decode cX11_wrongIn 11 = .ok (.ireturn, 1) := by decide +kernel
theorem dX11_wrongIn_12 : decode cX11_wrongIn 12 = .ok (.aload_n 0, 1) := by decide +kernel
theorem dX11_wrongIn_13 : decode cX11_wrongIn 13 = .ok (.iload_n 1, 1) := by decide +kernel
theorem dX11_wrongIn_14 : decode cX11_wrongIn 14 = .ok (.iconst 0, 1) := by decide +kernel
theorem dX11_wrongIn_15 : decode cX11_wrongIn 15 = .ok (.invokevirtual 304, 3) := by decide +kernel
theorem dX11_wrongIn_18 : decode cX11_wrongIn 18 = .ok (.iconst 0, 1) := by decide +kernel
theorem dX11_wrongIn_19 : decode cX11_wrongIn 19 = .ok (.aload_n 0, 1) := by decide +kernel
theorem dX11_wrongIn_20 : decode cX11_wrongIn 20 = .ok (.getfield 9, 3) := by decide +kernel
theorem dX11_wrongIn_23 : decode cX11_wrongIn 23 = .ok (.iload_n 2, 1) := by decide +kernel
theorem dX11_wrongIn_24 : decode cX11_wrongIn 24 = .ok (.iaload, 1) := by decide +kernel
theorem dX11_wrongIn_25 : decode cX11_wrongIn 25 = .ok (.iconst 1, 1) := by decide +kernel
theorem dX11_wrongIn_26 : decode cX11_wrongIn 26 = .ok (.isub, 1) := by decide +kernel
theorem dX11_wrongIn_27 : decode cX11_wrongIn 27 = .ok (.invokestatic 118, 3) := by decide +kernel
theorem dX11_wrongIn_30 : decode cX11_wrongIn 30 = .ok (.ifCond .ne 5, 3) := by decide +kernel
theorem dX11_wrongIn_33 : decode cX11_wrongIn 33 = .ok (.iconst 0, 1) := by decide +kernel
theorem dX11_wrongIn_34 : decode cX11_wrongIn 34 = .ok (.ireturn, 1) := by decide +kernel
theorem dX11_wrongIn_35 : decode cX11_wrongIn 35 = .ok (.aload_n 0, 1) := by decide +kernel
theorem dX11_wrongIn_36 : decode cX11_wrongIn 36 = .ok (.iload_n 2, 1) := by decide +kernel
theorem dX11_wrongIn_37 : decode cX11_wrongIn 37 = .ok (.aload_n 0, 1) := by decide +kernel
theorem dX11_wrongIn_38 : decode cX11_wrongIn 38 = .ok (.iload_n 1, 1) := by decide +kernel
theorem dX11_wrongIn_39 : decode cX11_wrongIn 39 = .ok (.iconst 0, 1) := by decide +kernel
theorem dX11_wrongIn_40 : decode cX11_wrongIn 40 = .ok (.invokevirtual 304, 3) := by decide +kernel
theorem dX11_wrongIn_43 : decode cX11_wrongIn 43 = .ok (.invokevirtual 286, 3) := by decide +kernel
theorem dX11_wrongIn_46 : decode cX11_wrongIn 46 = .ok (.iconst 0, 1) := by decide +kernel
theorem dX11_wrongIn_47 : decode cX11_wrongIn 47 = .ok (.istore_n 3, 1) := by decide +kernel
theorem dX11_wrongIn_48 : decode cX11_wrongIn 48 = .ok (.iload_n 3, 1) := by decide +kernel
theorem dX11_wrongIn_49 : decode cX11_wrongIn 49 = .ok (.aload_n 0, 1) := by decide +kernel
theorem dX11_wrongIn_50 : decode cX11_wrongIn 50 = .ok (.getfield 104, 3) := by decide +kernel
theorem dX11_wrongIn_53 : decode cX11_wrongIn 53 = .ok (.iload_n 1, 1) := by decide +kernel
theorem dX11_wrongIn_54 : decode cX11_wrongIn 54 = .ok (.iaload, 1) := by decide +kernel
theorem dX11_wrongIn_55 : decode cX11_wrongIn 55 = .ok (.if_icmp .ge 34, 3) := by decide +kernel
theorem dX11_wrongIn_58 : decode cX11_wrongIn 58 = .ok (.iload_n 3, 1) := by decide +kernel
theorem dX11_wrongIn_59 : decode cX11_wrongIn 59 = .ok (.aload_n 0, 1) := by decide +kernel
theorem dX11_wrongIn_60 : decode cX11_wrongIn 60 = .ok (.getfield 268, 3) := by decide +kernel
theorem dX11_wrongIn_63 : decode cX11_wrongIn 63 = .ok (.if_icmp .ge 18, 3) := by decide +kernel
theorem dX11_wrongIn_66 : decode cX11_wrongIn 66 = .ok (.aload_n 0, 1) := by decide +kernel
theorem dX11_wrongIn_67 : decode cX11_wrongIn 67 = .ok (.getfield 71, 3) := by decide +kernel
theorem dX11_wrongIn_70 : decode cX11_wrongIn 70 = .ok (.iload_n 3, 1) := by decide +kernel
theorem dX11_wrongIn_71 : decode cX11_wrongIn 71 = .ok (.iaload, 1) := by decide +kernel
theorem dX11_wrongIn_72 : decode cX11_wrongIn 72 = .ok (.aload_n 0, 1) := by decide +kernel
theorem dX11_wrongIn_73 : decode cX11_wrongIn 73 = .ok (.iload_n 1, 1) := by decide +kernel
theorem dX11_wrongIn_74 : decode cX11_wrongIn 74 = .ok (.iload_n 3, 1) := by decide +kernel
theorem dX11_wrongIn_75 : decode cX11_wrongIn 75 = .ok (.invokevirtual 304, 3) := by decide +kernel
theorem dX11_wrongIn_78 : decode cX11_wrongIn 78 = .ok (.if_icmp .eq 5, 3) := by decide +kernel
theorem dX11_wrongIn_81 : decode cX11_wrongIn 81 = .ok (.iload_n 3, 1) := by decide +kernel
theorem dX11_wrongIn_82 : decode cX11_wrongIn 82 = .ok (.ireturn, 1) := by decide +kernel
theorem dX11_wrongIn_83 : decode cX11_wrongIn 83 = .ok (.iinc 3 1, 3) := by decide +kernel
theorem dX11_wrongIn_86 : decode cX11_wrongIn 86 = .ok (.goto (-38), 3) := by decide +kernel
theorem dX11_wrongIn_89 : decode cX11_wrongIn 89 = .ok (.bipush (-2), 2) := by decide +kernel
theorem dX11_wrongIn_91 : decode cX11_wrongIn 91 = .ok (.ireturn, 1) := by decide +kernel
set_option maxRecDepth 20000 in
theorem ggX11_judge_X11_isShelf : GoodIn wsX11_judge wsX11_isShelf := goodIn_r _ [4, 5, 6, 3, 7] rfl (by decide +kernel)
set_option maxRecDepth 20000 in
theorem gX11_judge_X11_isShelf : GoodIn wsX11_judge (va_wsS RX11 130 yX11_isShelf wsX11_isShelf) := goodIn_app (goodIn_of _ (by decide +kernel)) ggX11_judge_X11_isShelf
set_option maxRecDepth 20000 in
theorem ggX11_judge_X11_isSong : GoodIn wsX11_judge wsX11_isSong := goodIn_r _ [10, 5, 6, 3, 7] rfl (by decide +kernel)
set_option maxRecDepth 20000 in
theorem gX11_judge_X11_isSong : GoodIn wsX11_judge (va_wsS RX11 122 yX11_isSong wsX11_isSong) := goodIn_app (goodIn_of _ (by decide +kernel)) ggX11_judge_X11_isSong
set_option maxRecDepth 20000 in
theorem ggX11_judge_X11_rowFault : GoodIn wsX11_judge wsX11_rowFault := goodIn_r _ [14, 15, 89, 90, 91, 92, 93, 94, 95, 96, 97, 98, 99, 100, 101, 102, 103, 104, 105, 106, 107, 108, 109, 110, 111, 112, 113, 114, 115, 116, 117, 118, 119, 120, 121, 122, 123, 124, 125, 126, 127, 128, 129, 130, 131, 132, 133, 134, 135, 136, 137, 138] rfl (by decide +kernel)
set_option maxRecDepth 20000 in
theorem gX11_judge_X11_rowFault : GoodIn wsX11_judge (wsV RX11 307 RX11 yX11_rowFault wsX11_rowFault) := goodIn_app (goodIn_of _ (by decide +kernel)) ggX11_judge_X11_rowFault
set_option maxRecDepth 20000 in
theorem ggX11_judge_X11_wrongIn : GoodIn wsX11_judge wsX11_wrongIn := goodIn_r _ [19, 20, 21, 22, 23, 24, 25, 26, 3, 27, 28, 5, 6, 7, 29, 30, 31, 32, 33, 34, 35, 36, 37, 38, 39, 40, 41, 42, 43, 44, 45, 46, 47, 48, 49, 50, 51, 52, 53, 54, 55, 56, 57, 58, 59, 60, 61, 62, 63, 64, 65, 66, 67, 68, 69, 70, 71, 72, 73, 74, 75, 76, 77, 78, 79, 80, 81, 82, 83, 84, 85, 86, 87, 88, 89, 90, 91, 92, 93, 94, 95, 96, 97, 98, 99, 100, 101, 102, 103, 104, 105, 106, 107, 108, 109, 110, 111, 112, 113, 114, 115, 116, 117, 118, 119, 120, 121, 122, 123, 124, 125, 126, 127, 128, 129, 130, 131, 132, 133, 134, 135, 136, 137, 138] rfl (by decide +kernel)
set_option maxRecDepth 20000 in
theorem gX11_judge_X11_wrongIn : GoodIn wsX11_judge (wsV RX11 313 RX11 yX11_wrongIn wsX11_wrongIn) := goodIn_app (goodIn_of _ (by decide +kernel)) ggX11_judge_X11_wrongIn
theorem dX11_judge_0 : decode cX11_judge 0 = .ok (.iload_n 1, 1) := by decide +kernel
theorem dX11_judge_1 : decode cX11_judge 1 = .ok (.invokestatic 130, 3) := by decide +kernel
theorem dX11_judge_4 : decode cX11_judge 4 = .ok (.ifCond .eq 10, 3) := by decide +kernel
theorem dX11_judge_7 : decode cX11_judge 7 = .ok (.iload_n 2, 1) := by decide +kernel
theorem dX11_judge_8 : decode cX11_judge 8 = .ok (.invokestatic 122, 3) := by decide +kernel
theorem dX11_judge_11 : decode cX11_judge 11 = .ok (.ifCond .ne 5, 3) := by decide +kernel
theorem dX11_judge_14 : decode cX11_judge 14 = .ok (.iconst (-1), 1) := by decide +kernel
theorem dX11_judge_15 : decode cX11_judge 15 = .ok (.ireturn, 1) := by decide +kernel
theorem dX11_judge_16 : decode cX11_judge 16 = .ok (.aload_n 0, 1) := by decide +kernel
theorem dX11_judge_17 : decode cX11_judge 17 = .ok (.iload_n 1, 1) := by decide +kernel
theorem dX11_judge_18 : decode cX11_judge 18 = .ok (.invokevirtual 307, 3) := by decide +kernel
theorem dX11_judge_21 : decode cX11_judge 21 = .ok (.ifCond .ge 11, 3) := by decide +kernel
theorem dX11_judge_24 : decode cX11_judge 24 = .ok (.aload_n 0, 1) := by decide +kernel
theorem dX11_judge_25 : decode cX11_judge 25 = .ok (.iload_n 1, 1) := by decide +kernel
theorem dX11_judge_26 : decode cX11_judge 26 = .ok (.invokevirtual 307, 3) := by decide +kernel
theorem dX11_judge_29 : decode cX11_judge 29 = .ok (.goto 9, 3) := by decide +kernel
theorem dX11_judge_32 : decode cX11_judge 32 = .ok (.aload_n 0, 1) := by decide +kernel
theorem dX11_judge_33 : decode cX11_judge 33 = .ok (.iload_n 1, 1) := by decide +kernel
theorem dX11_judge_34 : decode cX11_judge 34 = .ok (.iload_n 2, 1) := by decide +kernel
theorem dX11_judge_35 : decode cX11_judge 35 = .ok (.invokevirtual 313, 3) := by decide +kernel
theorem dX11_judge_38 : decode cX11_judge 38 = .ok (.ireturn, 1) := by decide +kernel
set_option maxRecDepth 20000 in
theorem ggX11_lacked_X11_isShelf : GoodIn wsX11_lacked wsX11_isShelf := goodIn_r _ [6, 7, 8, 5, 9] rfl (by decide +kernel)
set_option maxRecDepth 20000 in
theorem gX11_lacked_X11_isShelf : GoodIn wsX11_lacked (va_wsS RX11 130 yX11_isShelf wsX11_isShelf) := goodIn_app (goodIn_of _ (by decide +kernel)) ggX11_lacked_X11_isShelf
set_option maxRecDepth 20000 in
theorem ggX11_lacked_X11_isSong : GoodIn wsX11_lacked wsX11_isSong := goodIn_r _ [12, 7, 8, 5, 9] rfl (by decide +kernel)
set_option maxRecDepth 20000 in
theorem gX11_lacked_X11_isSong : GoodIn wsX11_lacked (va_wsS RX11 122 yX11_isSong wsX11_isSong) := goodIn_app (goodIn_of _ (by decide +kernel)) ggX11_lacked_X11_isSong
set_option maxRecDepth 20000 in
theorem ggX11_lacked_X11_rowFault : GoodIn wsX11_lacked wsX11_rowFault := goodIn_r _ [16, 17, 94, 95, 96, 97, 98, 99, 100, 101, 102, 103, 104, 105, 106, 107, 108, 109, 110, 111, 112, 113, 114, 115, 116, 117, 118, 119, 120, 121, 122, 123, 124, 125, 126, 127, 128, 129, 130, 131, 132, 133, 134, 135, 136, 137, 138, 139, 140, 141, 142, 143] rfl (by decide +kernel)
set_option maxRecDepth 20000 in
theorem gX11_lacked_X11_rowFault : GoodIn wsX11_lacked (wsV RX11 307 RX11 yX11_rowFault wsX11_rowFault) := goodIn_app (goodIn_of _ (by decide +kernel)) ggX11_lacked_X11_rowFault
set_option maxRecDepth 20000 in
theorem ggX11_lacked_X11_bitAt : GoodIn wsX11_lacked wsX11_bitAt := goodIn_r _ [21, 22, 23, 24, 5, 25, 94, 95, 96, 97, 98, 99, 100, 101, 102, 103, 104, 105, 106, 107, 108, 109, 110, 111, 112, 113, 114, 115, 116, 117, 118, 119, 120, 121, 122, 123, 124, 125, 126, 127, 128, 129, 130, 131, 132, 133, 134, 135, 136, 137, 138, 139, 140, 141, 142, 143] rfl (by decide +kernel)
set_option maxRecDepth 20000 in
theorem gX11_lacked_X11_bitAt : GoodIn wsX11_lacked (wsV RX11 145 RX11 yX11_bitAt wsX11_bitAt) := goodIn_app (goodIn_of _ (by decide +kernel)) ggX11_lacked_X11_bitAt
set_option maxRecDepth 20000 in
theorem ggX11_lacked_X11_give : GoodIn wsX11_lacked wsX11_give := goodIn_r _ [29, 22, 23, 24, 5, 25, 94, 95, 96, 97, 98, 99, 100, 101, 102, 103, 104, 105, 106, 107, 108, 109, 110, 111, 112, 113, 114, 115, 116, 117, 118, 119, 120, 121, 122, 123, 124, 125, 126, 127, 128, 129, 130, 131, 132, 133, 134, 135, 136, 137, 138, 139, 140, 141, 142, 143] rfl (by decide +kernel)
set_option maxRecDepth 20000 in
theorem gX11_lacked_X11_give : GoodIn wsX11_lacked (wsV RX11 148 RX11 yX11_give wsX11_give) := goodIn_app (goodIn_of _ (by decide +kernel)) ggX11_lacked_X11_give
set_option maxRecDepth 20000 in
theorem ggX11_lacked_X11_wrongIn : GoodIn wsX11_lacked wsX11_wrongIn := goodIn_r _ [33, 34, 2, 35, 36, 37, 38, 39, 5, 40, 41, 7, 8, 9, 42, 43, 44, 45, 46, 47, 48, 49, 50, 51, 52, 53, 54, 55, 56, 57, 58, 59, 60, 61, 62, 18, 19, 20, 21, 22, 23, 24, 25, 63, 64, 65, 66, 67, 68, 69, 70, 71, 72, 73, 74, 75, 76, 77, 78, 79, 80, 81, 82, 83, 84, 85, 86, 87, 88, 89, 90, 91, 92, 93, 94, 95, 96, 97, 98, 99, 100, 101, 102, 103, 104, 105, 106, 107, 108, 109, 110, 111, 112, 113, 114, 115, 116, 117, 118, 119, 120, 121, 122, 123, 124, 125, 126, 127, 128, 129, 130, 131, 132, 133, 134, 135, 136, 137, 138, 139, 140, 141, 142, 143] rfl (by decide +kernel)
set_option maxRecDepth 20000 in
theorem gX11_lacked_X11_wrongIn : GoodIn wsX11_lacked (wsV RX11 313 RX11 yX11_wrongIn wsX11_wrongIn) := goodIn_app (goodIn_of _ (by decide +kernel)) ggX11_lacked_X11_wrongIn
theorem dX11_lacked_0 : decode cX11_lacked 0 = .ok (.iload_n 1, 1) := by decide +kernel
theorem dX11_lacked_1 : decode cX11_lacked 1 = .ok (.invokestatic 130, 3) := by decide +kernel
theorem dX11_lacked_4 : decode cX11_lacked 4 = .ok (.ifCond .eq 18, 3) := by decide +kernel
theorem dX11_lacked_7 : decode cX11_lacked 7 = .ok (.iload_n 2, 1) := by decide +kernel
theorem dX11_lacked_8 : decode cX11_lacked 8 = .ok (.invokestatic 122, 3) := by decide +kernel
theorem dX11_lacked_11 : decode cX11_lacked 11 = .ok (.ifCond .eq 11, 3) := by decide +kernel
theorem dX11_lacked_14 : decode cX11_lacked 14 = .ok (.aload_n 0, 1) := by decide +kernel
theorem dX11_lacked_15 : decode cX11_lacked 15 = .ok (.iload_n 1, 1) := by decide +kernel
theorem dX11_lacked_16 : decode cX11_lacked 16 = .ok (.invokevirtual 307, 3) := by decide +kernel
theorem dX11_lacked_19 : decode cX11_lacked 19 = .ok (.ifCond .ge 7, 3) := by decide +kernel
theorem dX11_lacked_22 : decode cX11_lacked 22 = .ok (.ldc2_w 316, 3) := by decide +kernel
theorem dX11_lacked_25 : decode cX11_lacked 25 = .ok (.lreturn, 1) := by decide +kernel
theorem dX11_lacked_26 : decode cX11_lacked 26 = .ok (.lconst 0, 1) := by decide +kernel
theorem dX11_lacked_27 : decode cX11_lacked 27 = .ok (.lstore_n 3, 1) := by decide +kernel
theorem dX11_lacked_28 : decode cX11_lacked 28 = .ok (.iconst 0, 1) := by decide +kernel
theorem dX11_lacked_29 : decode cX11_lacked 29 = .ok (.istore 5, 2) := by decide +kernel
theorem dX11_lacked_31 : decode cX11_lacked 31 = .ok (.iload 5, 2) := by decide +kernel
theorem dX11_lacked_33 : decode cX11_lacked 33 = .ok (.aload_n 0, 1) := by decide +kernel
theorem dX11_lacked_34 : decode cX11_lacked 34 = .ok (.getfield 9, 3) := by decide +kernel
theorem dX11_lacked_37 : decode cX11_lacked 37 = .ok (.iload_n 2, 1) := by decide +kernel
theorem dX11_lacked_38 : decode cX11_lacked 38 = .ok (.iaload, 1) := by decide +kernel
theorem dX11_lacked_39 : decode cX11_lacked 39 = .ok (.if_icmp .ge 117, 3) := by decide +kernel
theorem dX11_lacked_42 : decode cX11_lacked 42 = .ok (.iconst 0, 1) := by decide +kernel
theorem dX11_lacked_43 : decode cX11_lacked 43 = .ok (.istore 6, 2) := by decide +kernel
theorem dX11_lacked_45 : decode cX11_lacked 45 = .ok (.iload 6, 2) := by decide +kernel
theorem dX11_lacked_47 : decode cX11_lacked 47 = .ok (.iconst 4, 1) := by decide +kernel
theorem dX11_lacked_48 : decode cX11_lacked 48 = .ok (.if_icmp .ge 102, 3) := by decide +kernel
theorem dX11_lacked_51 : decode cX11_lacked 51 = .ok (.aload_n 0, 1) := by decide +kernel
theorem dX11_lacked_52 : decode cX11_lacked 52 = .ok (.iload_n 2, 1) := by decide +kernel
theorem dX11_lacked_53 : decode cX11_lacked 53 = .ok (.iload 6, 2) := by decide +kernel
theorem dX11_lacked_55 : decode cX11_lacked 55 = .ok (.iload 5, 2) := by decide +kernel
theorem dX11_lacked_57 : decode cX11_lacked 57 = .ok (.iconst 0, 1) := by decide +kernel
theorem dX11_lacked_58 : decode cX11_lacked 58 = .ok (.invokevirtual 145, 3) := by decide +kernel
theorem dX11_lacked_61 : decode cX11_lacked 61 = .ok (.istore 7, 2) := by decide +kernel
theorem dX11_lacked_63 : decode cX11_lacked 63 = .ok (.aload_n 0, 1) := by decide +kernel
theorem dX11_lacked_64 : decode cX11_lacked 64 = .ok (.iload_n 2, 1) := by decide +kernel
theorem dX11_lacked_65 : decode cX11_lacked 65 = .ok (.iload 6, 2) := by decide +kernel
theorem dX11_lacked_67 : decode cX11_lacked 67 = .ok (.iload 5, 2) := by decide +kernel
theorem dX11_lacked_69 : decode cX11_lacked 69 = .ok (.iconst 1, 1) := by decide +kernel
theorem dX11_lacked_70 : decode cX11_lacked 70 = .ok (.invokevirtual 145, 3) := by decide +kernel
theorem dX11_lacked_73 : decode cX11_lacked 73 = .ok (.istore 8, 2) := by decide +kernel
theorem dX11_lacked_75 : decode cX11_lacked 75 = .ok (.aload_n 0, 1) := by decide +kernel
theorem dX11_lacked_76 : decode cX11_lacked 76 = .ok (.iload_n 2, 1) := by decide +kernel
theorem dX11_lacked_77 : decode cX11_lacked 77 = .ok (.iload 6, 2) := by decide +kernel
theorem dX11_lacked_79 : decode cX11_lacked 79 = .ok (.iload 5, 2) := by decide +kernel
theorem dX11_lacked_81 : decode cX11_lacked 81 = .ok (.iconst 0, 1) := by decide +kernel
theorem dX11_lacked_82 : decode cX11_lacked 82 = .ok (.iconst 0, 1) := by decide +kernel
theorem dX11_lacked_83 : decode cX11_lacked 83 = .ok (.invokevirtual 148, 3) := by decide +kernel
theorem dX11_lacked_86 : decode cX11_lacked 86 = .ok (.aload_n 0, 1) := by decide +kernel
theorem dX11_lacked_87 : decode cX11_lacked 87 = .ok (.iload_n 2, 1) := by decide +kernel
theorem dX11_lacked_88 : decode cX11_lacked 88 = .ok (.iload 6, 2) := by decide +kernel
theorem dX11_lacked_90 : decode cX11_lacked 90 = .ok (.iload 5, 2) := by decide +kernel
theorem dX11_lacked_92 : decode cX11_lacked 92 = .ok (.iconst 1, 1) := by decide +kernel
theorem dX11_lacked_93 : decode cX11_lacked 93 = .ok (.iconst 0, 1) := by decide +kernel
theorem dX11_lacked_94 : decode cX11_lacked 94 = .ok (.invokevirtual 148, 3) := by decide +kernel
theorem dX11_lacked_97 : decode cX11_lacked 97 = .ok (.aload_n 0, 1) := by decide +kernel
theorem dX11_lacked_98 : decode cX11_lacked 98 = .ok (.iload_n 1, 1) := by decide +kernel
theorem dX11_lacked_99 : decode cX11_lacked 99 = .ok (.iload_n 2, 1) := by decide +kernel
theorem dX11_lacked_100 : decode cX11_lacked 100 = .ok (.invokevirtual 313, 3) := by decide +kernel
theorem dX11_lacked_103 : decode cX11_lacked 103 = .ok (.bipush (-2), 2) := by decide +kernel
theorem dX11_lacked_105 : decode cX11_lacked 105 = .ok (.if_icmp .ne 15, 3) := by decide +kernel
theorem dX11_lacked_108 : decode cX11_lacked 108 = .ok (.lload_n 3, 1) := by decide +kernel
theorem dX11_lacked_109 : decode cX11_lacked 109 = .ok (.lconst 1, 1) := by decide +kernel
theorem dX11_lacked_110 : decode cX11_lacked 110 = .ok (.iconst 4, 1) := by decide +kernel
theorem dX11_lacked_111 : decode cX11_lacked 111 = .ok (.iload 5, 2) := by decide +kernel
theorem dX11_lacked_113 : decode cX11_lacked 113 = .ok (.imul, 1) := by decide +kernel
theorem dX11_lacked_114 : decode cX11_lacked 114 = .ok (.iload 6, 2) := by decide +kernel
theorem dX11_lacked_116 : decode cX11_lacked 116 = .ok (.iadd, 1) := by decide +kernel
theorem dX11_lacked_117 : decode cX11_lacked 117 = .ok (.lshl, 1) := by decide +kernel
theorem dX11_lacked_118 : decode cX11_lacked 118 = .ok (.lor, 1) := by decide +kernel
theorem dX11_lacked_119 : decode cX11_lacked 119 = .ok (.lstore_n 3, 1) := by decide +kernel
theorem dX11_lacked_120 : decode cX11_lacked 120 = .ok (.aload_n 0, 1) := by decide +kernel
theorem dX11_lacked_121 : decode cX11_lacked 121 = .ok (.iload_n 2, 1) := by decide +kernel
theorem dX11_lacked_122 : decode cX11_lacked 122 = .ok (.iload 6, 2) := by decide +kernel
theorem dX11_lacked_124 : decode cX11_lacked 124 = .ok (.iload 5, 2) := by decide +kernel
theorem dX11_lacked_126 : decode cX11_lacked 126 = .ok (.iconst 0, 1) := by decide +kernel
theorem dX11_lacked_127 : decode cX11_lacked 127 = .ok (.iload 7, 2) := by decide +kernel
theorem dX11_lacked_129 : decode cX11_lacked 129 = .ok (.invokevirtual 148, 3) := by decide +kernel
theorem dX11_lacked_132 : decode cX11_lacked 132 = .ok (.aload_n 0, 1) := by decide +kernel
theorem dX11_lacked_133 : decode cX11_lacked 133 = .ok (.iload_n 2, 1) := by decide +kernel
theorem dX11_lacked_134 : decode cX11_lacked 134 = .ok (.iload 6, 2) := by decide +kernel
theorem dX11_lacked_136 : decode cX11_lacked 136 = .ok (.iload 5, 2) := by decide +kernel
theorem dX11_lacked_138 : decode cX11_lacked 138 = .ok (.iconst 1, 1) := by decide +kernel
theorem dX11_lacked_139 : decode cX11_lacked 139 = .ok (.iload 8, 2) := by decide +kernel
theorem dX11_lacked_141 : decode cX11_lacked 141 = .ok (.invokevirtual 148, 3) := by decide +kernel
theorem dX11_lacked_144 : decode cX11_lacked 144 = .ok (.iinc 6 1, 3) := by decide +kernel
theorem dX11_lacked_147 : decode cX11_lacked 147 = .ok (.goto (-102), 3) := by decide +kernel
theorem dX11_lacked_150 : decode cX11_lacked 150 = .ok (.iinc 5 1, 3) := by decide +kernel
theorem dX11_lacked_153 : decode cX11_lacked 153 = .ok (.goto (-122), 3) := by decide +kernel
theorem dX11_lacked_156 : decode cX11_lacked 156 = .ok (.lload_n 3, 1) := by decide +kernel
theorem dX11_lacked_157 : decode cX11_lacked 157 = .ok (.lreturn, 1) := by decide +kernel
set_option maxRecDepth 20000 in
theorem ggX11_areTwo_X11_isSong : GoodIn wsX11_areTwo wsX11_isSong := goodIn_r _ [4, 5, 6, 3, 7] rfl (by decide +kernel)
set_option maxRecDepth 20000 in
theorem gX11_areTwo_X11_isSong : GoodIn wsX11_areTwo (va_wsS RX11 122 yX11_isSong wsX11_isSong) := goodIn_app (goodIn_of _ (by decide +kernel)) ggX11_areTwo_X11_isSong
theorem dX11_areTwo_0 : decode cX11_areTwo 0 = .ok (.iload_n 0, 1) := by decide +kernel
theorem dX11_areTwo_1 : decode cX11_areTwo 1 = .ok (.ifCond .lt 38, 3) := by decide +kernel
theorem dX11_areTwo_4 : decode cX11_areTwo 4 = .ok (.iload_n 0, 1) := by decide +kernel
theorem dX11_areTwo_5 : decode cX11_areTwo 5 = .ok (.bipush 10, 2) := by decide +kernel
theorem dX11_areTwo_7 : decode cX11_areTwo 7 = .ok (.idiv, 1) := by decide +kernel
theorem dX11_areTwo_8 : decode cX11_areTwo 8 = .ok (.invokestatic 122, 3) := by decide +kernel
theorem dX11_areTwo_11 : decode cX11_areTwo 11 = .ok (.ifCond .eq 28, 3) := by decide +kernel
theorem dX11_areTwo_14 : decode cX11_areTwo 14 = .ok (.iload_n 0, 1) := by decide +kernel
theorem dX11_areTwo_15 : decode cX11_areTwo 15 = .ok (.bipush 10, 2) := by decide +kernel
theorem dX11_areTwo_17 : decode cX11_areTwo 17 = .ok (.irem, 1) := by decide +kernel
theorem dX11_areTwo_18 : decode cX11_areTwo 18 = .ok (.invokestatic 122, 3) := by decide +kernel
theorem dX11_areTwo_21 : decode cX11_areTwo 21 = .ok (.ifCond .eq 18, 3) := by decide +kernel
theorem dX11_areTwo_24 : decode cX11_areTwo 24 = .ok (.iload_n 0, 1) := by decide +kernel
theorem dX11_areTwo_25 : decode cX11_areTwo 25 = .ok (.bipush 10, 2) := by decide +kernel
theorem dX11_areTwo_27 : decode cX11_areTwo 27 = .ok (.idiv, 1) := by decide +kernel
theorem dX11_areTwo_28 : decode cX11_areTwo 28 = .ok (.iload_n 0, 1) := by decide +kernel
theorem dX11_areTwo_29 : decode cX11_areTwo 29 = .ok (.bipush 10, 2) := by decide +kernel
theorem dX11_areTwo_31 : decode cX11_areTwo 31 = .ok (.irem, 1) := by decide +kernel
theorem dX11_areTwo_32 : decode cX11_areTwo 32 = .ok (.if_icmp .eq 7, 3) := by decide +kernel
theorem dX11_areTwo_35 : decode cX11_areTwo 35 = .ok (.iconst 1, 1) := by decide +kernel
theorem dX11_areTwo_36 : decode cX11_areTwo 36 = .ok (.goto 4, 3) := by decide +kernel
theorem dX11_areTwo_39 : decode cX11_areTwo 39 = .ok (.iconst 0, 1) := by decide +kernel
theorem dX11_areTwo_40 : decode cX11_areTwo 40 = .ok (.ireturn, 1) := by decide +kernel
set_option maxRecDepth 20000 in
theorem ggX11_two_X11_areTwo : GoodIn wsX11_two wsX11_areTwo := goodIn_r _ [6, 7, 8, 5, 9, 10, 11, 12] rfl (by decide +kernel)
set_option maxRecDepth 20000 in
theorem gX11_two_X11_areTwo : GoodIn wsX11_two (va_wsS RX11 318 yX11_areTwo wsX11_areTwo) := goodIn_app (goodIn_of _ (by decide +kernel)) ggX11_two_X11_areTwo
set_option maxRecDepth 20000 in
theorem ggX11_two_X11_in : GoodIn wsX11_two wsX11_in := goodIn_r _ [12] rfl (by decide +kernel)
set_option maxRecDepth 20000 in
theorem gX11_two_X11_in : GoodIn wsX11_two (va_wsS RX11 118 yX11_in wsX11_in) := goodIn_app (goodIn_of _ (by decide +kernel)) ggX11_two_X11_in
theorem dX11_two_0 : decode cX11_two 0 = .ok (.iload_n 1, 1) := by decide +kernel
theorem dX11_two_1 : decode cX11_two 1 = .ok (.invokestatic 318, 3) := by decide +kernel
theorem dX11_two_4 : decode cX11_two 4 = .ok (.ifCond .eq 12, 3) := by decide +kernel
theorem dX11_two_7 : decode cX11_two 7 = .ok (.iload_n 2, 1) := by decide +kernel
theorem dX11_two_8 : decode cX11_two 8 = .ok (.iconst 0, 1) := by decide +kernel
theorem dX11_two_9 : decode cX11_two 9 = .ok (.iconst 2, 1) := by decide +kernel
theorem dX11_two_10 : decode cX11_two 10 = .ok (.invokestatic 118, 3) := by decide +kernel
theorem dX11_two_13 : decode cX11_two 13 = .ok (.ifCond .ne 5, 3) := by decide +kernel
theorem dX11_two_16 : decode cX11_two 16 = .ok (.iconst (-1), 1) := by decide +kernel
theorem dX11_two_17 : decode cX11_two 17 = .ok (.ireturn, 1) := by decide +kernel
theorem dX11_two_18 : decode cX11_two 18 = .ok (.iload_n 1, 1) := by decide +kernel
theorem dX11_two_19 : decode cX11_two 19 = .ok (.bipush 10, 2) := by decide +kernel
theorem dX11_two_21 : decode cX11_two 21 = .ok (.idiv, 1) := by decide +kernel
theorem dX11_two_22 : decode cX11_two 22 = .ok (.istore_n 3, 1) := by decide +kernel
theorem dX11_two_23 : decode cX11_two 23 = .ok (.iload_n 1, 1) := by decide +kernel
theorem dX11_two_24 : decode cX11_two 24 = .ok (.bipush 10, 2) := by decide +kernel
theorem dX11_two_26 : decode cX11_two 26 = .ok (.irem, 1) := by decide +kernel
theorem dX11_two_27 : decode cX11_two 27 = .ok (.istore 4, 2) := by decide +kernel
theorem dX11_two_29 : decode cX11_two 29 = .ok (.iconst 0, 1) := by decide +kernel
theorem dX11_two_30 : decode cX11_two 30 = .ok (.istore 5, 2) := by decide +kernel
theorem dX11_two_32 : decode cX11_two 32 = .ok (.bipush (-2), 2) := by decide +kernel
theorem dX11_two_34 : decode cX11_two 34 = .ok (.istore 6, 2) := by decide +kernel
theorem dX11_two_36 : decode cX11_two 36 = .ok (.bipush (-2), 2) := by decide +kernel
theorem dX11_two_38 : decode cX11_two 38 = .ok (.istore 7, 2) := by decide +kernel
theorem dX11_two_40 : decode cX11_two 40 = .ok (.iconst 0, 1) := by decide +kernel
theorem dX11_two_41 : decode cX11_two 41 = .ok (.istore 8, 2) := by decide +kernel
theorem dX11_two_43 : decode cX11_two 43 = .ok (.iload 8, 2) := by decide +kernel
theorem dX11_two_45 : decode cX11_two 45 = .ok (.aload_n 0, 1) := by decide +kernel
theorem dX11_two_46 : decode cX11_two 46 = .ok (.getfield 9, 3) := by decide +kernel
theorem dX11_two_49 : decode cX11_two 49 = .ok (.iload_n 3, 1) := by decide +kernel
theorem dX11_two_50 : decode cX11_two 50 = .ok (.iaload, 1) := by decide +kernel
theorem dX11_two_51 : decode cX11_two 51 = .ok (.if_icmp .ge 124, 3) := by decide +kernel
theorem dX11_two_54 : decode cX11_two 54 = .ok (.iconst 0, 1) := by decide +kernel
theorem dX11_two_55 : decode cX11_two 55 = .ok (.istore 9, 2) := by decide +kernel
theorem dX11_two_57 : decode cX11_two 57 = .ok (.iload 9, 2) := by decide +kernel
theorem dX11_two_59 : decode cX11_two 59 = .ok (.aload_n 0, 1) := by decide +kernel
theorem dX11_two_60 : decode cX11_two 60 = .ok (.getfield 9, 3) := by decide +kernel
theorem dX11_two_63 : decode cX11_two 63 = .ok (.iload 4, 2) := by decide +kernel
theorem dX11_two_65 : decode cX11_two 65 = .ok (.iaload, 1) := by decide +kernel
theorem dX11_two_66 : decode cX11_two 66 = .ok (.if_icmp .ge 103, 3) := by decide +kernel
theorem dX11_two_69 : decode cX11_two 69 = .ok (.iconst 0, 1) := by decide +kernel
theorem dX11_two_70 : decode cX11_two 70 = .ok (.istore 10, 2) := by decide +kernel
theorem dX11_two_72 : decode cX11_two 72 = .ok (.iload 8, 2) := by decide +kernel
theorem dX11_two_74 : decode cX11_two 74 = .ok (.iload 10, 2) := by decide +kernel
theorem dX11_two_76 : decode cX11_two 76 = .ok (.iadd, 1) := by decide +kernel
theorem dX11_two_77 : decode cX11_two 77 = .ok (.aload_n 0, 1) := by decide +kernel
theorem dX11_two_78 : decode cX11_two 78 = .ok (.getfield 9, 3) := by decide +kernel
theorem dX11_two_81 : decode cX11_two 81 = .ok (.iload_n 3, 1) := by decide +kernel
theorem dX11_two_82 : decode cX11_two 82 = .ok (.iaload, 1) := by decide +kernel
theorem dX11_two_83 : decode cX11_two 83 = .ok (.if_icmp .ge 58, 3) := by decide +kernel
theorem dX11_two_86 : decode cX11_two 86 = .ok (.iload 9, 2) := by decide +kernel
theorem dX11_two_88 : decode cX11_two 88 = .ok (.iload 10, 2) := by decide +kernel
theorem dX11_two_90 : decode cX11_two 90 = .ok (.iadd, 1) := by decide +kernel
theorem dX11_two_91 : decode cX11_two 91 = .ok (.aload_n 0, 1) := by decide +kernel
theorem dX11_two_92 : decode cX11_two 92 = .ok (.getfield 9, 3) := by decide +kernel
theorem dX11_two_95 : decode cX11_two 95 = .ok (.iload 4, 2) := by decide +kernel
theorem dX11_two_97 : decode cX11_two 97 = .ok (.iaload, 1) := by decide +kernel
theorem dX11_two_98 : decode cX11_two 98 = .ok (.if_icmp .ge 43, 3) := by decide +kernel
theorem dX11_two_101 : decode cX11_two 101 = .ok (.aload_n 0, 1) := by decide +kernel
theorem dX11_two_102 : decode cX11_two 102 = .ok (.getfield 15, 3) := by decide +kernel
theorem dX11_two_105 : decode cX11_two 105 = .ok (.bipush 12, 2) := by decide +kernel
theorem dX11_two_107 : decode cX11_two 107 = .ok (.iload_n 3, 1) := by decide +kernel
theorem dX11_two_108 : decode cX11_two 108 = .ok (.imul, 1) := by decide +kernel
theorem dX11_two_109 : decode cX11_two 109 = .ok (.iload 8, 2) := by decide +kernel
theorem dX11_two_111 : decode cX11_two 111 = .ok (.iadd, 1) := by decide +kernel
theorem dX11_two_112 : decode cX11_two 112 = .ok (.iload 10, 2) := by decide +kernel
theorem dX11_two_114 : decode cX11_two 114 = .ok (.iadd, 1) := by decide +kernel
theorem dX11_two_115 : decode cX11_two 115 = .ok (.iaload, 1) := by decide +kernel
theorem dX11_two_116 : decode cX11_two 116 = .ok (.aload_n 0, 1) := by decide +kernel
theorem dX11_two_117 : decode cX11_two 117 = .ok (.getfield 15, 3) := by decide +kernel
theorem dX11_two_120 : decode cX11_two 120 = .ok (.bipush 12, 2) := by decide +kernel
theorem dX11_two_122 : decode cX11_two 122 = .ok (.iload 4, 2) := by decide +kernel
theorem dX11_two_124 : decode cX11_two 124 = .ok (.imul, 1) := by decide +kernel
theorem dX11_two_125 : decode cX11_two 125 = .ok (.iload 9, 2) := by decide +kernel
theorem dX11_two_127 : decode cX11_two 127 = .ok (.iadd, 1) := by decide +kernel
theorem dX11_two_128 : decode cX11_two 128 = .ok (.iload 10, 2) := by decide +kernel
theorem dX11_two_130 : decode cX11_two 130 = .ok (.iadd, 1) := by decide +kernel
theorem dX11_two_131 : decode cX11_two 131 = .ok (.iaload, 1) := by decide +kernel
theorem dX11_two_132 : decode cX11_two 132 = .ok (.if_icmp .ne 9, 3) := by decide +kernel
theorem dX11_two_135 : decode cX11_two 135 = .ok (.iinc 10 1, 3) := by decide +kernel
theorem dX11_two_138 : decode cX11_two 138 = .ok (.goto (-66), 3) := by decide +kernel
theorem dX11_two_141 : decode cX11_two 141 = .ok (.iload 10, 2) := by decide +kernel
theorem dX11_two_143 : decode cX11_two 143 = .ok (.iload 5, 2) := by decide +kernel
theorem dX11_two_145 : decode cX11_two 145 = .ok (.if_icmp .gt 6, 3) := by decide +kernel
theorem dX11_two_148 : decode cX11_two 148 = .ok (.goto 15, 3) := by decide +kernel
theorem dX11_two_151 : decode cX11_two 151 = .ok (.iload 10, 2) := by decide +kernel
theorem dX11_two_153 : decode cX11_two 153 = .ok (.istore 5, 2) := by decide +kernel
theorem dX11_two_155 : decode cX11_two 155 = .ok (.iload 8, 2) := by decide +kernel
theorem dX11_two_157 : decode cX11_two 157 = .ok (.istore 6, 2) := by decide +kernel
theorem dX11_two_159 : decode cX11_two 159 = .ok (.iload 9, 2) := by decide +kernel
theorem dX11_two_161 : decode cX11_two 161 = .ok (.istore 7, 2) := by decide +kernel
theorem dX11_two_163 : decode cX11_two 163 = .ok (.iinc 9 1, 3) := by decide +kernel
theorem dX11_two_166 : decode cX11_two 166 = .ok (.goto (-109), 3) := by decide +kernel
theorem dX11_two_169 : decode cX11_two 169 = .ok (.iinc 8 1, 3) := by decide +kernel
theorem dX11_two_172 : decode cX11_two 172 = .ok (.goto (-129), 3) := by decide +kernel
theorem dX11_two_175 : decode cX11_two 175 = .ok (.iload_n 2, 1) := by decide +kernel
theorem dX11_two_176 : decode cX11_two 176 = .ok (.ifCond .ne 8, 3) := by decide +kernel
theorem dX11_two_179 : decode cX11_two 179 = .ok (.iload 5, 2) := by decide +kernel
theorem dX11_two_181 : decode cX11_two 181 = .ok (.goto 15, 3) := by decide +kernel
theorem dX11_two_184 : decode cX11_two 184 = .ok (.iload_n 2, 1) := by decide +kernel
theorem dX11_two_185 : decode cX11_two 185 = .ok (.iconst 1, 1) := by decide +kernel
theorem dX11_two_186 : decode cX11_two 186 = .ok (.if_icmp .ne 8, 3) := by decide +kernel
theorem dX11_two_189 : decode cX11_two 189 = .ok (.iload 6, 2) := by decide +kernel
theorem dX11_two_191 : decode cX11_two 191 = .ok (.goto 5, 3) := by decide +kernel
theorem dX11_two_194 : decode cX11_two 194 = .ok (.iload 7, 2) := by decide +kernel
theorem dX11_two_196 : decode cX11_two 196 = .ok (.ireturn, 1) := by decide +kernel
set_option maxRecDepth 20000 in
theorem ggX11_meets_X11_whoHas : GoodIn wsX11_meets wsX11_whoHas := goodIn_r _ [7, 8, 9, 10, 6, 11, 12, 13, 14, 15, 16, 17, 18, 19, 20, 21, 22, 23, 24, 25, 26, 27, 28, 29, 30, 31, 32, 33, 34, 35, 36, 37, 38, 39, 40, 41, 42, 43, 44, 45, 46, 47, 48, 49, 50, 51, 52, 53, 54, 55, 56, 57, 58, 59, 60, 61, 62, 63, 64, 65] rfl (by decide +kernel)
set_option maxRecDepth 20000 in
theorem gX11_meets_X11_whoHas : GoodIn wsX11_meets (wsV RX11 183 RX11 yX11_whoHas wsX11_whoHas) := goodIn_app (goodIn_of _ (by decide +kernel)) ggX11_meets_X11_whoHas
theorem dX11_meets_0 : decode cX11_meets 0 = .ok (.iconst 0, 1) := by decide +kernel
theorem dX11_meets_1 : decode cX11_meets 1 = .ok (.istore_n 3, 1) := by decide +kernel
theorem dX11_meets_2 : decode cX11_meets 2 = .ok (.iload_n 3, 1) := by decide +kernel
theorem dX11_meets_3 : decode cX11_meets 3 = .ok (.aload_n 0, 1) := by decide +kernel
theorem dX11_meets_4 : decode cX11_meets 4 = .ok (.getfield 9, 3) := by decide +kernel
theorem dX11_meets_7 : decode cX11_meets 7 = .ok (.iload_n 2, 1) := by decide +kernel
theorem dX11_meets_8 : decode cX11_meets 8 = .ok (.iaload, 1) := by decide +kernel
theorem dX11_meets_9 : decode cX11_meets 9 = .ok (.if_icmp .ge 36, 3) := by decide +kernel
theorem dX11_meets_12 : decode cX11_meets 12 = .ok (.aload_n 0, 1) := by decide +kernel
theorem dX11_meets_13 : decode cX11_meets 13 = .ok (.getfield 15, 3) := by decide +kernel
theorem dX11_meets_16 : decode cX11_meets 16 = .ok (.bipush 12, 2) := by decide +kernel
theorem dX11_meets_18 : decode cX11_meets 18 = .ok (.iload_n 2, 1) := by decide +kernel
theorem dX11_meets_19 : decode cX11_meets 19 = .ok (.imul, 1) := by decide +kernel
theorem dX11_meets_20 : decode cX11_meets 20 = .ok (.iload_n 3, 1) := by decide +kernel
theorem dX11_meets_21 : decode cX11_meets 21 = .ok (.iadd, 1) := by decide +kernel
theorem dX11_meets_22 : decode cX11_meets 22 = .ok (.iaload, 1) := by decide +kernel
theorem dX11_meets_23 : decode cX11_meets 23 = .ok (.iload_n 1, 1) := by decide +kernel
theorem dX11_meets_24 : decode cX11_meets 24 = .ok (.if_icmp .ne 15, 3) := by decide +kernel
theorem dX11_meets_27 : decode cX11_meets 27 = .ok (.aload_n 0, 1) := by decide +kernel
theorem dX11_meets_28 : decode cX11_meets 28 = .ok (.iload_n 2, 1) := by decide +kernel
theorem dX11_meets_29 : decode cX11_meets 29 = .ok (.iload_n 3, 1) := by decide +kernel
theorem dX11_meets_30 : decode cX11_meets 30 = .ok (.iconst 0, 1) := by decide +kernel
theorem dX11_meets_31 : decode cX11_meets 31 = .ok (.invokevirtual 183, 3) := by decide +kernel
theorem dX11_meets_34 : decode cX11_meets 34 = .ok (.ifCond .eq 5, 3) := by decide +kernel
theorem dX11_meets_37 : decode cX11_meets 37 = .ok (.iconst 1, 1) := by decide +kernel
theorem dX11_meets_38 : decode cX11_meets 38 = .ok (.ireturn, 1) := by decide +kernel
theorem dX11_meets_39 : decode cX11_meets 39 = .ok (.iinc 3 1, 3) := by decide +kernel
theorem dX11_meets_42 : decode cX11_meets 42 = .ok (.goto (-40), 3) := by decide +kernel
theorem dX11_meets_45 : decode cX11_meets 45 = .ok (.iconst 0, 1) := by decide +kernel
theorem dX11_meets_46 : decode cX11_meets 46 = .ok (.ireturn, 1) := by decide +kernel
set_option maxRecDepth 20000 in
theorem ggX11_mixed_X11_isLine : GoodIn wsX11_mixed wsX11_isLine := goodIn_r _ [8, 9, 10, 11, 7, 12, 13, 14, 15, 79, 80, 81, 82, 83, 84, 85, 86, 87, 88, 89, 90, 91, 92, 93, 94, 95, 96, 97, 98, 99, 100, 101, 102, 103, 104, 105, 106, 107, 108, 109, 110, 111, 112, 113, 114, 115, 116, 117, 118, 119, 120, 121, 122, 123, 124, 125, 126, 127, 128] rfl (by decide +kernel)
set_option maxRecDepth 20000 in
theorem gX11_mixed_X11_isLine : GoodIn wsX11_mixed (wsV RX11 142 RX11 yX11_isLine wsX11_isLine) := goodIn_app (goodIn_of _ (by decide +kernel)) ggX11_mixed_X11_isLine
set_option maxRecDepth 20000 in
theorem ggX11_mixed_X11_isSong : GoodIn wsX11_mixed wsX11_isSong := goodIn_r _ [12, 13, 14, 7, 15] rfl (by decide +kernel)
set_option maxRecDepth 20000 in
theorem gX11_mixed_X11_isSong : GoodIn wsX11_mixed (va_wsS RX11 122 yX11_isSong wsX11_isSong) := goodIn_app (goodIn_of _ (by decide +kernel)) ggX11_mixed_X11_isSong
set_option maxRecDepth 20000 in
theorem ggX11_mixed_X11_goSinging : GoodIn wsX11_mixed wsX11_goSinging := goodIn_r _ [19, 1, 20, 21, 22, 3, 23, 24, 25, 26, 27, 7, 28, 29, 30, 31, 32, 33, 34, 35, 36, 37, 38, 39, 40, 41, 42, 43, 44, 45, 46, 47, 48, 9, 49, 50, 51, 52, 2, 53, 54, 55, 56, 57, 58, 59, 60, 61, 62, 63, 64, 65, 66, 67, 68, 69, 70, 71, 72, 73, 74, 79, 80, 81, 82, 83, 84, 85, 86, 87, 88, 89, 90, 91, 92, 93, 94, 95, 96, 97, 98, 99, 100, 101, 102, 103, 104, 105, 106, 107, 108, 109, 110, 111, 112, 113, 114, 115, 116, 117, 118, 119, 120, 121, 122, 123, 124, 125, 126, 127, 128] rfl (by decide +kernel)
set_option maxRecDepth 20000 in
theorem gX11_mixed_X11_goSinging : GoodIn wsX11_mixed (wsV RX11 286 RX11 yX11_goSinging wsX11_goSinging) := goodIn_app (goodIn_of _ (by decide +kernel)) ggX11_mixed_X11_goSinging
set_option maxRecDepth 20000 in
theorem ggX11_mixed_X11_meets : GoodIn wsX11_mixed wsX11_meets := goodIn_r _ [78, 9, 2, 33, 34, 35, 7, 36, 37, 38, 39, 40, 41, 42, 43, 44, 79, 80, 81, 82, 83, 84, 85, 86, 87, 88, 89, 90, 91, 92, 93, 94, 95, 96, 97, 98, 99, 100, 101, 102, 103, 104, 105, 106, 107, 108, 109, 110, 111, 112, 113, 114, 115, 116, 117, 118, 119, 120, 121, 122, 123, 124, 125, 126, 127, 128] rfl (by decide +kernel)
set_option maxRecDepth 20000 in
theorem gX11_mixed_X11_meets : GoodIn wsX11_mixed (wsV RX11 321 RX11 yX11_meets wsX11_meets) := goodIn_app (goodIn_of _ (by decide +kernel)) ggX11_mixed_X11_meets
theorem dX11_mixed_0 : decode cX11_mixed 0 = .ok (.aload_n 0, 1) := by decide +kernel
theorem dX11_mixed_1 : decode cX11_mixed 1 = .ok (.iload_n 1, 1) := by decide +kernel
theorem dX11_mixed_2 : decode cX11_mixed 2 = .ok (.invokevirtual 142, 3) := by decide +kernel
theorem dX11_mixed_5 : decode cX11_mixed 5 = .ok (.ifCond .eq 18, 3) := by decide +kernel
theorem dX11_mixed_8 : decode cX11_mixed 8 = .ok (.iload_n 2, 1) := by decide +kernel
theorem dX11_mixed_9 : decode cX11_mixed 9 = .ok (.invokestatic 122, 3) := by decide +kernel
theorem dX11_mixed_12 : decode cX11_mixed 12 = .ok (.ifCond .eq 11, 3) := by decide +kernel
theorem dX11_mixed_15 : decode cX11_mixed 15 = .ok (.iload_n 2, 1) := by decide +kernel
theorem dX11_mixed_16 : decode cX11_mixed 16 = .ok (.iload_n 1, 1) := by decide +kernel
theorem dX11_mixed_17 : decode cX11_mixed 17 = .ok (.bipush 100, 2) := by decide +kernel
theorem dX11_mixed_19 : decode cX11_mixed 19 = .ok (.idiv, 1) := by decide +kernel
theorem dX11_mixed_20 : decode cX11_mixed 20 = .ok (.if_icmp .ne 5, 3) := by decide +kernel
theorem dX11_mixed_23 : decode cX11_mixed 23 = .ok (.iconst (-1), 1) := by decide +kernel
theorem dX11_mixed_24 : decode cX11_mixed 24 = .ok (.ireturn, 1) := by decide +kernel
theorem dX11_mixed_25 : decode cX11_mixed 25 = .ok (.aload_n 0, 1) := by decide +kernel
theorem dX11_mixed_26 : decode cX11_mixed 26 = .ok (.iload_n 1, 1) := by decide +kernel
theorem dX11_mixed_27 : decode cX11_mixed 27 = .ok (.bipush 100, 2) := by decide +kernel
theorem dX11_mixed_29 : decode cX11_mixed 29 = .ok (.idiv, 1) := by decide +kernel
theorem dX11_mixed_30 : decode cX11_mixed 30 = .ok (.iload_n 1, 1) := by decide +kernel
theorem dX11_mixed_31 : decode cX11_mixed 31 = .ok (.bipush 100, 2) := by decide +kernel
theorem dX11_mixed_33 : decode cX11_mixed 33 = .ok (.irem, 1) := by decide +kernel
theorem dX11_mixed_34 : decode cX11_mixed 34 = .ok (.invokevirtual 286, 3) := by decide +kernel
theorem dX11_mixed_37 : decode cX11_mixed 37 = .ok (.iconst 0, 1) := by decide +kernel
theorem dX11_mixed_38 : decode cX11_mixed 38 = .ok (.istore_n 3, 1) := by decide +kernel
theorem dX11_mixed_39 : decode cX11_mixed 39 = .ok (.iload_n 3, 1) := by decide +kernel
theorem dX11_mixed_40 : decode cX11_mixed 40 = .ok (.aload_n 0, 1) := by decide +kernel
theorem dX11_mixed_41 : decode cX11_mixed 41 = .ok (.getfield 268, 3) := by decide +kernel
theorem dX11_mixed_44 : decode cX11_mixed 44 = .ok (.if_icmp .ge 38, 3) := by decide +kernel
theorem dX11_mixed_47 : decode cX11_mixed 47 = .ok (.aload_n 0, 1) := by decide +kernel
theorem dX11_mixed_48 : decode cX11_mixed 48 = .ok (.aload_n 0, 1) := by decide +kernel
theorem dX11_mixed_49 : decode cX11_mixed 49 = .ok (.getfield 15, 3) := by decide +kernel
theorem dX11_mixed_52 : decode cX11_mixed 52 = .ok (.bipush 12, 2) := by decide +kernel
theorem dX11_mixed_54 : decode cX11_mixed 54 = .ok (.iload_n 1, 1) := by decide +kernel
theorem dX11_mixed_55 : decode cX11_mixed 55 = .ok (.bipush 100, 2) := by decide +kernel
theorem dX11_mixed_57 : decode cX11_mixed 57 = .ok (.idiv, 1) := by decide +kernel
theorem dX11_mixed_58 : decode cX11_mixed 58 = .ok (.imul, 1) := by decide +kernel
theorem dX11_mixed_59 : decode cX11_mixed 59 = .ok (.aload_n 0, 1) := by decide +kernel
theorem dX11_mixed_60 : decode cX11_mixed 60 = .ok (.getfield 71, 3) := by decide +kernel
theorem dX11_mixed_63 : decode cX11_mixed 63 = .ok (.iload_n 3, 1) := by decide +kernel
theorem dX11_mixed_64 : decode cX11_mixed 64 = .ok (.iaload, 1) := by decide +kernel
theorem dX11_mixed_65 : decode cX11_mixed 65 = .ok (.iadd, 1) := by decide +kernel
theorem dX11_mixed_66 : decode cX11_mixed 66 = .ok (.iaload, 1) := by decide +kernel
theorem dX11_mixed_67 : decode cX11_mixed 67 = .ok (.iload_n 2, 1) := by decide +kernel
theorem dX11_mixed_68 : decode cX11_mixed 68 = .ok (.invokevirtual 321, 3) := by decide +kernel
theorem dX11_mixed_71 : decode cX11_mixed 71 = .ok (.ifCond .eq 5, 3) := by decide +kernel
theorem dX11_mixed_74 : decode cX11_mixed 74 = .ok (.iload_n 3, 1) := by decide +kernel
theorem dX11_mixed_75 : decode cX11_mixed 75 = .ok (.ireturn, 1) := by decide +kernel
theorem dX11_mixed_76 : decode cX11_mixed 76 = .ok (.iinc 3 1, 3) := by decide +kernel
theorem dX11_mixed_79 : decode cX11_mixed 79 = .ok (.goto (-40), 3) := by decide +kernel
theorem dX11_mixed_82 : decode cX11_mixed 82 = .ok (.bipush (-2), 2) := by decide +kernel
theorem dX11_mixed_84 : decode cX11_mixed 84 = .ok (.ireturn, 1) := by decide +kernel
set_option maxRecDepth 20000 in
theorem ggX11_bitsLeft_X11_bitsOf : GoodIn wsX11_bitsLeft wsX11_bitsOf := goodIn_r _ [5] rfl (by decide +kernel)
set_option maxRecDepth 20000 in
theorem gX11_bitsLeft_X11_bitsOf : GoodIn wsX11_bitsLeft (va_wsS RX11 324 yX11_bitsOf wsX11_bitsOf) := goodIn_app (goodIn_of _ (by decide +kernel)) ggX11_bitsLeft_X11_bitsOf
theorem dX11_bitsLeft_0 : decode cX11_bitsLeft 0 = .ok (.iconst 0, 1) := by decide +kernel
theorem dX11_bitsLeft_1 : decode cX11_bitsLeft 1 = .ok (.istore_n 2, 1) := by decide +kernel
theorem dX11_bitsLeft_2 : decode cX11_bitsLeft 2 = .ok (.iconst 0, 1) := by decide +kernel
theorem dX11_bitsLeft_3 : decode cX11_bitsLeft 3 = .ok (.istore_n 3, 1) := by decide +kernel
theorem dX11_bitsLeft_4 : decode cX11_bitsLeft 4 = .ok (.iload_n 3, 1) := by decide +kernel
theorem dX11_bitsLeft_5 : decode cX11_bitsLeft 5 = .ok (.bipush 8, 2) := by decide +kernel
theorem dX11_bitsLeft_7 : decode cX11_bitsLeft 7 = .ok (.if_icmp .ge 26, 3) := by decide +kernel
theorem dX11_bitsLeft_10 : decode cX11_bitsLeft 10 = .ok (.iload_n 2, 1) := by decide +kernel
theorem dX11_bitsLeft_11 : decode cX11_bitsLeft 11 = .ok (.aload_n 0, 1) := by decide +kernel
theorem dX11_bitsLeft_12 : decode cX11_bitsLeft 12 = .ok (.getfield 24, 3) := by decide +kernel
theorem dX11_bitsLeft_15 : decode cX11_bitsLeft 15 = .ok (.bipush 8, 2) := by decide +kernel
theorem dX11_bitsLeft_17 : decode cX11_bitsLeft 17 = .ok (.iload_n 1, 1) := by decide +kernel
theorem dX11_bitsLeft_18 : decode cX11_bitsLeft 18 = .ok (.imul, 1) := by decide +kernel
theorem dX11_bitsLeft_19 : decode cX11_bitsLeft 19 = .ok (.iload_n 3, 1) := by decide +kernel
theorem dX11_bitsLeft_20 : decode cX11_bitsLeft 20 = .ok (.iadd, 1) := by decide +kernel
theorem dX11_bitsLeft_21 : decode cX11_bitsLeft 21 = .ok (.iaload, 1) := by decide +kernel
theorem dX11_bitsLeft_22 : decode cX11_bitsLeft 22 = .ok (.invokestatic 324, 3) := by decide +kernel
theorem dX11_bitsLeft_25 : decode cX11_bitsLeft 25 = .ok (.iadd, 1) := by decide +kernel
theorem dX11_bitsLeft_26 : decode cX11_bitsLeft 26 = .ok (.istore_n 2, 1) := by decide +kernel
theorem dX11_bitsLeft_27 : decode cX11_bitsLeft 27 = .ok (.iinc 3 1, 3) := by decide +kernel
theorem dX11_bitsLeft_30 : decode cX11_bitsLeft 30 = .ok (.goto (-26), 3) := by decide +kernel
theorem dX11_bitsLeft_33 : decode cX11_bitsLeft 33 = .ok (.iload_n 2, 1) := by decide +kernel
theorem dX11_bitsLeft_34 : decode cX11_bitsLeft 34 = .ok (.ireturn, 1) := by decide +kernel
set_option maxRecDepth 20000 in
theorem ggX11_drawn_X11_isSong : GoodIn wsX11_drawn wsX11_isSong := goodIn_r _ [8, 9, 10, 7, 11] rfl (by decide +kernel)
set_option maxRecDepth 20000 in
theorem gX11_drawn_X11_isSong : GoodIn wsX11_drawn (va_wsS RX11 122 yX11_isSong wsX11_isSong) := goodIn_app (goodIn_of _ (by decide +kernel)) ggX11_drawn_X11_isSong
set_option maxRecDepth 20000 in
theorem ggX11_drawn_X11_in : GoodIn wsX11_drawn wsX11_in := goodIn_r _ [11] rfl (by decide +kernel)
set_option maxRecDepth 20000 in
theorem gX11_drawn_X11_in : GoodIn wsX11_drawn (va_wsS RX11 118 yX11_in wsX11_in) := goodIn_app (goodIn_of _ (by decide +kernel)) ggX11_drawn_X11_in
set_option maxRecDepth 20000 in
theorem ggX11_drawn_X11_bitsFor : GoodIn wsX11_drawn wsX11_bitsFor := goodIn_r _ [15, 16, 92, 93, 94, 95, 96, 97, 98, 99, 100, 101, 102, 103, 104, 105, 106, 107, 108, 109, 110, 111, 112, 113, 114, 115, 116, 117, 118, 119, 120, 121, 122, 123, 124, 125, 126, 127, 128, 129, 130, 131, 132, 133, 134, 135, 136, 137, 138, 139, 140, 141] rfl (by decide +kernel)
set_option maxRecDepth 20000 in
theorem gX11_drawn_X11_bitsFor : GoodIn wsX11_drawn (wsV RX11 289 RX11 yX11_bitsFor wsX11_bitsFor) := goodIn_app (goodIn_of _ (by decide +kernel)) ggX11_drawn_X11_bitsFor
set_option maxRecDepth 20000 in
theorem ggX11_drawn_X11_bitOf : GoodIn wsX11_drawn wsX11_bitOf := goodIn_r _ [20, 16, 21, 22, 23, 7, 24, 2, 25, 26, 27, 92, 93, 94, 95, 96, 97, 98, 99, 100, 101, 102, 103, 104, 105, 106, 107, 108, 109, 110, 111, 112, 113, 114, 115, 116, 117, 118, 119, 120, 121, 122, 123, 124, 125, 126, 127, 128, 129, 130, 131, 132, 133, 134, 135, 136, 137, 138, 139, 140, 141] rfl (by decide +kernel)
set_option maxRecDepth 20000 in
theorem gX11_drawn_X11_bitOf : GoodIn wsX11_drawn (wsV RX11 292 RX11 yX11_bitOf wsX11_bitOf) := goodIn_app (goodIn_of _ (by decide +kernel)) ggX11_drawn_X11_bitOf
set_option maxRecDepth 20000 in
theorem ggX11_drawn_X11_giveBit : GoodIn wsX11_drawn wsX11_giveBit := goodIn_r _ [31, 16, 32, 33, 34, 7, 35, 2, 25, 26, 27, 92, 93, 94, 95, 96, 97, 98, 99, 100, 101, 102, 103, 104, 105, 106, 107, 108, 109, 110, 111, 112, 113, 114, 115, 116, 117, 118, 119, 120, 121, 122, 123, 124, 125, 126, 127, 128, 129, 130, 131, 132, 133, 134, 135, 136, 137, 138, 139, 140, 141] rfl (by decide +kernel)
set_option maxRecDepth 20000 in
theorem gX11_drawn_X11_giveBit : GoodIn wsX11_drawn (wsV RX11 295 RX11 yX11_giveBit wsX11_giveBit) := goodIn_app (goodIn_of _ (by decide +kernel)) ggX11_drawn_X11_giveBit
set_option maxRecDepth 20000 in
theorem ggX11_drawn_X11_rightFrom : GoodIn wsX11_drawn wsX11_rightFrom := goodIn_r _ [39, 16, 40, 41, 42, 43, 7, 44, 45, 46, 47, 48, 49, 50, 51, 52, 21, 22, 23, 24, 2, 25, 26, 27, 53, 54, 55, 56, 57, 58, 59, 60, 61, 62, 63, 64, 65, 66, 67, 68, 69, 70, 71, 72, 73, 74, 75, 76, 77, 78, 79, 80, 81, 82, 83, 84, 92, 93, 94, 95, 96, 97, 98, 99, 100, 101, 102, 103, 104, 105, 106, 107, 108, 109, 110, 111, 112, 113, 114, 115, 116, 117, 118, 119, 120, 121, 122, 123, 124, 125, 126, 127, 128, 129, 130, 131, 132, 133, 134, 135, 136, 137, 138, 139, 140, 141] rfl (by decide +kernel)
set_option maxRecDepth 20000 in
theorem gX11_drawn_X11_rightFrom : GoodIn wsX11_drawn (wsV RX11 283 RX11 yX11_rightFrom wsX11_rightFrom) := goodIn_app (goodIn_of _ (by decide +kernel)) ggX11_drawn_X11_rightFrom
set_option maxRecDepth 20000 in
theorem ggX11_drawn_X11_bitsLeft : GoodIn wsX11_drawn wsX11_bitsLeft := goodIn_r _ [88, 2, 89, 90, 7, 91, 92, 93, 94, 95, 96, 97, 98, 99, 100, 101, 102, 103, 104, 105, 106, 107, 108, 109, 110, 111, 112, 113, 114, 115, 116, 117, 118, 119, 120, 121, 122, 123, 124, 125, 126, 127, 128, 129, 130, 131, 132, 133, 134, 135, 136, 137, 138, 139, 140, 141] rfl (by decide +kernel)
set_option maxRecDepth 20000 in
theorem gX11_drawn_X11_bitsLeft : GoodIn wsX11_drawn (wsV RX11 328 RX11 yX11_bitsLeft wsX11_bitsLeft) := goodIn_app (goodIn_of _ (by decide +kernel)) ggX11_drawn_X11_bitsLeft
theorem dX11_drawn_0 : decode cX11_drawn 0 = .ok (.iload_n 1, 1) := by decide +kernel
theorem dX11_drawn_1 : decode cX11_drawn 1 = .ok (.invokestatic 122, 3) := by decide +kernel
theorem dX11_drawn_4 : decode cX11_drawn 4 = .ok (.ifCond .eq 23, 3) := by decide +kernel
theorem dX11_drawn_7 : decode cX11_drawn 7 = .ok (.iload_n 3, 1) := by decide +kernel
theorem dX11_drawn_8 : decode cX11_drawn 8 = .ok (.iconst 1, 1) := by decide +kernel
theorem dX11_drawn_9 : decode cX11_drawn 9 = .ok (.bipush 20, 2) := by decide +kernel
theorem dX11_drawn_11 : decode cX11_drawn 11 = .ok (.invokestatic 118, 3) := by decide +kernel
theorem dX11_drawn_14 : decode cX11_drawn 14 = .ok (.ifCond .eq 13, 3) := by decide +kernel
theorem dX11_drawn_17 : decode cX11_drawn 17 = .ok (.iload 4, 2) := by decide +kernel
theorem dX11_drawn_19 : decode cX11_drawn 19 = .ok (.iconst 0, 1) := by decide +kernel
theorem dX11_drawn_20 : decode cX11_drawn 20 = .ok (.iconst 1, 1) := by decide +kernel
theorem dX11_drawn_21 : decode cX11_drawn 21 = .ok (.invokestatic 118, 3) := by decide +kernel
theorem dX11_drawn_24 : decode cX11_drawn 24 = .ok (.ifCond .ne 5, 3) := by decide +kernel
theorem dX11_drawn_27 : decode cX11_drawn 27 = .ok (.iconst (-1), 1) := by decide +kernel
theorem dX11_drawn_28 : decode cX11_drawn 28 = .ok (.ireturn, 1) := by decide +kernel
theorem dX11_drawn_29 : decode cX11_drawn 29 = .ok (.iconst 0, 1) := by decide +kernel
theorem dX11_drawn_30 : decode cX11_drawn 30 = .ok (.istore 5, 2) := by decide +kernel
theorem dX11_drawn_32 : decode cX11_drawn 32 = .ok (.iload 5, 2) := by decide +kernel
theorem dX11_drawn_34 : decode cX11_drawn 34 = .ok (.bipush 24, 2) := by decide +kernel
theorem dX11_drawn_36 : decode cX11_drawn 36 = .ok (.if_icmp .ge 23, 3) := by decide +kernel
theorem dX11_drawn_39 : decode cX11_drawn 39 = .ok (.aload_n 0, 1) := by decide +kernel
theorem dX11_drawn_40 : decode cX11_drawn 40 = .ok (.getfield 77, 3) := by decide +kernel
theorem dX11_drawn_43 : decode cX11_drawn 43 = .ok (.iload 5, 2) := by decide +kernel
theorem dX11_drawn_45 : decode cX11_drawn 45 = .ok (.aload_n 0, 1) := by decide +kernel
theorem dX11_drawn_46 : decode cX11_drawn 46 = .ok (.getfield 24, 3) := by decide +kernel
theorem dX11_drawn_49 : decode cX11_drawn 49 = .ok (.iload 5, 2) := by decide +kernel
theorem dX11_drawn_51 : decode cX11_drawn 51 = .ok (.iaload, 1) := by decide +kernel
theorem dX11_drawn_52 : decode cX11_drawn 52 = .ok (.iastore, 1) := by decide +kernel
theorem dX11_drawn_53 : decode cX11_drawn 53 = .ok (.iinc 5 1, 3) := by decide +kernel
theorem dX11_drawn_56 : decode cX11_drawn 56 = .ok (.goto (-24), 3) := by decide +kernel
theorem dX11_drawn_59 : decode cX11_drawn 59 = .ok (.iload_n 2, 1) := by decide +kernel
theorem dX11_drawn_60 : decode cX11_drawn 60 = .ok (.istore 5, 2) := by decide +kernel
theorem dX11_drawn_62 : decode cX11_drawn 62 = .ok (.iconst 0, 1) := by decide +kernel
theorem dX11_drawn_63 : decode cX11_drawn 63 = .ok (.istore 6, 2) := by decide +kernel
theorem dX11_drawn_65 : decode cX11_drawn 65 = .ok (.iconst 0, 1) := by decide +kernel
theorem dX11_drawn_66 : decode cX11_drawn 66 = .ok (.istore 7, 2) := by decide +kernel
theorem dX11_drawn_68 : decode cX11_drawn 68 = .ok (.iload 7, 2) := by decide +kernel
theorem dX11_drawn_70 : decode cX11_drawn 70 = .ok (.iload_n 3, 1) := by decide +kernel
theorem dX11_drawn_71 : decode cX11_drawn 71 = .ok (.if_icmp .ge 87, 3) := by decide +kernel
theorem dX11_drawn_74 : decode cX11_drawn 74 = .ok (.iconst 0, 1) := by decide +kernel
theorem dX11_drawn_75 : decode cX11_drawn 75 = .ok (.istore 8, 2) := by decide +kernel
theorem dX11_drawn_77 : decode cX11_drawn 77 = .ok (.iload 8, 2) := by decide +kernel
theorem dX11_drawn_79 : decode cX11_drawn 79 = .ok (.aload_n 0, 1) := by decide +kernel
theorem dX11_drawn_80 : decode cX11_drawn 80 = .ok (.iload_n 1, 1) := by decide +kernel
theorem dX11_drawn_81 : decode cX11_drawn 81 = .ok (.invokevirtual 289, 3) := by decide +kernel
theorem dX11_drawn_84 : decode cX11_drawn 84 = .ok (.if_icmp .ge 57, 3) := by decide +kernel
theorem dX11_drawn_87 : decode cX11_drawn 87 = .ok (.aload_n 0, 1) := by decide +kernel
theorem dX11_drawn_88 : decode cX11_drawn 88 = .ok (.iload_n 1, 1) := by decide +kernel
theorem dX11_drawn_89 : decode cX11_drawn 89 = .ok (.iload 8, 2) := by decide +kernel
theorem dX11_drawn_91 : decode cX11_drawn 91 = .ok (.invokevirtual 292, 3) := by decide +kernel
theorem dX11_drawn_94 : decode cX11_drawn 94 = .ok (.ifCond .ne 6, 3) := by decide +kernel
theorem dX11_drawn_97 : decode cX11_drawn 97 = .ok (.goto 38, 3) := by decide +kernel
theorem dX11_drawn_100 : decode cX11_drawn 100 = .ok (.iload 5, 2) := by decide +kernel
theorem dX11_drawn_102 : decode cX11_drawn 102 = .ok (.ldc_w 327, 3) := by decide +kernel
theorem dX11_drawn_105 : decode cX11_drawn 105 = .ok (.imul, 1) := by decide +kernel
theorem dX11_drawn_106 : decode cX11_drawn 106 = .ok (.sipush 12345, 3) := by decide +kernel
theorem dX11_drawn_109 : decode cX11_drawn 109 = .ok (.iadd, 1) := by decide +kernel
theorem dX11_drawn_110 : decode cX11_drawn 110 = .ok (.istore 5, 2) := by decide +kernel
theorem dX11_drawn_112 : decode cX11_drawn 112 = .ok (.iload 5, 2) := by decide +kernel
theorem dX11_drawn_114 : decode cX11_drawn 114 = .ok (.bipush 8, 2) := by decide +kernel
theorem dX11_drawn_116 : decode cX11_drawn 116 = .ok (.iushr, 1) := by decide +kernel
theorem dX11_drawn_117 : decode cX11_drawn 117 = .ok (.bipush 12, 2) := by decide +kernel
theorem dX11_drawn_119 : decode cX11_drawn 119 = .ok (.irem, 1) := by decide +kernel
theorem dX11_drawn_120 : decode cX11_drawn 120 = .ok (.aload_n 0, 1) := by decide +kernel
theorem dX11_drawn_121 : decode cX11_drawn 121 = .ok (.getfield 156, 3) := by decide +kernel
theorem dX11_drawn_124 : decode cX11_drawn 124 = .ok (.if_icmp .ge 11, 3) := by decide +kernel
theorem dX11_drawn_127 : decode cX11_drawn 127 = .ok (.aload_n 0, 1) := by decide +kernel
theorem dX11_drawn_128 : decode cX11_drawn 128 = .ok (.iload_n 1, 1) := by decide +kernel
theorem dX11_drawn_129 : decode cX11_drawn 129 = .ok (.iload 8, 2) := by decide +kernel
theorem dX11_drawn_131 : decode cX11_drawn 131 = .ok (.iconst 0, 1) := by decide +kernel
theorem dX11_drawn_132 : decode cX11_drawn 132 = .ok (.invokevirtual 295, 3) := by decide +kernel
theorem dX11_drawn_135 : decode cX11_drawn 135 = .ok (.iinc 8 1, 3) := by decide +kernel
theorem dX11_drawn_138 : decode cX11_drawn 138 = .ok (.goto (-61), 3) := by decide +kernel
theorem dX11_drawn_141 : decode cX11_drawn 141 = .ok (.iload 6, 2) := by decide +kernel
theorem dX11_drawn_143 : decode cX11_drawn 143 = .ok (.aload_n 0, 1) := by decide +kernel
theorem dX11_drawn_144 : decode cX11_drawn 144 = .ok (.iload_n 1, 1) := by decide +kernel
theorem dX11_drawn_145 : decode cX11_drawn 145 = .ok (.iconst 0, 1) := by decide +kernel
theorem dX11_drawn_146 : decode cX11_drawn 146 = .ok (.invokevirtual 283, 3) := by decide +kernel
theorem dX11_drawn_149 : decode cX11_drawn 149 = .ok (.iadd, 1) := by decide +kernel
theorem dX11_drawn_150 : decode cX11_drawn 150 = .ok (.istore 6, 2) := by decide +kernel
theorem dX11_drawn_152 : decode cX11_drawn 152 = .ok (.iinc 7 1, 3) := by decide +kernel
theorem dX11_drawn_155 : decode cX11_drawn 155 = .ok (.goto (-87), 3) := by decide +kernel
theorem dX11_drawn_158 : decode cX11_drawn 158 = .ok (.aload_n 0, 1) := by decide +kernel
theorem dX11_drawn_159 : decode cX11_drawn 159 = .ok (.iload_n 1, 1) := by decide +kernel
theorem dX11_drawn_160 : decode cX11_drawn 160 = .ok (.invokevirtual 328, 3) := by decide +kernel
theorem dX11_drawn_163 : decode cX11_drawn 163 = .ok (.istore 7, 2) := by decide +kernel
