theorem dX10_forgetBy_3 : decode cX10_forgetBy 3 = .ok (.istore 4, 2) := by decide +kernel
theorem dX10_forgetBy_5 : decode cX10_forgetBy 5 = .ok (.iload 4, 2) := by decide +kernel
theorem dX10_forgetBy_7 : decode cX10_forgetBy 7 = .ok (.bipush 96, 2) := by decide +kernel
theorem dX10_forgetBy_9 : decode cX10_forgetBy 9 = .ok (.if_icmp .ge 52, 3) := by decide +kernel
theorem dX10_forgetBy_12 : decode cX10_forgetBy 12 = .ok (.aload_n 2, 1) := by decide +kernel
theorem dX10_forgetBy_13 : decode cX10_forgetBy 13 = .ok (.iload 4, 2) := by decide +kernel
theorem dX10_forgetBy_15 : decode cX10_forgetBy 15 = .ok (.invokevirtual 150, 3) := by decide +kernel
theorem dX10_forgetBy_18 : decode cX10_forgetBy 18 = .ok (.ifCond .ne 6, 3) := by decide +kernel
theorem dX10_forgetBy_21 : decode cX10_forgetBy 21 = .ok (.goto 34, 3) := by decide +kernel
theorem dX10_forgetBy_24 : decode cX10_forgetBy 24 = .ok (.iload_n 3, 1) := by decide +kernel
theorem dX10_forgetBy_25 : decode cX10_forgetBy 25 = .ok (.ldc_w 276, 3) := by decide +kernel
theorem dX10_forgetBy_28 : decode cX10_forgetBy 28 = .ok (.imul, 1) := by decide +kernel
theorem dX10_forgetBy_29 : decode cX10_forgetBy 29 = .ok (.sipush 12345, 3) := by decide +kernel
theorem dX10_forgetBy_32 : decode cX10_forgetBy 32 = .ok (.iadd, 1) := by decide +kernel
theorem dX10_forgetBy_33 : decode cX10_forgetBy 33 = .ok (.istore_n 3, 1) := by decide +kernel
theorem dX10_forgetBy_34 : decode cX10_forgetBy 34 = .ok (.iload_n 3, 1) := by decide +kernel
theorem dX10_forgetBy_35 : decode cX10_forgetBy 35 = .ok (.bipush 8, 2) := by decide +kernel
theorem dX10_forgetBy_37 : decode cX10_forgetBy 37 = .ok (.iushr, 1) := by decide +kernel
theorem dX10_forgetBy_38 : decode cX10_forgetBy 38 = .ok (.bipush 12, 2) := by decide +kernel
theorem dX10_forgetBy_40 : decode cX10_forgetBy 40 = .ok (.irem, 1) := by decide +kernel
theorem dX10_forgetBy_41 : decode cX10_forgetBy 41 = .ok (.aload_n 0, 1) := by decide +kernel
theorem dX10_forgetBy_42 : decode cX10_forgetBy 42 = .ok (.getfield 277, 3) := by decide +kernel
theorem dX10_forgetBy_45 : decode cX10_forgetBy 45 = .ok (.if_icmp .ge 10, 3) := by decide +kernel
theorem dX10_forgetBy_48 : decode cX10_forgetBy 48 = .ok (.aload_n 2, 1) := by decide +kernel
theorem dX10_forgetBy_49 : decode cX10_forgetBy 49 = .ok (.iload 4, 2) := by decide +kernel
theorem dX10_forgetBy_51 : decode cX10_forgetBy 51 = .ok (.iconst 0, 1) := by decide +kernel
theorem dX10_forgetBy_52 : decode cX10_forgetBy 52 = .ok (.invokevirtual 153, 3) := by decide +kernel
theorem dX10_forgetBy_55 : decode cX10_forgetBy 55 = .ok (.iinc 4 1, 3) := by decide +kernel
theorem dX10_forgetBy_58 : decode cX10_forgetBy 58 = .ok (.goto (-53), 3) := by decide +kernel
theorem dX10_forgetBy_61 : decode cX10_forgetBy 61 = .ok (.iload_n 3, 1) := by decide +kernel
theorem dX10_forgetBy_62 : decode cX10_forgetBy 62 = .ok (.ireturn, 1) := by decide +kernel
set_option maxRecDepth 20000 in
theorem ggX10_begin_X10_songWithLine : GoodIn wsX10_begin wsX10_songWithLine := goodIn_r _ [8, 9, 10, 11, 7, 12, 13, 14, 15, 16, 17, 18, 19, 20, 21, 22, 23, 24, 25, 112, 113, 114, 115, 116, 117, 118, 119, 120, 121, 122, 123, 129, 130, 131, 132, 133] rfl (by decide +kernel)
set_option maxRecDepth 20000 in
theorem gX10_begin_X10_songWithLine : GoodIn wsX10_begin (wsV RX10 137 RX10 yX10_songWithLine wsX10_songWithLine) := goodIn_app (goodIn_of _ (by decide +kernel)) ggX10_begin_X10_songWithLine
set_option maxRecDepth 20000 in
theorem ggX10_begin_X4_isOn : GoodIn wsX10_begin wsX4_isOn := goodIn_r _ [30, 31, 32, 33, 34, 35, 36, 37, 124, 125, 126, 127, 128, 134, 135, 136, 137, 138, 139, 140, 141] rfl (by decide +kernel)
set_option maxRecDepth 20000 in
theorem gX10_begin_X4_isOn : GoodIn wsX10_begin (wsV RX10 281 RX4 yX4_isOn wsX4_isOn) := goodIn_app (goodIn_of _ (by decide +kernel)) ggX10_begin_X4_isOn
set_option maxRecDepth 20000 in
theorem ggX10_begin_X10_lineOf : GoodIn wsX10_begin wsX10_lineOf := goodIn_r _ [19] rfl (by decide +kernel)
set_option maxRecDepth 20000 in
theorem gX10_begin_X10_lineOf : GoodIn wsX10_begin (va_wsS RX10 144 yX10_lineOf wsX10_lineOf) := goodIn_app (goodIn_of _ (by decide +kernel)) ggX10_begin_X10_lineOf
set_option maxRecDepth 20000 in
theorem ggX10_begin_X3_start : GoodIn wsX10_begin wsX3_start := goodIn_r _ [42, 43, 44, 45, 35, 46, 47, 48, 49, 37, 50, 51, 52, 53, 54, 55, 56, 57, 58, 23, 59, 60, 61, 62, 63, 64, 65, 66, 67, 68, 69, 70, 71, 72, 73, 74, 75, 76, 77, 78, 79, 80, 81, 82, 83, 84, 85, 86, 134, 135, 136, 137, 138, 139, 140, 141, 129, 130, 131, 132, 133] rfl (by decide +kernel)
set_option maxRecDepth 20000 in
theorem gX10_begin_X3_start : GoodIn wsX10_begin (wsV RX10 238 RX3 yX3_start wsX3_start) := goodIn_app (goodIn_of _ (by decide +kernel)) ggX10_begin_X3_start
set_option maxRecDepth 20000 in
theorem ggX10_begin_X4_tellBegun : GoodIn wsX10_begin wsX4_tellBegun := goodIn_r _ [90, 91, 92, 93, 94, 29, 95, 31, 96, 97, 98, 99, 100, 101, 102, 103, 104, 105, 35, 106, 37, 107, 27, 28, 30, 32, 33, 34, 36, 108, 109, 110, 111, 48, 124, 125, 126, 127, 128, 134, 135, 136, 137, 138, 139, 140, 141] rfl (by decide +kernel)
set_option maxRecDepth 20000 in
theorem gX10_begin_X4_tellBegun : GoodIn wsX10_begin (wsV RX10 287 RX4 yX4_tellBegun wsX4_tellBegun) := goodIn_app (goodIn_of _ (by decide +kernel)) ggX10_begin_X4_tellBegun
theorem dX10_begin_0 : decode cX10_begin 0 = .ok (.aload_n 0, 1) := by decide +kernel
theorem dX10_begin_1 : decode cX10_begin 1 = .ok (.iload_n 1, 1) := by decide +kernel
theorem dX10_begin_2 : decode cX10_begin 2 = .ok (.invokevirtual 137, 3) := by decide +kernel
theorem dX10_begin_5 : decode cX10_begin 5 = .ok (.astore_n 2, 1) := by decide +kernel
theorem dX10_begin_6 : decode cX10_begin 6 = .ok (.aload_n 2, 1) := by decide +kernel
theorem dX10_begin_7 : decode cX10_begin 7 = .ok (.ifnonnull 5, 3) := by decide +kernel
theorem dX10_begin_10 : decode cX10_begin 10 = .ok (.iconst (-1), 1) := by decide +kernel
theorem dX10_begin_11 : decode cX10_begin 11 = .ok (.ireturn, 1) := by decide +kernel
theorem dX10_begin_12 : decode cX10_begin 12 = .ok (.aload_n 0, 1) := by decide +kernel
theorem dX10_begin_13 : decode cX10_begin 13 = .ok (.getfield 65, 3) := by decide +kernel
theorem dX10_begin_16 : decode cX10_begin 16 = .ok (.invokevirtual 281, 3) := by decide +kernel
theorem dX10_begin_19 : decode cX10_begin 19 = .ok (.ifCond .eq 6, 3) := by decide +kernel
theorem dX10_begin_22 : decode cX10_begin 22 = .ok (.bipush (-5), 2) := by decide +kernel
theorem dX10_begin_24 : decode cX10_begin 24 = .ok (.ireturn, 1) := by decide +kernel
theorem dX10_begin_25 : decode cX10_begin 25 = .ok (.aload_n 0, 1) := by decide +kernel
theorem dX10_begin_26 : decode cX10_begin 26 = .ok (.getfield 49, 3) := by decide +kernel
theorem dX10_begin_29 : decode cX10_begin 29 = .ok (.aload_n 0, 1) := by decide +kernel
theorem dX10_begin_30 : decode cX10_begin 30 = .ok (.getfield 65, 3) := by decide +kernel
theorem dX10_begin_33 : decode cX10_begin 33 = .ok (.getfield 284, 3) := by decide +kernel
theorem dX10_begin_36 : decode cX10_begin 36 = .ok (.aload_n 2, 1) := by decide +kernel
theorem dX10_begin_37 : decode cX10_begin 37 = .ok (.iload_n 1, 1) := by decide +kernel
theorem dX10_begin_38 : decode cX10_begin 38 = .ok (.invokestatic 144, 3) := by decide +kernel
theorem dX10_begin_41 : decode cX10_begin 41 = .ok (.invokevirtual 238, 3) := by decide +kernel
theorem dX10_begin_44 : decode cX10_begin 44 = .ok (.aload_n 0, 1) := by decide +kernel
theorem dX10_begin_45 : decode cX10_begin 45 = .ok (.getfield 65, 3) := by decide +kernel
theorem dX10_begin_48 : decode cX10_begin 48 = .ok (.invokevirtual 287, 3) := by decide +kernel
theorem dX10_begin_51 : decode cX10_begin 51 = .ok (.aload_n 0, 1) := by decide +kernel
theorem dX10_begin_52 : decode cX10_begin 52 = .ok (.getfield 65, 3) := by decide +kernel
theorem dX10_begin_55 : decode cX10_begin 55 = .ok (.invokevirtual 281, 3) := by decide +kernel
theorem dX10_begin_58 : decode cX10_begin 58 = .ok (.ifCond .eq 7, 3) := by decide +kernel
theorem dX10_begin_61 : decode cX10_begin 61 = .ok (.iconst 1, 1) := by decide +kernel
theorem dX10_begin_62 : decode cX10_begin 62 = .ok (.goto 4, 3) := by decide +kernel
theorem dX10_begin_65 : decode cX10_begin 65 = .ok (.iconst 0, 1) := by decide +kernel
theorem dX10_begin_66 : decode cX10_begin 66 = .ok (.ireturn, 1) := by decide +kernel
set_option maxRecDepth 20000 in
theorem ggX10_on_X4_isOn : GoodIn wsX10_on wsX4_isOn := goodIn_r _ [8, 9, 10, 11, 12, 13, 14, 15, 157, 158, 159, 160, 161, 162, 163, 164, 165, 166, 167, 168, 169] rfl (by decide +kernel)
set_option maxRecDepth 20000 in
theorem gX10_on_X4_isOn : GoodIn wsX10_on (wsV RX10 281 RX4 yX4_isOn wsX4_isOn) := goodIn_app (goodIn_of _ (by decide +kernel)) ggX10_on_X4_isOn
set_option maxRecDepth 20000 in
theorem ggX10_on_X3_goOn : GoodIn wsX10_on wsX3_goOn := goodIn_r _ [20, 21, 11, 12, 13, 14, 15, 22, 23, 24, 25, 26, 27, 28, 29, 30, 31, 32, 33, 34, 35, 36, 37, 38, 39, 40, 41, 42, 43, 19, 44, 45, 46, 47, 48, 49, 50, 51, 52, 53, 54, 55, 56, 57, 58, 59, 60, 61, 62, 63, 64, 65, 66, 67, 68, 69, 70, 71, 72, 73, 74, 75, 76, 77, 78, 79, 80, 81, 82, 83, 84, 85, 86, 87, 88, 89, 90, 91, 92, 93, 94, 95, 96, 97, 98, 99, 100, 101, 102, 103, 104, 105, 106, 107, 108, 109, 110, 111, 112, 113, 114, 115, 116, 117, 118, 119, 120, 121, 162, 163, 164, 165, 166, 167, 168, 169, 170, 171, 172, 173, 174, 175, 176, 177, 178, 179, 180, 181, 182, 183, 184] rfl (by decide +kernel)
set_option maxRecDepth 20000 in
theorem gX10_on_X3_goOn : GoodIn wsX10_on (wsV RX10 241 RX3 yX3_goOn wsX3_goOn) := goodIn_app (goodIn_of _ (by decide +kernel)) ggX10_on_X3_goOn
set_option maxRecDepth 20000 in
theorem ggX10_on_X4_tellGoneOn : GoodIn wsX10_on wsX4_tellGoneOn := goodIn_r _ [125, 9, 126, 127, 128, 129, 130, 131, 132, 133, 134, 135, 13, 136, 15, 137, 5, 6, 7, 8, 10, 11, 12, 14, 138, 23, 24, 25, 26, 157, 158, 159, 160, 161, 162, 163, 164, 165, 166, 167, 168, 169] rfl (by decide +kernel)
set_option maxRecDepth 20000 in
theorem gX10_on_X4_tellGoneOn : GoodIn wsX10_on (wsV RX10 290 RX4 yX4_tellGoneOn wsX4_tellGoneOn) := goodIn_app (goodIn_of _ (by decide +kernel)) ggX10_on_X4_tellGoneOn
set_option maxRecDepth 20000 in
theorem ggX10_on_X7_outcome : GoodIn wsX10_on wsX7_outcome := goodIn_r _ [136, 15, 162, 163, 164, 165, 166, 167, 168, 169] rfl (by decide +kernel)
set_option maxRecDepth 20000 in
theorem gX10_on_X7_outcome : GoodIn wsX10_on (wsV RX10 188 RX7 yX7_outcome wsX7_outcome) := goodIn_app (goodIn_of _ (by decide +kernel)) ggX10_on_X7_outcome
set_option maxRecDepth 20000 in
theorem ggX10_on_X7_where : GoodIn wsX10_on wsX7_where := goodIn_r _ [143, 40, 162, 163, 164, 165, 166, 167, 168, 169] rfl (by decide +kernel)
set_option maxRecDepth 20000 in
theorem gX10_on_X7_where : GoodIn wsX10_on (wsV RX10 191 RX7 yX7_where wsX7_where) := goodIn_app (goodIn_of _ (by decide +kernel)) ggX10_on_X7_where
set_option maxRecDepth 20000 in
theorem ggX10_on_X7_last : GoodIn wsX10_on wsX7_last := goodIn_r _ [30, 31, 26, 32, 33, 34, 35, 162, 163, 164, 165, 166, 167, 168, 169] rfl (by decide +kernel)
set_option maxRecDepth 20000 in
theorem gX10_on_X7_last : GoodIn wsX10_on (wsV RX10 293 RX7 yX7_last wsX7_last) := goodIn_app (goodIn_of _ (by decide +kernel)) ggX10_on_X7_last
theorem dX10_on_0 : decode cX10_on 0 = .ok (.aload_n 0, 1) := by decide +kernel
theorem dX10_on_1 : decode cX10_on 1 = .ok (.getfield 65, 3) := by decide +kernel
theorem dX10_on_4 : decode cX10_on 4 = .ok (.invokevirtual 281, 3) := by decide +kernel
theorem dX10_on_7 : decode cX10_on 7 = .ok (.ifCond .ne 6, 3) := by decide +kernel
theorem dX10_on_10 : decode cX10_on 10 = .ok (.bipush (-5), 2) := by decide +kernel
theorem dX10_on_12 : decode cX10_on 12 = .ok (.ireturn, 1) := by decide +kernel
theorem dX10_on_13 : decode cX10_on 13 = .ok (.aload_n 0, 1) := by decide +kernel
theorem dX10_on_14 : decode cX10_on 14 = .ok (.getfield 65, 3) := by decide +kernel
theorem dX10_on_17 : decode cX10_on 17 = .ok (.getfield 284, 3) := by decide +kernel
theorem dX10_on_20 : decode cX10_on 20 = .ok (.astore_n 1, 1) := by decide +kernel
theorem dX10_on_21 : decode cX10_on 21 = .ok (.aload_n 0, 1) := by decide +kernel
theorem dX10_on_22 : decode cX10_on 22 = .ok (.getfield 49, 3) := by decide +kernel
theorem dX10_on_25 : decode cX10_on 25 = .ok (.aload_n 1, 1) := by decide +kernel
theorem dX10_on_26 : decode cX10_on 26 = .ok (.invokevirtual 241, 3) := by decide +kernel
theorem dX10_on_29 : decode cX10_on 29 = .ok (.aload_n 0, 1) := by decide +kernel
theorem dX10_on_30 : decode cX10_on 30 = .ok (.getfield 65, 3) := by decide +kernel
theorem dX10_on_33 : decode cX10_on 33 = .ok (.invokevirtual 290, 3) := by decide +kernel
theorem dX10_on_36 : decode cX10_on 36 = .ok (.aload_n 1, 1) := by decide +kernel
theorem dX10_on_37 : decode cX10_on 37 = .ok (.invokevirtual 188, 3) := by decide +kernel
theorem dX10_on_40 : decode cX10_on 40 = .ok (.tableswitch 42 0 2 #[36, 28, 39], 28) := by decide +kernel
theorem dX10_on_68 : decode cX10_on 68 = .ok (.bipush (-20), 2) := by decide +kernel
theorem dX10_on_70 : decode cX10_on 70 = .ok (.aload_n 1, 1) := by decide +kernel
theorem dX10_on_71 : decode cX10_on 71 = .ok (.invokevirtual 191, 3) := by decide +kernel
theorem dX10_on_74 : decode cX10_on 74 = .ok (.isub, 1) := by decide +kernel
theorem dX10_on_75 : decode cX10_on 75 = .ok (.ireturn, 1) := by decide +kernel
theorem dX10_on_76 : decode cX10_on 76 = .ok (.bipush (-2), 2) := by decide +kernel
theorem dX10_on_78 : decode cX10_on 78 = .ok (.ireturn, 1) := by decide +kernel
theorem dX10_on_79 : decode cX10_on 79 = .ok (.bipush (-6), 2) := by decide +kernel
theorem dX10_on_81 : decode cX10_on 81 = .ok (.ireturn, 1) := by decide +kernel
theorem dX10_on_82 : decode cX10_on 82 = .ok (.aload_n 1, 1) := by decide +kernel
theorem dX10_on_83 : decode cX10_on 83 = .ok (.invokevirtual 293, 3) := by decide +kernel
theorem dX10_on_86 : decode cX10_on 86 = .ok (.ireturn, 1) := by decide +kernel
set_option maxRecDepth 20000 in
theorem ggX10_led_X4_isOn : GoodIn wsX10_led wsX4_isOn := goodIn_r _ [11, 12, 13, 14, 15, 16, 17, 18, 36, 37, 38, 39, 40, 41, 42, 43, 44, 45, 46, 47, 48] rfl (by decide +kernel)
set_option maxRecDepth 20000 in
theorem gX10_led_X4_isOn : GoodIn wsX10_led (wsV RX10 281 RX4 yX4_isOn wsX4_isOn) := goodIn_app (goodIn_of _ (by decide +kernel)) ggX10_led_X4_isOn
set_option maxRecDepth 20000 in
theorem ggX10_led_X7_size : GoodIn wsX10_led wsX7_size := goodIn_r _ [22, 23, 41, 42, 43, 44, 45, 46, 47, 48] rfl (by decide +kernel)
set_option maxRecDepth 20000 in
theorem gX10_led_X7_size : GoodIn wsX10_led (wsV RX10 187 RX7 yX7_size wsX7_size) := goodIn_app (goodIn_of _ (by decide +kernel)) ggX10_led_X7_size
theorem dX10_led_0 : decode cX10_led 0 = .ok (.iload_n 1, 1) := by decide +kernel
theorem dX10_led_1 : decode cX10_led 1 = .ok (.tableswitch 93 0 4 #[35, 43, 51, 59, 67], 35) := by decide +kernel
theorem dX10_led_36 : decode cX10_led 36 = .ok (.aload_n 0, 1) := by decide +kernel
theorem dX10_led_37 : decode cX10_led 37 = .ok (.getfield 65, 3) := by decide +kernel
theorem dX10_led_40 : decode cX10_led 40 = .ok (.getfield 296, 3) := by decide +kernel
theorem dX10_led_43 : decode cX10_led 43 = .ok (.ireturn, 1) := by decide +kernel
theorem dX10_led_44 : decode cX10_led 44 = .ok (.aload_n 0, 1) := by decide +kernel
theorem dX10_led_45 : decode cX10_led 45 = .ok (.getfield 65, 3) := by decide +kernel
theorem dX10_led_48 : decode cX10_led 48 = .ok (.getfield 299, 3) := by decide +kernel
theorem dX10_led_51 : decode cX10_led 51 = .ok (.ireturn, 1) := by decide +kernel
theorem dX10_led_52 : decode cX10_led 52 = .ok (.aload_n 0, 1) := by decide +kernel
theorem dX10_led_53 : decode cX10_led 53 = .ok (.getfield 65, 3) := by decide +kernel
theorem dX10_led_56 : decode cX10_led 56 = .ok (.getfield 302, 3) := by decide +kernel
theorem dX10_led_59 : decode cX10_led 59 = .ok (.ireturn, 1) := by decide +kernel
theorem dX10_led_60 : decode cX10_led 60 = .ok (.aload_n 0, 1) := by decide +kernel
theorem dX10_led_61 : decode cX10_led 61 = .ok (.getfield 65, 3) := by decide +kernel
theorem dX10_led_64 : decode cX10_led 64 = .ok (.getfield 305, 3) := by decide +kernel
theorem dX10_led_67 : decode cX10_led 67 = .ok (.ireturn, 1) := by decide +kernel
theorem dX10_led_68 : decode cX10_led 68 = .ok (.aload_n 0, 1) := by decide +kernel
theorem dX10_led_69 : decode cX10_led 69 = .ok (.getfield 65, 3) := by decide +kernel
theorem dX10_led_72 : decode cX10_led 72 = .ok (.invokevirtual 281, 3) := by decide +kernel
theorem dX10_led_75 : decode cX10_led 75 = .ok (.ifCond .eq 16, 3) := by decide +kernel
theorem dX10_led_78 : decode cX10_led 78 = .ok (.aload_n 0, 1) := by decide +kernel
theorem dX10_led_79 : decode cX10_led 79 = .ok (.getfield 65, 3) := by decide +kernel
theorem dX10_led_82 : decode cX10_led 82 = .ok (.getfield 284, 3) := by decide +kernel
theorem dX10_led_85 : decode cX10_led 85 = .ok (.invokevirtual 187, 3) := by decide +kernel
theorem dX10_led_88 : decode cX10_led 88 = .ok (.goto 5, 3) := by decide +kernel
theorem dX10_led_91 : decode cX10_led 91 = .ok (.bipush (-5), 2) := by decide +kernel
theorem dX10_led_93 : decode cX10_led 93 = .ok (.ireturn, 1) := by decide +kernel
theorem dX10_led_94 : decode cX10_led 94 = .ok (.iconst (-1), 1) := by decide +kernel
theorem dX10_led_95 : decode cX10_led 95 = .ok (.ireturn, 1) := by decide +kernel
set_option maxRecDepth 20000 in
theorem ggX10_image_X8_keepImage : GoodIn wsX10_image wsX8_keepImage := goodIn_r _ [10, 11, 12, 13, 14, 15, 16, 17, 18, 19, 20, 21, 22, 23, 24, 66, 67, 68, 69, 70] rfl (by decide +kernel)
set_option maxRecDepth 20000 in
theorem gX10_image_X8_keepImage : GoodIn wsX10_image (wsV RX10 308 RX8 yX8_keepImage wsX8_keepImage) := goodIn_app (goodIn_of _ (by decide +kernel)) ggX10_image_X8_keepImage
set_option maxRecDepth 20000 in
theorem ggX10_image_X4_copyFrom : GoodIn wsX10_image wsX4_copyFrom := goodIn_r _ [29, 30, 31, 32, 33, 34, 35, 36, 37, 38, 39, 40, 41, 42, 43, 44, 45, 46, 47, 48, 14, 15, 16, 17, 18, 19, 20, 21, 22, 23, 24, 61, 62, 63, 64, 65, 71, 72, 73, 74, 75, 76, 77, 78] rfl (by decide +kernel)
set_option maxRecDepth 20000 in
theorem gX10_image_X4_copyFrom : GoodIn wsX10_image (wsV RX10 311 RX4 yX4_copyFrom wsX4_copyFrom) := goodIn_app (goodIn_of _ (by decide +kernel)) ggX10_image_X4_copyFrom
theorem dX10_image_0 : decode cX10_image 0 = .ok (.iconst 0, 1) := by decide +kernel
theorem dX10_image_1 : decode cX10_image 1 = .ok (.istore_n 1, 1) := by decide +kernel
theorem dX10_image_2 : decode cX10_image 2 = .ok (.iload_n 1, 1) := by decide +kernel
theorem dX10_image_3 : decode cX10_image 3 = .ok (.aload_n 0, 1) := by decide +kernel
theorem dX10_image_4 : decode cX10_image 4 = .ok (.getfield 11, 3) := by decide +kernel
theorem dX10_image_7 : decode cX10_image 7 = .ok (.arraylength, 1) := by decide +kernel
theorem dX10_image_8 : decode cX10_image 8 = .ok (.if_icmp .ge 18, 3) := by decide +kernel
theorem dX10_image_11 : decode cX10_image 11 = .ok (.aload_n 0, 1) := by decide +kernel
theorem dX10_image_12 : decode cX10_image 12 = .ok (.getfield 11, 3) := by decide +kernel
theorem dX10_image_15 : decode cX10_image 15 = .ok (.iload_n 1, 1) := by decide +kernel
theorem dX10_image_16 : decode cX10_image 16 = .ok (.aaload, 1) := by decide +kernel
theorem dX10_image_17 : decode cX10_image 17 = .ok (.invokevirtual 308, 3) := by decide +kernel
theorem dX10_image_20 : decode cX10_image 20 = .ok (.iinc 1 1, 3) := by decide +kernel
theorem dX10_image_23 : decode cX10_image 23 = .ok (.goto (-21), 3) := by decide +kernel
theorem dX10_image_26 : decode cX10_image 26 = .ok (.aload_n 0, 1) := by decide +kernel
theorem dX10_image_27 : decode cX10_image 27 = .ok (.getfield 69, 3) := by decide +kernel
theorem dX10_image_30 : decode cX10_image 30 = .ok (.aload_n 0, 1) := by decide +kernel
theorem dX10_image_31 : decode cX10_image 31 = .ok (.getfield 65, 3) := by decide +kernel
theorem dX10_image_34 : decode cX10_image 34 = .ok (.invokevirtual 311, 3) := by decide +kernel
theorem dX10_image_37 : decode cX10_image 37 = .ok (.aload_n 0, 1) := by decide +kernel
theorem dX10_image_38 : decode cX10_image 38 = .ok (.iconst 1, 1) := by decide +kernel
theorem dX10_image_39 : decode cX10_image 39 = .ok (.putfield 315, 3) := by decide +kernel
theorem dX10_image_42 : decode cX10_image 42 = .ok (.aload_n 0, 1) := by decide +kernel
theorem dX10_image_43 : decode cX10_image 43 = .ok (.getfield 65, 3) := by decide +kernel
theorem dX10_image_46 : decode cX10_image 46 = .ok (.getfield 296, 3) := by decide +kernel
theorem dX10_image_49 : decode cX10_image 49 = .ok (.ireturn, 1) := by decide +kernel
set_option maxRecDepth 20000 in
theorem ggX10_back_X8_layImageBack : GoodIn wsX10_back wsX8_layImageBack := goodIn_r _ [10, 11, 12, 13, 14, 15, 16, 17, 18, 19, 20, 21, 22, 23, 24, 66, 67, 68, 69, 70] rfl (by decide +kernel)
set_option maxRecDepth 20000 in
theorem gX10_back_X8_layImageBack : GoodIn wsX10_back (wsV RX10 319 RX8 yX8_layImageBack wsX8_layImageBack) := goodIn_app (goodIn_of _ (by decide +kernel)) ggX10_back_X8_layImageBack
set_option maxRecDepth 20000 in
theorem ggX10_back_X4_copyFrom : GoodIn wsX10_back wsX4_copyFrom := goodIn_r _ [29, 30, 31, 32, 33, 34, 35, 36, 37, 38, 39, 40, 41, 42, 43, 44, 45, 46, 47, 48, 14, 15, 16, 17, 18, 19, 20, 21, 22, 23, 24, 61, 62, 63, 64, 65, 71, 72, 73, 74, 75, 76, 77, 78] rfl (by decide +kernel)
set_option maxRecDepth 20000 in
theorem gX10_back_X4_copyFrom : GoodIn wsX10_back (wsV RX10 311 RX4 yX4_copyFrom wsX4_copyFrom) := goodIn_app (goodIn_of _ (by decide +kernel)) ggX10_back_X4_copyFrom
theorem dX10_back_0 : decode cX10_back 0 = .ok (.aload_n 0, 1) := by decide +kernel
theorem dX10_back_1 : decode cX10_back 1 = .ok (.getfield 315, 3) := by decide +kernel
theorem dX10_back_4 : decode cX10_back 4 = .ok (.ifCond .ne 6, 3) := by decide +kernel
theorem dX10_back_7 : decode cX10_back 7 = .ok (.bipush (-5), 2) := by decide +kernel
theorem dX10_back_9 : decode cX10_back 9 = .ok (.ireturn, 1) := by decide +kernel
theorem dX10_back_10 : decode cX10_back 10 = .ok (.iconst 0, 1) := by decide +kernel
theorem dX10_back_11 : decode cX10_back 11 = .ok (.istore_n 1, 1) := by decide +kernel
theorem dX10_back_12 : decode cX10_back 12 = .ok (.iload_n 1, 1) := by decide +kernel
theorem dX10_back_13 : decode cX10_back 13 = .ok (.aload_n 0, 1) := by decide +kernel
theorem dX10_back_14 : decode cX10_back 14 = .ok (.getfield 11, 3) := by decide +kernel
theorem dX10_back_17 : decode cX10_back 17 = .ok (.arraylength, 1) := by decide +kernel
theorem dX10_back_18 : decode cX10_back 18 = .ok (.if_icmp .ge 18, 3) := by decide +kernel
theorem dX10_back_21 : decode cX10_back 21 = .ok (.aload_n 0, 1) := by decide +kernel
theorem dX10_back_22 : decode cX10_back 22 = .ok (.getfield 11, 3) := by decide +kernel
theorem dX10_back_25 : decode cX10_back 25 = .ok (.iload_n 1, 1) := by decide +kernel
theorem dX10_back_26 : decode cX10_back 26 = .ok (.aaload, 1) := by decide +kernel
theorem dX10_back_27 : decode cX10_back 27 = .ok (.invokevirtual 319, 3) := by decide +kernel
theorem dX10_back_30 : decode cX10_back 30 = .ok (.iinc 1 1, 3) := by decide +kernel
theorem dX10_back_33 : decode cX10_back 33 = .ok (.goto (-21), 3) := by decide +kernel
theorem dX10_back_36 : decode cX10_back 36 = .ok (.aload_n 0, 1) := by decide +kernel
theorem dX10_back_37 : decode cX10_back 37 = .ok (.getfield 65, 3) := by decide +kernel
theorem dX10_back_40 : decode cX10_back 40 = .ok (.aload_n 0, 1) := by decide +kernel
theorem dX10_back_41 : decode cX10_back 41 = .ok (.getfield 69, 3) := by decide +kernel
theorem dX10_back_44 : decode cX10_back 44 = .ok (.invokevirtual 311, 3) := by decide +kernel
theorem dX10_back_47 : decode cX10_back 47 = .ok (.aload_n 0, 1) := by decide +kernel
theorem dX10_back_48 : decode cX10_back 48 = .ok (.getfield 65, 3) := by decide +kernel
theorem dX10_back_51 : decode cX10_back 51 = .ok (.getfield 296, 3) := by decide +kernel
theorem dX10_back_54 : decode cX10_back 54 = .ok (.ireturn, 1) := by decide +kernel
set_option maxRecDepth 20000 in
theorem ggX10_undo_X2_undoable : GoodIn wsX10_undo wsX2_undoable := goodIn_r _ [6, 7, 81, 82, 83, 84, 85, 86] rfl (by decide +kernel)
set_option maxRecDepth 20000 in
theorem gX10_undo_X2_undoable : GoodIn wsX10_undo (wsV RX10 322 RX2 yX2_undoable wsX2_undoable) := goodIn_app (goodIn_of _ (by decide +kernel)) ggX10_undo_X2_undoable
set_option maxRecDepth 20000 in
theorem ggX10_undo_X2_stepBack : GoodIn wsX10_undo wsX2_stepBack := goodIn_r _ [11, 7, 81, 82, 83, 84, 85, 86] rfl (by decide +kernel)
set_option maxRecDepth 20000 in
theorem gX10_undo_X2_stepBack : GoodIn wsX10_undo (wsV RX10 325 RX2 yX2_stepBack wsX2_stepBack) := goodIn_app (goodIn_of _ (by decide +kernel)) ggX10_undo_X2_stepBack
set_option maxRecDepth 20000 in
theorem ggX10_undo_X2_number : GoodIn wsX10_undo wsX2_number := goodIn_r _ [15, 16, 17, 18, 19, 20, 81, 82, 83, 84, 85, 86] rfl (by decide +kernel)
set_option maxRecDepth 20000 in
theorem gX10_undo_X2_number : GoodIn wsX10_undo (wsV RX10 328 RX2 yX2_number wsX2_number) := goodIn_app (goodIn_of _ (by decide +kernel)) ggX10_undo_X2_number
set_option maxRecDepth 20000 in
theorem ggX10_undo_X2_what : GoodIn wsX10_undo wsX2_what := goodIn_r _ [24, 25, 17, 18, 19, 20, 81, 82, 83, 84, 85, 86] rfl (by decide +kernel)
set_option maxRecDepth 20000 in
theorem gX10_undo_X2_what : GoodIn wsX10_undo (wsV RX10 331 RX2 yX2_what wsX2_what) := goodIn_app (goodIn_of _ (by decide +kernel)) ggX10_undo_X2_what
set_option maxRecDepth 20000 in
theorem ggX10_undo_X2_before : GoodIn wsX10_undo wsX2_before := goodIn_r _ [29, 30, 17, 18, 19, 20, 81, 82, 83, 84, 85, 86] rfl (by decide +kernel)
set_option maxRecDepth 20000 in
theorem gX10_undo_X2_before : GoodIn wsX10_undo (wsV RX10 334 RX2 yX2_before wsX2_before) := goodIn_app (goodIn_of _ (by decide +kernel)) ggX10_undo_X2_before
set_option maxRecDepth 20000 in
theorem ggX10_undo_X10_become : GoodIn wsX10_undo wsX10_become := goodIn_r _ [35, 36, 37, 38, 39, 40, 19, 41, 42, 43, 44, 34, 45, 46, 47, 48, 49, 50, 51, 52, 53, 54, 55, 56, 57, 58, 59, 60, 61, 62, 63, 64, 65, 66, 67, 68, 69, 70, 71, 72, 73, 74, 75, 76, 77, 78, 79, 80, 87, 88, 89, 90, 91, 92, 93, 94] rfl (by decide +kernel)
set_option maxRecDepth 20000 in
theorem gX10_undo_X10_become : GoodIn wsX10_undo (wsV RX10 171 RX10 yX10_become wsX10_become) := goodIn_app (goodIn_of _ (by decide +kernel)) ggX10_undo_X10_become
theorem dX10_undo_0 : decode cX10_undo 0 = .ok (.aload_n 0, 1) := by decide +kernel
theorem dX10_undo_1 : decode cX10_undo 1 = .ok (.getfield 18, 3) := by decide +kernel
theorem dX10_undo_4 : decode cX10_undo 4 = .ok (.invokevirtual 322, 3) := by decide +kernel
theorem dX10_undo_7 : decode cX10_undo 7 = .ok (.ifCond .ne 6, 3) := by decide +kernel
theorem dX10_undo_10 : decode cX10_undo 10 = .ok (.bipush (-5), 2) := by decide +kernel
theorem dX10_undo_12 : decode cX10_undo 12 = .ok (.ireturn, 1) := by decide +kernel
theorem dX10_undo_13 : decode cX10_undo 13 = .ok (.aload_n 0, 1) := by decide +kernel
theorem dX10_undo_14 : decode cX10_undo 14 = .ok (.getfield 18, 3) := by decide +kernel
theorem dX10_undo_17 : decode cX10_undo 17 = .ok (.invokevirtual 325, 3) := by decide +kernel
theorem dX10_undo_20 : decode cX10_undo 20 = .ok (.istore_n 1, 1) := by decide +kernel
theorem dX10_undo_21 : decode cX10_undo 21 = .ok (.aload_n 0, 1) := by decide +kernel
theorem dX10_undo_22 : decode cX10_undo 22 = .ok (.aload_n 0, 1) := by decide +kernel
theorem dX10_undo_23 : decode cX10_undo 23 = .ok (.getfield 18, 3) := by decide +kernel
theorem dX10_undo_26 : decode cX10_undo 26 = .ok (.iload_n 1, 1) := by decide +kernel
theorem dX10_undo_27 : decode cX10_undo 27 = .ok (.invokevirtual 328, 3) := by decide +kernel
theorem dX10_undo_30 : decode cX10_undo 30 = .ok (.aload_n 0, 1) := by decide +kernel
theorem dX10_undo_31 : decode cX10_undo 31 = .ok (.getfield 18, 3) := by decide +kernel
theorem dX10_undo_34 : decode cX10_undo 34 = .ok (.iload_n 1, 1) := by decide +kernel
theorem dX10_undo_35 : decode cX10_undo 35 = .ok (.invokevirtual 331, 3) := by decide +kernel
theorem dX10_undo_38 : decode cX10_undo 38 = .ok (.aload_n 0, 1) := by decide +kernel
theorem dX10_undo_39 : decode cX10_undo 39 = .ok (.getfield 18, 3) := by decide +kernel
theorem dX10_undo_42 : decode cX10_undo 42 = .ok (.iload_n 1, 1) := by decide +kernel
theorem dX10_undo_43 : decode cX10_undo 43 = .ok (.invokevirtual 334, 3) := by decide +kernel
theorem dX10_undo_46 : decode cX10_undo 46 = .ok (.invokevirtual 171, 3) := by decide +kernel
theorem dX10_undo_49 : decode cX10_undo 49 = .ok (.aload_n 0, 1) := by decide +kernel
theorem dX10_undo_50 : decode cX10_undo 50 = .ok (.getfield 18, 3) := by decide +kernel
theorem dX10_undo_53 : decode cX10_undo 53 = .ok (.invokevirtual 322, 3) := by decide +kernel
theorem dX10_undo_56 : decode cX10_undo 56 = .ok (.ireturn, 1) := by decide +kernel
set_option maxRecDepth 20000 in
theorem ggX10_redo_X2_redoable : GoodIn wsX10_redo wsX2_redoable := goodIn_r _ [6, 7, 8, 82, 83, 84, 85, 86, 87] rfl (by decide +kernel)
set_option maxRecDepth 20000 in
theorem gX10_redo_X2_redoable : GoodIn wsX10_redo (wsV RX10 337 RX2 yX2_redoable wsX2_redoable) := goodIn_app (goodIn_of _ (by decide +kernel)) ggX10_redo_X2_redoable
set_option maxRecDepth 20000 in
theorem ggX10_redo_X2_stepAhead : GoodIn wsX10_redo wsX2_stepAhead := goodIn_r _ [12, 8, 7, 82, 83, 84, 85, 86, 87] rfl (by decide +kernel)
set_option maxRecDepth 20000 in
theorem gX10_redo_X2_stepAhead : GoodIn wsX10_redo (wsV RX10 340 RX2 yX2_stepAhead wsX2_stepAhead) := goodIn_app (goodIn_of _ (by decide +kernel)) ggX10_redo_X2_stepAhead
set_option maxRecDepth 20000 in
theorem ggX10_redo_X2_number : GoodIn wsX10_redo wsX2_number := goodIn_r _ [16, 17, 18, 19, 20, 21, 82, 83, 84, 85, 86, 87] rfl (by decide +kernel)
set_option maxRecDepth 20000 in
theorem gX10_redo_X2_number : GoodIn wsX10_redo (wsV RX10 328 RX2 yX2_number wsX2_number) := goodIn_app (goodIn_of _ (by decide +kernel)) ggX10_redo_X2_number
set_option maxRecDepth 20000 in
theorem ggX10_redo_X2_what : GoodIn wsX10_redo wsX2_what := goodIn_r _ [25, 26, 18, 19, 20, 21, 82, 83, 84, 85, 86, 87] rfl (by decide +kernel)
set_option maxRecDepth 20000 in
theorem gX10_redo_X2_what : GoodIn wsX10_redo (wsV RX10 331 RX2 yX2_what wsX2_what) := goodIn_app (goodIn_of _ (by decide +kernel)) ggX10_redo_X2_what
set_option maxRecDepth 20000 in
theorem ggX10_redo_X2_after : GoodIn wsX10_redo wsX2_after := goodIn_r _ [30, 31, 18, 19, 20, 21, 82, 83, 84, 85, 86, 87] rfl (by decide +kernel)
set_option maxRecDepth 20000 in
theorem gX10_redo_X2_after : GoodIn wsX10_redo (wsV RX10 343 RX2 yX2_after wsX2_after) := goodIn_app (goodIn_of _ (by decide +kernel)) ggX10_redo_X2_after
set_option maxRecDepth 20000 in
theorem ggX10_redo_X10_become : GoodIn wsX10_redo wsX10_become := goodIn_r _ [36, 37, 38, 39, 40, 41, 20, 42, 43, 44, 45, 35, 46, 47, 48, 49, 50, 51, 52, 53, 54, 55, 56, 57, 58, 59, 60, 61, 62, 63, 64, 65, 66, 67, 68, 69, 70, 71, 72, 73, 74, 75, 76, 77, 78, 79, 80, 81, 88, 89, 90, 91, 92, 93, 94, 95] rfl (by decide +kernel)
set_option maxRecDepth 20000 in
theorem gX10_redo_X10_become : GoodIn wsX10_redo (wsV RX10 171 RX10 yX10_become wsX10_become) := goodIn_app (goodIn_of _ (by decide +kernel)) ggX10_redo_X10_become
theorem dX10_redo_0 : decode cX10_redo 0 = .ok (.aload_n 0, 1) := by decide +kernel
theorem dX10_redo_1 : decode cX10_redo 1 = .ok (.getfield 18, 3) := by decide +kernel
theorem dX10_redo_4 : decode cX10_redo 4 = .ok (.invokevirtual 337, 3) := by decide +kernel
theorem dX10_redo_7 : decode cX10_redo 7 = .ok (.ifCond .ne 6, 3) := by decide +kernel
theorem dX10_redo_10 : decode cX10_redo 10 = .ok (.bipush (-5), 2) := by decide +kernel
theorem dX10_redo_12 : decode cX10_redo 12 = .ok (.ireturn, 1) := by decide +kernel
theorem dX10_redo_13 : decode cX10_redo 13 = .ok (.aload_n 0, 1) := by decide +kernel
theorem dX10_redo_14 : decode cX10_redo 14 = .ok (.getfield 18, 3) := by decide +kernel
theorem dX10_redo_17 : decode cX10_redo 17 = .ok (.invokevirtual 340, 3) := by decide +kernel
theorem dX10_redo_20 : decode cX10_redo 20 = .ok (.istore_n 1, 1) := by decide +kernel
theorem dX10_redo_21 : decode cX10_redo 21 = .ok (.aload_n 0, 1) := by decide +kernel
theorem dX10_redo_22 : decode cX10_redo 22 = .ok (.aload_n 0, 1) := by decide +kernel
theorem dX10_redo_23 : decode cX10_redo 23 = .ok (.getfield 18, 3) := by decide +kernel
theorem dX10_redo_26 : decode cX10_redo 26 = .ok (.iload_n 1, 1) := by decide +kernel
theorem dX10_redo_27 : decode cX10_redo 27 = .ok (.invokevirtual 328, 3) := by decide +kernel
theorem dX10_redo_30 : decode cX10_redo 30 = .ok (.aload_n 0, 1) := by decide +kernel
theorem dX10_redo_31 : decode cX10_redo 31 = .ok (.getfield 18, 3) := by decide +kernel
theorem dX10_redo_34 : decode cX10_redo 34 = .ok (.iload_n 1, 1) := by decide +kernel
theorem dX10_redo_35 : decode cX10_redo 35 = .ok (.invokevirtual 331, 3) := by decide +kernel
theorem dX10_redo_38 : decode cX10_redo 38 = .ok (.aload_n 0, 1) := by decide +kernel
theorem dX10_redo_39 : decode cX10_redo 39 = .ok (.getfield 18, 3) := by decide +kernel
theorem dX10_redo_42 : decode cX10_redo 42 = .ok (.iload_n 1, 1) := by decide +kernel
theorem dX10_redo_43 : decode cX10_redo 43 = .ok (.invokevirtual 343, 3) := by decide +kernel
theorem dX10_redo_46 : decode cX10_redo 46 = .ok (.invokevirtual 171, 3) := by decide +kernel
theorem dX10_redo_49 : decode cX10_redo 49 = .ok (.aload_n 0, 1) := by decide +kernel
theorem dX10_redo_50 : decode cX10_redo 50 = .ok (.getfield 18, 3) := by decide +kernel
theorem dX10_redo_53 : decode cX10_redo 53 = .ok (.invokevirtual 337, 3) := by decide +kernel
theorem dX10_redo_56 : decode cX10_redo 56 = .ok (.ireturn, 1) := by decide +kernel
set_option maxRecDepth 20000 in
theorem ggX10_body_X0_isKind : GoodIn wsX10_body wsX0_isKind := goodIn_r _ [5, 6, 7, 8] rfl (by decide +kernel)
set_option maxRecDepth 20000 in
theorem gX10_body_X0_isKind : GoodIn wsX10_body (va_wsS RX10 346 yX0_isKind wsX0_isKind) := goodIn_app (goodIn_of _ (by decide +kernel)) ggX10_body_X0_isKind
set_option maxRecDepth 20000 in
theorem ggX10_body_X0_isFull : GoodIn wsX10_body wsX0_isFull := goodIn_r _ [12, 13, 35, 36, 37, 38, 39] rfl (by decide +kernel)
set_option maxRecDepth 20000 in
theorem gX10_body_X0_isFull : GoodIn wsX10_body (wsV RX10 349 RX0 yX0_isFull wsX0_isFull) := goodIn_app (goodIn_of _ (by decide +kernel)) ggX10_body_X0_isFull
set_option maxRecDepth 20000 in
theorem ggX10_body_X0_addBody : GoodIn wsX10_body wsX0_addBody := goodIn_r _ [17, 18, 13, 19, 20, 21, 22, 35, 36, 37, 38, 39] rfl (by decide +kernel)
set_option maxRecDepth 20000 in
theorem gX10_body_X0_addBody : GoodIn wsX10_body (wsV RX10 350 RX0 yX0_addBody wsX0_addBody) := goodIn_app (goodIn_of _ (by decide +kernel)) ggX10_body_X0_addBody
theorem dX10_body_0 : decode cX10_body 0 = .ok (.iload_n 1, 1) := by decide +kernel
theorem dX10_body_1 : decode cX10_body 1 = .ok (.invokestatic 346, 3) := by decide +kernel
theorem dX10_body_4 : decode cX10_body 4 = .ok (.ifCond .ne 5, 3) := by decide +kernel
theorem dX10_body_7 : decode cX10_body 7 = .ok (.iconst (-1), 1) := by decide +kernel
theorem dX10_body_8 : decode cX10_body 8 = .ok (.ireturn, 1) := by decide +kernel
theorem dX10_body_9 : decode cX10_body 9 = .ok (.aload_n 0, 1) := by decide +kernel
theorem dX10_body_10 : decode cX10_body 10 = .ok (.getfield 25, 3) := by decide +kernel
theorem dX10_body_13 : decode cX10_body 13 = .ok (.invokevirtual 349, 3) := by decide +kernel
theorem dX10_body_16 : decode cX10_body 16 = .ok (.ifCond .eq 8, 3) := by decide +kernel
theorem dX10_body_19 : decode cX10_body 19 = .ok (.bipush (-3), 2) := by decide +kernel
theorem dX10_body_21 : decode cX10_body 21 = .ok (.goto 11, 3) := by decide +kernel
theorem dX10_body_24 : decode cX10_body 24 = .ok (.aload_n 0, 1) := by decide +kernel
theorem dX10_body_25 : decode cX10_body 25 = .ok (.getfield 25, 3) := by decide +kernel
theorem dX10_body_28 : decode cX10_body 28 = .ok (.iload_n 1, 1) := by decide +kernel
theorem dX10_body_29 : decode cX10_body 29 = .ok (.invokevirtual 350, 3) := by decide +kernel
theorem dX10_body_32 : decode cX10_body 32 = .ok (.ireturn, 1) := by decide +kernel
set_option maxRecDepth 20000 in
theorem ggX10_act_X0_perform : GoodIn wsX10_act wsX0_perform := goodIn_r _ [6, 7, 8, 9, 10, 11, 5, 12, 13, 14, 15, 16, 17, 18, 19, 20, 21, 22, 23, 24, 25, 26, 27, 28, 29, 30, 31, 32, 33, 34, 35, 36, 37, 38, 39, 40, 41, 42, 43, 44, 45, 46, 47, 48, 49, 62, 63, 64, 65, 66] rfl (by decide +kernel)
set_option maxRecDepth 20000 in
theorem gX10_act_X0_perform : GoodIn wsX10_act (wsV RX10 353 RX0 yX0_perform wsX0_perform) := goodIn_app (goodIn_of _ (by decide +kernel)) ggX10_act_X0_perform
theorem dX10_act_0 : decode cX10_act 0 = .ok (.aload_n 0, 1) := by decide +kernel
theorem dX10_act_1 : decode cX10_act 1 = .ok (.getfield 25, 3) := by decide +kernel
theorem dX10_act_4 : decode cX10_act 4 = .ok (.iload_n 1, 1) := by decide +kernel
theorem dX10_act_5 : decode cX10_act 5 = .ok (.iload_n 2, 1) := by decide +kernel
theorem dX10_act_6 : decode cX10_act 6 = .ok (.iload_n 3, 1) := by decide +kernel
theorem dX10_act_7 : decode cX10_act 7 = .ok (.invokevirtual 353, 3) := by decide +kernel
theorem dX10_act_10 : decode cX10_act 10 = .ok (.ireturn, 1) := by decide +kernel
set_option maxRecDepth 20000 in
theorem ggX10_trace_X0_traced : GoodIn wsX10_trace wsX0_traced := goodIn_r _ [6, 7, 8, 9, 10, 11, 12, 13, 14, 15, 16, 17, 18, 19, 32, 33, 34, 35, 36] rfl (by decide +kernel)
set_option maxRecDepth 20000 in
theorem gX10_trace_X0_traced : GoodIn wsX10_trace (wsV RX10 356 RX0 yX0_traced wsX0_traced) := goodIn_app (goodIn_of _ (by decide +kernel)) ggX10_trace_X0_traced
theorem dX10_trace_0 : decode cX10_trace 0 = .ok (.aload_n 0, 1) := by decide +kernel
theorem dX10_trace_1 : decode cX10_trace 1 = .ok (.getfield 25, 3) := by decide +kernel
theorem dX10_trace_4 : decode cX10_trace 4 = .ok (.iload_n 1, 1) := by decide +kernel
theorem dX10_trace_5 : decode cX10_trace 5 = .ok (.invokevirtual 356, 3) := by decide +kernel
theorem dX10_trace_8 : decode cX10_trace 8 = .ok (.ireturn, 1) := by decide +kernel
set_option maxRecDepth 20000 in
theorem ggX10_keep_X10_shelfAt : GoodIn wsX10_keep wsX10_shelfAt := goodIn_r _ [6, 7, 8, 9, 5, 10, 28, 29, 30, 31, 32, 33, 34, 35, 36, 37, 38, 39] rfl (by decide +kernel)
set_option maxRecDepth 20000 in
theorem gX10_keep_X10_shelfAt : GoodIn wsX10_keep (wsV RX10 118 RX10 yX10_shelfAt wsX10_shelfAt) := goodIn_app (goodIn_of _ (by decide +kernel)) ggX10_keep_X10_shelfAt
set_option maxRecDepth 20000 in
theorem ggX10_keep_X0_isBody : GoodIn wsX10_keep wsX0_isBody := goodIn_r _ [15, 16, 9, 5, 10, 40, 41, 42, 43, 44] rfl (by decide +kernel)
set_option maxRecDepth 20000 in
theorem gX10_keep_X0_isBody : GoodIn wsX10_keep (wsV RX10 359 RX0 yX0_isBody wsX0_isBody) := goodIn_app (goodIn_of _ (by decide +kernel)) ggX10_keep_X0_isBody
set_option maxRecDepth 20000 in
theorem ggX10_keep_X6_holdNothing : GoodIn wsX10_keep wsX6_holdNothing := goodIn_r _ [21, 22, 45, 46, 47, 48, 49] rfl (by decide +kernel)
set_option maxRecDepth 20000 in
theorem gX10_keep_X6_holdNothing : GoodIn wsX10_keep (wsV RX10 362 RX6 yX6_holdNothing wsX6_holdNothing) := goodIn_app (goodIn_of _ (by decide +kernel)) ggX10_keep_X6_holdNothing
set_option maxRecDepth 20000 in
theorem ggX10_keep_X6_holdBody : GoodIn wsX10_keep wsX6_holdBody := goodIn_r _ [26, 22, 27, 45, 46, 47, 48, 49] rfl (by decide +kernel)
set_option maxRecDepth 20000 in
theorem gX10_keep_X6_holdBody : GoodIn wsX10_keep (wsV RX10 365 RX6 yX6_holdBody wsX6_holdBody) := goodIn_app (goodIn_of _ (by decide +kernel)) ggX10_keep_X6_holdBody
theorem dX10_keep_0 : decode cX10_keep 0 = .ok (.aload_n 0, 1) := by decide +kernel
theorem dX10_keep_1 : decode cX10_keep 1 = .ok (.iload_n 1, 1) := by decide +kernel
theorem dX10_keep_2 : decode cX10_keep 2 = .ok (.invokevirtual 118, 3) := by decide +kernel
theorem dX10_keep_5 : decode cX10_keep 5 = .ok (.astore_n 3, 1) := by decide +kernel
theorem dX10_keep_6 : decode cX10_keep 6 = .ok (.aload_n 3, 1) := by decide +kernel
theorem dX10_keep_7 : decode cX10_keep 7 = .ok (.ifnull 19, 3) := by decide +kernel
theorem dX10_keep_10 : decode cX10_keep 10 = .ok (.iload_n 2, 1) := by decide +kernel
theorem dX10_keep_11 : decode cX10_keep 11 = .ok (.iconst (-1), 1) := by decide +kernel
theorem dX10_keep_12 : decode cX10_keep 12 = .ok (.if_icmp .eq 16, 3) := by decide +kernel
theorem dX10_keep_15 : decode cX10_keep 15 = .ok (.aload_n 0, 1) := by decide +kernel
theorem dX10_keep_16 : decode cX10_keep 16 = .ok (.getfield 25, 3) := by decide +kernel
theorem dX10_keep_19 : decode cX10_keep 19 = .ok (.iload_n 2, 1) := by decide +kernel
theorem dX10_keep_20 : decode cX10_keep 20 = .ok (.invokevirtual 359, 3) := by decide +kernel
theorem dX10_keep_23 : decode cX10_keep 23 = .ok (.ifCond .ne 5, 3) := by decide +kernel
theorem dX10_keep_26 : decode cX10_keep 26 = .ok (.iconst (-1), 1) := by decide +kernel
theorem dX10_keep_27 : decode cX10_keep 27 = .ok (.ireturn, 1) := by decide +kernel
theorem dX10_keep_28 : decode cX10_keep 28 = .ok (.iload_n 2, 1) := by decide +kernel
theorem dX10_keep_29 : decode cX10_keep 29 = .ok (.iconst (-1), 1) := by decide +kernel
theorem dX10_keep_30 : decode cX10_keep 30 = .ok (.if_icmp .ne 10, 3) := by decide +kernel
theorem dX10_keep_33 : decode cX10_keep 33 = .ok (.aload_n 3, 1) := by decide +kernel
theorem dX10_keep_34 : decode cX10_keep 34 = .ok (.invokevirtual 362, 3) := by decide +kernel
theorem dX10_keep_37 : decode cX10_keep 37 = .ok (.goto 8, 3) := by decide +kernel
theorem dX10_keep_40 : decode cX10_keep 40 = .ok (.aload_n 3, 1) := by decide +kernel
theorem dX10_keep_41 : decode cX10_keep 41 = .ok (.iload_n 2, 1) := by decide +kernel
theorem dX10_keep_42 : decode cX10_keep 42 = .ok (.invokevirtual 365, 3) := by decide +kernel
theorem dX10_keep_45 : decode cX10_keep 45 = .ok (.iconst 1, 1) := by decide +kernel
theorem dX10_keep_46 : decode cX10_keep 46 = .ok (.ireturn, 1) := by decide +kernel
set_option maxRecDepth 20000 in
theorem ggX10_row_X10_shelfAt : GoodIn wsX10_row wsX10_shelfAt := goodIn_r _ [5, 6, 7, 8, 4, 9, 27, 28, 29, 30, 31, 32, 33, 34, 35, 36, 37, 38] rfl (by decide +kernel)
set_option maxRecDepth 20000 in
theorem gX10_row_X10_shelfAt : GoodIn wsX10_row (wsV RX10 118 RX10 yX10_shelfAt wsX10_shelfAt) := goodIn_app (goodIn_of _ (by decide +kernel)) ggX10_row_X10_shelfAt
set_option maxRecDepth 20000 in
theorem ggX10_row_X10_isOf : GoodIn wsX10_row wsX10_isOf := goodIn_r _ [9] rfl (by decide +kernel)
set_option maxRecDepth 20000 in
theorem gX10_row_X10_isOf : GoodIn wsX10_row (va_wsS RX10 140 yX10_isOf wsX10_isOf) := goodIn_app (goodIn_of _ (by decide +kernel)) ggX10_row_X10_isOf
set_option maxRecDepth 20000 in
theorem ggX10_row_X6_holdRow : GoodIn wsX10_row wsX6_holdRow := goodIn_r _ [14, 15, 16, 17, 18, 19, 20, 21, 22, 23, 24, 25, 26, 39, 40, 41, 42, 43] rfl (by decide +kernel)
set_option maxRecDepth 20000 in
theorem gX10_row_X6_holdRow : GoodIn wsX10_row (wsV RX10 368 RX6 yX6_holdRow wsX6_holdRow) := goodIn_app (goodIn_of _ (by decide +kernel)) ggX10_row_X6_holdRow
theorem dX10_row_0 : decode cX10_row 0 = .ok (.aload_n 0, 1) := by decide +kernel
theorem dX10_row_1 : decode cX10_row 1 = .ok (.iload_n 1, 1) := by decide +kernel
theorem dX10_row_2 : decode cX10_row 2 = .ok (.invokevirtual 118, 3) := by decide +kernel
theorem dX10_row_5 : decode cX10_row 5 = .ok (.astore 4, 2) := by decide +kernel
theorem dX10_row_7 : decode cX10_row 7 = .ok (.aload 4, 2) := by decide +kernel
theorem dX10_row_9 : decode cX10_row 9 = .ok (.ifnull 17, 3) := by decide +kernel
theorem dX10_row_12 : decode cX10_row 12 = .ok (.iload_n 2, 1) := by decide +kernel
theorem dX10_row_13 : decode cX10_row 13 = .ok (.iconst 5, 1) := by decide +kernel
theorem dX10_row_14 : decode cX10_row 14 = .ok (.invokestatic 140, 3) := by decide +kernel
theorem dX10_row_17 : decode cX10_row 17 = .ok (.ifCond .eq 9, 3) := by decide +kernel
theorem dX10_row_20 : decode cX10_row 20 = .ok (.iload_n 3, 1) := by decide +kernel
theorem dX10_row_21 : decode cX10_row 21 = .ok (.bipush 60, 2) := by decide +kernel
theorem dX10_row_23 : decode cX10_row 23 = .ok (.if_icmp .le 5, 3) := by decide +kernel
theorem dX10_row_26 : decode cX10_row 26 = .ok (.iconst (-1), 1) := by decide +kernel
theorem dX10_row_27 : decode cX10_row 27 = .ok (.ireturn, 1) := by decide +kernel
theorem dX10_row_28 : decode cX10_row 28 = .ok (.iload_n 3, 1) := by decide +kernel
theorem dX10_row_29 : decode cX10_row 29 = .ok (.ifCond .ge 6, 3) := by decide +kernel
theorem dX10_row_32 : decode cX10_row 32 = .ok (.bipush (-14), 2) := by decide +kernel
theorem dX10_row_34 : decode cX10_row 34 = .ok (.ireturn, 1) := by decide +kernel
theorem dX10_row_35 : decode cX10_row 35 = .ok (.aload 4, 2) := by decide +kernel
theorem dX10_row_37 : decode cX10_row 37 = .ok (.iload_n 2, 1) := by decide +kernel
theorem dX10_row_38 : decode cX10_row 38 = .ok (.iload_n 3, 1) := by decide +kernel
theorem dX10_row_39 : decode cX10_row 39 = .ok (.invokevirtual 368, 3) := by decide +kernel
theorem dX10_row_42 : decode cX10_row 42 = .ok (.iconst 1, 1) := by decide +kernel
theorem dX10_row_43 : decode cX10_row 43 = .ok (.ireturn, 1) := by decide +kernel
set_option maxRecDepth 20000 in
theorem ggX10_put_X10_shelfAt : GoodIn wsX10_put wsX10_shelfAt := goodIn_r _ [5, 6, 7, 8, 4, 9, 39, 40, 41, 42, 43, 44, 45, 46, 47, 48, 49, 50] rfl (by decide +kernel)
set_option maxRecDepth 20000 in
theorem gX10_put_X10_shelfAt : GoodIn wsX10_put (wsV RX10 118 RX10 yX10_shelfAt wsX10_shelfAt) := goodIn_app (goodIn_of _ (by decide +kernel)) ggX10_put_X10_shelfAt
set_option maxRecDepth 20000 in
theorem ggX10_put_X6_refusalOfRow : GoodIn wsX10_put wsX6_refusalOfRow := goodIn_r _ [14, 15, 16, 17, 13, 18, 19, 20, 21, 22, 23, 51, 52, 53, 54, 55] rfl (by decide +kernel)
set_option maxRecDepth 20000 in
theorem gX10_put_X6_refusalOfRow : GoodIn wsX10_put (wsV RX10 372 RX6 yX6_refusalOfRow wsX6_refusalOfRow) := goodIn_app (goodIn_of _ (by decide +kernel)) ggX10_put_X6_refusalOfRow
set_option maxRecDepth 20000 in
theorem ggX10_put_X6_isPlace : GoodIn wsX10_put wsX6_isPlace := goodIn_r _ [27, 28, 51, 52, 53, 54, 55] rfl (by decide +kernel)
set_option maxRecDepth 20000 in
theorem gX10_put_X6_isPlace : GoodIn wsX10_put (wsV RX10 129 RX6 yX6_isPlace wsX6_isPlace) := goodIn_app (goodIn_of _ (by decide +kernel)) ggX10_put_X6_isPlace
set_option maxRecDepth 20000 in
theorem ggX10_put_X6_become : GoodIn wsX10_put wsX6_become := goodIn_r _ [32, 33, 34, 35, 36, 13, 37, 38, 51, 52, 53, 54, 55] rfl (by decide +kernel)
set_option maxRecDepth 20000 in
theorem gX10_put_X6_become : GoodIn wsX10_put (wsV RX10 375 RX6 yX6_become wsX6_become) := goodIn_app (goodIn_of _ (by decide +kernel)) ggX10_put_X6_become
theorem dX10_put_0 : decode cX10_put 0 = .ok (.aload_n 0, 1) := by decide +kernel
theorem dX10_put_1 : decode cX10_put 1 = .ok (.iload_n 1, 1) := by decide +kernel
theorem dX10_put_2 : decode cX10_put 2 = .ok (.invokevirtual 118, 3) := by decide +kernel
theorem dX10_put_5 : decode cX10_put 5 = .ok (.astore 5, 2) := by decide +kernel
theorem dX10_put_7 : decode cX10_put 7 = .ok (.aload 5, 2) := by decide +kernel
theorem dX10_put_9 : decode cX10_put 9 = .ok (.ifnonnull 5, 3) := by decide +kernel
theorem dX10_put_12 : decode cX10_put 12 = .ok (.iconst (-1), 1) := by decide +kernel
theorem dX10_put_13 : decode cX10_put 13 = .ok (.ireturn, 1) := by decide +kernel
theorem dX10_put_14 : decode cX10_put 14 = .ok (.aload 5, 2) := by decide +kernel
theorem dX10_put_16 : decode cX10_put 16 = .ok (.invokevirtual 372, 3) := by decide +kernel
theorem dX10_put_19 : decode cX10_put 19 = .ok (.istore 6, 2) := by decide +kernel
theorem dX10_put_21 : decode cX10_put 21 = .ok (.iload 6, 2) := by decide +kernel
theorem dX10_put_23 : decode cX10_put 23 = .ok (.ifCond .ge 6, 3) := by decide +kernel
theorem dX10_put_26 : decode cX10_put 26 = .ok (.iload 6, 2) := by decide +kernel
theorem dX10_put_28 : decode cX10_put 28 = .ok (.ireturn, 1) := by decide +kernel
theorem dX10_put_29 : decode cX10_put 29 = .ok (.aload 5, 2) := by decide +kernel
theorem dX10_put_31 : decode cX10_put 31 = .ok (.iload_n 2, 1) := by decide +kernel
theorem dX10_put_32 : decode cX10_put 32 = .ok (.invokevirtual 129, 3) := by decide +kernel
theorem dX10_put_35 : decode cX10_put 35 = .ok (.ifCond .ne 6, 3) := by decide +kernel
theorem dX10_put_38 : decode cX10_put 38 = .ok (.bipush (-13), 2) := by decide +kernel
theorem dX10_put_40 : decode cX10_put 40 = .ok (.ireturn, 1) := by decide +kernel
theorem dX10_put_41 : decode cX10_put 41 = .ok (.aload 5, 2) := by decide +kernel
theorem dX10_put_43 : decode cX10_put 43 = .ok (.iload_n 2, 1) := by decide +kernel
theorem dX10_put_44 : decode cX10_put 44 = .ok (.lload_n 3, 1) := by decide +kernel
theorem dX10_put_45 : decode cX10_put 45 = .ok (.invokevirtual 375, 3) := by decide +kernel
theorem dX10_put_48 : decode cX10_put 48 = .ok (.iconst 1, 1) := by decide +kernel
theorem dX10_put_49 : decode cX10_put 49 = .ok (.ireturn, 1) := by decide +kernel
set_option maxRecDepth 20000 in
theorem ggX10_element_X10_shelfAt : GoodIn wsX10_element wsX10_shelfAt := goodIn_r _ [6, 7, 8, 9, 5, 10, 27, 28, 29, 30, 31, 32, 33, 34, 35, 36, 37, 38] rfl (by decide +kernel)
set_option maxRecDepth 20000 in
theorem gX10_element_X10_shelfAt : GoodIn wsX10_element (wsV RX10 118 RX10 yX10_shelfAt wsX10_shelfAt) := goodIn_app (goodIn_of _ (by decide +kernel)) ggX10_element_X10_shelfAt
set_option maxRecDepth 20000 in
theorem ggX10_element_X6_isRow : GoodIn wsX10_element wsX6_isRow := goodIn_r _ [15, 16, 39, 40, 41, 42, 43] rfl (by decide +kernel)
set_option maxRecDepth 20000 in
theorem gX10_element_X6_isRow : GoodIn wsX10_element (wsV RX10 378 RX6 yX6_isRow wsX6_isRow) := goodIn_app (goodIn_of _ (by decide +kernel)) ggX10_element_X6_isRow
set_option maxRecDepth 20000 in
theorem ggX10_element_X6_isPlace : GoodIn wsX10_element wsX6_isPlace := goodIn_r _ [20, 21, 39, 40, 41, 42, 43] rfl (by decide +kernel)
set_option maxRecDepth 20000 in
theorem gX10_element_X6_isPlace : GoodIn wsX10_element (wsV RX10 129 RX6 yX6_isPlace wsX6_isPlace) := goodIn_app (goodIn_of _ (by decide +kernel)) ggX10_element_X6_isPlace
set_option maxRecDepth 20000 in
theorem ggX10_element_X6_cell : GoodIn wsX10_element wsX6_cell := goodIn_r _ [25, 26, 39, 40, 41, 42, 43] rfl (by decide +kernel)
set_option maxRecDepth 20000 in
theorem gX10_element_X6_cell : GoodIn wsX10_element (wsV RX10 381 RX6 yX6_cell wsX6_cell) := goodIn_app (goodIn_of _ (by decide +kernel)) ggX10_element_X6_cell
theorem dX10_element_0 : decode cX10_element 0 = .ok (.aload_n 0, 1) := by decide +kernel
theorem dX10_element_1 : decode cX10_element 1 = .ok (.iload_n 1, 1) := by decide +kernel
theorem dX10_element_2 : decode cX10_element 2 = .ok (.invokevirtual 118, 3) := by decide +kernel
theorem dX10_element_5 : decode cX10_element 5 = .ok (.astore_n 3, 1) := by decide +kernel
theorem dX10_element_6 : decode cX10_element 6 = .ok (.aload_n 3, 1) := by decide +kernel
theorem dX10_element_7 : decode cX10_element 7 = .ok (.ifnull 18, 3) := by decide +kernel
theorem dX10_element_10 : decode cX10_element 10 = .ok (.aload_n 3, 1) := by decide +kernel
theorem dX10_element_11 : decode cX10_element 11 = .ok (.invokevirtual 378, 3) := by decide +kernel
theorem dX10_element_14 : decode cX10_element 14 = .ok (.ifCond .eq 11, 3) := by decide +kernel
theorem dX10_element_17 : decode cX10_element 17 = .ok (.aload_n 3, 1) := by decide +kernel
theorem dX10_element_18 : decode cX10_element 18 = .ok (.iload_n 2, 1) := by decide +kernel
theorem dX10_element_19 : decode cX10_element 19 = .ok (.invokevirtual 129, 3) := by decide +kernel
theorem dX10_element_22 : decode cX10_element 22 = .ok (.ifCond .ne 7, 3) := by decide +kernel
theorem dX10_element_25 : decode cX10_element 25 = .ok (.ldc2_w 247, 3) := by decide +kernel
theorem dX10_element_28 : decode cX10_element 28 = .ok (.lreturn, 1) := by decide +kernel
theorem dX10_element_29 : decode cX10_element 29 = .ok (.aload_n 3, 1) := by decide +kernel
theorem dX10_element_30 : decode cX10_element 30 = .ok (.iload_n 2, 1) := by decide +kernel
theorem dX10_element_31 : decode cX10_element 31 = .ok (.invokevirtual 381, 3) := by decide +kernel
theorem dX10_element_34 : decode cX10_element 34 = .ok (.lreturn, 1) := by decide +kernel
set_option maxRecDepth 20000 in
theorem ggX10_shift_X10_shelfAt : GoodIn wsX10_shift wsX10_shelfAt := goodIn_r _ [5, 6, 7, 8, 4, 9, 40, 41, 42, 43, 44, 45, 46, 47, 48, 49, 50, 51] rfl (by decide +kernel)
set_option maxRecDepth 20000 in
theorem gX10_shift_X10_shelfAt : GoodIn wsX10_shift (wsV RX10 118 RX10 yX10_shelfAt wsX10_shelfAt) := goodIn_app (goodIn_of _ (by decide +kernel)) ggX10_shift_X10_shelfAt
set_option maxRecDepth 20000 in
theorem ggX10_shift_X6_isEmpty : GoodIn wsX10_shift wsX6_isEmpty := goodIn_r _ [14, 15, 52, 53, 54, 55, 56] rfl (by decide +kernel)
set_option maxRecDepth 20000 in
theorem gX10_shift_X6_isEmpty : GoodIn wsX10_shift (wsV RX10 122 RX6 yX6_isEmpty wsX6_isEmpty) := goodIn_app (goodIn_of _ (by decide +kernel)) ggX10_shift_X6_isEmpty
set_option maxRecDepth 20000 in
theorem ggX10_shift_X6_isRowLike : GoodIn wsX10_shift wsX6_isRowLike := goodIn_r _ [19, 20, 21, 22, 23, 13, 24, 15, 52, 53, 54, 55, 56] rfl (by decide +kernel)
set_option maxRecDepth 20000 in
theorem gX10_shift_X6_isRowLike : GoodIn wsX10_shift (wsV RX10 385 RX6 yX6_isRowLike wsX6_isRowLike) := goodIn_app (goodIn_of _ (by decide +kernel)) ggX10_shift_X6_isRowLike
set_option maxRecDepth 20000 in
theorem ggX10_shift_X6_hasStretch : GoodIn wsX10_shift wsX6_hasStretch := goodIn_r _ [28, 29, 52, 53, 54, 55, 56] rfl (by decide +kernel)
set_option maxRecDepth 20000 in
theorem gX10_shift_X6_hasStretch : GoodIn wsX10_shift (wsV RX10 389 RX6 yX6_hasStretch wsX6_hasStretch) := goodIn_app (goodIn_of _ (by decide +kernel)) ggX10_shift_X6_hasStretch
set_option maxRecDepth 20000 in
theorem ggX10_shift_X6_copyTo : GoodIn wsX10_shift wsX6_copyTo := goodIn_r _ [33, 34, 35, 36, 37, 38, 39, 26, 27, 13, 28, 29, 52, 53, 54, 55, 56] rfl (by decide +kernel)
set_option maxRecDepth 20000 in
theorem gX10_shift_X6_copyTo : GoodIn wsX10_shift (wsV RX10 392 RX6 yX6_copyTo wsX6_copyTo) := goodIn_app (goodIn_of _ (by decide +kernel)) ggX10_shift_X6_copyTo
theorem dX10_shift_0 : decode cX10_shift 0 = .ok (.aload_n 0, 1) := by decide +kernel
theorem dX10_shift_1 : decode cX10_shift 1 = .ok (.iload_n 1, 1) := by decide +kernel
theorem dX10_shift_2 : decode cX10_shift 2 = .ok (.invokevirtual 118, 3) := by decide +kernel
theorem dX10_shift_5 : decode cX10_shift 5 = .ok (.astore 6, 2) := by decide +kernel
theorem dX10_shift_7 : decode cX10_shift 7 = .ok (.aload_n 0, 1) := by decide +kernel
theorem dX10_shift_8 : decode cX10_shift 8 = .ok (.iload_n 3, 1) := by decide +kernel
theorem dX10_shift_9 : decode cX10_shift 9 = .ok (.invokevirtual 118, 3) := by decide +kernel
theorem dX10_shift_12 : decode cX10_shift 12 = .ok (.astore 7, 2) := by decide +kernel
theorem dX10_shift_14 : decode cX10_shift 14 = .ok (.aload 6, 2) := by decide +kernel
theorem dX10_shift_16 : decode cX10_shift 16 = .ok (.ifnull 8, 3) := by decide +kernel
theorem dX10_shift_19 : decode cX10_shift 19 = .ok (.aload 7, 2) := by decide +kernel
theorem dX10_shift_21 : decode cX10_shift 21 = .ok (.ifnonnull 5, 3) := by decide +kernel
theorem dX10_shift_24 : decode cX10_shift 24 = .ok (.iconst (-1), 1) := by decide +kernel
theorem dX10_shift_25 : decode cX10_shift 25 = .ok (.ireturn, 1) := by decide +kernel
theorem dX10_shift_26 : decode cX10_shift 26 = .ok (.aload 6, 2) := by decide +kernel
theorem dX10_shift_28 : decode cX10_shift 28 = .ok (.invokevirtual 122, 3) := by decide +kernel
theorem dX10_shift_31 : decode cX10_shift 31 = .ok (.ifCond .ne 11, 3) := by decide +kernel
theorem dX10_shift_34 : decode cX10_shift 34 = .ok (.aload 7, 2) := by decide +kernel
theorem dX10_shift_36 : decode cX10_shift 36 = .ok (.invokevirtual 122, 3) := by decide +kernel
theorem dX10_shift_39 : decode cX10_shift 39 = .ok (.ifCond .eq 6, 3) := by decide +kernel
theorem dX10_shift_42 : decode cX10_shift 42 = .ok (.bipush (-11), 2) := by decide +kernel
theorem dX10_shift_44 : decode cX10_shift 44 = .ok (.ireturn, 1) := by decide +kernel
theorem dX10_shift_45 : decode cX10_shift 45 = .ok (.aload 6, 2) := by decide +kernel
theorem dX10_shift_47 : decode cX10_shift 47 = .ok (.aload 7, 2) := by decide +kernel
theorem dX10_shift_49 : decode cX10_shift 49 = .ok (.invokevirtual 385, 3) := by decide +kernel
theorem dX10_shift_52 : decode cX10_shift 52 = .ok (.ifCond .ne 6, 3) := by decide +kernel
theorem dX10_shift_55 : decode cX10_shift 55 = .ok (.bipush (-12), 2) := by decide +kernel
theorem dX10_shift_57 : decode cX10_shift 57 = .ok (.ireturn, 1) := by decide +kernel
theorem dX10_shift_58 : decode cX10_shift 58 = .ok (.aload 6, 2) := by decide +kernel
theorem dX10_shift_60 : decode cX10_shift 60 = .ok (.iload_n 2, 1) := by decide +kernel
theorem dX10_shift_61 : decode cX10_shift 61 = .ok (.iload 5, 2) := by decide +kernel
theorem dX10_shift_63 : decode cX10_shift 63 = .ok (.invokevirtual 389, 3) := by decide +kernel
theorem dX10_shift_66 : decode cX10_shift 66 = .ok (.ifCond .eq 15, 3) := by decide +kernel
theorem dX10_shift_69 : decode cX10_shift 69 = .ok (.aload 7, 2) := by decide +kernel
theorem dX10_shift_71 : decode cX10_shift 71 = .ok (.iload 4, 2) := by decide +kernel
theorem dX10_shift_73 : decode cX10_shift 73 = .ok (.iload 5, 2) := by decide +kernel
theorem dX10_shift_75 : decode cX10_shift 75 = .ok (.invokevirtual 389, 3) := by decide +kernel
theorem dX10_shift_78 : decode cX10_shift 78 = .ok (.ifCond .ne 6, 3) := by decide +kernel
theorem dX10_shift_81 : decode cX10_shift 81 = .ok (.bipush (-13), 2) := by decide +kernel
theorem dX10_shift_83 : decode cX10_shift 83 = .ok (.ireturn, 1) := by decide +kernel
theorem dX10_shift_84 : decode cX10_shift 84 = .ok (.aload 6, 2) := by decide +kernel
theorem dX10_shift_86 : decode cX10_shift 86 = .ok (.iload_n 2, 1) := by decide +kernel
theorem dX10_shift_87 : decode cX10_shift 87 = .ok (.aload 7, 2) := by decide +kernel
theorem dX10_shift_89 : decode cX10_shift 89 = .ok (.iload 4, 2) := by decide +kernel
theorem dX10_shift_91 : decode cX10_shift 91 = .ok (.iload 5, 2) := by decide +kernel
theorem dX10_shift_93 : decode cX10_shift 93 = .ok (.invokevirtual 392, 3) := by decide +kernel
theorem dX10_shift_96 : decode cX10_shift 96 = .ok (.iload 5, 2) := by decide +kernel
theorem dX10_shift_98 : decode cX10_shift 98 = .ok (.ireturn, 1) := by decide +kernel
set_option maxRecDepth 20000 in
theorem ggX10_taken_X10_shelfAt : GoodIn wsX10_taken wsX10_shelfAt := goodIn_r _ [6, 7, 8, 9, 5, 10, 46, 47, 48, 49, 50, 51, 52, 53, 54, 55, 56, 57] rfl (by decide +kernel)
set_option maxRecDepth 20000 in
theorem gX10_taken_X10_shelfAt : GoodIn wsX10_taken (wsV RX10 118 RX10 yX10_shelfAt wsX10_shelfAt) := goodIn_app (goodIn_of _ (by decide +kernel)) ggX10_taken_X10_shelfAt
set_option maxRecDepth 20000 in
theorem ggX10_taken_X0_isKind : GoodIn wsX10_taken wsX0_isKind := goodIn_r _ [14, 9, 5, 10] rfl (by decide +kernel)
set_option maxRecDepth 20000 in
theorem gX10_taken_X0_isKind : GoodIn wsX10_taken (va_wsS RX10 346 yX0_isKind wsX0_isKind) := goodIn_app (goodIn_of _ (by decide +kernel)) ggX10_taken_X0_isKind
set_option maxRecDepth 20000 in
theorem ggX10_taken_X6_isEmpty : GoodIn wsX10_taken wsX6_isEmpty := goodIn_r _ [19, 20, 58, 59, 60, 61, 62] rfl (by decide +kernel)
set_option maxRecDepth 20000 in
theorem gX10_taken_X6_isEmpty : GoodIn wsX10_taken (wsV RX10 122 RX6 yX6_isEmpty wsX6_isEmpty) := goodIn_app (goodIn_of _ (by decide +kernel)) ggX10_taken_X6_isEmpty
set_option maxRecDepth 20000 in
theorem ggX10_taken_X6_isRow : GoodIn wsX10_taken wsX6_isRow := goodIn_r _ [24, 20, 58, 59, 60, 61, 62] rfl (by decide +kernel)
set_option maxRecDepth 20000 in
theorem gX10_taken_X6_isRow : GoodIn wsX10_taken (wsV RX10 378 RX6 yX6_isRow wsX6_isRow) := goodIn_app (goodIn_of _ (by decide +kernel)) ggX10_taken_X6_isRow
set_option maxRecDepth 20000 in
theorem ggX10_taken_X6_bodyHeld : GoodIn wsX10_taken wsX6_bodyHeld := goodIn_r _ [28, 29, 58, 59, 60, 61, 62] rfl (by decide +kernel)
set_option maxRecDepth 20000 in
theorem gX10_taken_X6_bodyHeld : GoodIn wsX10_taken (wsV RX10 396 RX6 yX6_bodyHeld wsX6_bodyHeld) := goodIn_app (goodIn_of _ (by decide +kernel)) ggX10_taken_X6_bodyHeld
set_option maxRecDepth 20000 in
theorem ggX10_taken_X0_kindOf : GoodIn wsX10_taken wsX0_kindOf := goodIn_r _ [33, 34, 35, 36, 37, 38, 63, 64, 65, 66, 67] rfl (by decide +kernel)
set_option maxRecDepth 20000 in
theorem gX10_taken_X0_kindOf : GoodIn wsX10_taken (wsV RX10 399 RX0 yX0_kindOf wsX0_kindOf) := goodIn_app (goodIn_of _ (by decide +kernel)) ggX10_taken_X0_kindOf
set_option maxRecDepth 20000 in
theorem ggX10_taken_X0_isUnder : GoodIn wsX10_taken wsX0_isUnder := goodIn_r _ [41, 42, 43, 13, 44, 45, 9, 5, 10] rfl (by decide +kernel)
set_option maxRecDepth 20000 in
theorem gX10_taken_X0_isUnder : GoodIn wsX10_taken (va_wsS RX10 402 yX0_isUnder wsX0_isUnder) := goodIn_app (goodIn_of _ (by decide +kernel)) ggX10_taken_X0_isUnder
theorem dX10_taken_0 : decode cX10_taken 0 = .ok (.aload_n 0, 1) := by decide +kernel
theorem dX10_taken_1 : decode cX10_taken 1 = .ok (.iload_n 1, 1) := by decide +kernel
theorem dX10_taken_2 : decode cX10_taken 2 = .ok (.invokevirtual 118, 3) := by decide +kernel
theorem dX10_taken_5 : decode cX10_taken 5 = .ok (.astore_n 3, 1) := by decide +kernel
theorem dX10_taken_6 : decode cX10_taken 6 = .ok (.aload_n 3, 1) := by decide +kernel
theorem dX10_taken_7 : decode cX10_taken 7 = .ok (.ifnull 10, 3) := by decide +kernel
theorem dX10_taken_10 : decode cX10_taken 10 = .ok (.iload_n 2, 1) := by decide +kernel
theorem dX10_taken_11 : decode cX10_taken 11 = .ok (.invokestatic 346, 3) := by decide +kernel
theorem dX10_taken_14 : decode cX10_taken 14 = .ok (.ifCond .ne 5, 3) := by decide +kernel
theorem dX10_taken_17 : decode cX10_taken 17 = .ok (.iconst (-1), 1) := by decide +kernel
theorem dX10_taken_18 : decode cX10_taken 18 = .ok (.ireturn, 1) := by decide +kernel
theorem dX10_taken_19 : decode cX10_taken 19 = .ok (.aload_n 3, 1) := by decide +kernel
theorem dX10_taken_20 : decode cX10_taken 20 = .ok (.invokevirtual 122, 3) := by decide +kernel
theorem dX10_taken_23 : decode cX10_taken 23 = .ok (.ifCond .eq 6, 3) := by decide +kernel
theorem dX10_taken_26 : decode cX10_taken 26 = .ok (.bipush (-11), 2) := by decide +kernel
theorem dX10_taken_28 : decode cX10_taken 28 = .ok (.ireturn, 1) := by decide +kernel
theorem dX10_taken_29 : decode cX10_taken 29 = .ok (.aload_n 3, 1) := by decide +kernel
theorem dX10_taken_30 : decode cX10_taken 30 = .ok (.invokevirtual 378, 3) := by decide +kernel
theorem dX10_taken_33 : decode cX10_taken 33 = .ok (.ifCond .eq 6, 3) := by decide +kernel
theorem dX10_taken_36 : decode cX10_taken 36 = .ok (.bipush (-12), 2) := by decide +kernel
theorem dX10_taken_38 : decode cX10_taken 38 = .ok (.ireturn, 1) := by decide +kernel
theorem dX10_taken_39 : decode cX10_taken 39 = .ok (.aload_n 0, 1) := by decide +kernel
theorem dX10_taken_40 : decode cX10_taken 40 = .ok (.getfield 25, 3) := by decide +kernel
theorem dX10_taken_43 : decode cX10_taken 43 = .ok (.aload_n 3, 1) := by decide +kernel
theorem dX10_taken_44 : decode cX10_taken 44 = .ok (.invokevirtual 396, 3) := by decide +kernel
theorem dX10_taken_47 : decode cX10_taken 47 = .ok (.invokevirtual 399, 3) := by decide +kernel
theorem dX10_taken_50 : decode cX10_taken 50 = .ok (.istore 4, 2) := by decide +kernel
theorem dX10_taken_52 : decode cX10_taken 52 = .ok (.iload 4, 2) := by decide +kernel
theorem dX10_taken_54 : decode cX10_taken 54 = .ok (.iload_n 2, 1) := by decide +kernel
theorem dX10_taken_55 : decode cX10_taken 55 = .ok (.invokestatic 402, 3) := by decide +kernel
theorem dX10_taken_58 : decode cX10_taken 58 = .ok (.ifCond .eq 8, 3) := by decide +kernel
theorem dX10_taken_61 : decode cX10_taken 61 = .ok (.iload 4, 2) := by decide +kernel
theorem dX10_taken_63 : decode cX10_taken 63 = .ok (.goto 5, 3) := by decide +kernel
theorem dX10_taken_66 : decode cX10_taken 66 = .ok (.bipush (-12), 2) := by decide +kernel
theorem dX10_taken_68 : decode cX10_taken 68 = .ok (.ireturn, 1) := by decide +kernel
set_option maxRecDepth 20000 in
theorem ggX10_count_X10_linesOfAll : GoodIn wsX10_count wsX10_linesOfAll := goodIn_r _ [8, 9, 10, 11, 12, 13, 14, 15, 55, 56, 57, 58, 59, 60, 61, 62, 63, 64, 65, 66, 67, 68, 69, 70, 71] rfl (by decide +kernel)
set_option maxRecDepth 20000 in
theorem gX10_count_X10_linesOfAll : GoodIn wsX10_count (wsV RX10 405 RX10 yX10_linesOfAll wsX10_linesOfAll) := goodIn_app (goodIn_of _ (by decide +kernel)) ggX10_count_X10_linesOfAll
set_option maxRecDepth 20000 in
theorem ggX10_count_X10_bitsOfAll : GoodIn wsX10_count wsX10_bitsOfAll := goodIn_r _ [19, 9, 20, 21, 22, 13, 23, 24, 25, 26, 27, 28, 29, 30, 31, 55, 56, 57, 58, 59, 60, 61, 62, 63, 64, 65, 66, 67, 68, 69, 70, 71] rfl (by decide +kernel)
set_option maxRecDepth 20000 in
theorem gX10_count_X10_bitsOfAll : GoodIn wsX10_count (wsV RX10 408 RX10 yX10_bitsOfAll wsX10_bitsOfAll) := goodIn_app (goodIn_of _ (by decide +kernel)) ggX10_count_X10_bitsOfAll
set_option maxRecDepth 20000 in
theorem ggX10_count_X9_length : GoodIn wsX10_count wsX9_length := goodIn_r _ [36, 37, 72, 73, 74, 75, 76] rfl (by decide +kernel)
set_option maxRecDepth 20000 in
theorem gX10_count_X9_length : GoodIn wsX10_count (wsV RX10 182 RX9 yX9_length wsX9_length) := goodIn_app (goodIn_of _ (by decide +kernel)) ggX10_count_X9_length
set_option maxRecDepth 20000 in
theorem ggX10_count_X2_undoable : GoodIn wsX10_count wsX2_undoable := goodIn_r _ [42, 43, 77, 78, 79, 80, 81, 82] rfl (by decide +kernel)
set_option maxRecDepth 20000 in
theorem gX10_count_X2_undoable : GoodIn wsX10_count (wsV RX10 322 RX2 yX2_undoable wsX2_undoable) := goodIn_app (goodIn_of _ (by decide +kernel)) ggX10_count_X2_undoable
set_option maxRecDepth 20000 in
theorem ggX10_count_X0_bodies : GoodIn wsX10_count wsX0_bodies := goodIn_r _ [48, 49, 83, 84, 85, 86, 87] rfl (by decide +kernel)
set_option maxRecDepth 20000 in
theorem gX10_count_X0_bodies : GoodIn wsX10_count (wsV RX10 411 RX0 yX0_bodies wsX0_bodies) := goodIn_app (goodIn_of _ (by decide +kernel)) ggX10_count_X0_bodies
set_option maxRecDepth 20000 in
theorem ggX10_count_X0_ran : GoodIn wsX10_count wsX0_ran := goodIn_r _ [53, 54, 83, 84, 85, 86, 87] rfl (by decide +kernel)
set_option maxRecDepth 20000 in
theorem gX10_count_X0_ran : GoodIn wsX10_count (wsV RX10 414 RX0 yX0_ran wsX0_ran) := goodIn_app (goodIn_of _ (by decide +kernel)) ggX10_count_X0_ran
theorem dX10_count_0 : decode cX10_count 0 = .ok (.iload_n 1, 1) := by decide +kernel
theorem dX10_count_1 : decode cX10_count 1 = .ok (.tableswitch 81 0 5 #[39, 44, 49, 57, 65, 73], 39) := by decide +kernel
theorem dX10_count_40 : decode cX10_count 40 = .ok (.aload_n 0, 1) := by decide +kernel
theorem dX10_count_41 : decode cX10_count 41 = .ok (.invokevirtual 405, 3) := by decide +kernel
theorem dX10_count_44 : decode cX10_count 44 = .ok (.ireturn, 1) := by decide +kernel
theorem dX10_count_45 : decode cX10_count 45 = .ok (.aload_n 0, 1) := by decide +kernel
theorem dX10_count_46 : decode cX10_count 46 = .ok (.invokevirtual 408, 3) := by decide +kernel
theorem dX10_count_49 : decode cX10_count 49 = .ok (.ireturn, 1) := by decide +kernel
theorem dX10_count_50 : decode cX10_count 50 = .ok (.aload_n 0, 1) := by decide +kernel
theorem dX10_count_51 : decode cX10_count 51 = .ok (.getfield 78, 3) := by decide +kernel
theorem dX10_count_54 : decode cX10_count 54 = .ok (.invokevirtual 182, 3) := by decide +kernel
theorem dX10_count_57 : decode cX10_count 57 = .ok (.ireturn, 1) := by decide +kernel
theorem dX10_count_58 : decode cX10_count 58 = .ok (.aload_n 0, 1) := by decide +kernel
theorem dX10_count_59 : decode cX10_count 59 = .ok (.getfield 18, 3) := by decide +kernel
theorem dX10_count_62 : decode cX10_count 62 = .ok (.invokevirtual 322, 3) := by decide +kernel
theorem dX10_count_65 : decode cX10_count 65 = .ok (.ireturn, 1) := by decide +kernel
theorem dX10_count_66 : decode cX10_count 66 = .ok (.aload_n 0, 1) := by decide +kernel
theorem dX10_count_67 : decode cX10_count 67 = .ok (.getfield 25, 3) := by decide +kernel
theorem dX10_count_70 : decode cX10_count 70 = .ok (.invokevirtual 411, 3) := by decide +kernel
theorem dX10_count_73 : decode cX10_count 73 = .ok (.ireturn, 1) := by decide +kernel
theorem dX10_count_74 : decode cX10_count 74 = .ok (.aload_n 0, 1) := by decide +kernel
theorem dX10_count_75 : decode cX10_count 75 = .ok (.getfield 25, 3) := by decide +kernel
theorem dX10_count_78 : decode cX10_count 78 = .ok (.invokevirtual 414, 3) := by decide +kernel
theorem dX10_count_81 : decode cX10_count 81 = .ok (.ireturn, 1) := by decide +kernel
theorem dX10_count_82 : decode cX10_count 82 = .ok (.iconst (-1), 1) := by decide +kernel
theorem dX10_count_83 : decode cX10_count 83 = .ok (.ireturn, 1) := by decide +kernel
set_option maxRecDepth 20000 in
theorem ggX10_linesOfAll_X8_size : GoodIn wsX10_linesOfAll wsX8_size := goodIn_r _ [6, 7, 20, 21, 22, 23, 24] rfl (by decide +kernel)
set_option maxRecDepth 20000 in
theorem gX10_linesOfAll_X8_size : GoodIn wsX10_linesOfAll (wsV RX10 175 RX8 yX8_size wsX8_size) := goodIn_app (goodIn_of _ (by decide +kernel)) ggX10_linesOfAll_X8_size
theorem dX10_linesOfAll_0 : decode cX10_linesOfAll 0 = .ok (.iconst 0, 1) := by decide +kernel
theorem dX10_linesOfAll_1 : decode cX10_linesOfAll 1 = .ok (.istore_n 1, 1) := by decide +kernel
theorem dX10_linesOfAll_2 : decode cX10_linesOfAll 2 = .ok (.iconst 0, 1) := by decide +kernel
theorem dX10_linesOfAll_3 : decode cX10_linesOfAll 3 = .ok (.istore_n 2, 1) := by decide +kernel
theorem dX10_linesOfAll_4 : decode cX10_linesOfAll 4 = .ok (.iload_n 2, 1) := by decide +kernel
theorem dX10_linesOfAll_5 : decode cX10_linesOfAll 5 = .ok (.aload_n 0, 1) := by decide +kernel
theorem dX10_linesOfAll_6 : decode cX10_linesOfAll 6 = .ok (.getfield 11, 3) := by decide +kernel
theorem dX10_linesOfAll_9 : decode cX10_linesOfAll 9 = .ok (.arraylength, 1) := by decide +kernel
theorem dX10_linesOfAll_10 : decode cX10_linesOfAll 10 = .ok (.if_icmp .ge 21, 3) := by decide +kernel
theorem dX10_linesOfAll_13 : decode cX10_linesOfAll 13 = .ok (.iload_n 1, 1) := by decide +kernel
theorem dX10_linesOfAll_14 : decode cX10_linesOfAll 14 = .ok (.aload_n 0, 1) := by decide +kernel
theorem dX10_linesOfAll_15 : decode cX10_linesOfAll 15 = .ok (.getfield 11, 3) := by decide +kernel
theorem dX10_linesOfAll_18 : decode cX10_linesOfAll 18 = .ok (.iload_n 2, 1) := by decide +kernel
theorem dX10_linesOfAll_19 : decode cX10_linesOfAll 19 = .ok (.aaload, 1) := by decide +kernel
theorem dX10_linesOfAll_20 : decode cX10_linesOfAll 20 = .ok (.invokevirtual 175, 3) := by decide +kernel
theorem dX10_linesOfAll_23 : decode cX10_linesOfAll 23 = .ok (.iadd, 1) := by decide +kernel
theorem dX10_linesOfAll_24 : decode cX10_linesOfAll 24 = .ok (.istore_n 1, 1) := by decide +kernel
theorem dX10_linesOfAll_25 : decode cX10_linesOfAll 25 = .ok (.iinc 2 1, 3) := by decide +kernel
theorem dX10_linesOfAll_28 : decode cX10_linesOfAll 28 = .ok (.goto (-24), 3) := by decide +kernel
theorem dX10_linesOfAll_31 : decode cX10_linesOfAll 31 = .ok (.iload_n 1, 1) := by decide +kernel
theorem dX10_linesOfAll_32 : decode cX10_linesOfAll 32 = .ok (.ireturn, 1) := by decide +kernel
set_option maxRecDepth 20000 in
theorem ggX10_bitsOfAll_X8_bitsHad : GoodIn wsX10_bitsOfAll wsX8_bitsHad := goodIn_r _ [6, 7, 8, 9, 10, 11, 12, 13, 14, 27, 28, 29, 30, 31] rfl (by decide +kernel)
set_option maxRecDepth 20000 in
theorem gX10_bitsOfAll_X8_bitsHad : GoodIn wsX10_bitsOfAll (wsV RX10 270 RX8 yX8_bitsHad wsX8_bitsHad) := goodIn_app (goodIn_of _ (by decide +kernel)) ggX10_bitsOfAll_X8_bitsHad
theorem dX10_bitsOfAll_0 : decode cX10_bitsOfAll 0 = .ok (.iconst 0, 1) := by decide +kernel
theorem dX10_bitsOfAll_1 : decode cX10_bitsOfAll 1 = .ok (.istore_n 1, 1) := by decide +kernel
theorem dX10_bitsOfAll_2 : decode cX10_bitsOfAll 2 = .ok (.iconst 0, 1) := by decide +kernel
theorem dX10_bitsOfAll_3 : decode cX10_bitsOfAll 3 = .ok (.istore_n 2, 1) := by decide +kernel
theorem dX10_bitsOfAll_4 : decode cX10_bitsOfAll 4 = .ok (.iload_n 2, 1) := by decide +kernel
theorem dX10_bitsOfAll_5 : decode cX10_bitsOfAll 5 = .ok (.aload_n 0, 1) := by decide +kernel
theorem dX10_bitsOfAll_6 : decode cX10_bitsOfAll 6 = .ok (.getfield 11, 3) := by decide +kernel
theorem dX10_bitsOfAll_9 : decode cX10_bitsOfAll 9 = .ok (.arraylength, 1) := by decide +kernel
theorem dX10_bitsOfAll_10 : decode cX10_bitsOfAll 10 = .ok (.if_icmp .ge 21, 3) := by decide +kernel
theorem dX10_bitsOfAll_13 : decode cX10_bitsOfAll 13 = .ok (.iload_n 1, 1) := by decide +kernel
theorem dX10_bitsOfAll_14 : decode cX10_bitsOfAll 14 = .ok (.aload_n 0, 1) := by decide +kernel
theorem dX10_bitsOfAll_15 : decode cX10_bitsOfAll 15 = .ok (.getfield 11, 3) := by decide +kernel
theorem dX10_bitsOfAll_18 : decode cX10_bitsOfAll 18 = .ok (.iload_n 2, 1) := by decide +kernel
theorem dX10_bitsOfAll_19 : decode cX10_bitsOfAll 19 = .ok (.aaload, 1) := by decide +kernel
theorem dX10_bitsOfAll_20 : decode cX10_bitsOfAll 20 = .ok (.invokevirtual 270, 3) := by decide +kernel
theorem dX10_bitsOfAll_23 : decode cX10_bitsOfAll 23 = .ok (.iadd, 1) := by decide +kernel
theorem dX10_bitsOfAll_24 : decode cX10_bitsOfAll 24 = .ok (.istore_n 1, 1) := by decide +kernel
theorem dX10_bitsOfAll_25 : decode cX10_bitsOfAll 25 = .ok (.iinc 2 1, 3) := by decide +kernel
theorem dX10_bitsOfAll_28 : decode cX10_bitsOfAll 28 = .ok (.goto (-24), 3) := by decide +kernel
theorem dX10_bitsOfAll_31 : decode cX10_bitsOfAll 31 = .ok (.iload_n 1, 1) := by decide +kernel
theorem dX10_bitsOfAll_32 : decode cX10_bitsOfAll 32 = .ok (.ireturn, 1) := by decide +kernel
theorem dX10_isOf_0 : decode cX10_isOf 0 = .ok (.iload_n 0, 1) := by decide +kernel
theorem dX10_isOf_1 : decode cX10_isOf 1 = .ok (.ifCond .lt 12, 3) := by decide +kernel
theorem dX10_isOf_4 : decode cX10_isOf 4 = .ok (.iload_n 0, 1) := by decide +kernel
theorem dX10_isOf_5 : decode cX10_isOf 5 = .ok (.iload_n 1, 1) := by decide +kernel
theorem dX10_isOf_6 : decode cX10_isOf 6 = .ok (.if_icmp .ge 7, 3) := by decide +kernel
theorem dX10_isOf_9 : decode cX10_isOf 9 = .ok (.iconst 1, 1) := by decide +kernel
theorem dX10_isOf_10 : decode cX10_isOf 10 = .ok (.goto 4, 3) := by decide +kernel
theorem dX10_isOf_13 : decode cX10_isOf 13 = .ok (.iconst 0, 1) := by decide +kernel
theorem dX10_isOf_14 : decode cX10_isOf 14 = .ok (.ireturn, 1) := by decide +kernel
set_option maxRecDepth 20000 in
theorem ggX10_songAt_X10_isOf : GoodIn wsX10_songAt wsX10_isOf := goodIn_r _ [5] rfl (by decide +kernel)
set_option maxRecDepth 20000 in
theorem gX10_songAt_X10_isOf : GoodIn wsX10_songAt (va_wsS RX10 140 yX10_isOf wsX10_isOf) := goodIn_app (goodIn_of _ (by decide +kernel)) ggX10_songAt_X10_isOf
theorem dX10_songAt_0 : decode cX10_songAt 0 = .ok (.iload_n 1, 1) := by decide +kernel
theorem dX10_songAt_1 : decode cX10_songAt 1 = .ok (.aload_n 0, 1) := by decide +kernel
theorem dX10_songAt_2 : decode cX10_songAt 2 = .ok (.getfield 11, 3) := by decide +kernel
theorem dX10_songAt_5 : decode cX10_songAt 5 = .ok (.arraylength, 1) := by decide +kernel
theorem dX10_songAt_6 : decode cX10_songAt 6 = .ok (.invokestatic 140, 3) := by decide +kernel
theorem dX10_songAt_9 : decode cX10_songAt 9 = .ok (.ifCond .eq 12, 3) := by decide +kernel
theorem dX10_songAt_12 : decode cX10_songAt 12 = .ok (.aload_n 0, 1) := by decide +kernel
theorem dX10_songAt_13 : decode cX10_songAt 13 = .ok (.getfield 11, 3) := by decide +kernel
theorem dX10_songAt_16 : decode cX10_songAt 16 = .ok (.iload_n 1, 1) := by decide +kernel
theorem dX10_songAt_17 : decode cX10_songAt 17 = .ok (.aaload, 1) := by decide +kernel
theorem dX10_songAt_18 : decode cX10_songAt 18 = .ok (.goto 4, 3) := by decide +kernel
theorem dX10_songAt_21 : decode cX10_songAt 21 = .ok (.aconst_null, 1) := by decide +kernel
theorem dX10_songAt_22 : decode cX10_songAt 22 = .ok (.areturn, 1) := by decide +kernel
set_option maxRecDepth 20000 in
theorem ggX10_shelfAt_X10_isOf : GoodIn wsX10_shelfAt wsX10_isOf := goodIn_r _ [5] rfl (by decide +kernel)
set_option maxRecDepth 20000 in
theorem gX10_shelfAt_X10_isOf : GoodIn wsX10_shelfAt (va_wsS RX10 140 yX10_isOf wsX10_isOf) := goodIn_app (goodIn_of _ (by decide +kernel)) ggX10_shelfAt_X10_isOf
theorem dX10_shelfAt_0 : decode cX10_shelfAt 0 = .ok (.iload_n 1, 1) := by decide +kernel
theorem dX10_shelfAt_1 : decode cX10_shelfAt 1 = .ok (.aload_n 0, 1) := by decide +kernel
theorem dX10_shelfAt_2 : decode cX10_shelfAt 2 = .ok (.getfield 31, 3) := by decide +kernel
theorem dX10_shelfAt_5 : decode cX10_shelfAt 5 = .ok (.arraylength, 1) := by decide +kernel
theorem dX10_shelfAt_6 : decode cX10_shelfAt 6 = .ok (.invokestatic 140, 3) := by decide +kernel
theorem dX10_shelfAt_9 : decode cX10_shelfAt 9 = .ok (.ifCond .eq 12, 3) := by decide +kernel
theorem dX10_shelfAt_12 : decode cX10_shelfAt 12 = .ok (.aload_n 0, 1) := by decide +kernel
theorem dX10_shelfAt_13 : decode cX10_shelfAt 13 = .ok (.getfield 31, 3) := by decide +kernel
theorem dX10_shelfAt_16 : decode cX10_shelfAt 16 = .ok (.iload_n 1, 1) := by decide +kernel
theorem dX10_shelfAt_17 : decode cX10_shelfAt 17 = .ok (.aaload, 1) := by decide +kernel
theorem dX10_shelfAt_18 : decode cX10_shelfAt 18 = .ok (.goto 4, 3) := by decide +kernel
theorem dX10_shelfAt_21 : decode cX10_shelfAt 21 = .ok (.aconst_null, 1) := by decide +kernel
theorem dX10_shelfAt_22 : decode cX10_shelfAt 22 = .ok (.areturn, 1) := by decide +kernel
set_option maxRecDepth 20000 in
theorem ggX10_songWithLine_X10_songAt : GoodIn wsX10_songWithLine wsX10_songAt := goodIn_r _ [5, 6, 7, 8, 4, 9, 19, 20, 21, 22, 23, 24, 25, 26, 27, 28, 29, 30] rfl (by decide +kernel)
set_option maxRecDepth 20000 in
theorem gX10_songWithLine_X10_songAt : GoodIn wsX10_songWithLine (wsV RX10 102 RX10 yX10_songAt wsX10_songAt) := goodIn_app (goodIn_of _ (by decide +kernel)) ggX10_songWithLine_X10_songAt
set_option maxRecDepth 20000 in
theorem ggX10_songWithLine_X10_lineOf : GoodIn wsX10_songWithLine wsX10_lineOf := goodIn_r _ [12] rfl (by decide +kernel)
set_option maxRecDepth 20000 in
theorem gX10_songWithLine_X10_lineOf : GoodIn wsX10_songWithLine (va_wsS RX10 144 yX10_lineOf wsX10_lineOf) := goodIn_app (goodIn_of _ (by decide +kernel)) ggX10_songWithLine_X10_lineOf
set_option maxRecDepth 20000 in
theorem ggX10_songWithLine_X8_isLine : GoodIn wsX10_songWithLine wsX8_isLine := goodIn_r _ [17, 18, 31, 32, 33, 34, 35] rfl (by decide +kernel)
set_option maxRecDepth 20000 in
theorem gX10_songWithLine_X8_isLine : GoodIn wsX10_songWithLine (wsV RX10 235 RX8 yX8_isLine wsX8_isLine) := goodIn_app (goodIn_of _ (by decide +kernel)) ggX10_songWithLine_X8_isLine
theorem dX10_songWithLine_0 : decode cX10_songWithLine 0 = .ok (.iload_n 1, 1) := by decide +kernel
theorem dX10_songWithLine_1 : decode cX10_songWithLine 1 = .ok (.ifCond .ge 5, 3) := by decide +kernel
theorem dX10_songWithLine_4 : decode cX10_songWithLine 4 = .ok (.aconst_null, 1) := by decide +kernel
theorem dX10_songWithLine_5 : decode cX10_songWithLine 5 = .ok (.areturn, 1) := by decide +kernel
theorem dX10_songWithLine_6 : decode cX10_songWithLine 6 = .ok (.aload_n 0, 1) := by decide +kernel
theorem dX10_songWithLine_7 : decode cX10_songWithLine 7 = .ok (.iload_n 1, 1) := by decide +kernel
theorem dX10_songWithLine_8 : decode cX10_songWithLine 8 = .ok (.bipush 100, 2) := by decide +kernel
theorem dX10_songWithLine_10 : decode cX10_songWithLine 10 = .ok (.idiv, 1) := by decide +kernel
theorem dX10_songWithLine_11 : decode cX10_songWithLine 11 = .ok (.invokevirtual 102, 3) := by decide +kernel
theorem dX10_songWithLine_14 : decode cX10_songWithLine 14 = .ok (.astore_n 2, 1) := by decide +kernel
theorem dX10_songWithLine_15 : decode cX10_songWithLine 15 = .ok (.aload_n 2, 1) := by decide +kernel
theorem dX10_songWithLine_16 : decode cX10_songWithLine 16 = .ok (.ifnull 18, 3) := by decide +kernel
theorem dX10_songWithLine_19 : decode cX10_songWithLine 19 = .ok (.aload_n 2, 1) := by decide +kernel
theorem dX10_songWithLine_20 : decode cX10_songWithLine 20 = .ok (.iload_n 1, 1) := by decide +kernel
theorem dX10_songWithLine_21 : decode cX10_songWithLine 21 = .ok (.invokestatic 144, 3) := by decide +kernel
theorem dX10_songWithLine_24 : decode cX10_songWithLine 24 = .ok (.invokevirtual 235, 3) := by decide +kernel
theorem dX10_songWithLine_27 : decode cX10_songWithLine 27 = .ok (.ifCond .eq 7, 3) := by decide +kernel
theorem dX10_songWithLine_30 : decode cX10_songWithLine 30 = .ok (.aload_n 2, 1) := by decide +kernel
theorem dX10_songWithLine_31 : decode cX10_songWithLine 31 = .ok (.goto 4, 3) := by decide +kernel
theorem dX10_songWithLine_34 : decode cX10_songWithLine 34 = .ok (.aconst_null, 1) := by decide +kernel
theorem dX10_songWithLine_35 : decode cX10_songWithLine 35 = .ok (.areturn, 1) := by decide +kernel
theorem dX10_lineOf_0 : decode cX10_lineOf 0 = .ok (.iload_n 0, 1) := by decide +kernel
theorem dX10_lineOf_1 : decode cX10_lineOf 1 = .ok (.bipush 100, 2) := by decide +kernel
theorem dX10_lineOf_3 : decode cX10_lineOf 3 = .ok (.irem, 1) := by decide +kernel
theorem dX10_lineOf_4 : decode cX10_lineOf 4 = .ok (.ireturn, 1) := by decide +kernel
set_option maxRecDepth 20000 in
theorem ggX10_isMendable_X10_songWithLine : GoodIn wsX10_isMendable wsX10_songWithLine := goodIn_r _ [5, 6, 7, 8, 4, 9, 10, 11, 12, 13, 14, 15, 16, 17, 18, 19, 20, 21, 22, 23, 24, 25, 26, 27, 28, 29, 30, 31, 32, 33, 34, 35, 36, 37, 38, 39] rfl (by decide +kernel)
set_option maxRecDepth 20000 in
theorem gX10_isMendable_X10_songWithLine : GoodIn wsX10_isMendable (wsV RX10 137 RX10 yX10_songWithLine wsX10_songWithLine) := goodIn_app (goodIn_of _ (by decide +kernel)) ggX10_isMendable_X10_songWithLine
set_option maxRecDepth 20000 in
theorem ggX10_isMendable_X10_isOf : GoodIn wsX10_isMendable wsX10_isOf := goodIn_r _ [13] rfl (by decide +kernel)
set_option maxRecDepth 20000 in
theorem gX10_isMendable_X10_isOf : GoodIn wsX10_isMendable (va_wsS RX10 140 yX10_isOf wsX10_isOf) := goodIn_app (goodIn_of _ (by decide +kernel)) ggX10_isMendable_X10_isOf
theorem dX10_isMendable_0 : decode cX10_isMendable 0 = .ok (.iload_n 2, 1) := by decide +kernel
theorem dX10_isMendable_1 : decode cX10_isMendable 1 = .ok (.tableswitch 65 0 4 #[35, 35, 35, 49, 55], 35) := by decide +kernel
theorem dX10_isMendable_36 : decode cX10_isMendable 36 = .ok (.aload_n 0, 1) := by decide +kernel
theorem dX10_isMendable_37 : decode cX10_isMendable 37 = .ok (.iload_n 1, 1) := by decide +kernel
theorem dX10_isMendable_38 : decode cX10_isMendable 38 = .ok (.invokevirtual 137, 3) := by decide +kernel
theorem dX10_isMendable_41 : decode cX10_isMendable 41 = .ok (.ifnull 7, 3) := by decide +kernel
theorem dX10_isMendable_44 : decode cX10_isMendable 44 = .ok (.iconst 1, 1) := by decide +kernel
theorem dX10_isMendable_45 : decode cX10_isMendable 45 = .ok (.goto 4, 3) := by decide +kernel
theorem dX10_isMendable_48 : decode cX10_isMendable 48 = .ok (.iconst 0, 1) := by decide +kernel
theorem dX10_isMendable_49 : decode cX10_isMendable 49 = .ok (.ireturn, 1) := by decide +kernel
theorem dX10_isMendable_50 : decode cX10_isMendable 50 = .ok (.iload_n 1, 1) := by decide +kernel
theorem dX10_isMendable_51 : decode cX10_isMendable 51 = .ok (.iconst 4, 1) := by decide +kernel
theorem dX10_isMendable_52 : decode cX10_isMendable 52 = .ok (.invokestatic 140, 3) := by decide +kernel
theorem dX10_isMendable_55 : decode cX10_isMendable 55 = .ok (.ireturn, 1) := by decide +kernel
theorem dX10_isMendable_56 : decode cX10_isMendable 56 = .ok (.iload_n 1, 1) := by decide +kernel
theorem dX10_isMendable_57 : decode cX10_isMendable 57 = .ok (.ifCond .ne 7, 3) := by decide +kernel
theorem dX10_isMendable_60 : decode cX10_isMendable 60 = .ok (.iconst 1, 1) := by decide +kernel
theorem dX10_isMendable_61 : decode cX10_isMendable 61 = .ok (.goto 4, 3) := by decide +kernel
theorem dX10_isMendable_64 : decode cX10_isMendable 64 = .ok (.iconst 0, 1) := by decide +kernel
theorem dX10_isMendable_65 : decode cX10_isMendable 65 = .ok (.ireturn, 1) := by decide +kernel
theorem dX10_isMendable_66 : decode cX10_isMendable 66 = .ok (.iconst 0, 1) := by decide +kernel
theorem dX10_isMendable_67 : decode cX10_isMendable 67 = .ok (.ireturn, 1) := by decide +kernel
theorem dX10_numbersFor_0 : decode cX10_numbersFor 0 = .ok (.iload_n 0, 1) := by decide +kernel
theorem dX10_numbersFor_1 : decode cX10_numbersFor 1 = .ok (.iconst 3, 1) := by decide +kernel
theorem dX10_numbersFor_2 : decode cX10_numbersFor 2 = .ok (.if_icmp .ne 6, 3) := by decide +kernel
theorem dX10_numbersFor_5 : decode cX10_numbersFor 5 = .ok (.bipush 10, 2) := by decide +kernel
theorem dX10_numbersFor_7 : decode cX10_numbersFor 7 = .ok (.ireturn, 1) := by decide +kernel
theorem dX10_numbersFor_8 : decode cX10_numbersFor 8 = .ok (.iload_n 0, 1) := by decide +kernel
theorem dX10_numbersFor_9 : decode cX10_numbersFor 9 = .ok (.iconst 4, 1) := by decide +kernel
theorem dX10_numbersFor_10 : decode cX10_numbersFor 10 = .ok (.if_icmp .ne 8, 3) := by decide +kernel
theorem dX10_numbersFor_13 : decode cX10_numbersFor 13 = .ok (.bipush 13, 2) := by decide +kernel
theorem dX10_numbersFor_15 : decode cX10_numbersFor 15 = .ok (.goto 5, 3) := by decide +kernel
theorem dX10_numbersFor_18 : decode cX10_numbersFor 18 = .ok (.bipush 8, 2) := by decide +kernel
theorem dX10_numbersFor_20 : decode cX10_numbersFor 20 = .ok (.ireturn, 1) := by decide +kernel
set_option maxRecDepth 20000 in
theorem ggX10_told_X1_at : GoodIn wsX10_told wsX1_at := goodIn_r _ [7] rfl (by decide +kernel)
set_option maxRecDepth 20000 in
theorem gX10_told_X1_at : GoodIn wsX10_told (va_wsS RX10 421 yX1_at wsX1_at) := goodIn_app (goodIn_of _ (by decide +kernel)) ggX10_told_X1_at
set_option maxRecDepth 20000 in
theorem ggX10_told_X10_songWithLine : GoodIn wsX10_told wsX10_songWithLine := goodIn_r _ [12, 13, 14, 15, 11, 16, 17, 18, 19, 20, 21, 22, 23, 24, 25, 26, 27, 28, 29, 36, 37, 38, 39, 40, 41, 42, 43, 44, 45, 46, 47, 51, 52, 53, 54, 55] rfl (by decide +kernel)
set_option maxRecDepth 20000 in
theorem gX10_told_X10_songWithLine : GoodIn wsX10_told (wsV RX10 137 RX10 yX10_songWithLine wsX10_songWithLine) := goodIn_app (goodIn_of _ (by decide +kernel)) ggX10_told_X10_songWithLine
set_option maxRecDepth 20000 in
theorem ggX10_told_X10_lineOf : GoodIn wsX10_told wsX10_lineOf := goodIn_r _ [23] rfl (by decide +kernel)
set_option maxRecDepth 20000 in
theorem gX10_told_X10_lineOf : GoodIn wsX10_told (va_wsS RX10 144 yX10_lineOf wsX10_lineOf) := goodIn_app (goodIn_of _ (by decide +kernel)) ggX10_told_X10_lineOf
set_option maxRecDepth 20000 in
theorem ggX10_told_X8_part : GoodIn wsX10_told wsX8_part := goodIn_r _ [33, 34, 35, 5, 6, 7, 51, 52, 53, 54, 55] rfl (by decide +kernel)
set_option maxRecDepth 20000 in
theorem gX10_told_X8_part : GoodIn wsX10_told (wsV RX10 260 RX8 yX8_part wsX8_part) := goodIn_app (goodIn_of _ (by decide +kernel)) ggX10_told_X8_part
theorem dX10_told_0 : decode cX10_told 0 = .ok (.iload_n 2, 1) := by decide +kernel
theorem dX10_told_1 : decode cX10_told 1 = .ok (.iconst 3, 1) := by decide +kernel
theorem dX10_told_2 : decode cX10_told 2 = .ok (.if_icmp .ne 15, 3) := by decide +kernel
theorem dX10_told_5 : decode cX10_told 5 = .ok (.aload_n 0, 1) := by decide +kernel
theorem dX10_told_6 : decode cX10_told 6 = .ok (.getfield 49, 3) := by decide +kernel
theorem dX10_told_9 : decode cX10_told 9 = .ok (.getfield 417, 3) := by decide +kernel
theorem dX10_told_12 : decode cX10_told 12 = .ok (.iload_n 1, 1) := by decide +kernel
theorem dX10_told_13 : decode cX10_told 13 = .ok (.invokestatic 421, 3) := by decide +kernel
theorem dX10_told_16 : decode cX10_told 16 = .ok (.ireturn, 1) := by decide +kernel
theorem dX10_told_17 : decode cX10_told 17 = .ok (.iload_n 2, 1) := by decide +kernel
theorem dX10_told_18 : decode cX10_told 18 = .ok (.iconst 4, 1) := by decide +kernel
theorem dX10_told_19 : decode cX10_told 19 = .ok (.if_icmp .ne 8, 3) := by decide +kernel
theorem dX10_told_22 : decode cX10_told 22 = .ok (.aload_n 0, 1) := by decide +kernel
theorem dX10_told_23 : decode cX10_told 23 = .ok (.getfield 277, 3) := by decide +kernel
theorem dX10_told_26 : decode cX10_told 26 = .ok (.ireturn, 1) := by decide +kernel
theorem dX10_told_27 : decode cX10_told 27 = .ok (.aload_n 0, 1) := by decide +kernel
theorem dX10_told_28 : decode cX10_told 28 = .ok (.iload_n 1, 1) := by decide +kernel
theorem dX10_told_29 : decode cX10_told 29 = .ok (.invokevirtual 137, 3) := by decide +kernel
theorem dX10_told_32 : decode cX10_told 32 = .ok (.astore_n 3, 1) := by decide +kernel
theorem dX10_told_33 : decode cX10_told 33 = .ok (.aload_n 3, 1) := by decide +kernel
theorem dX10_told_34 : decode cX10_told 34 = .ok (.ifnonnull 7, 3) := by decide +kernel
theorem dX10_told_37 : decode cX10_told 37 = .ok (.iconst (-1), 1) := by decide +kernel
theorem dX10_told_38 : decode cX10_told 38 = .ok (.goto 12, 3) := by decide +kernel
theorem dX10_told_41 : decode cX10_told 41 = .ok (.aload_n 3, 1) := by decide +kernel
theorem dX10_told_42 : decode cX10_told 42 = .ok (.iload_n 1, 1) := by decide +kernel
theorem dX10_told_43 : decode cX10_told 43 = .ok (.invokestatic 144, 3) := by decide +kernel
theorem dX10_told_46 : decode cX10_told 46 = .ok (.iload_n 2, 1) := by decide +kernel
theorem dX10_told_47 : decode cX10_told 47 = .ok (.invokevirtual 260, 3) := by decide +kernel
theorem dX10_told_50 : decode cX10_told 50 = .ok (.ireturn, 1) := by decide +kernel
set_option maxRecDepth 20000 in
theorem ggX10_become_X1_set : GoodIn wsX10_become wsX1_set := goodIn_r _ [7] rfl (by decide +kernel)
set_option maxRecDepth 20000 in
theorem gX10_become_X1_set : GoodIn wsX10_become (va_wsS RX10 427 yX1_set wsX1_set) := goodIn_app (goodIn_of _ (by decide +kernel)) ggX10_become_X1_set
set_option maxRecDepth 20000 in
theorem ggX10_become_X10_songWithLine : GoodIn wsX10_become wsX10_songWithLine := goodIn_r _ [12, 13, 14, 15, 11, 16, 17, 18, 19, 20, 21, 22, 23, 24, 25, 26, 27, 28, 29, 36, 37, 38, 39, 40, 41, 42, 43, 44, 45, 46, 47, 51, 52, 53, 54, 55] rfl (by decide +kernel)
set_option maxRecDepth 20000 in
theorem gX10_become_X10_songWithLine : GoodIn wsX10_become (wsV RX10 137 RX10 yX10_songWithLine wsX10_songWithLine) := goodIn_app (goodIn_of _ (by decide +kernel)) ggX10_become_X10_songWithLine
set_option maxRecDepth 20000 in
theorem ggX10_become_X10_lineOf : GoodIn wsX10_become wsX10_lineOf := goodIn_r _ [23] rfl (by decide +kernel)
set_option maxRecDepth 20000 in
theorem gX10_become_X10_lineOf : GoodIn wsX10_become (va_wsS RX10 144 yX10_lineOf wsX10_lineOf) := goodIn_app (goodIn_of _ (by decide +kernel)) ggX10_become_X10_lineOf
set_option maxRecDepth 20000 in
theorem ggX10_become_X8_setPart : GoodIn wsX10_become wsX8_setPart := goodIn_r _ [33, 34, 35, 5, 6, 7, 51, 52, 53, 54, 55] rfl (by decide +kernel)
set_option maxRecDepth 20000 in
theorem gX10_become_X8_setPart : GoodIn wsX10_become (wsV RX10 431 RX8 yX8_setPart wsX8_setPart) := goodIn_app (goodIn_of _ (by decide +kernel)) ggX10_become_X8_setPart
theorem dX10_become_0 : decode cX10_become 0 = .ok (.iload_n 2, 1) := by decide +kernel
theorem dX10_become_1 : decode cX10_become 1 = .ok (.iconst 3, 1) := by decide +kernel
theorem dX10_become_2 : decode cX10_become 2 = .ok (.if_icmp .ne 18, 3) := by decide +kernel
theorem dX10_become_5 : decode cX10_become 5 = .ok (.aload_n 0, 1) := by decide +kernel
theorem dX10_become_6 : decode cX10_become 6 = .ok (.getfield 49, 3) := by decide +kernel
theorem dX10_become_9 : decode cX10_become 9 = .ok (.getfield 417, 3) := by decide +kernel
theorem dX10_become_12 : decode cX10_become 12 = .ok (.iload_n 1, 1) := by decide +kernel
theorem dX10_become_13 : decode cX10_become 13 = .ok (.iload_n 3, 1) := by decide +kernel
theorem dX10_become_14 : decode cX10_become 14 = .ok (.invokestatic 427, 3) := by decide +kernel
theorem dX10_become_17 : decode cX10_become 17 = .ok (.goto 39, 3) := by decide +kernel
theorem dX10_become_20 : decode cX10_become 20 = .ok (.iload_n 2, 1) := by decide +kernel
theorem dX10_become_21 : decode cX10_become 21 = .ok (.iconst 4, 1) := by decide +kernel
theorem dX10_become_22 : decode cX10_become 22 = .ok (.if_icmp .ne 11, 3) := by decide +kernel
theorem dX10_become_25 : decode cX10_become 25 = .ok (.aload_n 0, 1) := by decide +kernel
theorem dX10_become_26 : decode cX10_become 26 = .ok (.iload_n 3, 1) := by decide +kernel
theorem dX10_become_27 : decode cX10_become 27 = .ok (.putfield 277, 3) := by decide +kernel
theorem dX10_become_30 : decode cX10_become 30 = .ok (.goto 26, 3) := by decide +kernel
theorem dX10_become_33 : decode cX10_become 33 = .ok (.aload_n 0, 1) := by decide +kernel
theorem dX10_become_34 : decode cX10_become 34 = .ok (.iload_n 1, 1) := by decide +kernel
theorem dX10_become_35 : decode cX10_become 35 = .ok (.invokevirtual 137, 3) := by decide +kernel
theorem dX10_become_38 : decode cX10_become 38 = .ok (.astore 4, 2) := by decide +kernel
theorem dX10_become_40 : decode cX10_become 40 = .ok (.aload 4, 2) := by decide +kernel
theorem dX10_become_42 : decode cX10_become 42 = .ok (.ifnull 14, 3) := by decide +kernel
theorem dX10_become_45 : decode cX10_become 45 = .ok (.aload 4, 2) := by decide +kernel
theorem dX10_become_47 : decode cX10_become 47 = .ok (.iload_n 1, 1) := by decide +kernel
theorem dX10_become_48 : decode cX10_become 48 = .ok (.invokestatic 144, 3) := by decide +kernel
theorem dX10_become_51 : decode cX10_become 51 = .ok (.iload_n 2, 1) := by decide +kernel
theorem dX10_become_52 : decode cX10_become 52 = .ok (.iload_n 3, 1) := by decide +kernel
theorem dX10_become_53 : decode cX10_become 53 = .ok (.invokevirtual 431, 3) := by decide +kernel
theorem dX10_become_56 : decode cX10_become 56 = .ok (.return_, 1) := by decide +kernel
theorem dX11_init_0 : decode cX11_init 0 = .ok (.aload_n 0, 1) := by decide +kernel
theorem dX11_init_1 : decode cX11_init 1 = .ok (.invokespecial 3, 3) := by decide +kernel
theorem dX11_init_4 : decode cX11_init 4 = .ok (.aload_n 0, 1) := by decide +kernel
theorem dX11_init_5 : decode cX11_init 5 = .ok (.iconst 3, 1) := by decide +kernel
theorem dX11_init_6 : decode cX11_init 6 = .ok (.newarray .int, 2) := by decide +kernel
theorem dX11_init_8 : decode cX11_init 8 = .ok (.putfield 9, 3) := by decide +kernel
theorem dX11_init_11 : decode cX11_init 11 = .ok (.aload_n 0, 1) := by decide +kernel
theorem dX11_init_12 : decode cX11_init 12 = .ok (.bipush 36, 2) := by decide +kernel
theorem dX11_init_14 : decode cX11_init 14 = .ok (.newarray .int, 2) := by decide +kernel
theorem dX11_init_16 : decode cX11_init 16 = .ok (.putfield 15, 3) := by decide +kernel
theorem dX11_init_19 : decode cX11_init 19 = .ok (.aload_n 0, 1) := by decide +kernel
theorem dX11_init_20 : decode cX11_init 20 = .ok (.bipush 36, 2) := by decide +kernel
theorem dX11_init_22 : decode cX11_init 22 = .ok (.newarray .int, 2) := by decide +kernel
theorem dX11_init_24 : decode cX11_init 24 = .ok (.putfield 18, 3) := by decide +kernel
theorem dX11_init_27 : decode cX11_init 27 = .ok (.aload_n 0, 1) := by decide +kernel
theorem dX11_init_28 : decode cX11_init 28 = .ok (.bipush 36, 2) := by decide +kernel
theorem dX11_init_30 : decode cX11_init 30 = .ok (.newarray .int, 2) := by decide +kernel
theorem dX11_init_32 : decode cX11_init 32 = .ok (.putfield 21, 3) := by decide +kernel
theorem dX11_init_35 : decode cX11_init 35 = .ok (.aload_n 0, 1) := by decide +kernel
theorem dX11_init_36 : decode cX11_init 36 = .ok (.bipush 24, 2) := by decide +kernel
theorem dX11_init_38 : decode cX11_init 38 = .ok (.newarray .int, 2) := by decide +kernel
theorem dX11_init_40 : decode cX11_init 40 = .ok (.putfield 24, 3) := by decide +kernel
theorem dX11_init_43 : decode cX11_init 43 = .ok (.aload_n 0, 1) := by decide +kernel
theorem dX11_init_44 : decode cX11_init 44 = .ok (.iconst 4, 1) := by decide +kernel
theorem dX11_init_45 : decode cX11_init 45 = .ok (.newarray .int, 2) := by decide +kernel
theorem dX11_init_47 : decode cX11_init 47 = .ok (.dup, 1) := by decide +kernel
theorem dX11_init_48 : decode cX11_init 48 = .ok (.iconst 0, 1) := by decide +kernel
theorem dX11_init_49 : decode cX11_init 49 = .ok (.iconst 5, 1) := by decide +kernel
theorem dX11_init_50 : decode cX11_init 50 = .ok (.iastore, 1) := by decide +kernel
theorem dX11_init_51 : decode cX11_init 51 = .ok (.dup, 1) := by decide +kernel
theorem dX11_init_52 : decode cX11_init 52 = .ok (.iconst 1, 1) := by decide +kernel
theorem dX11_init_53 : decode cX11_init 53 = .ok (.iconst 5, 1) := by decide +kernel
theorem dX11_init_54 : decode cX11_init 54 = .ok (.iastore, 1) := by decide +kernel
theorem dX11_init_55 : decode cX11_init 55 = .ok (.dup, 1) := by decide +kernel
theorem dX11_init_56 : decode cX11_init 56 = .ok (.iconst 2, 1) := by decide +kernel
theorem dX11_init_57 : decode cX11_init 57 = .ok (.iconst 5, 1) := by decide +kernel
theorem dX11_init_58 : decode cX11_init 58 = .ok (.iastore, 1) := by decide +kernel
theorem dX11_init_59 : decode cX11_init 59 = .ok (.dup, 1) := by decide +kernel
theorem dX11_init_60 : decode cX11_init 60 = .ok (.iconst 3, 1) := by decide +kernel
theorem dX11_init_61 : decode cX11_init 61 = .ok (.iconst 5, 1) := by decide +kernel
theorem dX11_init_62 : decode cX11_init 62 = .ok (.iastore, 1) := by decide +kernel
theorem dX11_init_63 : decode cX11_init 63 = .ok (.putfield 27, 3) := by decide +kernel
theorem dX11_init_66 : decode cX11_init 66 = .ok (.aload_n 0, 1) := by decide +kernel
theorem dX11_init_67 : decode cX11_init 67 = .ok (.bipush 40, 2) := by decide +kernel
theorem dX11_init_69 : decode cX11_init 69 = .ok (.newarray .int, 2) := by decide +kernel
theorem dX11_init_71 : decode cX11_init 71 = .ok (.putfield 30, 3) := by decide +kernel
theorem dX11_init_74 : decode cX11_init 74 = .ok (.aload_n 0, 1) := by decide +kernel
theorem dX11_init_75 : decode cX11_init 75 = .ok (.bipush 40, 2) := by decide +kernel
theorem dX11_init_77 : decode cX11_init 77 = .ok (.newarray .int, 2) := by decide +kernel
theorem dX11_init_79 : decode cX11_init 79 = .ok (.putfield 33, 3) := by decide +kernel
theorem dX11_init_82 : decode cX11_init 82 = .ok (.aload_n 0, 1) := by decide +kernel
theorem dX11_init_83 : decode cX11_init 83 = .ok (.bipush 40, 2) := by decide +kernel
theorem dX11_init_85 : decode cX11_init 85 = .ok (.newarray .int, 2) := by decide +kernel
theorem dX11_init_87 : decode cX11_init 87 = .ok (.putfield 36, 3) := by decide +kernel
theorem dX11_init_90 : decode cX11_init 90 = .ok (.aload_n 0, 1) := by decide +kernel
theorem dX11_init_91 : decode cX11_init 91 = .ok (.bipush 40, 2) := by decide +kernel
theorem dX11_init_93 : decode cX11_init 93 = .ok (.newarray .int, 2) := by decide +kernel
theorem dX11_init_95 : decode cX11_init 95 = .ok (.putfield 39, 3) := by decide +kernel
theorem dX11_init_98 : decode cX11_init 98 = .ok (.aload_n 0, 1) := by decide +kernel
theorem dX11_init_99 : decode cX11_init 99 = .ok (.bipush 120, 2) := by decide +kernel
theorem dX11_init_101 : decode cX11_init 101 = .ok (.newarray .byte, 2) := by decide +kernel
theorem dX11_init_103 : decode cX11_init 103 = .ok (.putfield 42, 3) := by decide +kernel
theorem dX11_init_106 : decode cX11_init 106 = .ok (.aload_n 0, 1) := by decide +kernel
theorem dX11_init_107 : decode cX11_init 107 = .ok (.sipush 260, 3) := by decide +kernel
theorem dX11_init_110 : decode cX11_init 110 = .ok (.newarray .byte, 2) := by decide +kernel
theorem dX11_init_112 : decode cX11_init 112 = .ok (.putfield 46, 3) := by decide +kernel
theorem dX11_init_115 : decode cX11_init 115 = .ok (.aload_n 0, 1) := by decide +kernel
theorem dX11_init_116 : decode cX11_init 116 = .ok (.sipush 260, 3) := by decide +kernel
theorem dX11_init_119 : decode cX11_init 119 = .ok (.newarray .int, 2) := by decide +kernel
theorem dX11_init_121 : decode cX11_init 121 = .ok (.putfield 49, 3) := by decide +kernel
theorem dX11_init_124 : decode cX11_init 124 = .ok (.aload_n 0, 1) := by decide +kernel
theorem dX11_init_125 : decode cX11_init 125 = .ok (.iconst 2, 1) := by decide +kernel
theorem dX11_init_126 : decode cX11_init 126 = .ok (.newarray .int, 2) := by decide +kernel
theorem dX11_init_128 : decode cX11_init 128 = .ok (.putfield 52, 3) := by decide +kernel
theorem dX11_init_131 : decode cX11_init 131 = .ok (.aload_n 0, 1) := by decide +kernel
theorem dX11_init_132 : decode cX11_init 132 = .ok (.bipush 122, 2) := by decide +kernel
theorem dX11_init_134 : decode cX11_init 134 = .ok (.newarray .short, 2) := by decide +kernel
theorem dX11_init_136 : decode cX11_init 136 = .ok (.putfield 55, 3) := by decide +kernel
theorem dX11_init_139 : decode cX11_init 139 = .ok (.aload_n 0, 1) := by decide +kernel
theorem dX11_init_140 : decode cX11_init 140 = .ok (.bipush 122, 2) := by decide +kernel
theorem dX11_init_142 : decode cX11_init 142 = .ok (.newarray .short, 2) := by decide +kernel
theorem dX11_init_144 : decode cX11_init 144 = .ok (.putfield 59, 3) := by decide +kernel
theorem dX11_init_147 : decode cX11_init 147 = .ok (.aload_n 0, 1) := by decide +kernel
theorem dX11_init_148 : decode cX11_init 148 = .ok (.bipush 6, 2) := by decide +kernel
theorem dX11_init_150 : decode cX11_init 150 = .ok (.newarray .int, 2) := by decide +kernel
theorem dX11_init_152 : decode cX11_init 152 = .ok (.putfield 62, 3) := by decide +kernel
theorem dX11_init_155 : decode cX11_init 155 = .ok (.aload_n 0, 1) := by decide +kernel
theorem dX11_init_156 : decode cX11_init 156 = .ok (.sipush 130, 3) := by decide +kernel
theorem dX11_init_159 : decode cX11_init 159 = .ok (.newarray .int, 2) := by decide +kernel
theorem dX11_init_161 : decode cX11_init 161 = .ok (.putfield 65, 3) := by decide +kernel
theorem dX11_init_164 : decode cX11_init 164 = .ok (.aload_n 0, 1) := by decide +kernel
theorem dX11_init_165 : decode cX11_init 165 = .ok (.bipush 12, 2) := by decide +kernel
theorem dX11_init_167 : decode cX11_init 167 = .ok (.newarray .int, 2) := by decide +kernel
theorem dX11_init_169 : decode cX11_init 169 = .ok (.putfield 68, 3) := by decide +kernel
theorem dX11_init_172 : decode cX11_init 172 = .ok (.aload_n 0, 1) := by decide +kernel
theorem dX11_init_173 : decode cX11_init 173 = .ok (.bipush 60, 2) := by decide +kernel
theorem dX11_init_175 : decode cX11_init 175 = .ok (.newarray .int, 2) := by decide +kernel
theorem dX11_init_177 : decode cX11_init 177 = .ok (.putfield 71, 3) := by decide +kernel
theorem dX11_init_180 : decode cX11_init 180 = .ok (.aload_n 0, 1) := by decide +kernel
theorem dX11_init_181 : decode cX11_init 181 = .ok (.bipush 60, 2) := by decide +kernel
theorem dX11_init_183 : decode cX11_init 183 = .ok (.newarray .int, 2) := by decide +kernel
theorem dX11_init_185 : decode cX11_init 185 = .ok (.putfield 74, 3) := by decide +kernel
theorem dX11_init_188 : decode cX11_init 188 = .ok (.aload_n 0, 1) := by decide +kernel
theorem dX11_init_189 : decode cX11_init 189 = .ok (.bipush 24, 2) := by decide +kernel
theorem dX11_init_191 : decode cX11_init 191 = .ok (.newarray .int, 2) := by decide +kernel
theorem dX11_init_193 : decode cX11_init 193 = .ok (.putfield 77, 3) := by decide +kernel
theorem dX11_init_196 : decode cX11_init 196 = .ok (.aload_n 0, 1) := by decide +kernel
theorem dX11_init_197 : decode cX11_init 197 = .ok (.bipush 7, 2) := by decide +kernel
theorem dX11_init_199 : decode cX11_init 199 = .ok (.newarray .int, 2) := by decide +kernel
theorem dX11_init_201 : decode cX11_init 201 = .ok (.dup, 1) := by decide +kernel
theorem dX11_init_202 : decode cX11_init 202 = .ok (.iconst 0, 1) := by decide +kernel
theorem dX11_init_203 : decode cX11_init 203 = .ok (.iconst 0, 1) := by decide +kernel
theorem dX11_init_204 : decode cX11_init 204 = .ok (.iastore, 1) := by decide +kernel
theorem dX11_init_205 : decode cX11_init 205 = .ok (.dup, 1) := by decide +kernel
theorem dX11_init_206 : decode cX11_init 206 = .ok (.iconst 1, 1) := by decide +kernel
theorem dX11_init_207 : decode cX11_init 207 = .ok (.iconst 0, 1) := by decide +kernel
theorem dX11_init_208 : decode cX11_init 208 = .ok (.iastore, 1) := by decide +kernel
theorem dX11_init_209 : decode cX11_init 209 = .ok (.dup, 1) := by decide +kernel
theorem dX11_init_210 : decode cX11_init 210 = .ok (.iconst 2, 1) := by decide +kernel
theorem dX11_init_211 : decode cX11_init 211 = .ok (.iconst 0, 1) := by decide +kernel
theorem dX11_init_212 : decode cX11_init 212 = .ok (.iastore, 1) := by decide +kernel
theorem dX11_init_213 : decode cX11_init 213 = .ok (.dup, 1) := by decide +kernel
theorem dX11_init_214 : decode cX11_init 214 = .ok (.iconst 3, 1) := by decide +kernel
theorem dX11_init_215 : decode cX11_init 215 = .ok (.iconst 0, 1) := by decide +kernel
theorem dX11_init_216 : decode cX11_init 216 = .ok (.iastore, 1) := by decide +kernel
theorem dX11_init_217 : decode cX11_init 217 = .ok (.dup, 1) := by decide +kernel
theorem dX11_init_218 : decode cX11_init 218 = .ok (.iconst 4, 1) := by decide +kernel
theorem dX11_init_219 : decode cX11_init 219 = .ok (.iconst (-1), 1) := by decide +kernel
theorem dX11_init_220 : decode cX11_init 220 = .ok (.iastore, 1) := by decide +kernel
theorem dX11_init_221 : decode cX11_init 221 = .ok (.dup, 1) := by decide +kernel
theorem dX11_init_222 : decode cX11_init 222 = .ok (.iconst 5, 1) := by decide +kernel
theorem dX11_init_223 : decode cX11_init 223 = .ok (.iconst 0, 1) := by decide +kernel
theorem dX11_init_224 : decode cX11_init 224 = .ok (.iastore, 1) := by decide +kernel
theorem dX11_init_225 : decode cX11_init 225 = .ok (.dup, 1) := by decide +kernel
theorem dX11_init_226 : decode cX11_init 226 = .ok (.bipush 6, 2) := by decide +kernel
theorem dX11_init_228 : decode cX11_init 228 = .ok (.iconst 0, 1) := by decide +kernel
theorem dX11_init_229 : decode cX11_init 229 = .ok (.iastore, 1) := by decide +kernel
theorem dX11_init_230 : decode cX11_init 230 = .ok (.putfield 80, 3) := by decide +kernel
theorem dX11_init_233 : decode cX11_init 233 = .ok (.aload_n 0, 1) := by decide +kernel
theorem dX11_init_234 : decode cX11_init 234 = .ok (.bipush 12, 2) := by decide +kernel
theorem dX11_init_236 : decode cX11_init 236 = .ok (.newarray .int, 2) := by decide +kernel
theorem dX11_init_238 : decode cX11_init 238 = .ok (.putfield 83, 3) := by decide +kernel
theorem dX11_init_241 : decode cX11_init 241 = .ok (.aload_n 0, 1) := by decide +kernel
theorem dX11_init_242 : decode cX11_init 242 = .ok (.bipush 7, 2) := by decide +kernel
theorem dX11_init_244 : decode cX11_init 244 = .ok (.newarray .int, 2) := by decide +kernel
theorem dX11_init_246 : decode cX11_init 246 = .ok (.putfield 86, 3) := by decide +kernel
theorem dX11_init_249 : decode cX11_init 249 = .ok (.aload_n 0, 1) := by decide +kernel
theorem dX11_init_250 : decode cX11_init 250 = .ok (.bipush 12, 2) := by decide +kernel
theorem dX11_init_252 : decode cX11_init 252 = .ok (.newarray .int, 2) := by decide +kernel
theorem dX11_init_254 : decode cX11_init 254 = .ok (.putfield 89, 3) := by decide +kernel
theorem dX11_init_257 : decode cX11_init 257 = .ok (.aload_n 0, 1) := by decide +kernel
theorem dX11_init_258 : decode cX11_init 258 = .ok (.bipush 24, 2) := by decide +kernel
theorem dX11_init_260 : decode cX11_init 260 = .ok (.newarray .int, 2) := by decide +kernel
theorem dX11_init_262 : decode cX11_init 262 = .ok (.putfield 92, 3) := by decide +kernel
theorem dX11_init_265 : decode cX11_init 265 = .ok (.aload_n 0, 1) := by decide +kernel
theorem dX11_init_266 : decode cX11_init 266 = .ok (.bipush 50, 2) := by decide +kernel
theorem dX11_init_268 : decode cX11_init 268 = .ok (.newarray .int, 2) := by decide +kernel
theorem dX11_init_270 : decode cX11_init 270 = .ok (.putfield 95, 3) := by decide +kernel
theorem dX11_init_273 : decode cX11_init 273 = .ok (.aload_n 0, 1) := by decide +kernel
theorem dX11_init_274 : decode cX11_init 274 = .ok (.bipush 24, 2) := by decide +kernel
theorem dX11_init_276 : decode cX11_init 276 = .ok (.newarray .int, 2) := by decide +kernel
theorem dX11_init_278 : decode cX11_init 278 = .ok (.putfield 98, 3) := by decide +kernel
theorem dX11_init_281 : decode cX11_init 281 = .ok (.aload_n 0, 1) := by decide +kernel
theorem dX11_init_282 : decode cX11_init 282 = .ok (.bipush 6, 2) := by decide +kernel
theorem dX11_init_284 : decode cX11_init 284 = .ok (.newarray .int, 2) := by decide +kernel
theorem dX11_init_286 : decode cX11_init 286 = .ok (.dup, 1) := by decide +kernel
theorem dX11_init_287 : decode cX11_init 287 = .ok (.iconst 0, 1) := by decide +kernel
theorem dX11_init_288 : decode cX11_init 288 = .ok (.iconst (-1), 1) := by decide +kernel
theorem dX11_init_289 : decode cX11_init 289 = .ok (.iastore, 1) := by decide +kernel
theorem dX11_init_290 : decode cX11_init 290 = .ok (.dup, 1) := by decide +kernel
theorem dX11_init_291 : decode cX11_init 291 = .ok (.iconst 1, 1) := by decide +kernel
theorem dX11_init_292 : decode cX11_init 292 = .ok (.iconst (-1), 1) := by decide +kernel
theorem dX11_init_293 : decode cX11_init 293 = .ok (.iastore, 1) := by decide +kernel
theorem dX11_init_294 : decode cX11_init 294 = .ok (.dup, 1) := by decide +kernel
theorem dX11_init_295 : decode cX11_init 295 = .ok (.iconst 2, 1) := by decide +kernel
theorem dX11_init_296 : decode cX11_init 296 = .ok (.iconst (-1), 1) := by decide +kernel
theorem dX11_init_297 : decode cX11_init 297 = .ok (.iastore, 1) := by decide +kernel
theorem dX11_init_298 : decode cX11_init 298 = .ok (.dup, 1) := by decide +kernel
theorem dX11_init_299 : decode cX11_init 299 = .ok (.iconst 3, 1) := by decide +kernel
theorem dX11_init_300 : decode cX11_init 300 = .ok (.iconst (-1), 1) := by decide +kernel
theorem dX11_init_301 : decode cX11_init 301 = .ok (.iastore, 1) := by decide +kernel
theorem dX11_init_302 : decode cX11_init 302 = .ok (.dup, 1) := by decide +kernel
theorem dX11_init_303 : decode cX11_init 303 = .ok (.iconst 4, 1) := by decide +kernel
theorem dX11_init_304 : decode cX11_init 304 = .ok (.iconst (-1), 1) := by decide +kernel
theorem dX11_init_305 : decode cX11_init 305 = .ok (.iastore, 1) := by decide +kernel
theorem dX11_init_306 : decode cX11_init 306 = .ok (.dup, 1) := by decide +kernel
theorem dX11_init_307 : decode cX11_init 307 = .ok (.iconst 5, 1) := by decide +kernel
theorem dX11_init_308 : decode cX11_init 308 = .ok (.iconst (-1), 1) := by decide +kernel
theorem dX11_init_309 : decode cX11_init 309 = .ok (.iastore, 1) := by decide +kernel
theorem dX11_init_310 : decode cX11_init 310 = .ok (.putfield 101, 3) := by decide +kernel
theorem dX11_init_313 : decode cX11_init 313 = .ok (.aload_n 0, 1) := by decide +kernel
theorem dX11_init_314 : decode cX11_init 314 = .ok (.bipush 6, 2) := by decide +kernel
theorem dX11_init_316 : decode cX11_init 316 = .ok (.newarray .int, 2) := by decide +kernel
theorem dX11_init_318 : decode cX11_init 318 = .ok (.putfield 104, 3) := by decide +kernel
theorem dX11_init_321 : decode cX11_init 321 = .ok (.aload_n 0, 1) := by decide +kernel
theorem dX11_init_322 : decode cX11_init 322 = .ok (.sipush 360, 3) := by decide +kernel
theorem dX11_init_325 : decode cX11_init 325 = .ok (.newarray .long, 2) := by decide +kernel
theorem dX11_init_327 : decode cX11_init 327 = .ok (.putfield 107, 3) := by decide +kernel
theorem dX11_init_330 : decode cX11_init 330 = .ok (.aload_n 0, 1) := by decide +kernel
theorem dX11_init_331 : decode cX11_init 331 = .ok (.bipush 60, 2) := by decide +kernel
theorem dX11_init_333 : decode cX11_init 333 = .ok (.newarray .long, 2) := by decide +kernel
theorem dX11_init_335 : decode cX11_init 335 = .ok (.putfield 111, 3) := by decide +kernel
theorem dX11_init_338 : decode cX11_init 338 = .ok (.return_, 1) := by decide +kernel
theorem dX11_in_0 : decode cX11_in 0 = .ok (.iload_n 0, 1) := by decide +kernel
theorem dX11_in_1 : decode cX11_in 1 = .ok (.iload_n 1, 1) := by decide +kernel
theorem dX11_in_2 : decode cX11_in 2 = .ok (.if_icmp .lt 12, 3) := by decide +kernel
theorem dX11_in_5 : decode cX11_in 5 = .ok (.iload_n 0, 1) := by decide +kernel
theorem dX11_in_6 : decode cX11_in 6 = .ok (.iload_n 2, 1) := by decide +kernel
theorem dX11_in_7 : decode cX11_in 7 = .ok (.if_icmp .gt 7, 3) := by decide +kernel
theorem dX11_in_10 : decode cX11_in 10 = .ok (.iconst 1, 1) := by decide +kernel
theorem dX11_in_11 : decode cX11_in 11 = .ok (.goto 4, 3) := by decide +kernel
theorem dX11_in_14 : decode cX11_in 14 = .ok (.iconst 0, 1) := by decide +kernel
theorem dX11_in_15 : decode cX11_in 15 = .ok (.ireturn, 1) := by decide +kernel
theorem dX11_bitsOf_0 : decode cX11_bitsOf 0 = .ok (.iconst 0, 1) := by decide +kernel
theorem dX11_bitsOf_1 : decode cX11_bitsOf 1 = .ok (.istore_n 1, 1) := by decide +kernel
theorem dX11_bitsOf_2 : decode cX11_bitsOf 2 = .ok (.iload_n 0, 1) := by decide +kernel
theorem dX11_bitsOf_3 : decode cX11_bitsOf 3 = .ok (.istore_n 2, 1) := by decide +kernel
theorem dX11_bitsOf_4 : decode cX11_bitsOf 4 = .ok (.iload_n 2, 1) := by decide +kernel
theorem dX11_bitsOf_5 : decode cX11_bitsOf 5 = .ok (.ifCond .eq 15, 3) := by decide +kernel
theorem dX11_bitsOf_8 : decode cX11_bitsOf 8 = .ok (.iinc 1 1, 3) := by decide +kernel
theorem dX11_bitsOf_11 : decode cX11_bitsOf 11 = .ok (.iload_n 2, 1) := by decide +kernel
theorem dX11_bitsOf_12 : decode cX11_bitsOf 12 = .ok (.iload_n 2, 1) := by decide +kernel
theorem dX11_bitsOf_13 : decode cX11_bitsOf 13 = .ok (.iconst 1, 1) := by decide +kernel
theorem dX11_bitsOf_14 : decode cX11_bitsOf 14 = .ok (.isub, 1) := by decide +kernel
theorem dX11_bitsOf_15 : decode cX11_bitsOf 15 = .ok (.iand, 1) := by decide +kernel
theorem dX11_bitsOf_16 : decode cX11_bitsOf 16 = .ok (.istore_n 2, 1) := by decide +kernel
theorem dX11_bitsOf_17 : decode cX11_bitsOf 17 = .ok (.goto (-13), 3) := by decide +kernel
theorem dX11_bitsOf_20 : decode cX11_bitsOf 20 = .ok (.iload_n 1, 1) := by decide +kernel
theorem dX11_bitsOf_21 : decode cX11_bitsOf 21 = .ok (.ireturn, 1) := by decide +kernel
set_option maxRecDepth 20000 in
theorem ggX11_isSong_X11_in : GoodIn wsX11_isSong wsX11_in := goodIn_r _ [4] rfl (by decide +kernel)
set_option maxRecDepth 20000 in
theorem gX11_isSong_X11_in : GoodIn wsX11_isSong (va_wsS RX11 118 yX11_in wsX11_in) := goodIn_app (goodIn_of _ (by decide +kernel)) ggX11_isSong_X11_in
theorem dX11_isSong_0 : decode cX11_isSong 0 = .ok (.iload_n 0, 1) := by decide +kernel
theorem dX11_isSong_1 : decode cX11_isSong 1 = .ok (.iconst 0, 1) := by decide +kernel
theorem dX11_isSong_2 : decode cX11_isSong 2 = .ok (.iconst 2, 1) := by decide +kernel
theorem dX11_isSong_3 : decode cX11_isSong 3 = .ok (.invokestatic 118, 3) := by decide +kernel
theorem dX11_isSong_6 : decode cX11_isSong 6 = .ok (.ireturn, 1) := by decide +kernel
set_option maxRecDepth 20000 in
theorem ggX11_isSinger_X11_in : GoodIn wsX11_isSinger wsX11_in := goodIn_r _ [4] rfl (by decide +kernel)
set_option maxRecDepth 20000 in
theorem gX11_isSinger_X11_in : GoodIn wsX11_isSinger (va_wsS RX11 118 yX11_in wsX11_in) := goodIn_app (goodIn_of _ (by decide +kernel)) ggX11_isSinger_X11_in
theorem dX11_isSinger_0 : decode cX11_isSinger 0 = .ok (.iload_n 0, 1) := by decide +kernel
theorem dX11_isSinger_1 : decode cX11_isSinger 1 = .ok (.iconst 0, 1) := by decide +kernel
theorem dX11_isSinger_2 : decode cX11_isSinger 2 = .ok (.iconst 3, 1) := by decide +kernel
theorem dX11_isSinger_3 : decode cX11_isSinger 3 = .ok (.invokestatic 118, 3) := by decide +kernel
theorem dX11_isSinger_6 : decode cX11_isSinger 6 = .ok (.ireturn, 1) := by decide +kernel
set_option maxRecDepth 20000 in
theorem ggX11_isLine_X11_isSong : GoodIn wsX11_isLine wsX11_isSong := goodIn_r _ [5, 6, 7, 4, 8] rfl (by decide +kernel)
set_option maxRecDepth 20000 in
theorem gX11_isLine_X11_isSong : GoodIn wsX11_isLine (va_wsS RX11 122 yX11_isSong wsX11_isSong) := goodIn_app (goodIn_of _ (by decide +kernel)) ggX11_isLine_X11_isSong
theorem dX11_isLine_0 : decode cX11_isLine 0 = .ok (.iload_n 1, 1) := by decide +kernel
theorem dX11_isLine_1 : decode cX11_isLine 1 = .ok (.ifCond .lt 33, 3) := by decide +kernel
theorem dX11_isLine_4 : decode cX11_isLine 4 = .ok (.iload_n 1, 1) := by decide +kernel
theorem dX11_isLine_5 : decode cX11_isLine 5 = .ok (.bipush 100, 2) := by decide +kernel
theorem dX11_isLine_7 : decode cX11_isLine 7 = .ok (.idiv, 1) := by decide +kernel
theorem dX11_isLine_8 : decode cX11_isLine 8 = .ok (.invokestatic 122, 3) := by decide +kernel
theorem dX11_isLine_11 : decode cX11_isLine 11 = .ok (.ifCond .eq 23, 3) := by decide +kernel
theorem dX11_isLine_14 : decode cX11_isLine 14 = .ok (.iload_n 1, 1) := by decide +kernel
theorem dX11_isLine_15 : decode cX11_isLine 15 = .ok (.bipush 100, 2) := by decide +kernel
theorem dX11_isLine_17 : decode cX11_isLine 17 = .ok (.irem, 1) := by decide +kernel
theorem dX11_isLine_18 : decode cX11_isLine 18 = .ok (.aload_n 0, 1) := by decide +kernel
theorem dX11_isLine_19 : decode cX11_isLine 19 = .ok (.getfield 9, 3) := by decide +kernel
theorem dX11_isLine_22 : decode cX11_isLine 22 = .ok (.iload_n 1, 1) := by decide +kernel
theorem dX11_isLine_23 : decode cX11_isLine 23 = .ok (.bipush 100, 2) := by decide +kernel
theorem dX11_isLine_25 : decode cX11_isLine 25 = .ok (.idiv, 1) := by decide +kernel
theorem dX11_isLine_26 : decode cX11_isLine 26 = .ok (.iaload, 1) := by decide +kernel
theorem dX11_isLine_27 : decode cX11_isLine 27 = .ok (.if_icmp .ge 7, 3) := by decide +kernel
theorem dX11_isLine_30 : decode cX11_isLine 30 = .ok (.iconst 1, 1) := by decide +kernel
theorem dX11_isLine_31 : decode cX11_isLine 31 = .ok (.goto 4, 3) := by decide +kernel
theorem dX11_isLine_34 : decode cX11_isLine 34 = .ok (.iconst 0, 1) := by decide +kernel
theorem dX11_isLine_35 : decode cX11_isLine 35 = .ok (.ireturn, 1) := by decide +kernel
theorem dX11_spotAt_0 : decode cX11_spotAt 0 = .ok (.bipush 12, 2) := by decide +kernel
theorem dX11_spotAt_2 : decode cX11_spotAt 2 = .ok (.iload_n 0, 1) := by decide +kernel
theorem dX11_spotAt_3 : decode cX11_spotAt 3 = .ok (.bipush 100, 2) := by decide +kernel
theorem dX11_spotAt_5 : decode cX11_spotAt 5 = .ok (.idiv, 1) := by decide +kernel
theorem dX11_spotAt_6 : decode cX11_spotAt 6 = .ok (.imul, 1) := by decide +kernel
theorem dX11_spotAt_7 : decode cX11_spotAt 7 = .ok (.iload_n 0, 1) := by decide +kernel
theorem dX11_spotAt_8 : decode cX11_spotAt 8 = .ok (.bipush 100, 2) := by decide +kernel
theorem dX11_spotAt_10 : decode cX11_spotAt 10 = .ok (.irem, 1) := by decide +kernel
theorem dX11_spotAt_11 : decode cX11_spotAt 11 = .ok (.iadd, 1) := by decide +kernel
theorem dX11_spotAt_12 : decode cX11_spotAt 12 = .ok (.ireturn, 1) := by decide +kernel
theorem dX11_addLine_0 : decode cX11_addLine 0 = .ok (.bipush 12, 2) := by decide +kernel
theorem dX11_addLine_2 : decode cX11_addLine 2 = .ok (.iload_n 1, 1) := by decide +kernel
theorem dX11_addLine_3 : decode cX11_addLine 3 = .ok (.imul, 1) := by decide +kernel
theorem dX11_addLine_4 : decode cX11_addLine 4 = .ok (.aload_n 0, 1) := by decide +kernel
theorem dX11_addLine_5 : decode cX11_addLine 5 = .ok (.getfield 9, 3) := by decide +kernel
theorem dX11_addLine_8 : decode cX11_addLine 8 = .ok (.iload_n 1, 1) := by decide +kernel
theorem dX11_addLine_9 : decode cX11_addLine 9 = .ok (.iaload, 1) := by decide +kernel
theorem dX11_addLine_10 : decode cX11_addLine 10 = .ok (.iadd, 1) := by decide +kernel
theorem dX11_addLine_11 : decode cX11_addLine 11 = .ok (.istore 5, 2) := by decide +kernel
theorem dX11_addLine_13 : decode cX11_addLine 13 = .ok (.aload_n 0, 1) := by decide +kernel
theorem dX11_addLine_14 : decode cX11_addLine 14 = .ok (.getfield 15, 3) := by decide +kernel
theorem dX11_addLine_17 : decode cX11_addLine 17 = .ok (.iload 5, 2) := by decide +kernel
theorem dX11_addLine_19 : decode cX11_addLine 19 = .ok (.iload_n 2, 1) := by decide +kernel
theorem dX11_addLine_20 : decode cX11_addLine 20 = .ok (.iastore, 1) := by decide +kernel
theorem dX11_addLine_21 : decode cX11_addLine 21 = .ok (.aload_n 0, 1) := by decide +kernel
theorem dX11_addLine_22 : decode cX11_addLine 22 = .ok (.getfield 18, 3) := by decide +kernel
theorem dX11_addLine_25 : decode cX11_addLine 25 = .ok (.iload 5, 2) := by decide +kernel
theorem dX11_addLine_27 : decode cX11_addLine 27 = .ok (.iload_n 3, 1) := by decide +kernel
theorem dX11_addLine_28 : decode cX11_addLine 28 = .ok (.iastore, 1) := by decide +kernel
theorem dX11_addLine_29 : decode cX11_addLine 29 = .ok (.aload_n 0, 1) := by decide +kernel
theorem dX11_addLine_30 : decode cX11_addLine 30 = .ok (.getfield 21, 3) := by decide +kernel
theorem dX11_addLine_33 : decode cX11_addLine 33 = .ok (.iload 5, 2) := by decide +kernel
theorem dX11_addLine_35 : decode cX11_addLine 35 = .ok (.iload 4, 2) := by decide +kernel
theorem dX11_addLine_37 : decode cX11_addLine 37 = .ok (.iastore, 1) := by decide +kernel
theorem dX11_addLine_38 : decode cX11_addLine 38 = .ok (.aload_n 0, 1) := by decide +kernel
theorem dX11_addLine_39 : decode cX11_addLine 39 = .ok (.getfield 9, 3) := by decide +kernel
theorem dX11_addLine_42 : decode cX11_addLine 42 = .ok (.iload_n 1, 1) := by decide +kernel
theorem dX11_addLine_43 : decode cX11_addLine 43 = .ok (.dup2, 1) := by decide +kernel
theorem dX11_addLine_44 : decode cX11_addLine 44 = .ok (.iaload, 1) := by decide +kernel
theorem dX11_addLine_45 : decode cX11_addLine 45 = .ok (.iconst 1, 1) := by decide +kernel
theorem dX11_addLine_46 : decode cX11_addLine 46 = .ok (.iadd, 1) := by decide +kernel
theorem dX11_addLine_47 : decode cX11_addLine 47 = .ok (.iastore, 1) := by decide +kernel
theorem dX11_addLine_48 : decode cX11_addLine 48 = .ok (.aload_n 0, 1) := by decide +kernel
theorem dX11_addLine_49 : decode cX11_addLine 49 = .ok (.getfield 9, 3) := by decide +kernel
theorem dX11_addLine_52 : decode cX11_addLine 52 = .ok (.iload_n 1, 1) := by decide +kernel
theorem dX11_addLine_53 : decode cX11_addLine 53 = .ok (.iaload, 1) := by decide +kernel
theorem dX11_addLine_54 : decode cX11_addLine 54 = .ok (.iconst 1, 1) := by decide +kernel
theorem dX11_addLine_55 : decode cX11_addLine 55 = .ok (.isub, 1) := by decide +kernel
theorem dX11_addLine_56 : decode cX11_addLine 56 = .ok (.ireturn, 1) := by decide +kernel
set_option maxRecDepth 20000 in
theorem ggX11_line_X11_isSong : GoodIn wsX11_line wsX11_isSong := goodIn_r _ [5, 6, 7, 4, 8] rfl (by decide +kernel)
set_option maxRecDepth 20000 in
theorem gX11_line_X11_isSong : GoodIn wsX11_line (va_wsS RX11 122 yX11_isSong wsX11_isSong) := goodIn_app (goodIn_of _ (by decide +kernel)) ggX11_line_X11_isSong
set_option maxRecDepth 20000 in
theorem ggX11_line_X11_addLine : GoodIn wsX11_line wsX11_addLine := goodIn_r _ [12, 1, 13, 14, 15, 16, 17, 18, 19, 20, 21, 22, 23, 24, 25, 26, 27, 28, 29, 30, 31, 32, 33, 34, 35, 36, 37, 38, 39, 40, 41, 42, 43, 44, 45, 46, 47, 48, 49, 50, 51, 52, 53, 54, 55, 56, 57, 58, 59, 60, 61, 62, 63, 64, 65] rfl (by decide +kernel)
set_option maxRecDepth 20000 in
theorem gX11_line_X11_addLine : GoodIn wsX11_line (wsV RX11 126 RX11 yX11_addLine wsX11_addLine) := goodIn_app (goodIn_of _ (by decide +kernel)) ggX11_line_X11_addLine
theorem dX11_line_0 : decode cX11_line 0 = .ok (.iload_n 1, 1) := by decide +kernel
theorem dX11_line_1 : decode cX11_line 1 = .ok (.invokestatic 122, 3) := by decide +kernel
theorem dX11_line_4 : decode cX11_line 4 = .ok (.ifCond .eq 37, 3) := by decide +kernel
theorem dX11_line_7 : decode cX11_line 7 = .ok (.iload_n 2, 1) := by decide +kernel
theorem dX11_line_8 : decode cX11_line 8 = .ok (.ifCond .lt 33, 3) := by decide +kernel
theorem dX11_line_11 : decode cX11_line 11 = .ok (.iload_n 2, 1) := by decide +kernel
theorem dX11_line_12 : decode cX11_line 12 = .ok (.bipush 100, 2) := by decide +kernel
theorem dX11_line_14 : decode cX11_line 14 = .ok (.idiv, 1) := by decide +kernel
theorem dX11_line_15 : decode cX11_line 15 = .ok (.bipush 7, 2) := by decide +kernel
theorem dX11_line_17 : decode cX11_line 17 = .ok (.if_icmp .gt 24, 3) := by decide +kernel
theorem dX11_line_20 : decode cX11_line 20 = .ok (.iload_n 2, 1) := by decide +kernel
theorem dX11_line_21 : decode cX11_line 21 = .ok (.bipush 10, 2) := by decide +kernel
theorem dX11_line_23 : decode cX11_line 23 = .ok (.idiv, 1) := by decide +kernel
theorem dX11_line_24 : decode cX11_line 24 = .ok (.bipush 10, 2) := by decide +kernel
theorem dX11_line_26 : decode cX11_line 26 = .ok (.irem, 1) := by decide +kernel
theorem dX11_line_27 : decode cX11_line 27 = .ok (.bipush 7, 2) := by decide +kernel
theorem dX11_line_29 : decode cX11_line 29 = .ok (.if_icmp .gt 12, 3) := by decide +kernel
theorem dX11_line_32 : decode cX11_line 32 = .ok (.iload_n 2, 1) := by decide +kernel
theorem dX11_line_33 : decode cX11_line 33 = .ok (.bipush 10, 2) := by decide +kernel
theorem dX11_line_35 : decode cX11_line 35 = .ok (.irem, 1) := by decide +kernel
theorem dX11_line_36 : decode cX11_line 36 = .ok (.bipush 7, 2) := by decide +kernel
theorem dX11_line_38 : decode cX11_line 38 = .ok (.if_icmp .le 5, 3) := by decide +kernel
theorem dX11_line_41 : decode cX11_line 41 = .ok (.iconst (-1), 1) := by decide +kernel
theorem dX11_line_42 : decode cX11_line 42 = .ok (.ireturn, 1) := by decide +kernel
theorem dX11_line_43 : decode cX11_line 43 = .ok (.aload_n 0, 1) := by decide +kernel
theorem dX11_line_44 : decode cX11_line 44 = .ok (.getfield 9, 3) := by decide +kernel
theorem dX11_line_47 : decode cX11_line 47 = .ok (.iload_n 1, 1) := by decide +kernel
theorem dX11_line_48 : decode cX11_line 48 = .ok (.iaload, 1) := by decide +kernel
theorem dX11_line_49 : decode cX11_line 49 = .ok (.bipush 12, 2) := by decide +kernel
theorem dX11_line_51 : decode cX11_line 51 = .ok (.if_icmp .ne 8, 3) := by decide +kernel
theorem dX11_line_54 : decode cX11_line 54 = .ok (.bipush (-3), 2) := by decide +kernel
theorem dX11_line_56 : decode cX11_line 56 = .ok (.goto 23, 3) := by decide +kernel
theorem dX11_line_59 : decode cX11_line 59 = .ok (.aload_n 0, 1) := by decide +kernel
theorem dX11_line_60 : decode cX11_line 60 = .ok (.iload_n 1, 1) := by decide +kernel
theorem dX11_line_61 : decode cX11_line 61 = .ok (.iload_n 2, 1) := by decide +kernel
theorem dX11_line_62 : decode cX11_line 62 = .ok (.bipush 100, 2) := by decide +kernel
theorem dX11_line_64 : decode cX11_line 64 = .ok (.idiv, 1) := by decide +kernel
theorem dX11_line_65 : decode cX11_line 65 = .ok (.iload_n 2, 1) := by decide +kernel
theorem dX11_line_66 : decode cX11_line 66 = .ok (.bipush 10, 2) := by decide +kernel
theorem dX11_line_68 : decode cX11_line 68 = .ok (.idiv, 1) := by decide +kernel
theorem dX11_line_69 : decode cX11_line 69 = .ok (.bipush 10, 2) := by decide +kernel
theorem dX11_line_71 : decode cX11_line 71 = .ok (.irem, 1) := by decide +kernel
theorem dX11_line_72 : decode cX11_line 72 = .ok (.iload_n 2, 1) := by decide +kernel
theorem dX11_line_73 : decode cX11_line 73 = .ok (.bipush 10, 2) := by decide +kernel
theorem dX11_line_75 : decode cX11_line 75 = .ok (.irem, 1) := by decide +kernel
theorem dX11_line_76 : decode cX11_line 76 = .ok (.invokevirtual 126, 3) := by decide +kernel
theorem dX11_line_79 : decode cX11_line 79 = .ok (.ireturn, 1) := by decide +kernel
set_option maxRecDepth 20000 in
theorem ggX11_lines_X11_isSong : GoodIn wsX11_lines wsX11_isSong := goodIn_r _ [9, 10, 11, 8, 12] rfl (by decide +kernel)
set_option maxRecDepth 20000 in
theorem gX11_lines_X11_isSong : GoodIn wsX11_lines (va_wsS RX11 122 yX11_isSong wsX11_isSong) := goodIn_app (goodIn_of _ (by decide +kernel)) ggX11_lines_X11_isSong
set_option maxRecDepth 20000 in
theorem ggX11_lines_X11_isShelf : GoodIn wsX11_lines wsX11_isShelf := goodIn_r _ [15, 10, 11, 8, 12] rfl (by decide +kernel)
set_option maxRecDepth 20000 in
theorem gX11_lines_X11_isShelf : GoodIn wsX11_lines (va_wsS RX11 130 yX11_isShelf wsX11_isShelf) := goodIn_app (goodIn_of _ (by decide +kernel)) ggX11_lines_X11_isShelf
set_option maxRecDepth 20000 in
theorem ggX11_lines_X11_in : GoodIn wsX11_lines wsX11_in := goodIn_r _ [12] rfl (by decide +kernel)
set_option maxRecDepth 20000 in
theorem gX11_lines_X11_in : GoodIn wsX11_lines (va_wsS RX11 118 yX11_in wsX11_in) := goodIn_app (goodIn_of _ (by decide +kernel)) ggX11_lines_X11_in
set_option maxRecDepth 20000 in
theorem ggX11_lines_X11_addLine : GoodIn wsX11_lines wsX11_addLine := goodIn_r _ [19, 4, 20, 21, 22, 23, 24, 25, 26, 27, 28, 29, 30, 31, 32, 33, 34, 35, 36, 37, 38, 39, 40, 41, 42, 43, 44, 45, 46, 47, 48, 49, 50, 51, 52, 53, 54, 55, 56, 57, 58, 59, 60, 61, 62, 63, 64, 65, 66, 67, 68, 69, 70, 71, 72] rfl (by decide +kernel)
set_option maxRecDepth 20000 in
theorem gX11_lines_X11_addLine : GoodIn wsX11_lines (wsV RX11 126 RX11 yX11_addLine wsX11_addLine) := goodIn_app (goodIn_of _ (by decide +kernel)) ggX11_lines_X11_addLine
theorem dX11_lines_0 : decode cX11_lines 0 = .ok (.iload_n 1, 1) := by decide +kernel
theorem dX11_lines_1 : decode cX11_lines 1 = .ok (.invokestatic 122, 3) := by decide +kernel
theorem dX11_lines_4 : decode cX11_lines 4 = .ok (.ifCond .eq 21, 3) := by decide +kernel
theorem dX11_lines_7 : decode cX11_lines 7 = .ok (.iload_n 2, 1) := by decide +kernel
theorem dX11_lines_8 : decode cX11_lines 8 = .ok (.invokestatic 130, 3) := by decide +kernel
theorem dX11_lines_11 : decode cX11_lines 11 = .ok (.ifCond .eq 14, 3) := by decide +kernel
theorem dX11_lines_14 : decode cX11_lines 14 = .ok (.iload 4, 2) := by decide +kernel
theorem dX11_lines_16 : decode cX11_lines 16 = .ok (.iconst 1, 1) := by decide +kernel
theorem dX11_lines_17 : decode cX11_lines 17 = .ok (.bipush 12, 2) := by decide +kernel
theorem dX11_lines_19 : decode cX11_lines 19 = .ok (.invokestatic 118, 3) := by decide +kernel
theorem dX11_lines_22 : decode cX11_lines 22 = .ok (.ifCond .ne 5, 3) := by decide +kernel
theorem dX11_lines_25 : decode cX11_lines 25 = .ok (.iconst (-1), 1) := by decide +kernel
theorem dX11_lines_26 : decode cX11_lines 26 = .ok (.ireturn, 1) := by decide +kernel
theorem dX11_lines_27 : decode cX11_lines 27 = .ok (.aload_n 0, 1) := by decide +kernel
theorem dX11_lines_28 : decode cX11_lines 28 = .ok (.getfield 101, 3) := by decide +kernel
theorem dX11_lines_31 : decode cX11_lines 31 = .ok (.iload_n 2, 1) := by decide +kernel
theorem dX11_lines_32 : decode cX11_lines 32 = .ok (.iaload, 1) := by decide +kernel
theorem dX11_lines_33 : decode cX11_lines 33 = .ok (.iconst (-1), 1) := by decide +kernel
theorem dX11_lines_34 : decode cX11_lines 34 = .ok (.if_icmp .eq 17, 3) := by decide +kernel
theorem dX11_lines_37 : decode cX11_lines 37 = .ok (.aload_n 0, 1) := by decide +kernel
theorem dX11_lines_38 : decode cX11_lines 38 = .ok (.getfield 101, 3) := by decide +kernel
theorem dX11_lines_41 : decode cX11_lines 41 = .ok (.iload_n 2, 1) := by decide +kernel
theorem dX11_lines_42 : decode cX11_lines 42 = .ok (.iaload, 1) := by decide +kernel
theorem dX11_lines_43 : decode cX11_lines 43 = .ok (.bipush (-2), 2) := by decide +kernel
theorem dX11_lines_45 : decode cX11_lines 45 = .ok (.if_icmp .eq 6, 3) := by decide +kernel
theorem dX11_lines_48 : decode cX11_lines 48 = .ok (.bipush (-12), 2) := by decide +kernel
theorem dX11_lines_50 : decode cX11_lines 50 = .ok (.ireturn, 1) := by decide +kernel
theorem dX11_lines_51 : decode cX11_lines 51 = .ok (.aload_n 0, 1) := by decide +kernel
theorem dX11_lines_52 : decode cX11_lines 52 = .ok (.getfield 101, 3) := by decide +kernel
theorem dX11_lines_55 : decode cX11_lines 55 = .ok (.iload_n 2, 1) := by decide +kernel
theorem dX11_lines_56 : decode cX11_lines 56 = .ok (.iaload, 1) := by decide +kernel
theorem dX11_lines_57 : decode cX11_lines 57 = .ok (.iconst (-1), 1) := by decide +kernel
theorem dX11_lines_58 : decode cX11_lines 58 = .ok (.if_icmp .ne 5, 3) := by decide +kernel
theorem dX11_lines_61 : decode cX11_lines 61 = .ok (.iconst 0, 1) := by decide +kernel
theorem dX11_lines_62 : decode cX11_lines 62 = .ok (.ireturn, 1) := by decide +kernel
theorem dX11_lines_63 : decode cX11_lines 63 = .ok (.iconst 0, 1) := by decide +kernel
theorem dX11_lines_64 : decode cX11_lines 64 = .ok (.istore 5, 2) := by decide +kernel
theorem dX11_lines_66 : decode cX11_lines 66 = .ok (.iload 5, 2) := by decide +kernel
theorem dX11_lines_68 : decode cX11_lines 68 = .ok (.iload 4, 2) := by decide +kernel
theorem dX11_lines_70 : decode cX11_lines 70 = .ok (.if_icmp .ge 159, 3) := by decide +kernel
theorem dX11_lines_73 : decode cX11_lines 73 = .ok (.iload_n 3, 1) := by decide +kernel
theorem dX11_lines_74 : decode cX11_lines 74 = .ok (.i2l, 1) := by decide +kernel
theorem dX11_lines_75 : decode cX11_lines 75 = .ok (.iconst 3, 1) := by decide +kernel
theorem dX11_lines_76 : decode cX11_lines 76 = .ok (.iload 5, 2) := by decide +kernel
theorem dX11_lines_78 : decode cX11_lines 78 = .ok (.imul, 1) := by decide +kernel
theorem dX11_lines_79 : decode cX11_lines 79 = .ok (.i2l, 1) := by decide +kernel
theorem dX11_lines_80 : decode cX11_lines 80 = .ok (.ladd, 1) := by decide +kernel
theorem dX11_lines_81 : decode cX11_lines 81 = .ok (.lstore 6, 2) := by decide +kernel
theorem dX11_lines_83 : decode cX11_lines 83 = .ok (.lload 6, 2) := by decide +kernel
theorem dX11_lines_85 : decode cX11_lines 85 = .ok (.lconst 0, 1) := by decide +kernel
theorem dX11_lines_86 : decode cX11_lines 86 = .ok (.lcmp, 1) := by decide +kernel
theorem dX11_lines_87 : decode cX11_lines 87 = .ok (.ifCond .lt 31, 3) := by decide +kernel
theorem dX11_lines_90 : decode cX11_lines 90 = .ok (.lload 6, 2) := by decide +kernel
theorem dX11_lines_92 : decode cX11_lines 92 = .ok (.ldc2_w 133, 3) := by decide +kernel
theorem dX11_lines_95 : decode cX11_lines 95 = .ok (.ladd, 1) := by decide +kernel
theorem dX11_lines_96 : decode cX11_lines 96 = .ok (.aload_n 0, 1) := by decide +kernel
theorem dX11_lines_97 : decode cX11_lines 97 = .ok (.getfield 104, 3) := by decide +kernel
theorem dX11_lines_100 : decode cX11_lines 100 = .ok (.iload_n 2, 1) := by decide +kernel
theorem dX11_lines_101 : decode cX11_lines 101 = .ok (.iaload, 1) := by decide +kernel
theorem dX11_lines_102 : decode cX11_lines 102 = .ok (.i2l, 1) := by decide +kernel
theorem dX11_lines_103 : decode cX11_lines 103 = .ok (.lcmp, 1) := by decide +kernel
theorem dX11_lines_104 : decode cX11_lines 104 = .ok (.ifCond .ge 14, 3) := by decide +kernel
theorem dX11_lines_107 : decode cX11_lines 107 = .ok (.aload_n 0, 1) := by decide +kernel
theorem dX11_lines_108 : decode cX11_lines 108 = .ok (.getfield 9, 3) := by decide +kernel
theorem dX11_lines_111 : decode cX11_lines 111 = .ok (.iload_n 1, 1) := by decide +kernel
theorem dX11_lines_112 : decode cX11_lines 112 = .ok (.iaload, 1) := by decide +kernel
theorem dX11_lines_113 : decode cX11_lines 113 = .ok (.bipush 12, 2) := by decide +kernel
theorem dX11_lines_115 : decode cX11_lines 115 = .ok (.if_icmp .ne 6, 3) := by decide +kernel
theorem dX11_lines_118 : decode cX11_lines 118 = .ok (.iload 5, 2) := by decide +kernel
theorem dX11_lines_120 : decode cX11_lines 120 = .ok (.ireturn, 1) := by decide +kernel
theorem dX11_lines_121 : decode cX11_lines 121 = .ok (.bipush 60, 2) := by decide +kernel
theorem dX11_lines_123 : decode cX11_lines 123 = .ok (.iload_n 2, 1) := by decide +kernel
theorem dX11_lines_124 : decode cX11_lines 124 = .ok (.imul, 1) := by decide +kernel
theorem dX11_lines_125 : decode cX11_lines 125 = .ok (.lload 6, 2) := by decide +kernel
theorem dX11_lines_127 : decode cX11_lines 127 = .ok (.l2i, 1) := by decide +kernel
theorem dX11_lines_128 : decode cX11_lines 128 = .ok (.iadd, 1) := by decide +kernel
theorem dX11_lines_129 : decode cX11_lines 129 = .ok (.istore 8, 2) := by decide +kernel
theorem dX11_lines_131 : decode cX11_lines 131 = .ok (.aload_n 0, 1) := by decide +kernel
theorem dX11_lines_132 : decode cX11_lines 132 = .ok (.getfield 107, 3) := by decide +kernel
theorem dX11_lines_135 : decode cX11_lines 135 = .ok (.iload 8, 2) := by decide +kernel
theorem dX11_lines_137 : decode cX11_lines 137 = .ok (.laload, 1) := by decide +kernel
theorem dX11_lines_138 : decode cX11_lines 138 = .ok (.l2i, 1) := by decide +kernel
theorem dX11_lines_139 : decode cX11_lines 139 = .ok (.iconst 0, 1) := by decide +kernel
theorem dX11_lines_140 : decode cX11_lines 140 = .ok (.bipush 7, 2) := by decide +kernel
theorem dX11_lines_142 : decode cX11_lines 142 = .ok (.invokestatic 118, 3) := by decide +kernel
theorem dX11_lines_145 : decode cX11_lines 145 = .ok (.ifCond .eq 41, 3) := by decide +kernel
theorem dX11_lines_148 : decode cX11_lines 148 = .ok (.aload_n 0, 1) := by decide +kernel
theorem dX11_lines_149 : decode cX11_lines 149 = .ok (.getfield 107, 3) := by decide +kernel
theorem dX11_lines_152 : decode cX11_lines 152 = .ok (.iload 8, 2) := by decide +kernel
theorem dX11_lines_154 : decode cX11_lines 154 = .ok (.iconst 1, 1) := by decide +kernel
theorem dX11_lines_155 : decode cX11_lines 155 = .ok (.iadd, 1) := by decide +kernel
theorem dX11_lines_156 : decode cX11_lines 156 = .ok (.laload, 1) := by decide +kernel
theorem dX11_lines_157 : decode cX11_lines 157 = .ok (.l2i, 1) := by decide +kernel
theorem dX11_lines_158 : decode cX11_lines 158 = .ok (.iconst 0, 1) := by decide +kernel
theorem dX11_lines_159 : decode cX11_lines 159 = .ok (.bipush 7, 2) := by decide +kernel
theorem dX11_lines_161 : decode cX11_lines 161 = .ok (.invokestatic 118, 3) := by decide +kernel
theorem dX11_lines_164 : decode cX11_lines 164 = .ok (.ifCond .eq 22, 3) := by decide +kernel
theorem dX11_lines_167 : decode cX11_lines 167 = .ok (.aload_n 0, 1) := by decide +kernel
theorem dX11_lines_168 : decode cX11_lines 168 = .ok (.getfield 107, 3) := by decide +kernel
theorem dX11_lines_171 : decode cX11_lines 171 = .ok (.iload 8, 2) := by decide +kernel
theorem dX11_lines_173 : decode cX11_lines 173 = .ok (.iconst 2, 1) := by decide +kernel
theorem dX11_lines_174 : decode cX11_lines 174 = .ok (.iadd, 1) := by decide +kernel
theorem dX11_lines_175 : decode cX11_lines 175 = .ok (.laload, 1) := by decide +kernel
theorem dX11_lines_176 : decode cX11_lines 176 = .ok (.l2i, 1) := by decide +kernel
theorem dX11_lines_177 : decode cX11_lines 177 = .ok (.iconst 0, 1) := by decide +kernel
theorem dX11_lines_178 : decode cX11_lines 178 = .ok (.bipush 7, 2) := by decide +kernel
theorem dX11_lines_180 : decode cX11_lines 180 = .ok (.invokestatic 118, 3) := by decide +kernel
theorem dX11_lines_183 : decode cX11_lines 183 = .ok (.ifCond .ne 6, 3) := by decide +kernel
theorem dX11_lines_186 : decode cX11_lines 186 = .ok (.iload 5, 2) := by decide +kernel
theorem dX11_lines_188 : decode cX11_lines 188 = .ok (.ireturn, 1) := by decide +kernel
theorem dX11_lines_189 : decode cX11_lines 189 = .ok (.aload_n 0, 1) := by decide +kernel
theorem dX11_lines_190 : decode cX11_lines 190 = .ok (.iload_n 1, 1) := by decide +kernel
theorem dX11_lines_191 : decode cX11_lines 191 = .ok (.aload_n 0, 1) := by decide +kernel
theorem dX11_lines_192 : decode cX11_lines 192 = .ok (.getfield 107, 3) := by decide +kernel
theorem dX11_lines_195 : decode cX11_lines 195 = .ok (.iload 8, 2) := by decide +kernel
theorem dX11_lines_197 : decode cX11_lines 197 = .ok (.laload, 1) := by decide +kernel
theorem dX11_lines_198 : decode cX11_lines 198 = .ok (.l2i, 1) := by decide +kernel
theorem dX11_lines_199 : decode cX11_lines 199 = .ok (.aload_n 0, 1) := by decide +kernel
theorem dX11_lines_200 : decode cX11_lines 200 = .ok (.getfield 107, 3) := by decide +kernel
theorem dX11_lines_203 : decode cX11_lines 203 = .ok (.iload 8, 2) := by decide +kernel
theorem dX11_lines_205 : decode cX11_lines 205 = .ok (.iconst 1, 1) := by decide +kernel
theorem dX11_lines_206 : decode cX11_lines 206 = .ok (.iadd, 1) := by decide +kernel
theorem dX11_lines_207 : decode cX11_lines 207 = .ok (.laload, 1) := by decide +kernel
theorem dX11_lines_208 : decode cX11_lines 208 = .ok (.l2i, 1) := by decide +kernel
theorem dX11_lines_209 : decode cX11_lines 209 = .ok (.aload_n 0, 1) := by decide +kernel
theorem dX11_lines_210 : decode cX11_lines 210 = .ok (.getfield 107, 3) := by decide +kernel
theorem dX11_lines_213 : decode cX11_lines 213 = .ok (.iload 8, 2) := by decide +kernel
theorem dX11_lines_215 : decode cX11_lines 215 = .ok (.iconst 2, 1) := by decide +kernel
theorem dX11_lines_216 : decode cX11_lines 216 = .ok (.iadd, 1) := by decide +kernel
theorem dX11_lines_217 : decode cX11_lines 217 = .ok (.laload, 1) := by decide +kernel
theorem dX11_lines_218 : decode cX11_lines 218 = .ok (.l2i, 1) := by decide +kernel
theorem dX11_lines_219 : decode cX11_lines 219 = .ok (.invokevirtual 126, 3) := by decide +kernel
theorem dX11_lines_222 : decode cX11_lines 222 = .ok (.pop, 1) := by decide +kernel
theorem dX11_lines_223 : decode cX11_lines 223 = .ok (.iinc 5 1, 3) := by decide +kernel
theorem dX11_lines_226 : decode cX11_lines 226 = .ok (.goto (-160), 3) := by decide +kernel
theorem dX11_lines_229 : decode cX11_lines 229 = .ok (.iload 4, 2) := by decide +kernel
theorem dX11_lines_231 : decode cX11_lines 231 = .ok (.ireturn, 1) := by decide +kernel
theorem dX11_rowOf_0 : decode cX11_rowOf 0 = .ok (.bipush 8, 2) := by decide +kernel
theorem dX11_rowOf_2 : decode cX11_rowOf 2 = .ok (.iload_n 0, 1) := by decide +kernel
theorem dX11_rowOf_3 : decode cX11_rowOf 3 = .ok (.imul, 1) := by decide +kernel
theorem dX11_rowOf_4 : decode cX11_rowOf 4 = .ok (.iconst 2, 1) := by decide +kernel
theorem dX11_rowOf_5 : decode cX11_rowOf 5 = .ok (.iload_n 1, 1) := by decide +kernel
theorem dX11_rowOf_6 : decode cX11_rowOf 6 = .ok (.imul, 1) := by decide +kernel
theorem dX11_rowOf_7 : decode cX11_rowOf 7 = .ok (.iadd, 1) := by decide +kernel
theorem dX11_rowOf_8 : decode cX11_rowOf 8 = .ok (.iload_n 2, 1) := by decide +kernel
theorem dX11_rowOf_9 : decode cX11_rowOf 9 = .ok (.iadd, 1) := by decide +kernel
theorem dX11_rowOf_10 : decode cX11_rowOf 10 = .ok (.ireturn, 1) := by decide +kernel
set_option maxRecDepth 20000 in
theorem ggX11_bitAt_X11_rowOf : GoodIn wsX11_bitAt wsX11_rowOf := goodIn_r _ [5] rfl (by decide +kernel)
set_option maxRecDepth 20000 in
theorem gX11_bitAt_X11_rowOf : GoodIn wsX11_bitAt (va_wsS RX11 135 yX11_rowOf wsX11_rowOf) := goodIn_app (goodIn_of _ (by decide +kernel)) ggX11_bitAt_X11_rowOf
theorem dX11_bitAt_0 : decode cX11_bitAt 0 = .ok (.aload_n 0, 1) := by decide +kernel
theorem dX11_bitAt_1 : decode cX11_bitAt 1 = .ok (.getfield 24, 3) := by decide +kernel
theorem dX11_bitAt_4 : decode cX11_bitAt 4 = .ok (.iload_n 1, 1) := by decide +kernel
theorem dX11_bitAt_5 : decode cX11_bitAt 5 = .ok (.iload_n 2, 1) := by decide +kernel
theorem dX11_bitAt_6 : decode cX11_bitAt 6 = .ok (.iload 4, 2) := by decide +kernel
theorem dX11_bitAt_8 : decode cX11_bitAt 8 = .ok (.invokestatic 135, 3) := by decide +kernel
theorem dX11_bitAt_11 : decode cX11_bitAt 11 = .ok (.iaload, 1) := by decide +kernel
theorem dX11_bitAt_12 : decode cX11_bitAt 12 = .ok (.iload_n 3, 1) := by decide +kernel
theorem dX11_bitAt_13 : decode cX11_bitAt 13 = .ok (.ishr, 1) := by decide +kernel
theorem dX11_bitAt_14 : decode cX11_bitAt 14 = .ok (.iconst 1, 1) := by decide +kernel
theorem dX11_bitAt_15 : decode cX11_bitAt 15 = .ok (.iand, 1) := by decide +kernel
theorem dX11_bitAt_16 : decode cX11_bitAt 16 = .ok (.ireturn, 1) := by decide +kernel
set_option maxRecDepth 20000 in
theorem ggX11_give_X11_rowOf : GoodIn wsX11_give wsX11_rowOf := goodIn_r _ [5] rfl (by decide +kernel)
set_option maxRecDepth 20000 in
theorem gX11_give_X11_rowOf : GoodIn wsX11_give (va_wsS RX11 135 yX11_rowOf wsX11_rowOf) := goodIn_app (goodIn_of _ (by decide +kernel)) ggX11_give_X11_rowOf
theorem dX11_give_0 : decode cX11_give 0 = .ok (.iload_n 1, 1) := by decide +kernel
theorem dX11_give_1 : decode cX11_give 1 = .ok (.iload_n 2, 1) := by decide +kernel
theorem dX11_give_2 : decode cX11_give 2 = .ok (.iload 4, 2) := by decide +kernel
theorem dX11_give_4 : decode cX11_give 4 = .ok (.invokestatic 135, 3) := by decide +kernel
theorem dX11_give_7 : decode cX11_give 7 = .ok (.istore 6, 2) := by decide +kernel
theorem dX11_give_9 : decode cX11_give 9 = .ok (.aload_n 0, 1) := by decide +kernel
theorem dX11_give_10 : decode cX11_give 10 = .ok (.getfield 24, 3) := by decide +kernel
theorem dX11_give_13 : decode cX11_give 13 = .ok (.iload 6, 2) := by decide +kernel
theorem dX11_give_15 : decode cX11_give 15 = .ok (.iload 5, 2) := by decide +kernel
theorem dX11_give_17 : decode cX11_give 17 = .ok (.iconst 1, 1) := by decide +kernel
theorem dX11_give_18 : decode cX11_give 18 = .ok (.if_icmp .ne 17, 3) := by decide +kernel
theorem dX11_give_21 : decode cX11_give 21 = .ok (.aload_n 0, 1) := by decide +kernel
theorem dX11_give_22 : decode cX11_give 22 = .ok (.getfield 24, 3) := by decide +kernel
theorem dX11_give_25 : decode cX11_give 25 = .ok (.iload 6, 2) := by decide +kernel
theorem dX11_give_27 : decode cX11_give 27 = .ok (.iaload, 1) := by decide +kernel
theorem dX11_give_28 : decode cX11_give 28 = .ok (.iconst 1, 1) := by decide +kernel
theorem dX11_give_29 : decode cX11_give 29 = .ok (.iload_n 3, 1) := by decide +kernel
theorem dX11_give_30 : decode cX11_give 30 = .ok (.ishl, 1) := by decide +kernel
theorem dX11_give_31 : decode cX11_give 31 = .ok (.ior, 1) := by decide +kernel
theorem dX11_give_32 : decode cX11_give 32 = .ok (.goto 16, 3) := by decide +kernel
theorem dX11_give_35 : decode cX11_give 35 = .ok (.aload_n 0, 1) := by decide +kernel
theorem dX11_give_36 : decode cX11_give 36 = .ok (.getfield 24, 3) := by decide +kernel
theorem dX11_give_39 : decode cX11_give 39 = .ok (.iload 6, 2) := by decide +kernel
theorem dX11_give_41 : decode cX11_give 41 = .ok (.iaload, 1) := by decide +kernel
theorem dX11_give_42 : decode cX11_give 42 = .ok (.iconst 1, 1) := by decide +kernel
theorem dX11_give_43 : decode cX11_give 43 = .ok (.iload_n 3, 1) := by decide +kernel
theorem dX11_give_44 : decode cX11_give 44 = .ok (.ishl, 1) := by decide +kernel
theorem dX11_give_45 : decode cX11_give 45 = .ok (.iconst (-1), 1) := by decide +kernel
theorem dX11_give_46 : decode cX11_give 46 = .ok (.ixor, 1) := by decide +kernel
theorem dX11_give_47 : decode cX11_give 47 = .ok (.iand, 1) := by decide +kernel
theorem dX11_give_48 : decode cX11_give 48 = .ok (.iastore, 1) := by decide +kernel
theorem dX11_give_49 : decode cX11_give 49 = .ok (.return_, 1) := by decide +kernel
set_option maxRecDepth 20000 in
theorem ggX11_has_X11_isSinger : GoodIn wsX11_has wsX11_isSinger := goodIn_r _ [4, 5, 6, 3, 7] rfl (by decide +kernel)
set_option maxRecDepth 20000 in
theorem gX11_has_X11_isSinger : GoodIn wsX11_has (va_wsS RX11 139 yX11_isSinger wsX11_isSinger) := goodIn_app (goodIn_of _ (by decide +kernel)) ggX11_has_X11_isSinger
set_option maxRecDepth 20000 in
theorem ggX11_has_X11_isLine : GoodIn wsX11_has wsX11_isLine := goodIn_r _ [11, 12, 13, 14, 3, 15, 5, 6, 7, 28, 29, 30, 31, 32, 33, 34, 35, 36, 37, 38, 39, 40, 41, 42, 43, 44, 45, 46, 47, 48, 49, 50, 51, 52, 53, 54, 55, 56, 57, 58, 59, 60, 61, 62, 63, 64, 65, 66, 67, 68, 69, 70, 71, 72, 73, 74, 75, 76, 77] rfl (by decide +kernel)
