theorem dX2_about_8 : decode cX2_about 8 = .ok (.bipush (-101), 2) := by decide +kernel
theorem dX2_about_10 : decode cX2_about 10 = .ok (.ireturn, 1) := by decide +kernel
theorem dX2_about_11 : decode cX2_about 11 = .ok (.aload_n 0, 1) := by decide +kernel
theorem dX2_about_12 : decode cX2_about 12 = .ok (.getfield 19, 3) := by decide +kernel
theorem dX2_about_15 : decode cX2_about 15 = .ok (.getfield 97, 3) := by decide +kernel
theorem dX2_about_18 : decode cX2_about 18 = .ok (.iload_n 1, 1) := by decide +kernel
theorem dX2_about_19 : decode cX2_about 19 = .ok (.iaload, 1) := by decide +kernel
theorem dX2_about_20 : decode cX2_about 20 = .ok (.istore_n 3, 1) := by decide +kernel
theorem dX2_about_21 : decode cX2_about 21 = .ok (.aload_n 0, 1) := by decide +kernel
theorem dX2_about_22 : decode cX2_about 22 = .ok (.getfield 19, 3) := by decide +kernel
theorem dX2_about_25 : decode cX2_about 25 = .ok (.getfield 103, 3) := by decide +kernel
theorem dX2_about_28 : decode cX2_about 28 = .ok (.iload_n 1, 1) := by decide +kernel
theorem dX2_about_29 : decode cX2_about 29 = .ok (.iaload, 1) := by decide +kernel
theorem dX2_about_30 : decode cX2_about 30 = .ok (.istore 4, 2) := by decide +kernel
theorem dX2_about_32 : decode cX2_about 32 = .ok (.iload_n 2, 1) := by decide +kernel
theorem dX2_about_33 : decode cX2_about 33 = .ok (.ifCond .ne 5, 3) := by decide +kernel
theorem dX2_about_36 : decode cX2_about 36 = .ok (.iload_n 3, 1) := by decide +kernel
theorem dX2_about_37 : decode cX2_about 37 = .ok (.ireturn, 1) := by decide +kernel
theorem dX2_about_38 : decode cX2_about 38 = .ok (.iload_n 2, 1) := by decide +kernel
theorem dX2_about_39 : decode cX2_about 39 = .ok (.iconst 1, 1) := by decide +kernel
theorem dX2_about_40 : decode cX2_about 40 = .ok (.if_icmp .ne 13, 3) := by decide +kernel
theorem dX2_about_43 : decode cX2_about 43 = .ok (.aload_n 0, 1) := by decide +kernel
theorem dX2_about_44 : decode cX2_about 44 = .ok (.getfield 19, 3) := by decide +kernel
theorem dX2_about_47 : decode cX2_about 47 = .ok (.getfield 100, 3) := by decide +kernel
theorem dX2_about_50 : decode cX2_about 50 = .ok (.iload_n 1, 1) := by decide +kernel
theorem dX2_about_51 : decode cX2_about 51 = .ok (.iaload, 1) := by decide +kernel
theorem dX2_about_52 : decode cX2_about 52 = .ok (.ireturn, 1) := by decide +kernel
theorem dX2_about_53 : decode cX2_about 53 = .ok (.iload_n 2, 1) := by decide +kernel
theorem dX2_about_54 : decode cX2_about 54 = .ok (.iconst 2, 1) := by decide +kernel
theorem dX2_about_55 : decode cX2_about 55 = .ok (.if_icmp .ne 6, 3) := by decide +kernel
theorem dX2_about_58 : decode cX2_about 58 = .ok (.iload 4, 2) := by decide +kernel
theorem dX2_about_60 : decode cX2_about 60 = .ok (.ireturn, 1) := by decide +kernel
theorem dX2_about_61 : decode cX2_about 61 = .ok (.iload_n 2, 1) := by decide +kernel
theorem dX2_about_62 : decode cX2_about 62 = .ok (.bipush 10, 2) := by decide +kernel
theorem dX2_about_64 : decode cX2_about 64 = .ok (.if_icmp .lt 23, 3) := by decide +kernel
theorem dX2_about_67 : decode cX2_about 67 = .ok (.iload_n 2, 1) := by decide +kernel
theorem dX2_about_68 : decode cX2_about 68 = .ok (.bipush 17, 2) := by decide +kernel
theorem dX2_about_70 : decode cX2_about 70 = .ok (.if_icmp .ge 17, 3) := by decide +kernel
theorem dX2_about_73 : decode cX2_about 73 = .ok (.iload_n 3, 1) := by decide +kernel
theorem dX2_about_74 : decode cX2_about 74 = .ok (.iload 4, 2) := by decide +kernel
theorem dX2_about_76 : decode cX2_about 76 = .ok (.invokestatic 109, 3) := by decide +kernel
theorem dX2_about_79 : decode cX2_about 79 = .ok (.iload_n 2, 1) := by decide +kernel
theorem dX2_about_80 : decode cX2_about 80 = .ok (.bipush 10, 2) := by decide +kernel
theorem dX2_about_82 : decode cX2_about 82 = .ok (.isub, 1) := by decide +kernel
theorem dX2_about_83 : decode cX2_about 83 = .ok (.invokestatic 113, 3) := by decide +kernel
theorem dX2_about_86 : decode cX2_about 86 = .ok (.ireturn, 1) := by decide +kernel
theorem dX2_about_87 : decode cX2_about 87 = .ok (.iload_n 2, 1) := by decide +kernel
theorem dX2_about_88 : decode cX2_about 88 = .ok (.bipush 20, 2) := by decide +kernel
theorem dX2_about_90 : decode cX2_about 90 = .ok (.if_icmp .lt 23, 3) := by decide +kernel
theorem dX2_about_93 : decode cX2_about 93 = .ok (.iload_n 2, 1) := by decide +kernel
theorem dX2_about_94 : decode cX2_about 94 = .ok (.bipush 27, 2) := by decide +kernel
theorem dX2_about_96 : decode cX2_about 96 = .ok (.if_icmp .ge 17, 3) := by decide +kernel
theorem dX2_about_99 : decode cX2_about 99 = .ok (.iload_n 3, 1) := by decide +kernel
theorem dX2_about_100 : decode cX2_about 100 = .ok (.iload 4, 2) := by decide +kernel
theorem dX2_about_102 : decode cX2_about 102 = .ok (.invokestatic 116, 3) := by decide +kernel
theorem dX2_about_105 : decode cX2_about 105 = .ok (.iload_n 2, 1) := by decide +kernel
theorem dX2_about_106 : decode cX2_about 106 = .ok (.bipush 20, 2) := by decide +kernel
theorem dX2_about_108 : decode cX2_about 108 = .ok (.isub, 1) := by decide +kernel
theorem dX2_about_109 : decode cX2_about 109 = .ok (.invokestatic 113, 3) := by decide +kernel
theorem dX2_about_112 : decode cX2_about 112 = .ok (.ireturn, 1) := by decide +kernel
theorem dX2_about_113 : decode cX2_about 113 = .ok (.bipush (-102), 2) := by decide +kernel
theorem dX2_about_115 : decode cX2_about 115 = .ok (.ireturn, 1) := by decide +kernel
set_option maxRecDepth 20000 in
theorem ggX2_as_X2_isPerson : GoodIn wsX2_as wsX2_isPerson := goodIn_r _ [7, 1, 8, 15, 16, 17, 18, 19, 20, 21, 22, 23, 24, 25, 26, 27, 28, 29, 30, 31, 32, 33] (by decide +kernel) (by decide +kernel)
set_option maxRecDepth 20000 in
theorem gX2_as_X2_isPerson : GoodIn wsX2_as (wsV RX2 106 RX2 yX2_isPerson wsX2_isPerson) := goodIn_app (goodIn_of _ (by decide +kernel)) ggX2_as_X2_isPerson
set_option maxRecDepth 20000 in
theorem ggX2_as_X2_isKind : GoodIn wsX2_as wsX2_isKind := goodIn_r _ [11] (by decide +kernel) (by decide +kernel)
set_option maxRecDepth 20000 in
theorem gX2_as_X2_isKind : GoodIn wsX2_as (va_wsS RX2 88 yX2_isKind wsX2_isKind) := goodIn_app (goodIn_of _ (by decide +kernel)) ggX2_as_X2_isKind
set_option maxRecDepth 20000 in
theorem ggX2_as_X2_isOfKind : GoodIn wsX2_as wsX2_isOfKind := goodIn_r _ [14] (by decide +kernel) (by decide +kernel)
set_option maxRecDepth 20000 in
theorem gX2_as_X2_isOfKind : GoodIn wsX2_as (va_wsS RX2 119 yX2_isOfKind wsX2_isOfKind) := goodIn_app (goodIn_of _ (by decide +kernel)) ggX2_as_X2_isOfKind
theorem dX2_as_0 : decode cX2_as 0 = .ok (.aload_n 0, 1) := by decide +kernel
theorem dX2_as_1 : decode cX2_as 1 = .ok (.iload_n 1, 1) := by decide +kernel
theorem dX2_as_2 : decode cX2_as 2 = .ok (.invokevirtual 106, 3) := by decide +kernel
theorem dX2_as_5 : decode cX2_as 5 = .ok (.ifCond .ne 6, 3) := by decide +kernel
theorem dX2_as_8 : decode cX2_as 8 = .ok (.bipush (-101), 2) := by decide +kernel
theorem dX2_as_10 : decode cX2_as 10 = .ok (.ireturn, 1) := by decide +kernel
theorem dX2_as_11 : decode cX2_as 11 = .ok (.iload_n 2, 1) := by decide +kernel
theorem dX2_as_12 : decode cX2_as 12 = .ok (.invokestatic 88, 3) := by decide +kernel
theorem dX2_as_15 : decode cX2_as 15 = .ok (.ifCond .ne 6, 3) := by decide +kernel
theorem dX2_as_18 : decode cX2_as 18 = .ok (.bipush (-102), 2) := by decide +kernel
theorem dX2_as_20 : decode cX2_as 20 = .ok (.ireturn, 1) := by decide +kernel
theorem dX2_as_21 : decode cX2_as 21 = .ok (.aload_n 0, 1) := by decide +kernel
theorem dX2_as_22 : decode cX2_as 22 = .ok (.getfield 19, 3) := by decide +kernel
theorem dX2_as_25 : decode cX2_as 25 = .ok (.getfield 97, 3) := by decide +kernel
theorem dX2_as_28 : decode cX2_as 28 = .ok (.iload_n 1, 1) := by decide +kernel
theorem dX2_as_29 : decode cX2_as 29 = .ok (.iaload, 1) := by decide +kernel
theorem dX2_as_30 : decode cX2_as 30 = .ok (.iload_n 2, 1) := by decide +kernel
theorem dX2_as_31 : decode cX2_as 31 = .ok (.invokestatic 119, 3) := by decide +kernel
theorem dX2_as_34 : decode cX2_as 34 = .ok (.ifCond .eq 7, 3) := by decide +kernel
theorem dX2_as_37 : decode cX2_as 37 = .ok (.iload_n 1, 1) := by decide +kernel
theorem dX2_as_38 : decode cX2_as 38 = .ok (.goto 4, 3) := by decide +kernel
theorem dX2_as_41 : decode cX2_as 41 = .ok (.iconst (-1), 1) := by decide +kernel
theorem dX2_as_42 : decode cX2_as 42 = .ok (.ireturn, 1) := by decide +kernel
set_option maxRecDepth 20000 in
theorem ggX2_move_X2_isPerson : GoodIn wsX2_move wsX2_isPerson := goodIn_r _ [7, 1, 8, 14, 15, 16, 17, 18, 19, 20, 21, 22, 23, 24, 25, 26, 27, 28, 29, 30, 31, 32] (by decide +kernel) (by decide +kernel)
set_option maxRecDepth 20000 in
theorem gX2_move_X2_isPerson : GoodIn wsX2_move (wsV RX2 106 RX2 yX2_isPerson wsX2_isPerson) := goodIn_app (goodIn_of _ (by decide +kernel)) ggX2_move_X2_isPerson
set_option maxRecDepth 20000 in
theorem ggX2_move_X2_isDrawer : GoodIn wsX2_move wsX2_isDrawer := goodIn_r _ [12, 13, 14, 15, 16, 17, 18, 19, 20, 21, 22, 23] (by decide +kernel) (by decide +kernel)
set_option maxRecDepth 20000 in
theorem gX2_move_X2_isDrawer : GoodIn wsX2_move (wsV RX2 62 RX2 yX2_isDrawer wsX2_isDrawer) := goodIn_app (goodIn_of _ (by decide +kernel)) ggX2_move_X2_isDrawer
theorem dX2_move_0 : decode cX2_move 0 = .ok (.aload_n 0, 1) := by decide +kernel
theorem dX2_move_1 : decode cX2_move 1 = .ok (.iload_n 1, 1) := by decide +kernel
theorem dX2_move_2 : decode cX2_move 2 = .ok (.invokevirtual 106, 3) := by decide +kernel
theorem dX2_move_5 : decode cX2_move 5 = .ok (.ifCond .eq 11, 3) := by decide +kernel
theorem dX2_move_8 : decode cX2_move 8 = .ok (.aload_n 0, 1) := by decide +kernel
theorem dX2_move_9 : decode cX2_move 9 = .ok (.iload_n 2, 1) := by decide +kernel
theorem dX2_move_10 : decode cX2_move 10 = .ok (.invokevirtual 62, 3) := by decide +kernel
theorem dX2_move_13 : decode cX2_move 13 = .ok (.ifCond .ne 6, 3) := by decide +kernel
theorem dX2_move_16 : decode cX2_move 16 = .ok (.bipush (-101), 2) := by decide +kernel
theorem dX2_move_18 : decode cX2_move 18 = .ok (.ireturn, 1) := by decide +kernel
theorem dX2_move_19 : decode cX2_move 19 = .ok (.aload_n 0, 1) := by decide +kernel
theorem dX2_move_20 : decode cX2_move 20 = .ok (.getfield 19, 3) := by decide +kernel
theorem dX2_move_23 : decode cX2_move 23 = .ok (.getfield 100, 3) := by decide +kernel
theorem dX2_move_26 : decode cX2_move 26 = .ok (.iload_n 1, 1) := by decide +kernel
theorem dX2_move_27 : decode cX2_move 27 = .ok (.iaload, 1) := by decide +kernel
theorem dX2_move_28 : decode cX2_move 28 = .ok (.istore_n 3, 1) := by decide +kernel
theorem dX2_move_29 : decode cX2_move 29 = .ok (.aload_n 0, 1) := by decide +kernel
theorem dX2_move_30 : decode cX2_move 30 = .ok (.getfield 19, 3) := by decide +kernel
theorem dX2_move_33 : decode cX2_move 33 = .ok (.getfield 100, 3) := by decide +kernel
theorem dX2_move_36 : decode cX2_move 36 = .ok (.iload_n 1, 1) := by decide +kernel
theorem dX2_move_37 : decode cX2_move 37 = .ok (.iload_n 2, 1) := by decide +kernel
theorem dX2_move_38 : decode cX2_move 38 = .ok (.iastore, 1) := by decide +kernel
theorem dX2_move_39 : decode cX2_move 39 = .ok (.iload_n 3, 1) := by decide +kernel
theorem dX2_move_40 : decode cX2_move 40 = .ok (.ireturn, 1) := by decide +kernel
set_option maxRecDepth 20000 in
theorem ggX2_lay_X2_isDrawer : GoodIn wsX2_lay wsX2_isDrawer := goodIn_r _ [7, 8, 15, 16, 17, 18, 19, 20, 21, 22, 23, 24] (by decide +kernel) (by decide +kernel)
set_option maxRecDepth 20000 in
theorem gX2_lay_X2_isDrawer : GoodIn wsX2_lay (wsV RX2 62 RX2 yX2_isDrawer wsX2_isDrawer) := goodIn_app (goodIn_of _ (by decide +kernel)) ggX2_lay_X2_isDrawer
set_option maxRecDepth 20000 in
theorem ggX2_lay_X2_isDay : GoodIn wsX2_lay wsX2_isDay := goodIn_r _ [11] (by decide +kernel) (by decide +kernel)
set_option maxRecDepth 20000 in
theorem gX2_lay_X2_isDay : GoodIn wsX2_lay (va_wsS RX2 91 yX2_isDay wsX2_isDay) := goodIn_app (goodIn_of _ (by decide +kernel)) ggX2_lay_X2_isDay
set_option maxRecDepth 20000 in
theorem ggX2_lay_X2_bitOf : GoodIn wsX2_lay wsX2_bitOf := goodIn_r _ [14] (by decide +kernel) (by decide +kernel)
set_option maxRecDepth 20000 in
theorem gX2_lay_X2_bitOf : GoodIn wsX2_lay (va_wsS RX2 113 yX2_bitOf wsX2_bitOf) := goodIn_app (goodIn_of _ (by decide +kernel)) ggX2_lay_X2_bitOf
theorem dX2_lay_0 : decode cX2_lay 0 = .ok (.aload_n 0, 1) := by decide +kernel
theorem dX2_lay_1 : decode cX2_lay 1 = .ok (.iload_n 1, 1) := by decide +kernel
theorem dX2_lay_2 : decode cX2_lay 2 = .ok (.invokevirtual 62, 3) := by decide +kernel
theorem dX2_lay_5 : decode cX2_lay 5 = .ok (.ifCond .eq 10, 3) := by decide +kernel
theorem dX2_lay_8 : decode cX2_lay 8 = .ok (.iload_n 2, 1) := by decide +kernel
theorem dX2_lay_9 : decode cX2_lay 9 = .ok (.invokestatic 91, 3) := by decide +kernel
theorem dX2_lay_12 : decode cX2_lay 12 = .ok (.ifCond .ne 6, 3) := by decide +kernel
theorem dX2_lay_15 : decode cX2_lay 15 = .ok (.bipush (-101), 2) := by decide +kernel
theorem dX2_lay_17 : decode cX2_lay 17 = .ok (.ireturn, 1) := by decide +kernel
theorem dX2_lay_18 : decode cX2_lay 18 = .ok (.aload_n 0, 1) := by decide +kernel
theorem dX2_lay_19 : decode cX2_lay 19 = .ok (.getfield 19, 3) := by decide +kernel
theorem dX2_lay_22 : decode cX2_lay 22 = .ok (.getfield 72, 3) := by decide +kernel
theorem dX2_lay_25 : decode cX2_lay 25 = .ok (.iload_n 1, 1) := by decide +kernel
theorem dX2_lay_26 : decode cX2_lay 26 = .ok (.iaload, 1) := by decide +kernel
theorem dX2_lay_27 : decode cX2_lay 27 = .ok (.iload_n 2, 1) := by decide +kernel
theorem dX2_lay_28 : decode cX2_lay 28 = .ok (.invokestatic 113, 3) := by decide +kernel
theorem dX2_lay_31 : decode cX2_lay 31 = .ok (.istore 4, 2) := by decide +kernel
theorem dX2_lay_33 : decode cX2_lay 33 = .ok (.iload_n 3, 1) := by decide +kernel
theorem dX2_lay_34 : decode cX2_lay 34 = .ok (.ifCond .eq 21, 3) := by decide +kernel
theorem dX2_lay_37 : decode cX2_lay 37 = .ok (.aload_n 0, 1) := by decide +kernel
theorem dX2_lay_38 : decode cX2_lay 38 = .ok (.getfield 19, 3) := by decide +kernel
theorem dX2_lay_41 : decode cX2_lay 41 = .ok (.getfield 72, 3) := by decide +kernel
theorem dX2_lay_44 : decode cX2_lay 44 = .ok (.iload_n 1, 1) := by decide +kernel
theorem dX2_lay_45 : decode cX2_lay 45 = .ok (.dup2, 1) := by decide +kernel
theorem dX2_lay_46 : decode cX2_lay 46 = .ok (.iaload, 1) := by decide +kernel
theorem dX2_lay_47 : decode cX2_lay 47 = .ok (.iconst 1, 1) := by decide +kernel
theorem dX2_lay_48 : decode cX2_lay 48 = .ok (.iload_n 2, 1) := by decide +kernel
theorem dX2_lay_49 : decode cX2_lay 49 = .ok (.ishl, 1) := by decide +kernel
theorem dX2_lay_50 : decode cX2_lay 50 = .ok (.ior, 1) := by decide +kernel
theorem dX2_lay_51 : decode cX2_lay 51 = .ok (.iastore, 1) := by decide +kernel
theorem dX2_lay_52 : decode cX2_lay 52 = .ok (.goto 20, 3) := by decide +kernel
theorem dX2_lay_55 : decode cX2_lay 55 = .ok (.aload_n 0, 1) := by decide +kernel
theorem dX2_lay_56 : decode cX2_lay 56 = .ok (.getfield 19, 3) := by decide +kernel
theorem dX2_lay_59 : decode cX2_lay 59 = .ok (.getfield 72, 3) := by decide +kernel
theorem dX2_lay_62 : decode cX2_lay 62 = .ok (.iload_n 1, 1) := by decide +kernel
theorem dX2_lay_63 : decode cX2_lay 63 = .ok (.dup2, 1) := by decide +kernel
theorem dX2_lay_64 : decode cX2_lay 64 = .ok (.iaload, 1) := by decide +kernel
theorem dX2_lay_65 : decode cX2_lay 65 = .ok (.iconst 1, 1) := by decide +kernel
theorem dX2_lay_66 : decode cX2_lay 66 = .ok (.iload_n 2, 1) := by decide +kernel
theorem dX2_lay_67 : decode cX2_lay 67 = .ok (.ishl, 1) := by decide +kernel
theorem dX2_lay_68 : decode cX2_lay 68 = .ok (.iconst (-1), 1) := by decide +kernel
theorem dX2_lay_69 : decode cX2_lay 69 = .ok (.ixor, 1) := by decide +kernel
theorem dX2_lay_70 : decode cX2_lay 70 = .ok (.iand, 1) := by decide +kernel
theorem dX2_lay_71 : decode cX2_lay 71 = .ok (.iastore, 1) := by decide +kernel
theorem dX2_lay_72 : decode cX2_lay 72 = .ok (.iload 4, 2) := by decide +kernel
theorem dX2_lay_74 : decode cX2_lay 74 = .ok (.ireturn, 1) := by decide +kernel
set_option maxRecDepth 20000 in
theorem ggX2_agrees_X2_isDrawer : GoodIn wsX2_agrees wsX2_isDrawer := goodIn_r _ [5, 6, 45, 46, 47, 48, 49, 50, 51, 52, 53, 54] (by decide +kernel) (by decide +kernel)
set_option maxRecDepth 20000 in
theorem gX2_agrees_X2_isDrawer : GoodIn wsX2_agrees (wsV RX2 62 RX2 yX2_isDrawer wsX2_isDrawer) := goodIn_app (goodIn_of _ (by decide +kernel)) ggX2_agrees_X2_isDrawer
set_option maxRecDepth 20000 in
theorem ggX2_agrees_X2_courseWithout : GoodIn wsX2_agrees wsX2_courseWithout := goodIn_r _ [10, 11, 12, 13, 14, 15, 16, 17, 18, 19, 20, 4, 21, 22, 23, 24, 25, 26, 27, 28, 29, 30, 31, 32, 33, 34, 35, 36, 37, 38, 39, 40, 45, 46, 47, 48, 49, 50, 51, 52, 53, 54, 55, 56, 57, 58, 59, 60, 61, 62, 63, 64, 65, 66, 67, 68, 69, 70] (by decide +kernel) (by decide +kernel)
set_option maxRecDepth 20000 in
theorem gX2_agrees_X2_courseWithout : GoodIn wsX2_agrees (wsV RX2 123 RX2 yX2_courseWithout wsX2_courseWithout) := goodIn_app (goodIn_of _ (by decide +kernel)) ggX2_agrees_X2_courseWithout
set_option maxRecDepth 20000 in
theorem ggX2_agrees_X0_mustBe : GoodIn wsX2_agrees wsX0_mustBe := goodIn_r _ [44, 31, 32, 30, 29, 64, 65, 66, 67, 68, 69, 70] (by decide +kernel) (by decide +kernel)
set_option maxRecDepth 20000 in
theorem gX2_agrees_X0_mustBe : GoodIn wsX2_agrees (wsV RX2 127 RX0 yX0_mustBe wsX0_mustBe) := goodIn_app (goodIn_of _ (by decide +kernel)) ggX2_agrees_X0_mustBe
theorem dX2_agrees_0 : decode cX2_agrees 0 = .ok (.aload_n 0, 1) := by decide +kernel
theorem dX2_agrees_1 : decode cX2_agrees 1 = .ok (.iload_n 1, 1) := by decide +kernel
theorem dX2_agrees_2 : decode cX2_agrees 2 = .ok (.invokevirtual 62, 3) := by decide +kernel
theorem dX2_agrees_5 : decode cX2_agrees 5 = .ok (.ifCond .ne 6, 3) := by decide +kernel
theorem dX2_agrees_8 : decode cX2_agrees 8 = .ok (.bipush (-101), 2) := by decide +kernel
theorem dX2_agrees_10 : decode cX2_agrees 10 = .ok (.ireturn, 1) := by decide +kernel
theorem dX2_agrees_11 : decode cX2_agrees 11 = .ok (.iload_n 2, 1) := by decide +kernel
theorem dX2_agrees_12 : decode cX2_agrees 12 = .ok (.ifCond .lt 9, 3) := by decide +kernel
theorem dX2_agrees_15 : decode cX2_agrees 15 = .ok (.iload_n 2, 1) := by decide +kernel
theorem dX2_agrees_16 : decode cX2_agrees 16 = .ok (.bipush 127, 2) := by decide +kernel
theorem dX2_agrees_18 : decode cX2_agrees 18 = .ok (.if_icmp .le 6, 3) := by decide +kernel
theorem dX2_agrees_21 : decode cX2_agrees 21 = .ok (.bipush (-102), 2) := by decide +kernel
theorem dX2_agrees_23 : decode cX2_agrees 23 = .ok (.ireturn, 1) := by decide +kernel
theorem dX2_agrees_24 : decode cX2_agrees 24 = .ok (.aload_n 0, 1) := by decide +kernel
theorem dX2_agrees_25 : decode cX2_agrees 25 = .ok (.iconst (-1), 1) := by decide +kernel
theorem dX2_agrees_26 : decode cX2_agrees 26 = .ok (.iload_n 1, 1) := by decide +kernel
theorem dX2_agrees_27 : decode cX2_agrees 27 = .ok (.invokevirtual 123, 3) := by decide +kernel
theorem dX2_agrees_30 : decode cX2_agrees 30 = .ok (.iload_n 2, 1) := by decide +kernel
theorem dX2_agrees_31 : decode cX2_agrees 31 = .ok (.invokevirtual 127, 3) := by decide +kernel
theorem dX2_agrees_34 : decode cX2_agrees 34 = .ok (.iload_n 2, 1) := by decide +kernel
theorem dX2_agrees_35 : decode cX2_agrees 35 = .ok (.if_icmp .ne 7, 3) := by decide +kernel
theorem dX2_agrees_38 : decode cX2_agrees 38 = .ok (.iconst 1, 1) := by decide +kernel
theorem dX2_agrees_39 : decode cX2_agrees 39 = .ok (.goto 4, 3) := by decide +kernel
theorem dX2_agrees_42 : decode cX2_agrees 42 = .ok (.iconst 0, 1) := by decide +kernel
theorem dX2_agrees_43 : decode cX2_agrees 43 = .ok (.ireturn, 1) := by decide +kernel
set_option maxRecDepth 20000 in
theorem ggX2_sure_X2_isDrawer : GoodIn wsX2_sure wsX2_isDrawer := goodIn_r _ [5, 6, 69, 70, 71, 72, 73, 74, 75, 76, 77, 78] (by decide +kernel) (by decide +kernel)
set_option maxRecDepth 20000 in
theorem gX2_sure_X2_isDrawer : GoodIn wsX2_sure (wsV RX2 62 RX2 yX2_isDrawer wsX2_isDrawer) := goodIn_app (goodIn_of _ (by decide +kernel)) ggX2_sure_X2_isDrawer
set_option maxRecDepth 20000 in
theorem ggX2_sure_X2_isDay : GoodIn wsX2_sure wsX2_isDay := goodIn_r _ [9] (by decide +kernel) (by decide +kernel)
set_option maxRecDepth 20000 in
theorem gX2_sure_X2_isDay : GoodIn wsX2_sure (va_wsS RX2 91 yX2_isDay wsX2_isDay) := goodIn_app (goodIn_of _ (by decide +kernel)) ggX2_sure_X2_isDay
set_option maxRecDepth 20000 in
theorem ggX2_sure_X2_courseOf : GoodIn wsX2_sure wsX2_courseOf := goodIn_r _ [13, 14, 15, 16, 4, 17, 18, 19, 20, 21, 22, 23, 24, 25, 26, 27, 28, 29, 30, 31, 32, 33, 34, 35, 36, 37, 38, 39, 40, 41, 42, 43, 44, 45, 46, 47, 48, 49, 50, 51, 52, 53, 54, 55, 56, 57, 58, 59, 60, 61, 62, 69, 70, 71, 72, 73, 74, 75, 76, 77, 78, 79, 80, 81, 82, 83, 84, 85, 86, 87, 88, 89, 90, 91, 92, 93, 94] (by decide +kernel) (by decide +kernel)
set_option maxRecDepth 20000 in
theorem gX2_sure_X2_courseOf : GoodIn wsX2_sure (wsV RX2 75 RX2 yX2_courseOf wsX2_courseOf) := goodIn_app (goodIn_of _ (by decide +kernel)) ggX2_sure_X2_courseOf
set_option maxRecDepth 20000 in
theorem ggX2_sure_X0_sureOn : GoodIn wsX2_sure wsX0_sureOn := goodIn_r _ [66, 54, 52, 53, 67, 4, 68, 88, 89, 90, 91, 92, 93, 94] (by decide +kernel) (by decide +kernel)
set_option maxRecDepth 20000 in
theorem gX2_sure_X0_sureOn : GoodIn wsX2_sure (wsV RX2 130 RX0 yX0_sureOn wsX0_sureOn) := goodIn_app (goodIn_of _ (by decide +kernel)) ggX2_sure_X0_sureOn
theorem dX2_sure_0 : decode cX2_sure 0 = .ok (.aload_n 0, 1) := by decide +kernel
theorem dX2_sure_1 : decode cX2_sure 1 = .ok (.iload_n 1, 1) := by decide +kernel
theorem dX2_sure_2 : decode cX2_sure 2 = .ok (.invokevirtual 62, 3) := by decide +kernel
theorem dX2_sure_5 : decode cX2_sure 5 = .ok (.ifCond .eq 10, 3) := by decide +kernel
theorem dX2_sure_8 : decode cX2_sure 8 = .ok (.iload_n 2, 1) := by decide +kernel
theorem dX2_sure_9 : decode cX2_sure 9 = .ok (.invokestatic 91, 3) := by decide +kernel
theorem dX2_sure_12 : decode cX2_sure 12 = .ok (.ifCond .ne 6, 3) := by decide +kernel
theorem dX2_sure_15 : decode cX2_sure 15 = .ok (.bipush (-101), 2) := by decide +kernel
theorem dX2_sure_17 : decode cX2_sure 17 = .ok (.ireturn, 1) := by decide +kernel
theorem dX2_sure_18 : decode cX2_sure 18 = .ok (.aload_n 0, 1) := by decide +kernel
theorem dX2_sure_19 : decode cX2_sure 19 = .ok (.iload_n 1, 1) := by decide +kernel
theorem dX2_sure_20 : decode cX2_sure 20 = .ok (.invokevirtual 75, 3) := by decide +kernel
theorem dX2_sure_23 : decode cX2_sure 23 = .ok (.iload_n 2, 1) := by decide +kernel
theorem dX2_sure_24 : decode cX2_sure 24 = .ok (.invokevirtual 130, 3) := by decide +kernel
theorem dX2_sure_27 : decode cX2_sure 27 = .ok (.ireturn, 1) := by decide +kernel
set_option maxRecDepth 20000 in
theorem ggX2_few_X2_isDrawer : GoodIn wsX2_few wsX2_isDrawer := goodIn_r _ [6, 7, 72, 73, 74, 75, 76, 77, 78, 79, 80, 81] (by decide +kernel) (by decide +kernel)
set_option maxRecDepth 20000 in
theorem gX2_few_X2_isDrawer : GoodIn wsX2_few (wsV RX2 62 RX2 yX2_isDrawer wsX2_isDrawer) := goodIn_app (goodIn_of _ (by decide +kernel)) ggX2_few_X2_isDrawer
set_option maxRecDepth 20000 in
theorem ggX2_few_X2_courseWithout : GoodIn wsX2_few wsX2_courseWithout := goodIn_r _ [11, 12, 13, 14, 15, 16, 17, 18, 19, 20, 21, 5, 22, 23, 24, 25, 26, 27, 28, 29, 30, 31, 32, 33, 34, 35, 36, 37, 38, 39, 40, 41, 72, 73, 74, 75, 76, 77, 78, 79, 80, 81, 82, 83, 84, 85, 86, 87, 88, 89, 90, 91, 92, 93, 94, 95, 96, 97] (by decide +kernel) (by decide +kernel)
set_option maxRecDepth 20000 in
theorem gX2_few_X2_courseWithout : GoodIn wsX2_few (wsV RX2 123 RX2 yX2_courseWithout wsX2_courseWithout) := goodIn_app (goodIn_of _ (by decide +kernel)) ggX2_few_X2_courseWithout
set_option maxRecDepth 20000 in
theorem ggX2_few_X2_fewestLaid : GoodIn wsX2_few wsX2_fewestLaid := goodIn_r _ [44, 45, 46, 47, 48, 49, 50, 51, 52, 53, 54, 55, 28, 56, 30, 57, 58, 59, 60, 61, 62, 63, 32, 33, 31, 64, 65, 66, 67, 68, 69, 70, 71, 91, 92, 93, 94, 95, 96, 97] (by decide +kernel) (by decide +kernel)
set_option maxRecDepth 20000 in
theorem gX2_few_X2_fewestLaid : GoodIn wsX2_few (va_wsS RX2 136 yX2_fewestLaid wsX2_fewestLaid) := goodIn_app (goodIn_of _ (by decide +kernel)) ggX2_few_X2_fewestLaid
set_option maxRecDepth 20000 in
theorem ggX2_few_J6_bitCount_0f7a4 : GoodIn wsX2_few wsJ6_bitCount_0f7a4 := goodIn_r _ [49, 50, 51, 52] (by decide +kernel) (by decide +kernel)
set_option maxRecDepth 20000 in
theorem gX2_few_J6_bitCount_0f7a4 : GoodIn wsX2_few (va_wsS RX2 140 yJ6_bitCount_0f7a4 wsJ6_bitCount_0f7a4) := goodIn_app (goodIn_of _ (by decide +kernel)) ggX2_few_J6_bitCount_0f7a4
theorem dX2_few_0 : decode cX2_few 0 = .ok (.aload_n 0, 1) := by decide +kernel
theorem dX2_few_1 : decode cX2_few 1 = .ok (.iload_n 1, 1) := by decide +kernel
theorem dX2_few_2 : decode cX2_few 2 = .ok (.invokevirtual 62, 3) := by decide +kernel
theorem dX2_few_5 : decode cX2_few 5 = .ok (.ifCond .ne 6, 3) := by decide +kernel
theorem dX2_few_8 : decode cX2_few 8 = .ok (.bipush (-101), 2) := by decide +kernel
theorem dX2_few_10 : decode cX2_few 10 = .ok (.ireturn, 1) := by decide +kernel
theorem dX2_few_11 : decode cX2_few 11 = .ok (.iload_n 2, 1) := by decide +kernel
theorem dX2_few_12 : decode cX2_few 12 = .ok (.ifCond .lt 18, 3) := by decide +kernel
theorem dX2_few_15 : decode cX2_few 15 = .ok (.iload_n 2, 1) := by decide +kernel
theorem dX2_few_16 : decode cX2_few 16 = .ok (.bipush 127, 2) := by decide +kernel
theorem dX2_few_18 : decode cX2_few 18 = .ok (.if_icmp .gt 12, 3) := by decide +kernel
theorem dX2_few_21 : decode cX2_few 21 = .ok (.iload_n 3, 1) := by decide +kernel
theorem dX2_few_22 : decode cX2_few 22 = .ok (.ifCond .lt 8, 3) := by decide +kernel
theorem dX2_few_25 : decode cX2_few 25 = .ok (.iload_n 3, 1) := by decide +kernel
theorem dX2_few_26 : decode cX2_few 26 = .ok (.iconst 1, 1) := by decide +kernel
theorem dX2_few_27 : decode cX2_few 27 = .ok (.if_icmp .le 6, 3) := by decide +kernel
theorem dX2_few_30 : decode cX2_few 30 = .ok (.bipush (-102), 2) := by decide +kernel
theorem dX2_few_32 : decode cX2_few 32 = .ok (.ireturn, 1) := by decide +kernel
theorem dX2_few_33 : decode cX2_few 33 = .ok (.aload_n 0, 1) := by decide +kernel
theorem dX2_few_34 : decode cX2_few 34 = .ok (.getfield 133, 3) := by decide +kernel
theorem dX2_few_37 : decode cX2_few 37 = .ok (.bipush 40, 2) := by decide +kernel
theorem dX2_few_39 : decode cX2_few 39 = .ok (.if_icmp .lt 6, 3) := by decide +kernel
theorem dX2_few_42 : decode cX2_few 42 = .ok (.bipush (-103), 2) := by decide +kernel
theorem dX2_few_44 : decode cX2_few 44 = .ok (.ireturn, 1) := by decide +kernel
theorem dX2_few_45 : decode cX2_few 45 = .ok (.aload_n 0, 1) := by decide +kernel
theorem dX2_few_46 : decode cX2_few 46 = .ok (.dup, 1) := by decide +kernel
theorem dX2_few_47 : decode cX2_few 47 = .ok (.getfield 133, 3) := by decide +kernel
theorem dX2_few_50 : decode cX2_few 50 = .ok (.iconst 1, 1) := by decide +kernel
theorem dX2_few_51 : decode cX2_few 51 = .ok (.iadd, 1) := by decide +kernel
theorem dX2_few_52 : decode cX2_few 52 = .ok (.putfield 133, 3) := by decide +kernel
theorem dX2_few_55 : decode cX2_few 55 = .ok (.aload_n 0, 1) := by decide +kernel
theorem dX2_few_56 : decode cX2_few 56 = .ok (.iconst (-1), 1) := by decide +kernel
theorem dX2_few_57 : decode cX2_few 57 = .ok (.iload_n 1, 1) := by decide +kernel
theorem dX2_few_58 : decode cX2_few 58 = .ok (.invokevirtual 123, 3) := by decide +kernel
theorem dX2_few_61 : decode cX2_few 61 = .ok (.iload_n 2, 1) := by decide +kernel
theorem dX2_few_62 : decode cX2_few 62 = .ok (.invokestatic 136, 3) := by decide +kernel
theorem dX2_few_65 : decode cX2_few 65 = .ok (.istore 4, 2) := by decide +kernel
theorem dX2_few_67 : decode cX2_few 67 = .ok (.iload 4, 2) := by decide +kernel
theorem dX2_few_69 : decode cX2_few 69 = .ok (.iconst (-1), 1) := by decide +kernel
theorem dX2_few_70 : decode cX2_few 70 = .ok (.if_icmp .eq 8, 3) := by decide +kernel
theorem dX2_few_73 : decode cX2_few 73 = .ok (.iload_n 3, 1) := by decide +kernel
theorem dX2_few_74 : decode cX2_few 74 = .ok (.iconst 1, 1) := by decide +kernel
theorem dX2_few_75 : decode cX2_few 75 = .ok (.if_icmp .ne 6, 3) := by decide +kernel
theorem dX2_few_78 : decode cX2_few 78 = .ok (.iload 4, 2) := by decide +kernel
theorem dX2_few_80 : decode cX2_few 80 = .ok (.ireturn, 1) := by decide +kernel
theorem dX2_few_81 : decode cX2_few 81 = .ok (.iload 4, 2) := by decide +kernel
theorem dX2_few_83 : decode cX2_few 83 = .ok (.invokestatic 140, 3) := by decide +kernel
theorem dX2_few_86 : decode cX2_few 86 = .ok (.ireturn, 1) := by decide +kernel
set_option maxRecDepth 20000 in
theorem ggX2_found_X2_isDrawer : GoodIn wsX2_found wsX2_isDrawer := goodIn_r _ [9, 10, 14, 15, 16, 17, 18, 19, 20, 21, 22, 23] (by decide +kernel) (by decide +kernel)
set_option maxRecDepth 20000 in
theorem gX2_found_X2_isDrawer : GoodIn wsX2_found (wsV RX2 62 RX2 yX2_isDrawer wsX2_isDrawer) := goodIn_app (goodIn_of _ (by decide +kernel)) ggX2_found_X2_isDrawer
set_option maxRecDepth 20000 in
theorem ggX2_found_X2_isDay : GoodIn wsX2_found wsX2_isDay := goodIn_r _ [13] (by decide +kernel) (by decide +kernel)
set_option maxRecDepth 20000 in
theorem gX2_found_X2_isDay : GoodIn wsX2_found (va_wsS RX2 91 yX2_isDay wsX2_isDay) := goodIn_app (goodIn_of _ (by decide +kernel)) ggX2_found_X2_isDay
theorem dX2_found_0 : decode cX2_found 0 = .ok (.aload_n 0, 1) := by decide +kernel
theorem dX2_found_1 : decode cX2_found 1 = .ok (.iload_n 1, 1) := by decide +kernel
theorem dX2_found_2 : decode cX2_found 2 = .ok (.invokevirtual 62, 3) := by decide +kernel
theorem dX2_found_5 : decode cX2_found 5 = .ok (.ifCond .eq 10, 3) := by decide +kernel
theorem dX2_found_8 : decode cX2_found 8 = .ok (.iload_n 2, 1) := by decide +kernel
theorem dX2_found_9 : decode cX2_found 9 = .ok (.invokestatic 91, 3) := by decide +kernel
theorem dX2_found_12 : decode cX2_found 12 = .ok (.ifCond .ne 6, 3) := by decide +kernel
theorem dX2_found_15 : decode cX2_found 15 = .ok (.bipush (-101), 2) := by decide +kernel
theorem dX2_found_17 : decode cX2_found 17 = .ok (.ireturn, 1) := by decide +kernel
theorem dX2_found_18 : decode cX2_found 18 = .ok (.aload_n 0, 1) := by decide +kernel
theorem dX2_found_19 : decode cX2_found 19 = .ok (.getfield 19, 3) := by decide +kernel
theorem dX2_found_22 : decode cX2_found 22 = .ok (.getfield 145, 3) := by decide +kernel
theorem dX2_found_25 : decode cX2_found 25 = .ok (.bipush 8, 2) := by decide +kernel
theorem dX2_found_27 : decode cX2_found 27 = .ok (.if_icmp .lt 6, 3) := by decide +kernel
theorem dX2_found_30 : decode cX2_found 30 = .ok (.bipush (-104), 2) := by decide +kernel
theorem dX2_found_32 : decode cX2_found 32 = .ok (.ireturn, 1) := by decide +kernel
theorem dX2_found_33 : decode cX2_found 33 = .ok (.iload_n 3, 1) := by decide +kernel
theorem dX2_found_34 : decode cX2_found 34 = .ok (.ifCond .eq 21, 3) := by decide +kernel
theorem dX2_found_37 : decode cX2_found 37 = .ok (.aload_n 0, 1) := by decide +kernel
theorem dX2_found_38 : decode cX2_found 38 = .ok (.getfield 19, 3) := by decide +kernel
theorem dX2_found_41 : decode cX2_found 41 = .ok (.getfield 148, 3) := by decide +kernel
theorem dX2_found_44 : decode cX2_found 44 = .ok (.iload_n 1, 1) := by decide +kernel
theorem dX2_found_45 : decode cX2_found 45 = .ok (.dup2, 1) := by decide +kernel
theorem dX2_found_46 : decode cX2_found 46 = .ok (.iaload, 1) := by decide +kernel
theorem dX2_found_47 : decode cX2_found 47 = .ok (.iconst 1, 1) := by decide +kernel
theorem dX2_found_48 : decode cX2_found 48 = .ok (.iload_n 2, 1) := by decide +kernel
theorem dX2_found_49 : decode cX2_found 49 = .ok (.ishl, 1) := by decide +kernel
theorem dX2_found_50 : decode cX2_found 50 = .ok (.ior, 1) := by decide +kernel
theorem dX2_found_51 : decode cX2_found 51 = .ok (.iastore, 1) := by decide +kernel
theorem dX2_found_52 : decode cX2_found 52 = .ok (.goto 18, 3) := by decide +kernel
theorem dX2_found_55 : decode cX2_found 55 = .ok (.aload_n 0, 1) := by decide +kernel
theorem dX2_found_56 : decode cX2_found 56 = .ok (.getfield 19, 3) := by decide +kernel
theorem dX2_found_59 : decode cX2_found 59 = .ok (.getfield 151, 3) := by decide +kernel
theorem dX2_found_62 : decode cX2_found 62 = .ok (.iload_n 1, 1) := by decide +kernel
theorem dX2_found_63 : decode cX2_found 63 = .ok (.dup2, 1) := by decide +kernel
theorem dX2_found_64 : decode cX2_found 64 = .ok (.iaload, 1) := by decide +kernel
theorem dX2_found_65 : decode cX2_found 65 = .ok (.iconst 1, 1) := by decide +kernel
theorem dX2_found_66 : decode cX2_found 66 = .ok (.iload_n 2, 1) := by decide +kernel
theorem dX2_found_67 : decode cX2_found 67 = .ok (.ishl, 1) := by decide +kernel
theorem dX2_found_68 : decode cX2_found 68 = .ok (.ior, 1) := by decide +kernel
theorem dX2_found_69 : decode cX2_found 69 = .ok (.iastore, 1) := by decide +kernel
theorem dX2_found_70 : decode cX2_found 70 = .ok (.aload_n 0, 1) := by decide +kernel
theorem dX2_found_71 : decode cX2_found 71 = .ok (.getfield 19, 3) := by decide +kernel
theorem dX2_found_74 : decode cX2_found 74 = .ok (.dup, 1) := by decide +kernel
theorem dX2_found_75 : decode cX2_found 75 = .ok (.getfield 145, 3) := by decide +kernel
theorem dX2_found_78 : decode cX2_found 78 = .ok (.iconst 1, 1) := by decide +kernel
theorem dX2_found_79 : decode cX2_found 79 = .ok (.iadd, 1) := by decide +kernel
theorem dX2_found_80 : decode cX2_found 80 = .ok (.putfield 145, 3) := by decide +kernel
theorem dX2_found_83 : decode cX2_found 83 = .ok (.aload_n 0, 1) := by decide +kernel
theorem dX2_found_84 : decode cX2_found 84 = .ok (.getfield 19, 3) := by decide +kernel
theorem dX2_found_87 : decode cX2_found 87 = .ok (.getfield 145, 3) := by decide +kernel
theorem dX2_found_90 : decode cX2_found 90 = .ok (.ireturn, 1) := by decide +kernel
set_option maxRecDepth 20000 in
theorem ggX2_forget_X1_clearFound : GoodIn wsX2_forget wsX1_clearFound := goodIn_r _ [7, 8, 9, 10, 21, 22, 23, 24, 25, 26, 27, 28, 29] (by decide +kernel) (by decide +kernel)
set_option maxRecDepth 20000 in
theorem gX2_forget_X1_clearFound : GoodIn wsX2_forget (wsV RX2 154 RX1 yX1_clearFound wsX1_clearFound) := goodIn_app (goodIn_of _ (by decide +kernel)) ggX2_forget_X1_clearFound
theorem dX2_forget_0 : decode cX2_forget 0 = .ok (.aload_n 0, 1) := by decide +kernel
theorem dX2_forget_1 : decode cX2_forget 1 = .ok (.getfield 19, 3) := by decide +kernel
theorem dX2_forget_4 : decode cX2_forget 4 = .ok (.getfield 145, 3) := by decide +kernel
theorem dX2_forget_7 : decode cX2_forget 7 = .ok (.istore_n 1, 1) := by decide +kernel
theorem dX2_forget_8 : decode cX2_forget 8 = .ok (.aload_n 0, 1) := by decide +kernel
theorem dX2_forget_9 : decode cX2_forget 9 = .ok (.getfield 19, 3) := by decide +kernel
theorem dX2_forget_12 : decode cX2_forget 12 = .ok (.invokevirtual 154, 3) := by decide +kernel
theorem dX2_forget_15 : decode cX2_forget 15 = .ok (.iload_n 1, 1) := by decide +kernel
theorem dX2_forget_16 : decode cX2_forget 16 = .ok (.ireturn, 1) := by decide +kernel
set_option maxRecDepth 20000 in
theorem ggX2_delays_X2_isDrawer : GoodIn wsX2_delays wsX2_isDrawer := goodIn_r _ [6, 7, 74, 75, 76, 77, 78, 79, 80, 81, 82, 83] (by decide +kernel) (by decide +kernel)
set_option maxRecDepth 20000 in
theorem gX2_delays_X2_isDrawer : GoodIn wsX2_delays (wsV RX2 62 RX2 yX2_isDrawer wsX2_isDrawer) := goodIn_app (goodIn_of _ (by decide +kernel)) ggX2_delays_X2_isDrawer
set_option maxRecDepth 20000 in
theorem ggX2_delays_X2_courseWithout : GoodIn wsX2_delays wsX2_courseWithout := goodIn_r _ [11, 12, 13, 14, 15, 16, 17, 18, 19, 20, 21, 5, 22, 23, 24, 25, 26, 27, 28, 29, 30, 31, 32, 33, 34, 35, 36, 37, 38, 39, 40, 41, 74, 75, 76, 77, 78, 79, 80, 81, 82, 83, 84, 85, 86, 87, 88, 89, 90, 91, 92, 67, 68, 69, 70, 71, 72, 73] (by decide +kernel) (by decide +kernel)
set_option maxRecDepth 20000 in
theorem gX2_delays_X2_courseWithout : GoodIn wsX2_delays (wsV RX2 123 RX2 yX2_courseWithout wsX2_courseWithout) := goodIn_app (goodIn_of _ (by decide +kernel)) ggX2_delays_X2_courseWithout
set_option maxRecDepth 20000 in
theorem ggX2_delays_X0_settle : GoodIn wsX2_delays wsX0_settle := goodIn_r _ [45, 30, 46, 47, 48, 49, 50, 51, 28, 52, 32, 33, 31, 53, 54, 55, 56, 67, 68, 69, 70, 71, 72, 73] (by decide +kernel) (by decide +kernel)
set_option maxRecDepth 20000 in
theorem gX2_delays_X0_settle : GoodIn wsX2_delays (wsV RX2 160 RX0 yX0_settle wsX0_settle) := goodIn_app (goodIn_of _ (by decide +kernel)) ggX2_delays_X0_settle
set_option maxRecDepth 20000 in
theorem ggX2_delays_X2_isAsFound : GoodIn wsX2_delays wsX2_isAsFound := goodIn_r _ [60, 13, 61, 62, 63, 64, 65, 28, 66, 48, 46, 47, 74, 75, 76, 77, 78, 79, 80, 81, 82, 83, 84, 85, 86, 87, 88, 89, 90, 91, 92, 67, 68, 69, 70, 71, 72, 73] (by decide +kernel) (by decide +kernel)
set_option maxRecDepth 20000 in
theorem gX2_delays_X2_isAsFound : GoodIn wsX2_delays (wsV RX2 163 RX2 yX2_isAsFound wsX2_isAsFound) := goodIn_app (goodIn_of _ (by decide +kernel)) ggX2_delays_X2_isAsFound
theorem dX2_delays_0 : decode cX2_delays 0 = .ok (.aload_n 0, 1) := by decide +kernel
theorem dX2_delays_1 : decode cX2_delays 1 = .ok (.iload_n 1, 1) := by decide +kernel
theorem dX2_delays_2 : decode cX2_delays 2 = .ok (.invokevirtual 62, 3) := by decide +kernel
theorem dX2_delays_5 : decode cX2_delays 5 = .ok (.ifCond .ne 6, 3) := by decide +kernel
theorem dX2_delays_8 : decode cX2_delays 8 = .ok (.bipush (-101), 2) := by decide +kernel
theorem dX2_delays_10 : decode cX2_delays 10 = .ok (.ireturn, 1) := by decide +kernel
theorem dX2_delays_11 : decode cX2_delays 11 = .ok (.aload_n 0, 1) := by decide +kernel
theorem dX2_delays_12 : decode cX2_delays 12 = .ok (.iconst (-1), 1) := by decide +kernel
theorem dX2_delays_13 : decode cX2_delays 13 = .ok (.iload_n 1, 1) := by decide +kernel
theorem dX2_delays_14 : decode cX2_delays 14 = .ok (.invokevirtual 123, 3) := by decide +kernel
theorem dX2_delays_17 : decode cX2_delays 17 = .ok (.astore_n 2, 1) := by decide +kernel
theorem dX2_delays_18 : decode cX2_delays 18 = .ok (.iconst 0, 1) := by decide +kernel
theorem dX2_delays_19 : decode cX2_delays 19 = .ok (.istore_n 3, 1) := by decide +kernel
theorem dX2_delays_20 : decode cX2_delays 20 = .ok (.bipush (-3), 2) := by decide +kernel
theorem dX2_delays_22 : decode cX2_delays 22 = .ok (.istore 4, 2) := by decide +kernel
theorem dX2_delays_24 : decode cX2_delays 24 = .ok (.iload 4, 2) := by decide +kernel
theorem dX2_delays_26 : decode cX2_delays 26 = .ok (.iconst 4, 1) := by decide +kernel
theorem dX2_delays_27 : decode cX2_delays 27 = .ok (.if_icmp .gt 38, 3) := by decide +kernel
theorem dX2_delays_30 : decode cX2_delays 30 = .ok (.aload_n 2, 1) := by decide +kernel
theorem dX2_delays_31 : decode cX2_delays 31 = .ok (.iload 4, 2) := by decide +kernel
theorem dX2_delays_33 : decode cX2_delays 33 = .ok (.putfield 157, 3) := by decide +kernel
theorem dX2_delays_36 : decode cX2_delays 36 = .ok (.aload_n 2, 1) := by decide +kernel
theorem dX2_delays_37 : decode cX2_delays 37 = .ok (.invokevirtual 160, 3) := by decide +kernel
theorem dX2_delays_40 : decode cX2_delays 40 = .ok (.aload_n 0, 1) := by decide +kernel
theorem dX2_delays_41 : decode cX2_delays 41 = .ok (.aload_n 2, 1) := by decide +kernel
theorem dX2_delays_42 : decode cX2_delays 42 = .ok (.iload_n 1, 1) := by decide +kernel
theorem dX2_delays_43 : decode cX2_delays 43 = .ok (.invokevirtual 163, 3) := by decide +kernel
theorem dX2_delays_46 : decode cX2_delays 46 = .ok (.ifCond .eq 13, 3) := by decide +kernel
theorem dX2_delays_49 : decode cX2_delays 49 = .ok (.iload_n 3, 1) := by decide +kernel
theorem dX2_delays_50 : decode cX2_delays 50 = .ok (.iconst 1, 1) := by decide +kernel
theorem dX2_delays_51 : decode cX2_delays 51 = .ok (.iload 4, 2) := by decide +kernel
theorem dX2_delays_53 : decode cX2_delays 53 = .ok (.bipush (-3), 2) := by decide +kernel
theorem dX2_delays_55 : decode cX2_delays 55 = .ok (.isub, 1) := by decide +kernel
theorem dX2_delays_56 : decode cX2_delays 56 = .ok (.ishl, 1) := by decide +kernel
theorem dX2_delays_57 : decode cX2_delays 57 = .ok (.ior, 1) := by decide +kernel
theorem dX2_delays_58 : decode cX2_delays 58 = .ok (.istore_n 3, 1) := by decide +kernel
theorem dX2_delays_59 : decode cX2_delays 59 = .ok (.iinc 4 1, 3) := by decide +kernel
theorem dX2_delays_62 : decode cX2_delays 62 = .ok (.goto (-38), 3) := by decide +kernel
theorem dX2_delays_65 : decode cX2_delays 65 = .ok (.iload_n 3, 1) := by decide +kernel
theorem dX2_delays_66 : decode cX2_delays 66 = .ok (.ireturn, 1) := by decide +kernel
set_option maxRecDepth 20000 in
theorem ggX2_who_X2_isPerson : GoodIn wsX2_who wsX2_isPerson := goodIn_r _ [5, 6, 7, 69, 70, 71, 72, 73, 74, 75, 76, 77, 78, 79, 80, 81, 82, 83, 84, 85, 86, 87] (by decide +kernel) (by decide +kernel)
set_option maxRecDepth 20000 in
theorem gX2_who_X2_isPerson : GoodIn wsX2_who (wsV RX2 106 RX2 yX2_isPerson wsX2_isPerson) := goodIn_app (goodIn_of _ (by decide +kernel)) ggX2_who_X2_isPerson
set_option maxRecDepth 20000 in
theorem ggX2_who_X2_canBe : GoodIn wsX2_who wsX2_canBe := goodIn_r _ [11, 6, 12, 13, 14, 15, 4, 16, 17, 18, 7, 19, 20, 21, 22, 23, 24, 25, 26, 27, 28, 29, 30, 31, 32, 33, 34, 35, 36, 37, 38, 39, 40, 41, 42, 43, 44, 45, 46, 47, 48, 49, 50, 51, 52, 53, 54, 55, 56, 57, 58, 59, 60, 61, 62, 63, 64, 65, 66, 67, 68, 69, 70, 71, 72, 73, 74, 75, 76, 77, 78, 79, 80, 81, 82, 83, 84, 85, 86, 87, 88, 89, 90, 91, 92, 93, 94] (by decide +kernel) (by decide +kernel)
set_option maxRecDepth 20000 in
theorem gX2_who_X2_canBe : GoodIn wsX2_who (wsV RX2 167 RX2 yX2_canBe wsX2_canBe) := goodIn_app (goodIn_of _ (by decide +kernel)) ggX2_who_X2_canBe
theorem dX2_who_0 : decode cX2_who 0 = .ok (.aload_n 0, 1) := by decide +kernel
theorem dX2_who_1 : decode cX2_who 1 = .ok (.iload_n 1, 1) := by decide +kernel
theorem dX2_who_2 : decode cX2_who 2 = .ok (.invokevirtual 106, 3) := by decide +kernel
theorem dX2_who_5 : decode cX2_who 5 = .ok (.ifCond .ne 6, 3) := by decide +kernel
theorem dX2_who_8 : decode cX2_who 8 = .ok (.bipush (-101), 2) := by decide +kernel
theorem dX2_who_10 : decode cX2_who 10 = .ok (.ireturn, 1) := by decide +kernel
theorem dX2_who_11 : decode cX2_who 11 = .ok (.iload_n 2, 1) := by decide +kernel
theorem dX2_who_12 : decode cX2_who 12 = .ok (.ifCond .lt 8, 3) := by decide +kernel
theorem dX2_who_15 : decode cX2_who 15 = .ok (.iload_n 2, 1) := by decide +kernel
theorem dX2_who_16 : decode cX2_who 16 = .ok (.iconst 1, 1) := by decide +kernel
theorem dX2_who_17 : decode cX2_who 17 = .ok (.if_icmp .le 6, 3) := by decide +kernel
theorem dX2_who_20 : decode cX2_who 20 = .ok (.bipush (-102), 2) := by decide +kernel
theorem dX2_who_22 : decode cX2_who 22 = .ok (.ireturn, 1) := by decide +kernel
theorem dX2_who_23 : decode cX2_who 23 = .ok (.iconst 0, 1) := by decide +kernel
theorem dX2_who_24 : decode cX2_who 24 = .ok (.istore_n 3, 1) := by decide +kernel
theorem dX2_who_25 : decode cX2_who 25 = .ok (.iconst (-1), 1) := by decide +kernel
theorem dX2_who_26 : decode cX2_who 26 = .ok (.istore 4, 2) := by decide +kernel
theorem dX2_who_28 : decode cX2_who 28 = .ok (.iconst 0, 1) := by decide +kernel
theorem dX2_who_29 : decode cX2_who 29 = .ok (.istore 5, 2) := by decide +kernel
theorem dX2_who_31 : decode cX2_who 31 = .ok (.iload 5, 2) := by decide +kernel
theorem dX2_who_33 : decode cX2_who 33 = .ok (.iconst 5, 1) := by decide +kernel
theorem dX2_who_34 : decode cX2_who 34 = .ok (.if_icmp .ge 56, 3) := by decide +kernel
theorem dX2_who_37 : decode cX2_who 37 = .ok (.iconst 0, 1) := by decide +kernel
theorem dX2_who_38 : decode cX2_who 38 = .ok (.istore 6, 2) := by decide +kernel
theorem dX2_who_40 : decode cX2_who 40 = .ok (.iload 6, 2) := by decide +kernel
theorem dX2_who_42 : decode cX2_who 42 = .ok (.bipush 7, 2) := by decide +kernel
theorem dX2_who_44 : decode cX2_who 44 = .ok (.if_icmp .ge 40, 3) := by decide +kernel
theorem dX2_who_47 : decode cX2_who 47 = .ok (.aload_n 0, 1) := by decide +kernel
theorem dX2_who_48 : decode cX2_who 48 = .ok (.iload_n 1, 1) := by decide +kernel
theorem dX2_who_49 : decode cX2_who 49 = .ok (.iload 5, 2) := by decide +kernel
theorem dX2_who_51 : decode cX2_who 51 = .ok (.iload 6, 2) := by decide +kernel
theorem dX2_who_53 : decode cX2_who 53 = .ok (.invokevirtual 167, 3) := by decide +kernel
theorem dX2_who_56 : decode cX2_who 56 = .ok (.ifCond .eq 22, 3) := by decide +kernel
theorem dX2_who_59 : decode cX2_who 59 = .ok (.iinc 3 1, 3) := by decide +kernel
theorem dX2_who_62 : decode cX2_who 62 = .ok (.iload 4, 2) := by decide +kernel
theorem dX2_who_64 : decode cX2_who 64 = .ok (.iconst (-1), 1) := by decide +kernel
theorem dX2_who_65 : decode cX2_who 65 = .ok (.if_icmp .ne 13, 3) := by decide +kernel
theorem dX2_who_68 : decode cX2_who 68 = .ok (.bipush 7, 2) := by decide +kernel
theorem dX2_who_70 : decode cX2_who 70 = .ok (.iload 5, 2) := by decide +kernel
theorem dX2_who_72 : decode cX2_who 72 = .ok (.imul, 1) := by decide +kernel
theorem dX2_who_73 : decode cX2_who 73 = .ok (.iload 6, 2) := by decide +kernel
theorem dX2_who_75 : decode cX2_who 75 = .ok (.iadd, 1) := by decide +kernel
theorem dX2_who_76 : decode cX2_who 76 = .ok (.istore 4, 2) := by decide +kernel
theorem dX2_who_78 : decode cX2_who 78 = .ok (.iinc 6 1, 3) := by decide +kernel
theorem dX2_who_81 : decode cX2_who 81 = .ok (.goto (-41), 3) := by decide +kernel
theorem dX2_who_84 : decode cX2_who 84 = .ok (.iinc 5 1, 3) := by decide +kernel
theorem dX2_who_87 : decode cX2_who 87 = .ok (.goto (-56), 3) := by decide +kernel
theorem dX2_who_90 : decode cX2_who 90 = .ok (.iload_n 2, 1) := by decide +kernel
theorem dX2_who_91 : decode cX2_who 91 = .ok (.ifCond .ne 7, 3) := by decide +kernel
theorem dX2_who_94 : decode cX2_who 94 = .ok (.iload_n 3, 1) := by decide +kernel
theorem dX2_who_95 : decode cX2_who 95 = .ok (.goto 5, 3) := by decide +kernel
theorem dX2_who_98 : decode cX2_who 98 = .ok (.iload 4, 2) := by decide +kernel
theorem dX2_who_100 : decode cX2_who 100 = .ok (.ireturn, 1) := by decide +kernel
set_option maxRecDepth 20000 in
theorem ggX2_weeks_X2_courseWithout : GoodIn wsX2_weeks wsX2_courseWithout := goodIn_r _ [8, 9, 10, 11, 12, 13, 14, 15, 16, 17, 18, 7, 19, 20, 21, 22, 23, 24, 25, 26, 27, 28, 29, 30, 31, 32, 33, 34, 35, 36, 37, 38, 63, 64, 65, 66, 67, 68, 69, 70, 71, 72, 80, 81, 82, 83, 84, 85, 86, 87, 88, 73, 74, 75, 76, 77, 78, 79] (by decide +kernel) (by decide +kernel)
set_option maxRecDepth 20000 in
theorem gX2_weeks_X2_courseWithout : GoodIn wsX2_weeks (wsV RX2 123 RX2 yX2_courseWithout wsX2_courseWithout) := goodIn_app (goodIn_of _ (by decide +kernel)) ggX2_weeks_X2_courseWithout
set_option maxRecDepth 20000 in
theorem ggX2_weeks_X2_nextSeed : GoodIn wsX2_weeks wsX2_nextSeed := goodIn_r _ [41, 42, 43] (by decide +kernel) (by decide +kernel)
set_option maxRecDepth 20000 in
theorem gX2_weeks_X2_nextSeed : GoodIn wsX2_weeks (va_wsS RX2 174 yX2_nextSeed wsX2_nextSeed) := goodIn_app (goodIn_of _ (by decide +kernel)) ggX2_weeks_X2_nextSeed
set_option maxRecDepth 20000 in
theorem ggX2_weeks_X2_drawOf : GoodIn wsX2_weeks wsX2_drawOf := goodIn_r _ [46, 47] (by decide +kernel) (by decide +kernel)
set_option maxRecDepth 20000 in
theorem gX2_weeks_X2_drawOf : GoodIn wsX2_weeks (va_wsS RX2 177 yX2_drawOf wsX2_drawOf) := goodIn_app (goodIn_of _ (by decide +kernel)) ggX2_weeks_X2_drawOf
set_option maxRecDepth 20000 in
theorem ggX2_weeks_X0_settle : GoodIn wsX2_weeks wsX0_settle := goodIn_r _ [51, 27, 52, 53, 54, 55, 56, 57, 25, 58, 29, 30, 28, 59, 60, 61, 62, 73, 74, 75, 76, 77, 78, 79] (by decide +kernel) (by decide +kernel)
set_option maxRecDepth 20000 in
theorem gX2_weeks_X0_settle : GoodIn wsX2_weeks (wsV RX2 160 RX0 yX0_settle wsX0_settle) := goodIn_app (goodIn_of _ (by decide +kernel)) ggX2_weeks_X0_settle
theorem dX2_weeks_0 : decode cX2_weeks 0 = .ok (.iload_n 1, 1) := by decide +kernel
theorem dX2_weeks_1 : decode cX2_weeks 1 = .ok (.iconst 1, 1) := by decide +kernel
theorem dX2_weeks_2 : decode cX2_weeks 2 = .ok (.if_icmp .lt 22, 3) := by decide +kernel
theorem dX2_weeks_5 : decode cX2_weeks 5 = .ok (.iload_n 1, 1) := by decide +kernel
theorem dX2_weeks_6 : decode cX2_weeks 6 = .ok (.bipush 12, 2) := by decide +kernel
theorem dX2_weeks_8 : decode cX2_weeks 8 = .ok (.if_icmp .gt 16, 3) := by decide +kernel
theorem dX2_weeks_11 : decode cX2_weeks 11 = .ok (.iload_n 2, 1) := by decide +kernel
theorem dX2_weeks_12 : decode cX2_weeks 12 = .ok (.ifCond .lt 12, 3) := by decide +kernel
theorem dX2_weeks_15 : decode cX2_weeks 15 = .ok (.iload_n 3, 1) := by decide +kernel
theorem dX2_weeks_16 : decode cX2_weeks 16 = .ok (.ifCond .lt 8, 3) := by decide +kernel
theorem dX2_weeks_19 : decode cX2_weeks 19 = .ok (.iload_n 3, 1) := by decide +kernel
theorem dX2_weeks_20 : decode cX2_weeks 20 = .ok (.iconst 1, 1) := by decide +kernel
theorem dX2_weeks_21 : decode cX2_weeks 21 = .ok (.if_icmp .le 6, 3) := by decide +kernel
theorem dX2_weeks_24 : decode cX2_weeks 24 = .ok (.bipush (-102), 2) := by decide +kernel
theorem dX2_weeks_26 : decode cX2_weeks 26 = .ok (.ireturn, 1) := by decide +kernel
theorem dX2_weeks_27 : decode cX2_weeks 27 = .ok (.aload_n 0, 1) := by decide +kernel
theorem dX2_weeks_28 : decode cX2_weeks 28 = .ok (.getfield 49, 3) := by decide +kernel
theorem dX2_weeks_31 : decode cX2_weeks 31 = .ok (.ifCond .ne 6, 3) := by decide +kernel
theorem dX2_weeks_34 : decode cX2_weeks 34 = .ok (.bipush (-103), 2) := by decide +kernel
theorem dX2_weeks_36 : decode cX2_weeks 36 = .ok (.ireturn, 1) := by decide +kernel
theorem dX2_weeks_37 : decode cX2_weeks 37 = .ok (.iload_n 2, 1) := by decide +kernel
theorem dX2_weeks_38 : decode cX2_weeks 38 = .ok (.istore 4, 2) := by decide +kernel
theorem dX2_weeks_40 : decode cX2_weeks 40 = .ok (.iconst 0, 1) := by decide +kernel
theorem dX2_weeks_41 : decode cX2_weeks 41 = .ok (.istore 5, 2) := by decide +kernel
theorem dX2_weeks_43 : decode cX2_weeks 43 = .ok (.iconst 0, 1) := by decide +kernel
theorem dX2_weeks_44 : decode cX2_weeks 44 = .ok (.istore 6, 2) := by decide +kernel
theorem dX2_weeks_46 : decode cX2_weeks 46 = .ok (.iload 6, 2) := by decide +kernel
theorem dX2_weeks_48 : decode cX2_weeks 48 = .ok (.iload_n 1, 1) := by decide +kernel
theorem dX2_weeks_49 : decode cX2_weeks 49 = .ok (.if_icmp .ge 102, 3) := by decide +kernel
theorem dX2_weeks_52 : decode cX2_weeks 52 = .ok (.iconst 0, 1) := by decide +kernel
theorem dX2_weeks_53 : decode cX2_weeks 53 = .ok (.istore 7, 2) := by decide +kernel
theorem dX2_weeks_55 : decode cX2_weeks 55 = .ok (.iload 7, 2) := by decide +kernel
theorem dX2_weeks_57 : decode cX2_weeks 57 = .ok (.bipush 9, 2) := by decide +kernel
theorem dX2_weeks_59 : decode cX2_weeks 59 = .ok (.if_icmp .ge 86, 3) := by decide +kernel
theorem dX2_weeks_62 : decode cX2_weeks 62 = .ok (.aload_n 0, 1) := by decide +kernel
theorem dX2_weeks_63 : decode cX2_weeks 63 = .ok (.iconst (-1), 1) := by decide +kernel
theorem dX2_weeks_64 : decode cX2_weeks 64 = .ok (.iload 7, 2) := by decide +kernel
theorem dX2_weeks_66 : decode cX2_weeks 66 = .ok (.invokevirtual 123, 3) := by decide +kernel
theorem dX2_weeks_69 : decode cX2_weeks 69 = .ok (.astore 8, 2) := by decide +kernel
theorem dX2_weeks_71 : decode cX2_weeks 71 = .ok (.aload 8, 2) := by decide +kernel
theorem dX2_weeks_73 : decode cX2_weeks 73 = .ok (.iconst 0, 1) := by decide +kernel
theorem dX2_weeks_74 : decode cX2_weeks 74 = .ok (.putfield 171, 3) := by decide +kernel
theorem dX2_weeks_77 : decode cX2_weeks 77 = .ok (.iconst 0, 1) := by decide +kernel
theorem dX2_weeks_78 : decode cX2_weeks 78 = .ok (.istore 9, 2) := by decide +kernel
theorem dX2_weeks_80 : decode cX2_weeks 80 = .ok (.iload 9, 2) := by decide +kernel
theorem dX2_weeks_82 : decode cX2_weeks 82 = .ok (.bipush 7, 2) := by decide +kernel
theorem dX2_weeks_84 : decode cX2_weeks 84 = .ok (.if_icmp .ge 39, 3) := by decide +kernel
theorem dX2_weeks_87 : decode cX2_weeks 87 = .ok (.iload 4, 2) := by decide +kernel
theorem dX2_weeks_89 : decode cX2_weeks 89 = .ok (.invokestatic 174, 3) := by decide +kernel
theorem dX2_weeks_92 : decode cX2_weeks 92 = .ok (.istore 4, 2) := by decide +kernel
theorem dX2_weeks_94 : decode cX2_weeks 94 = .ok (.iload 4, 2) := by decide +kernel
theorem dX2_weeks_96 : decode cX2_weeks 96 = .ok (.iconst 4, 1) := by decide +kernel
theorem dX2_weeks_97 : decode cX2_weeks 97 = .ok (.invokestatic 177, 3) := by decide +kernel
theorem dX2_weeks_100 : decode cX2_weeks 100 = .ok (.ifCond .ne 17, 3) := by decide +kernel
theorem dX2_weeks_103 : decode cX2_weeks 103 = .ok (.aload 8, 2) := by decide +kernel
theorem dX2_weeks_105 : decode cX2_weeks 105 = .ok (.dup, 1) := by decide +kernel
theorem dX2_weeks_106 : decode cX2_weeks 106 = .ok (.getfield 171, 3) := by decide +kernel
theorem dX2_weeks_109 : decode cX2_weeks 109 = .ok (.iconst 1, 1) := by decide +kernel
theorem dX2_weeks_110 : decode cX2_weeks 110 = .ok (.iload 9, 2) := by decide +kernel
theorem dX2_weeks_112 : decode cX2_weeks 112 = .ok (.ishl, 1) := by decide +kernel
theorem dX2_weeks_113 : decode cX2_weeks 113 = .ok (.ior, 1) := by decide +kernel
theorem dX2_weeks_114 : decode cX2_weeks 114 = .ok (.putfield 171, 3) := by decide +kernel
theorem dX2_weeks_117 : decode cX2_weeks 117 = .ok (.iinc 9 1, 3) := by decide +kernel
theorem dX2_weeks_120 : decode cX2_weeks 120 = .ok (.goto (-40), 3) := by decide +kernel
theorem dX2_weeks_123 : decode cX2_weeks 123 = .ok (.aload 8, 2) := by decide +kernel
theorem dX2_weeks_125 : decode cX2_weeks 125 = .ok (.invokevirtual 160, 3) := by decide +kernel
theorem dX2_weeks_128 : decode cX2_weeks 128 = .ok (.aload 8, 2) := by decide +kernel
theorem dX2_weeks_130 : decode cX2_weeks 130 = .ok (.getfield 180, 3) := by decide +kernel
theorem dX2_weeks_133 : decode cX2_weeks 133 = .ok (.ifCond .eq 6, 3) := by decide +kernel
theorem dX2_weeks_136 : decode cX2_weeks 136 = .ok (.iinc 5 1, 3) := by decide +kernel
theorem dX2_weeks_139 : decode cX2_weeks 139 = .ok (.iinc 7 1, 3) := by decide +kernel
theorem dX2_weeks_142 : decode cX2_weeks 142 = .ok (.goto (-87), 3) := by decide +kernel
theorem dX2_weeks_145 : decode cX2_weeks 145 = .ok (.iinc 6 1, 3) := by decide +kernel
theorem dX2_weeks_148 : decode cX2_weeks 148 = .ok (.goto (-102), 3) := by decide +kernel
theorem dX2_weeks_151 : decode cX2_weeks 151 = .ok (.iload_n 3, 1) := by decide +kernel
theorem dX2_weeks_152 : decode cX2_weeks 152 = .ok (.ifCond .ne 8, 3) := by decide +kernel
theorem dX2_weeks_155 : decode cX2_weeks 155 = .ok (.iload 5, 2) := by decide +kernel
theorem dX2_weeks_157 : decode cX2_weeks 157 = .ok (.goto 5, 3) := by decide +kernel
theorem dX2_weeks_160 : decode cX2_weeks 160 = .ok (.iload 4, 2) := by decide +kernel
theorem dX2_weeks_162 : decode cX2_weeks 162 = .ok (.ireturn, 1) := by decide +kernel
set_option maxRecDepth 20000 in
theorem ggX2_image_X1_takeFrom : GoodIn wsX2_image wsX1_takeFrom := goodIn_r _ [10, 11, 12, 13, 14, 15, 16, 17, 18, 19, 30, 31, 32, 33, 34, 35, 36, 37, 38] (by decide +kernel) (by decide +kernel)
set_option maxRecDepth 20000 in
theorem gX2_image_X1_takeFrom : GoodIn wsX2_image (wsV RX2 183 RX1 yX1_takeFrom wsX1_takeFrom) := goodIn_app (goodIn_of _ (by decide +kernel)) ggX2_image_X1_takeFrom
theorem dX2_image_0 : decode cX2_image 0 = .ok (.aload_n 0, 1) := by decide +kernel
theorem dX2_image_1 : decode cX2_image 1 = .ok (.getfield 49, 3) := by decide +kernel
theorem dX2_image_4 : decode cX2_image 4 = .ok (.ifCond .ne 6, 3) := by decide +kernel
theorem dX2_image_7 : decode cX2_image 7 = .ok (.bipush (-103), 2) := by decide +kernel
theorem dX2_image_9 : decode cX2_image 9 = .ok (.ireturn, 1) := by decide +kernel
theorem dX2_image_10 : decode cX2_image 10 = .ok (.aload_n 0, 1) := by decide +kernel
theorem dX2_image_11 : decode cX2_image 11 = .ok (.getfield 23, 3) := by decide +kernel
theorem dX2_image_14 : decode cX2_image 14 = .ok (.aload_n 0, 1) := by decide +kernel
theorem dX2_image_15 : decode cX2_image 15 = .ok (.getfield 19, 3) := by decide +kernel
theorem dX2_image_18 : decode cX2_image 18 = .ok (.invokevirtual 183, 3) := by decide +kernel
theorem dX2_image_21 : decode cX2_image 21 = .ok (.aload_n 0, 1) := by decide +kernel
theorem dX2_image_22 : decode cX2_image 22 = .ok (.iconst 1, 1) := by decide +kernel
theorem dX2_image_23 : decode cX2_image 23 = .ok (.putfield 53, 3) := by decide +kernel
theorem dX2_image_26 : decode cX2_image 26 = .ok (.aload_n 0, 1) := by decide +kernel
theorem dX2_image_27 : decode cX2_image 27 = .ok (.getfield 23, 3) := by decide +kernel
theorem dX2_image_30 : decode cX2_image 30 = .ok (.getfield 94, 3) := by decide +kernel
theorem dX2_image_33 : decode cX2_image 33 = .ok (.ireturn, 1) := by decide +kernel
set_option maxRecDepth 20000 in
theorem ggX2_restore_X1_takeFrom : GoodIn wsX2_restore wsX1_takeFrom := goodIn_r _ [9, 10, 11, 12, 13, 14, 15, 16, 17, 18, 29, 30, 31, 32, 33, 34, 35, 36, 37] (by decide +kernel) (by decide +kernel)
set_option maxRecDepth 20000 in
theorem gX2_restore_X1_takeFrom : GoodIn wsX2_restore (wsV RX2 183 RX1 yX1_takeFrom wsX1_takeFrom) := goodIn_app (goodIn_of _ (by decide +kernel)) ggX2_restore_X1_takeFrom
theorem dX2_restore_0 : decode cX2_restore 0 = .ok (.aload_n 0, 1) := by decide +kernel
theorem dX2_restore_1 : decode cX2_restore 1 = .ok (.getfield 53, 3) := by decide +kernel
theorem dX2_restore_4 : decode cX2_restore 4 = .ok (.ifCond .ne 6, 3) := by decide +kernel
theorem dX2_restore_7 : decode cX2_restore 7 = .ok (.bipush (-103), 2) := by decide +kernel
theorem dX2_restore_9 : decode cX2_restore 9 = .ok (.ireturn, 1) := by decide +kernel
theorem dX2_restore_10 : decode cX2_restore 10 = .ok (.aload_n 0, 1) := by decide +kernel
theorem dX2_restore_11 : decode cX2_restore 11 = .ok (.getfield 19, 3) := by decide +kernel
theorem dX2_restore_14 : decode cX2_restore 14 = .ok (.aload_n 0, 1) := by decide +kernel
theorem dX2_restore_15 : decode cX2_restore 15 = .ok (.getfield 23, 3) := by decide +kernel
theorem dX2_restore_18 : decode cX2_restore 18 = .ok (.invokevirtual 183, 3) := by decide +kernel
theorem dX2_restore_21 : decode cX2_restore 21 = .ok (.aload_n 0, 1) := by decide +kernel
theorem dX2_restore_22 : decode cX2_restore 22 = .ok (.getfield 19, 3) := by decide +kernel
theorem dX2_restore_25 : decode cX2_restore 25 = .ok (.getfield 94, 3) := by decide +kernel
theorem dX2_restore_28 : decode cX2_restore 28 = .ok (.ireturn, 1) := by decide +kernel
set_option maxRecDepth 20000 in
theorem ggX2_count_X2_drawersThatAgree : GoodIn wsX2_count wsX2_drawersThatAgree := goodIn_r _ [12, 13, 14, 15, 16, 17, 11, 18, 19, 20, 21, 22, 23, 1, 24, 3, 25, 26, 27, 28, 29, 30, 31, 2, 32, 33, 34, 35, 36, 37, 38, 39, 40, 41, 42, 43, 44, 45, 46, 47, 48, 49, 50, 51, 52, 53, 54, 55, 56, 57, 58, 59, 60, 61, 62, 63, 64, 78, 79, 80, 81, 82, 83, 84, 85, 86, 87, 97, 98, 99, 100, 101, 102, 103, 88, 89, 90, 91, 92, 93, 94, 95, 96] (by decide +kernel) (by decide +kernel)
set_option maxRecDepth 20000 in
theorem gX2_count_X2_drawersThatAgree : GoodIn wsX2_count (wsV RX2 187 RX2 yX2_drawersThatAgree wsX2_drawersThatAgree) := goodIn_app (goodIn_of _ (by decide +kernel)) ggX2_count_X2_drawersThatAgree
set_option maxRecDepth 20000 in
theorem ggX2_count_X1_thingsLaid : GoodIn wsX2_count wsX1_thingsLaid := goodIn_r _ [69, 70, 71, 72, 73, 74, 75, 76, 77, 88, 89, 90, 91, 92, 93, 94, 95, 96] (by decide +kernel) (by decide +kernel)
set_option maxRecDepth 20000 in
theorem gX2_count_X1_thingsLaid : GoodIn wsX2_count (wsV RX2 190 RX1 yX1_thingsLaid wsX1_thingsLaid) := goodIn_app (goodIn_of _ (by decide +kernel)) ggX2_count_X1_thingsLaid
theorem dX2_count_0 : decode cX2_count 0 = .ok (.iload_n 1, 1) := by decide +kernel
theorem dX2_count_1 : decode cX2_count 1 = .ok (.tableswitch 99 0 7 #[47, 52, 60, 68, 76, 84, 89, 94], 47) := by decide +kernel
theorem dX2_count_48 : decode cX2_count 48 = .ok (.aload_n 0, 1) := by decide +kernel
theorem dX2_count_49 : decode cX2_count 49 = .ok (.invokevirtual 187, 3) := by decide +kernel
theorem dX2_count_52 : decode cX2_count 52 = .ok (.ireturn, 1) := by decide +kernel
theorem dX2_count_53 : decode cX2_count 53 = .ok (.aload_n 0, 1) := by decide +kernel
theorem dX2_count_54 : decode cX2_count 54 = .ok (.getfield 19, 3) := by decide +kernel
theorem dX2_count_57 : decode cX2_count 57 = .ok (.getfield 59, 3) := by decide +kernel
theorem dX2_count_60 : decode cX2_count 60 = .ok (.ireturn, 1) := by decide +kernel
theorem dX2_count_61 : decode cX2_count 61 = .ok (.aload_n 0, 1) := by decide +kernel
theorem dX2_count_62 : decode cX2_count 62 = .ok (.getfield 19, 3) := by decide +kernel
theorem dX2_count_65 : decode cX2_count 65 = .ok (.getfield 94, 3) := by decide +kernel
theorem dX2_count_68 : decode cX2_count 68 = .ok (.ireturn, 1) := by decide +kernel
theorem dX2_count_69 : decode cX2_count 69 = .ok (.aload_n 0, 1) := by decide +kernel
theorem dX2_count_70 : decode cX2_count 70 = .ok (.getfield 19, 3) := by decide +kernel
theorem dX2_count_73 : decode cX2_count 73 = .ok (.invokevirtual 190, 3) := by decide +kernel
theorem dX2_count_76 : decode cX2_count 76 = .ok (.ireturn, 1) := by decide +kernel
theorem dX2_count_77 : decode cX2_count 77 = .ok (.aload_n 0, 1) := by decide +kernel
theorem dX2_count_78 : decode cX2_count 78 = .ok (.getfield 19, 3) := by decide +kernel
theorem dX2_count_81 : decode cX2_count 81 = .ok (.getfield 145, 3) := by decide +kernel
theorem dX2_count_84 : decode cX2_count 84 = .ok (.ireturn, 1) := by decide +kernel
theorem dX2_count_85 : decode cX2_count 85 = .ok (.aload_n 0, 1) := by decide +kernel
theorem dX2_count_86 : decode cX2_count 86 = .ok (.getfield 33, 3) := by decide +kernel
theorem dX2_count_89 : decode cX2_count 89 = .ok (.ireturn, 1) := by decide +kernel
theorem dX2_count_90 : decode cX2_count 90 = .ok (.aload_n 0, 1) := by decide +kernel
theorem dX2_count_91 : decode cX2_count 91 = .ok (.getfield 56, 3) := by decide +kernel
theorem dX2_count_94 : decode cX2_count 94 = .ok (.ireturn, 1) := by decide +kernel
theorem dX2_count_95 : decode cX2_count 95 = .ok (.aload_n 0, 1) := by decide +kernel
theorem dX2_count_96 : decode cX2_count 96 = .ok (.getfield 133, 3) := by decide +kernel
theorem dX2_count_99 : decode cX2_count 99 = .ok (.ireturn, 1) := by decide +kernel
theorem dX2_count_100 : decode cX2_count 100 = .ok (.bipush (-102), 2) := by decide +kernel
theorem dX2_count_102 : decode cX2_count 102 = .ok (.ireturn, 1) := by decide +kernel
set_option maxRecDepth 20000 in
theorem ggX2_digest_X2_digestOfDrawer : GoodIn wsX2_digest wsX2_digestOfDrawer := goodIn_r _ [12, 7, 13, 14, 15, 11, 16, 17, 3, 18, 19, 20, 21, 22, 2, 23, 24, 25, 26, 27, 28, 29, 30, 31, 32, 33, 34, 35, 36, 37, 38, 39, 40, 41, 42, 43, 4, 44, 45, 46, 47, 48, 49, 50, 51, 52, 53, 54, 55, 56, 57, 58, 59, 60, 61, 62, 63, 64, 65, 66, 67, 68, 69, 70, 71, 72, 73, 74, 75, 76, 77, 78, 79, 80, 81, 82, 83, 84, 85, 86, 87, 88, 89, 90, 91, 92, 93, 94, 95, 96, 97, 98, 99, 100, 101, 102, 103, 104, 105, 106, 107, 108, 109, 110, 111, 112, 113, 114, 115, 116, 117, 118, 119, 120, 121, 122, 123, 124, 125, 167, 168, 169, 170, 171, 172, 173, 174, 175, 176, 177, 178, 179, 180, 181, 182, 183, 184, 185, 186, 187, 188, 189, 190, 191, 192] (by decide +kernel) (by decide +kernel)
set_option maxRecDepth 20000 in
theorem gX2_digest_X2_digestOfDrawer : GoodIn wsX2_digest (wsV RX2 195 RX2 yX2_digestOfDrawer wsX2_digestOfDrawer) := goodIn_app (goodIn_of _ (by decide +kernel)) ggX2_digest_X2_digestOfDrawer
set_option maxRecDepth 20000 in
theorem ggX2_digest_X2_digestOfPerson : GoodIn wsX2_digest wsX2_digestOfPerson := goodIn_r _ [129, 7, 130, 131, 132, 11, 133, 3, 45, 46, 44, 134, 135, 136, 137, 4, 138, 60, 61, 139, 94, 95, 140, 62, 63, 141, 142, 143, 144, 145, 146, 147, 148, 39, 40, 41, 42, 43, 18, 23, 24, 25, 26, 27, 17, 47, 48, 49, 50, 51, 52, 53, 54, 55, 56, 57, 58, 59, 64, 65, 66, 67, 68, 69, 70, 71, 72, 73, 74, 75, 76, 77, 78, 116, 117, 118, 119, 120, 121, 122, 123, 124, 125, 167, 168, 169, 170, 171, 172, 173, 174, 175, 176, 177, 178, 179, 180, 181, 182, 183, 184, 185, 186, 187, 188, 189, 190, 191, 192] (by decide +kernel) (by decide +kernel)
set_option maxRecDepth 20000 in
theorem gX2_digest_X2_digestOfPerson : GoodIn wsX2_digest (wsV RX2 199 RX2 yX2_digestOfPerson wsX2_digestOfPerson) := goodIn_app (goodIn_of _ (by decide +kernel)) ggX2_digest_X2_digestOfPerson
set_option maxRecDepth 20000 in
theorem ggX2_digest_X2_count : GoodIn wsX2_digest wsX2_count := goodIn_r _ [152, 3, 27, 4, 153, 5, 154, 155, 156, 157, 158, 11, 159, 2, 160, 35, 36, 37, 38, 39, 40, 41, 42, 43, 18, 44, 45, 46, 23, 24, 25, 26, 17, 47, 48, 49, 50, 51, 52, 53, 54, 55, 56, 57, 58, 59, 60, 61, 62, 63, 64, 65, 66, 67, 68, 69, 70, 71, 72, 73, 74, 75, 76, 77, 78, 161, 162, 163, 31, 164, 165, 166, 84, 85, 86, 87, 88, 89, 167, 168, 169, 170, 171, 172, 173, 174, 175, 176, 177, 178, 179, 180, 181, 182, 183, 184, 185, 186, 187, 188, 189, 190, 191, 192] (by decide +kernel) (by decide +kernel)
set_option maxRecDepth 20000 in
theorem gX2_digest_X2_count : GoodIn wsX2_digest (wsV RX2 204 RX2 yX2_count wsX2_count) := goodIn_app (goodIn_of _ (by decide +kernel)) ggX2_digest_X2_count
theorem dX2_digest_0 : decode cX2_digest 0 = .ok (.ldc2_w 193, 3) := by decide +kernel
theorem dX2_digest_3 : decode cX2_digest 3 = .ok (.lstore_n 1, 1) := by decide +kernel
theorem dX2_digest_4 : decode cX2_digest 4 = .ok (.aload_n 0, 1) := by decide +kernel
theorem dX2_digest_5 : decode cX2_digest 5 = .ok (.getfield 49, 3) := by decide +kernel
theorem dX2_digest_8 : decode cX2_digest 8 = .ok (.ifCond .eq 24, 3) := by decide +kernel
theorem dX2_digest_11 : decode cX2_digest 11 = .ok (.iconst 0, 1) := by decide +kernel
theorem dX2_digest_12 : decode cX2_digest 12 = .ok (.istore_n 3, 1) := by decide +kernel
theorem dX2_digest_13 : decode cX2_digest 13 = .ok (.iload_n 3, 1) := by decide +kernel
theorem dX2_digest_14 : decode cX2_digest 14 = .ok (.bipush 9, 2) := by decide +kernel
theorem dX2_digest_16 : decode cX2_digest 16 = .ok (.if_icmp .ge 16, 3) := by decide +kernel
theorem dX2_digest_19 : decode cX2_digest 19 = .ok (.aload_n 0, 1) := by decide +kernel
theorem dX2_digest_20 : decode cX2_digest 20 = .ok (.lload_n 1, 1) := by decide +kernel
theorem dX2_digest_21 : decode cX2_digest 21 = .ok (.iload_n 3, 1) := by decide +kernel
theorem dX2_digest_22 : decode cX2_digest 22 = .ok (.invokevirtual 195, 3) := by decide +kernel
theorem dX2_digest_25 : decode cX2_digest 25 = .ok (.lstore_n 1, 1) := by decide +kernel
theorem dX2_digest_26 : decode cX2_digest 26 = .ok (.iinc 3 1, 3) := by decide +kernel
theorem dX2_digest_29 : decode cX2_digest 29 = .ok (.goto (-16), 3) := by decide +kernel
theorem dX2_digest_32 : decode cX2_digest 32 = .ok (.iconst 0, 1) := by decide +kernel
theorem dX2_digest_33 : decode cX2_digest 33 = .ok (.istore_n 3, 1) := by decide +kernel
theorem dX2_digest_34 : decode cX2_digest 34 = .ok (.iload_n 3, 1) := by decide +kernel
theorem dX2_digest_35 : decode cX2_digest 35 = .ok (.aload_n 0, 1) := by decide +kernel
theorem dX2_digest_36 : decode cX2_digest 36 = .ok (.getfield 19, 3) := by decide +kernel
theorem dX2_digest_39 : decode cX2_digest 39 = .ok (.getfield 94, 3) := by decide +kernel
theorem dX2_digest_42 : decode cX2_digest 42 = .ok (.if_icmp .ge 16, 3) := by decide +kernel
theorem dX2_digest_45 : decode cX2_digest 45 = .ok (.aload_n 0, 1) := by decide +kernel
theorem dX2_digest_46 : decode cX2_digest 46 = .ok (.lload_n 1, 1) := by decide +kernel
theorem dX2_digest_47 : decode cX2_digest 47 = .ok (.iload_n 3, 1) := by decide +kernel
theorem dX2_digest_48 : decode cX2_digest 48 = .ok (.invokevirtual 199, 3) := by decide +kernel
theorem dX2_digest_51 : decode cX2_digest 51 = .ok (.lstore_n 1, 1) := by decide +kernel
theorem dX2_digest_52 : decode cX2_digest 52 = .ok (.iinc 3 1, 3) := by decide +kernel
theorem dX2_digest_55 : decode cX2_digest 55 = .ok (.goto (-21), 3) := by decide +kernel
theorem dX2_digest_58 : decode cX2_digest 58 = .ok (.iconst 0, 1) := by decide +kernel
theorem dX2_digest_59 : decode cX2_digest 59 = .ok (.istore_n 3, 1) := by decide +kernel
theorem dX2_digest_60 : decode cX2_digest 60 = .ok (.iload_n 3, 1) := by decide +kernel
theorem dX2_digest_61 : decode cX2_digest 61 = .ok (.aload_n 0, 1) := by decide +kernel
theorem dX2_digest_62 : decode cX2_digest 62 = .ok (.getfield 33, 3) := by decide +kernel
theorem dX2_digest_65 : decode cX2_digest 65 = .ok (.if_icmp .ge 32, 3) := by decide +kernel
theorem dX2_digest_68 : decode cX2_digest 68 = .ok (.iload_n 3, 1) := by decide +kernel
theorem dX2_digest_69 : decode cX2_digest 69 = .ok (.aload_n 0, 1) := by decide +kernel
theorem dX2_digest_70 : decode cX2_digest 70 = .ok (.getfield 9, 3) := by decide +kernel
theorem dX2_digest_73 : decode cX2_digest 73 = .ok (.arraylength, 1) := by decide +kernel
theorem dX2_digest_74 : decode cX2_digest 74 = .ok (.if_icmp .ge 23, 3) := by decide +kernel
theorem dX2_digest_77 : decode cX2_digest 77 = .ok (.ldc2_w 202, 3) := by decide +kernel
theorem dX2_digest_80 : decode cX2_digest 80 = .ok (.lload_n 1, 1) := by decide +kernel
theorem dX2_digest_81 : decode cX2_digest 81 = .ok (.lmul, 1) := by decide +kernel
theorem dX2_digest_82 : decode cX2_digest 82 = .ok (.aload_n 0, 1) := by decide +kernel
theorem dX2_digest_83 : decode cX2_digest 83 = .ok (.getfield 9, 3) := by decide +kernel
theorem dX2_digest_86 : decode cX2_digest 86 = .ok (.iload_n 3, 1) := by decide +kernel
theorem dX2_digest_87 : decode cX2_digest 87 = .ok (.iaload, 1) := by decide +kernel
theorem dX2_digest_88 : decode cX2_digest 88 = .ok (.i2l, 1) := by decide +kernel
theorem dX2_digest_89 : decode cX2_digest 89 = .ok (.ladd, 1) := by decide +kernel
theorem dX2_digest_90 : decode cX2_digest 90 = .ok (.lstore_n 1, 1) := by decide +kernel
theorem dX2_digest_91 : decode cX2_digest 91 = .ok (.iinc 3 1, 3) := by decide +kernel
theorem dX2_digest_94 : decode cX2_digest 94 = .ok (.goto (-34), 3) := by decide +kernel
theorem dX2_digest_97 : decode cX2_digest 97 = .ok (.iconst 0, 1) := by decide +kernel
theorem dX2_digest_98 : decode cX2_digest 98 = .ok (.istore_n 3, 1) := by decide +kernel
theorem dX2_digest_99 : decode cX2_digest 99 = .ok (.iload_n 3, 1) := by decide +kernel
theorem dX2_digest_100 : decode cX2_digest 100 = .ok (.bipush 7, 2) := by decide +kernel
theorem dX2_digest_102 : decode cX2_digest 102 = .ok (.if_icmp .gt 22, 3) := by decide +kernel
theorem dX2_digest_105 : decode cX2_digest 105 = .ok (.ldc2_w 202, 3) := by decide +kernel
theorem dX2_digest_108 : decode cX2_digest 108 = .ok (.lload_n 1, 1) := by decide +kernel
theorem dX2_digest_109 : decode cX2_digest 109 = .ok (.lmul, 1) := by decide +kernel
theorem dX2_digest_110 : decode cX2_digest 110 = .ok (.aload_n 0, 1) := by decide +kernel
theorem dX2_digest_111 : decode cX2_digest 111 = .ok (.iload_n 3, 1) := by decide +kernel
