theorem dX3_lay_59 : decode cX3_lay 59 = .ok (.iload_n 2, 1) := by decide +kernel
theorem dX3_lay_60 : decode cX3_lay 60 = .ok (.ishl, 1) := by decide +kernel
theorem dX3_lay_61 : decode cX3_lay 61 = .ok (.iconst (-1), 1) := by decide +kernel
theorem dX3_lay_62 : decode cX3_lay 62 = .ok (.ixor, 1) := by decide +kernel
theorem dX3_lay_63 : decode cX3_lay 63 = .ok (.iand, 1) := by decide +kernel
theorem dX3_lay_64 : decode cX3_lay 64 = .ok (.iastore, 1) := by decide +kernel
theorem dX3_lay_65 : decode cX3_lay 65 = .ok (.iload 4, 2) := by decide +kernel
theorem dX3_lay_67 : decode cX3_lay 67 = .ok (.ireturn, 1) := by decide +kernel
set_option maxRecDepth 20000 in
theorem ggX3_agrees_X3_isDrawer : GoodIn wsX3_agrees wsX3_isDrawer := goodIn_r _ [5, 6, 7, 8, 4, 9, 39, 40, 41, 42, 43, 44, 45, 46, 47, 48, 49, 50, 51, 52, 53, 54, 55, 56, 57, 58, 59, 60, 61, 62, 63, 64, 65, 66, 67] (by decide +kernel) (by decide +kernel)
set_option maxRecDepth 20000 in
theorem gX3_agrees_X3_isDrawer : GoodIn wsX3_agrees (wsV RX3 122 RX3 yX3_isDrawer wsX3_isDrawer) := goodIn_app (goodIn_of _ (by decide +kernel)) ggX3_agrees_X3_isDrawer
set_option maxRecDepth 20000 in
theorem ggX3_agrees_X3_within : GoodIn wsX3_agrees wsX3_within := goodIn_r _ [9] (by decide +kernel) (by decide +kernel)
set_option maxRecDepth 20000 in
theorem gX3_agrees_X3_within : GoodIn wsX3_agrees (va_wsS RX3 56 yX3_within wsX3_within) := goodIn_app (goodIn_of _ (by decide +kernel)) ggX3_agrees_X3_within
set_option maxRecDepth 20000 in
theorem ggX3_agrees_X3_isSo : GoodIn wsX3_agrees wsX3_isSo := goodIn_r _ [13, 14, 15, 16, 17, 4, 18, 19, 20, 21, 22, 23, 24, 25, 26, 27, 28, 29, 30, 31, 32, 33, 34, 35, 36, 37, 38, 39, 40, 41, 42, 43, 44, 45, 46, 47, 48, 49, 50, 51, 52, 53, 54, 55, 56, 57, 58, 59, 60, 61, 62, 63, 64, 65, 66, 67] (by decide +kernel) (by decide +kernel)
set_option maxRecDepth 20000 in
theorem gX3_agrees_X3_isSo : GoodIn wsX3_agrees (wsV RX3 107 RX3 yX3_isSo wsX3_isSo) := goodIn_app (goodIn_of _ (by decide +kernel)) ggX3_agrees_X3_isSo
theorem dX3_agrees_0 : decode cX3_agrees 0 = .ok (.aload_n 0, 1) := by decide +kernel
theorem dX3_agrees_1 : decode cX3_agrees 1 = .ok (.iload_n 1, 1) := by decide +kernel
theorem dX3_agrees_2 : decode cX3_agrees 2 = .ok (.invokevirtual 122, 3) := by decide +kernel
theorem dX3_agrees_5 : decode cX3_agrees 5 = .ok (.ifCond .ne 6, 3) := by decide +kernel
theorem dX3_agrees_8 : decode cX3_agrees 8 = .ok (.bipush (-101), 2) := by decide +kernel
theorem dX3_agrees_10 : decode cX3_agrees 10 = .ok (.ireturn, 1) := by decide +kernel
theorem dX3_agrees_11 : decode cX3_agrees 11 = .ok (.iload_n 2, 1) := by decide +kernel
theorem dX3_agrees_12 : decode cX3_agrees 12 = .ok (.iconst 0, 1) := by decide +kernel
theorem dX3_agrees_13 : decode cX3_agrees 13 = .ok (.bipush 127, 2) := by decide +kernel
theorem dX3_agrees_15 : decode cX3_agrees 15 = .ok (.invokestatic 56, 3) := by decide +kernel
theorem dX3_agrees_18 : decode cX3_agrees 18 = .ok (.ifCond .ne 6, 3) := by decide +kernel
theorem dX3_agrees_21 : decode cX3_agrees 21 = .ok (.bipush (-102), 2) := by decide +kernel
theorem dX3_agrees_23 : decode cX3_agrees 23 = .ok (.ireturn, 1) := by decide +kernel
theorem dX3_agrees_24 : decode cX3_agrees 24 = .ok (.aload_n 0, 1) := by decide +kernel
theorem dX3_agrees_25 : decode cX3_agrees 25 = .ok (.iload_n 1, 1) := by decide +kernel
theorem dX3_agrees_26 : decode cX3_agrees 26 = .ok (.iload_n 2, 1) := by decide +kernel
theorem dX3_agrees_27 : decode cX3_agrees 27 = .ok (.invokevirtual 107, 3) := by decide +kernel
theorem dX3_agrees_30 : decode cX3_agrees 30 = .ok (.ifCond .eq 7, 3) := by decide +kernel
theorem dX3_agrees_33 : decode cX3_agrees 33 = .ok (.iconst 1, 1) := by decide +kernel
theorem dX3_agrees_34 : decode cX3_agrees 34 = .ok (.goto 4, 3) := by decide +kernel
theorem dX3_agrees_37 : decode cX3_agrees 37 = .ok (.iconst 0, 1) := by decide +kernel
theorem dX3_agrees_38 : decode cX3_agrees 38 = .ok (.ireturn, 1) := by decide +kernel
set_option maxRecDepth 20000 in
theorem ggX3_sureNow_X3_isSo : GoodIn wsX3_sureNow wsX3_isSo := goodIn_r _ [5, 6, 7, 8, 9, 4, 10, 11, 12, 13, 14, 15, 16, 17, 18, 19, 20, 21, 22, 23, 24, 25, 26, 27, 28, 29, 30, 31, 32, 33, 34, 35, 36, 37, 38, 39, 40, 41, 42, 43, 44, 45, 46, 47, 48, 49, 50, 51, 52, 53, 54, 55, 56, 57, 58, 59] (by decide +kernel) (by decide +kernel)
set_option maxRecDepth 20000 in
theorem gX3_sureNow_X3_isSo : GoodIn wsX3_sureNow (wsV RX3 107 RX3 yX3_isSo wsX3_isSo) := goodIn_app (goodIn_of _ (by decide +kernel)) ggX3_sureNow_X3_isSo
theorem dX3_sureNow_0 : decode cX3_sureNow 0 = .ok (.iconst 0, 1) := by decide +kernel
theorem dX3_sureNow_1 : decode cX3_sureNow 1 = .ok (.istore_n 3, 1) := by decide +kernel
theorem dX3_sureNow_2 : decode cX3_sureNow 2 = .ok (.iconst 0, 1) := by decide +kernel
theorem dX3_sureNow_3 : decode cX3_sureNow 3 = .ok (.istore 4, 2) := by decide +kernel
theorem dX3_sureNow_5 : decode cX3_sureNow 5 = .ok (.iload 4, 2) := by decide +kernel
theorem dX3_sureNow_7 : decode cX3_sureNow 7 = .ok (.sipush 128, 3) := by decide +kernel
theorem dX3_sureNow_10 : decode cX3_sureNow 10 = .ok (.if_icmp .ge 34, 3) := by decide +kernel
theorem dX3_sureNow_13 : decode cX3_sureNow 13 = .ok (.iload_n 3, 1) := by decide +kernel
theorem dX3_sureNow_14 : decode cX3_sureNow 14 = .ok (.aload_n 0, 1) := by decide +kernel
theorem dX3_sureNow_15 : decode cX3_sureNow 15 = .ok (.iload_n 1, 1) := by decide +kernel
theorem dX3_sureNow_16 : decode cX3_sureNow 16 = .ok (.iload 4, 2) := by decide +kernel
theorem dX3_sureNow_18 : decode cX3_sureNow 18 = .ok (.invokevirtual 107, 3) := by decide +kernel
theorem dX3_sureNow_21 : decode cX3_sureNow 21 = .ok (.ifCond .eq 14, 3) := by decide +kernel
theorem dX3_sureNow_24 : decode cX3_sureNow 24 = .ok (.iconst 1, 1) := by decide +kernel
theorem dX3_sureNow_25 : decode cX3_sureNow 25 = .ok (.iload 4, 2) := by decide +kernel
theorem dX3_sureNow_27 : decode cX3_sureNow 27 = .ok (.iload_n 2, 1) := by decide +kernel
theorem dX3_sureNow_28 : decode cX3_sureNow 28 = .ok (.ishr, 1) := by decide +kernel
theorem dX3_sureNow_29 : decode cX3_sureNow 29 = .ok (.iconst 1, 1) := by decide +kernel
theorem dX3_sureNow_30 : decode cX3_sureNow 30 = .ok (.iand, 1) := by decide +kernel
theorem dX3_sureNow_31 : decode cX3_sureNow 31 = .ok (.ishl, 1) := by decide +kernel
theorem dX3_sureNow_32 : decode cX3_sureNow 32 = .ok (.goto 4, 3) := by decide +kernel
theorem dX3_sureNow_35 : decode cX3_sureNow 35 = .ok (.iconst 0, 1) := by decide +kernel
theorem dX3_sureNow_36 : decode cX3_sureNow 36 = .ok (.ior, 1) := by decide +kernel
theorem dX3_sureNow_37 : decode cX3_sureNow 37 = .ok (.istore_n 3, 1) := by decide +kernel
theorem dX3_sureNow_38 : decode cX3_sureNow 38 = .ok (.iinc 4 1, 3) := by decide +kernel
theorem dX3_sureNow_41 : decode cX3_sureNow 41 = .ok (.goto (-36), 3) := by decide +kernel
theorem dX3_sureNow_44 : decode cX3_sureNow 44 = .ok (.iload_n 3, 1) := by decide +kernel
theorem dX3_sureNow_45 : decode cX3_sureNow 45 = .ok (.iconst 1, 1) := by decide +kernel
theorem dX3_sureNow_46 : decode cX3_sureNow 46 = .ok (.if_icmp .ne 7, 3) := by decide +kernel
theorem dX3_sureNow_49 : decode cX3_sureNow 49 = .ok (.iconst 0, 1) := by decide +kernel
theorem dX3_sureNow_50 : decode cX3_sureNow 50 = .ok (.goto 13, 3) := by decide +kernel
theorem dX3_sureNow_53 : decode cX3_sureNow 53 = .ok (.iload_n 3, 1) := by decide +kernel
theorem dX3_sureNow_54 : decode cX3_sureNow 54 = .ok (.iconst 2, 1) := by decide +kernel
theorem dX3_sureNow_55 : decode cX3_sureNow 55 = .ok (.if_icmp .ne 7, 3) := by decide +kernel
theorem dX3_sureNow_58 : decode cX3_sureNow 58 = .ok (.iconst 1, 1) := by decide +kernel
theorem dX3_sureNow_59 : decode cX3_sureNow 59 = .ok (.goto 4, 3) := by decide +kernel
theorem dX3_sureNow_62 : decode cX3_sureNow 62 = .ok (.iconst (-1), 1) := by decide +kernel
theorem dX3_sureNow_63 : decode cX3_sureNow 63 = .ok (.ireturn, 1) := by decide +kernel
set_option maxRecDepth 20000 in
theorem ggX3_sure_X3_isDrawer : GoodIn wsX3_sure wsX3_isDrawer := goodIn_r _ [5, 6, 7, 8, 4, 9, 46, 47, 48, 49, 50, 51, 52, 53, 54, 55, 56, 57, 58, 59, 60, 61, 62, 63, 64, 65, 66, 67, 68, 69, 70, 71, 72, 73, 74] (by decide +kernel) (by decide +kernel)
set_option maxRecDepth 20000 in
theorem gX3_sure_X3_isDrawer : GoodIn wsX3_sure (wsV RX3 122 RX3 yX3_isDrawer wsX3_isDrawer) := goodIn_app (goodIn_of _ (by decide +kernel)) ggX3_sure_X3_isDrawer
set_option maxRecDepth 20000 in
theorem ggX3_sure_X3_isDay : GoodIn wsX3_sure wsX3_isDay := goodIn_r _ [12, 7, 8, 4, 9] (by decide +kernel) (by decide +kernel)
set_option maxRecDepth 20000 in
theorem gX3_sure_X3_isDay : GoodIn wsX3_sure (va_wsS RX3 129 yX3_isDay wsX3_isDay) := goodIn_app (goodIn_of _ (by decide +kernel)) ggX3_sure_X3_isDay
set_option maxRecDepth 20000 in
theorem ggX3_sure_X3_sureNow : GoodIn wsX3_sure wsX3_sureNow := goodIn_r _ [16, 17, 18, 19, 4, 20, 21, 22, 23, 24, 25, 26, 27, 28, 29, 30, 31, 32, 33, 34, 35, 36, 37, 38, 39, 40, 41, 42, 43, 44, 45, 46, 47, 48, 49, 50, 51, 52, 53, 54, 55, 56, 57, 58, 59, 60, 61, 62, 63, 64, 65, 66, 67, 68, 69, 70, 71, 72, 73, 74] (by decide +kernel) (by decide +kernel)
set_option maxRecDepth 20000 in
theorem gX3_sure_X3_sureNow : GoodIn wsX3_sure (wsV RX3 138 RX3 yX3_sureNow wsX3_sureNow) := goodIn_app (goodIn_of _ (by decide +kernel)) ggX3_sure_X3_sureNow
theorem dX3_sure_0 : decode cX3_sure 0 = .ok (.aload_n 0, 1) := by decide +kernel
theorem dX3_sure_1 : decode cX3_sure 1 = .ok (.iload_n 1, 1) := by decide +kernel
theorem dX3_sure_2 : decode cX3_sure 2 = .ok (.invokevirtual 122, 3) := by decide +kernel
theorem dX3_sure_5 : decode cX3_sure 5 = .ok (.ifCond .eq 19, 3) := by decide +kernel
theorem dX3_sure_8 : decode cX3_sure 8 = .ok (.iload_n 2, 1) := by decide +kernel
theorem dX3_sure_9 : decode cX3_sure 9 = .ok (.invokestatic 129, 3) := by decide +kernel
theorem dX3_sure_12 : decode cX3_sure 12 = .ok (.ifCond .eq 12, 3) := by decide +kernel
theorem dX3_sure_15 : decode cX3_sure 15 = .ok (.aload_n 0, 1) := by decide +kernel
theorem dX3_sure_16 : decode cX3_sure 16 = .ok (.iload_n 1, 1) := by decide +kernel
theorem dX3_sure_17 : decode cX3_sure 17 = .ok (.iload_n 2, 1) := by decide +kernel
theorem dX3_sure_18 : decode cX3_sure 18 = .ok (.invokevirtual 138, 3) := by decide +kernel
theorem dX3_sure_21 : decode cX3_sure 21 = .ok (.goto 5, 3) := by decide +kernel
theorem dX3_sure_24 : decode cX3_sure 24 = .ok (.bipush (-101), 2) := by decide +kernel
theorem dX3_sure_26 : decode cX3_sure 26 = .ok (.ireturn, 1) := by decide +kernel
set_option maxRecDepth 20000 in
theorem ggX3_isEnough_X3_aheadOf : GoodIn wsX3_isEnough wsX3_aheadOf := goodIn_r _ [5, 6, 7, 26, 27, 28, 29, 30, 31, 32, 33, 34, 35, 36, 37, 38, 39, 40, 41, 42, 43, 44, 45, 46, 47, 48, 49, 50, 51, 52, 53, 54] (by decide +kernel) (by decide +kernel)
set_option maxRecDepth 20000 in
theorem gX3_isEnough_X3_aheadOf : GoodIn wsX3_isEnough (wsV RX3 100 RX3 yX3_aheadOf wsX3_aheadOf) := goodIn_app (goodIn_of _ (by decide +kernel)) ggX3_isEnough_X3_aheadOf
set_option maxRecDepth 20000 in
theorem ggX3_isEnough_X3_firstWrong : GoodIn wsX3_isEnough wsX3_firstWrong := goodIn_r _ [11, 12, 13, 14, 4, 15, 16, 17, 18, 19, 20, 21, 22, 23, 24, 25, 26, 27, 28, 29, 30, 31, 32, 33, 34, 35, 36, 37, 38, 39, 40, 41, 42, 43, 44, 45, 46, 47, 48, 49, 50, 51, 52, 53, 54] (by decide +kernel) (by decide +kernel)
set_option maxRecDepth 20000 in
theorem gX3_isEnough_X3_firstWrong : GoodIn wsX3_isEnough (wsV RX3 103 RX3 yX3_firstWrong wsX3_firstWrong) := goodIn_app (goodIn_of _ (by decide +kernel)) ggX3_isEnough_X3_firstWrong
theorem dX3_isEnough_0 : decode cX3_isEnough 0 = .ok (.iconst 0, 1) := by decide +kernel
theorem dX3_isEnough_1 : decode cX3_isEnough 1 = .ok (.istore 4, 2) := by decide +kernel
theorem dX3_isEnough_3 : decode cX3_isEnough 3 = .ok (.iconst 1, 1) := by decide +kernel
theorem dX3_isEnough_4 : decode cX3_isEnough 4 = .ok (.istore 5, 2) := by decide +kernel
theorem dX3_isEnough_6 : decode cX3_isEnough 6 = .ok (.iconst 0, 1) := by decide +kernel
theorem dX3_isEnough_7 : decode cX3_isEnough 7 = .ok (.istore 6, 2) := by decide +kernel
theorem dX3_isEnough_9 : decode cX3_isEnough 9 = .ok (.iload 6, 2) := by decide +kernel
theorem dX3_isEnough_11 : decode cX3_isEnough 11 = .ok (.sipush 128, 3) := by decide +kernel
theorem dX3_isEnough_14 : decode cX3_isEnough 14 = .ok (.if_icmp .ge 50, 3) := by decide +kernel
theorem dX3_isEnough_17 : decode cX3_isEnough 17 = .ok (.aload_n 0, 1) := by decide +kernel
theorem dX3_isEnough_18 : decode cX3_isEnough 18 = .ok (.iload_n 1, 1) := by decide +kernel
theorem dX3_isEnough_19 : decode cX3_isEnough 19 = .ok (.iload 6, 2) := by decide +kernel
theorem dX3_isEnough_21 : decode cX3_isEnough 21 = .ok (.aload_n 0, 1) := by decide +kernel
theorem dX3_isEnough_22 : decode cX3_isEnough 22 = .ok (.iload_n 1, 1) := by decide +kernel
theorem dX3_isEnough_23 : decode cX3_isEnough 23 = .ok (.invokevirtual 100, 3) := by decide +kernel
theorem dX3_isEnough_26 : decode cX3_isEnough 26 = .ok (.iload_n 3, 1) := by decide +kernel
theorem dX3_isEnough_27 : decode cX3_isEnough 27 = .ok (.invokevirtual 103, 3) := by decide +kernel
theorem dX3_isEnough_30 : decode cX3_isEnough 30 = .ok (.bipush 7, 2) := by decide +kernel
theorem dX3_isEnough_32 : decode cX3_isEnough 32 = .ok (.if_icmp .ne 26, 3) := by decide +kernel
theorem dX3_isEnough_35 : decode cX3_isEnough 35 = .ok (.iconst 1, 1) := by decide +kernel
theorem dX3_isEnough_36 : decode cX3_isEnough 36 = .ok (.istore 4, 2) := by decide +kernel
theorem dX3_isEnough_38 : decode cX3_isEnough 38 = .ok (.iload 5, 2) := by decide +kernel
theorem dX3_isEnough_40 : decode cX3_isEnough 40 = .ok (.ifCond .eq 15, 3) := by decide +kernel
theorem dX3_isEnough_43 : decode cX3_isEnough 43 = .ok (.iload 6, 2) := by decide +kernel
theorem dX3_isEnough_45 : decode cX3_isEnough 45 = .ok (.iload_n 2, 1) := by decide +kernel
theorem dX3_isEnough_46 : decode cX3_isEnough 46 = .ok (.iand, 1) := by decide +kernel
theorem dX3_isEnough_47 : decode cX3_isEnough 47 = .ok (.iload_n 2, 1) := by decide +kernel
theorem dX3_isEnough_48 : decode cX3_isEnough 48 = .ok (.if_icmp .ne 7, 3) := by decide +kernel
theorem dX3_isEnough_51 : decode cX3_isEnough 51 = .ok (.iconst 1, 1) := by decide +kernel
theorem dX3_isEnough_52 : decode cX3_isEnough 52 = .ok (.goto 4, 3) := by decide +kernel
theorem dX3_isEnough_55 : decode cX3_isEnough 55 = .ok (.iconst 0, 1) := by decide +kernel
theorem dX3_isEnough_56 : decode cX3_isEnough 56 = .ok (.istore 5, 2) := by decide +kernel
theorem dX3_isEnough_58 : decode cX3_isEnough 58 = .ok (.iinc 6 1, 3) := by decide +kernel
theorem dX3_isEnough_61 : decode cX3_isEnough 61 = .ok (.goto (-52), 3) := by decide +kernel
theorem dX3_isEnough_64 : decode cX3_isEnough 64 = .ok (.iload 4, 2) := by decide +kernel
theorem dX3_isEnough_66 : decode cX3_isEnough 66 = .ok (.ifCond .eq 12, 3) := by decide +kernel
theorem dX3_isEnough_69 : decode cX3_isEnough 69 = .ok (.iload 5, 2) := by decide +kernel
theorem dX3_isEnough_71 : decode cX3_isEnough 71 = .ok (.ifCond .eq 7, 3) := by decide +kernel
theorem dX3_isEnough_74 : decode cX3_isEnough 74 = .ok (.iconst 1, 1) := by decide +kernel
theorem dX3_isEnough_75 : decode cX3_isEnough 75 = .ok (.goto 4, 3) := by decide +kernel
theorem dX3_isEnough_78 : decode cX3_isEnough 78 = .ok (.iconst 0, 1) := by decide +kernel
theorem dX3_isEnough_79 : decode cX3_isEnough 79 = .ok (.ireturn, 1) := by decide +kernel
set_option maxRecDepth 20000 in
theorem ggX3_fewNow_X3_size : GoodIn wsX3_fewNow wsX3_size := goodIn_r _ [4] (by decide +kernel) (by decide +kernel)
set_option maxRecDepth 20000 in
theorem gX3_fewNow_X3_size : GoodIn wsX3_fewNow (va_wsS RX3 141 yX3_size wsX3_size) := goodIn_app (goodIn_of _ (by decide +kernel)) ggX3_fewNow_X3_size
set_option maxRecDepth 20000 in
theorem ggX3_fewNow_X3_isEnough : GoodIn wsX3_fewNow wsX3_isEnough := goodIn_r _ [8, 9, 10, 11, 3, 12, 13, 14, 15, 16, 17, 18, 19, 20, 21, 22, 23, 24, 25, 26, 27, 28, 29, 30, 31, 32, 33, 34, 35, 36, 37, 38, 39, 40, 41, 42, 43, 44, 45, 46, 47, 48, 49, 50, 51, 52, 53, 54, 55, 56, 57, 58, 59, 60, 61] (by decide +kernel) (by decide +kernel)
set_option maxRecDepth 20000 in
theorem gX3_fewNow_X3_isEnough : GoodIn wsX3_fewNow (wsV RX3 144 RX3 yX3_isEnough wsX3_isEnough) := goodIn_app (goodIn_of _ (by decide +kernel)) ggX3_fewNow_X3_isEnough
theorem dX3_fewNow_0 : decode cX3_fewNow 0 = .ok (.iconst (-1), 1) := by decide +kernel
theorem dX3_fewNow_1 : decode cX3_fewNow 1 = .ok (.istore 4, 2) := by decide +kernel
theorem dX3_fewNow_3 : decode cX3_fewNow 3 = .ok (.iconst 0, 1) := by decide +kernel
theorem dX3_fewNow_4 : decode cX3_fewNow 4 = .ok (.istore 5, 2) := by decide +kernel
theorem dX3_fewNow_6 : decode cX3_fewNow 6 = .ok (.iload 5, 2) := by decide +kernel
theorem dX3_fewNow_8 : decode cX3_fewNow 8 = .ok (.sipush 128, 3) := by decide +kernel
theorem dX3_fewNow_11 : decode cX3_fewNow 11 = .ok (.if_icmp .ge 60, 3) := by decide +kernel
theorem dX3_fewNow_14 : decode cX3_fewNow 14 = .ok (.iload 4, 2) := by decide +kernel
theorem dX3_fewNow_16 : decode cX3_fewNow 16 = .ok (.iconst (-1), 1) := by decide +kernel
theorem dX3_fewNow_17 : decode cX3_fewNow 17 = .ok (.if_icmp .eq 16, 3) := by decide +kernel
theorem dX3_fewNow_20 : decode cX3_fewNow 20 = .ok (.iload 5, 2) := by decide +kernel
theorem dX3_fewNow_22 : decode cX3_fewNow 22 = .ok (.invokestatic 141, 3) := by decide +kernel
theorem dX3_fewNow_25 : decode cX3_fewNow 25 = .ok (.iload 4, 2) := by decide +kernel
theorem dX3_fewNow_27 : decode cX3_fewNow 27 = .ok (.invokestatic 141, 3) := by decide +kernel
theorem dX3_fewNow_30 : decode cX3_fewNow 30 = .ok (.if_icmp .ge 7, 3) := by decide +kernel
theorem dX3_fewNow_33 : decode cX3_fewNow 33 = .ok (.iconst 1, 1) := by decide +kernel
theorem dX3_fewNow_34 : decode cX3_fewNow 34 = .ok (.goto 4, 3) := by decide +kernel
theorem dX3_fewNow_37 : decode cX3_fewNow 37 = .ok (.iconst 0, 1) := by decide +kernel
theorem dX3_fewNow_38 : decode cX3_fewNow 38 = .ok (.istore 6, 2) := by decide +kernel
theorem dX3_fewNow_40 : decode cX3_fewNow 40 = .ok (.iload 6, 2) := by decide +kernel
theorem dX3_fewNow_42 : decode cX3_fewNow 42 = .ok (.ifCond .eq 19, 3) := by decide +kernel
theorem dX3_fewNow_45 : decode cX3_fewNow 45 = .ok (.aload_n 0, 1) := by decide +kernel
theorem dX3_fewNow_46 : decode cX3_fewNow 46 = .ok (.iload_n 1, 1) := by decide +kernel
theorem dX3_fewNow_47 : decode cX3_fewNow 47 = .ok (.iload_n 2, 1) := by decide +kernel
theorem dX3_fewNow_48 : decode cX3_fewNow 48 = .ok (.iload 5, 2) := by decide +kernel
theorem dX3_fewNow_50 : decode cX3_fewNow 50 = .ok (.invokevirtual 144, 3) := by decide +kernel
theorem dX3_fewNow_53 : decode cX3_fewNow 53 = .ok (.ifCond .eq 8, 3) := by decide +kernel
theorem dX3_fewNow_56 : decode cX3_fewNow 56 = .ok (.iload 5, 2) := by decide +kernel
theorem dX3_fewNow_58 : decode cX3_fewNow 58 = .ok (.goto 5, 3) := by decide +kernel
theorem dX3_fewNow_61 : decode cX3_fewNow 61 = .ok (.iload 4, 2) := by decide +kernel
theorem dX3_fewNow_63 : decode cX3_fewNow 63 = .ok (.istore 4, 2) := by decide +kernel
theorem dX3_fewNow_65 : decode cX3_fewNow 65 = .ok (.iinc 5 1, 3) := by decide +kernel
theorem dX3_fewNow_68 : decode cX3_fewNow 68 = .ok (.goto (-62), 3) := by decide +kernel
theorem dX3_fewNow_71 : decode cX3_fewNow 71 = .ok (.iload 4, 2) := by decide +kernel
theorem dX3_fewNow_73 : decode cX3_fewNow 73 = .ok (.iconst (-1), 1) := by decide +kernel
theorem dX3_fewNow_74 : decode cX3_fewNow 74 = .ok (.if_icmp .eq 8, 3) := by decide +kernel
theorem dX3_fewNow_77 : decode cX3_fewNow 77 = .ok (.iload_n 3, 1) := by decide +kernel
theorem dX3_fewNow_78 : decode cX3_fewNow 78 = .ok (.iconst 1, 1) := by decide +kernel
theorem dX3_fewNow_79 : decode cX3_fewNow 79 = .ok (.if_icmp .ne 8, 3) := by decide +kernel
theorem dX3_fewNow_82 : decode cX3_fewNow 82 = .ok (.iload 4, 2) := by decide +kernel
theorem dX3_fewNow_84 : decode cX3_fewNow 84 = .ok (.goto 8, 3) := by decide +kernel
theorem dX3_fewNow_87 : decode cX3_fewNow 87 = .ok (.iload 4, 2) := by decide +kernel
theorem dX3_fewNow_89 : decode cX3_fewNow 89 = .ok (.invokestatic 141, 3) := by decide +kernel
theorem dX3_fewNow_92 : decode cX3_fewNow 92 = .ok (.ireturn, 1) := by decide +kernel
set_option maxRecDepth 20000 in
theorem ggX3_few_X3_isDrawer : GoodIn wsX3_few wsX3_isDrawer := goodIn_r _ [6, 7, 8, 9, 5, 10, 46, 47, 48, 49, 50, 51, 52, 53, 54, 55, 56, 57, 58, 59, 60, 61, 62, 63, 64, 65, 66, 67, 68, 69, 70, 71, 72, 73, 74] (by decide +kernel) (by decide +kernel)
set_option maxRecDepth 20000 in
theorem gX3_few_X3_isDrawer : GoodIn wsX3_few (wsV RX3 122 RX3 yX3_isDrawer wsX3_isDrawer) := goodIn_app (goodIn_of _ (by decide +kernel)) ggX3_few_X3_isDrawer
set_option maxRecDepth 20000 in
theorem ggX3_few_X3_within : GoodIn wsX3_few wsX3_within := goodIn_r _ [10] (by decide +kernel) (by decide +kernel)
set_option maxRecDepth 20000 in
theorem gX3_few_X3_within : GoodIn wsX3_few (va_wsS RX3 56 yX3_within wsX3_within) := goodIn_app (goodIn_of _ (by decide +kernel)) ggX3_few_X3_within
set_option maxRecDepth 20000 in
theorem ggX3_few_X3_fewNow : GoodIn wsX3_few wsX3_fewNow := goodIn_r _ [14, 15, 16, 5, 17, 18, 19, 20, 21, 22, 23, 24, 25, 26, 27, 28, 29, 30, 31, 32, 33, 34, 35, 36, 37, 38, 39, 40, 41, 42, 43, 44, 45, 46, 47, 48, 49, 50, 51, 52, 53, 54, 55, 56, 57, 58, 59, 60, 61, 62, 63, 64, 65, 66, 67, 68, 69, 70, 71, 72, 73, 74] (by decide +kernel) (by decide +kernel)
set_option maxRecDepth 20000 in
theorem gX3_few_X3_fewNow : GoodIn wsX3_few (wsV RX3 150 RX3 yX3_fewNow wsX3_fewNow) := goodIn_app (goodIn_of _ (by decide +kernel)) ggX3_few_X3_fewNow
theorem dX3_few_0 : decode cX3_few 0 = .ok (.aload_n 0, 1) := by decide +kernel
theorem dX3_few_1 : decode cX3_few 1 = .ok (.iload_n 1, 1) := by decide +kernel
theorem dX3_few_2 : decode cX3_few 2 = .ok (.invokevirtual 122, 3) := by decide +kernel
theorem dX3_few_5 : decode cX3_few 5 = .ok (.ifCond .ne 6, 3) := by decide +kernel
theorem dX3_few_8 : decode cX3_few 8 = .ok (.bipush (-101), 2) := by decide +kernel
theorem dX3_few_10 : decode cX3_few 10 = .ok (.ireturn, 1) := by decide +kernel
theorem dX3_few_11 : decode cX3_few 11 = .ok (.iload_n 2, 1) := by decide +kernel
theorem dX3_few_12 : decode cX3_few 12 = .ok (.iconst 0, 1) := by decide +kernel
theorem dX3_few_13 : decode cX3_few 13 = .ok (.bipush 127, 2) := by decide +kernel
theorem dX3_few_15 : decode cX3_few 15 = .ok (.invokestatic 56, 3) := by decide +kernel
theorem dX3_few_18 : decode cX3_few 18 = .ok (.ifCond .eq 12, 3) := by decide +kernel
theorem dX3_few_21 : decode cX3_few 21 = .ok (.iload_n 3, 1) := by decide +kernel
theorem dX3_few_22 : decode cX3_few 22 = .ok (.iconst 0, 1) := by decide +kernel
theorem dX3_few_23 : decode cX3_few 23 = .ok (.iconst 1, 1) := by decide +kernel
theorem dX3_few_24 : decode cX3_few 24 = .ok (.invokestatic 56, 3) := by decide +kernel
theorem dX3_few_27 : decode cX3_few 27 = .ok (.ifCond .ne 6, 3) := by decide +kernel
theorem dX3_few_30 : decode cX3_few 30 = .ok (.bipush (-102), 2) := by decide +kernel
theorem dX3_few_32 : decode cX3_few 32 = .ok (.ireturn, 1) := by decide +kernel
theorem dX3_few_33 : decode cX3_few 33 = .ok (.aload_n 0, 1) := by decide +kernel
theorem dX3_few_34 : decode cX3_few 34 = .ok (.getfield 147, 3) := by decide +kernel
theorem dX3_few_37 : decode cX3_few 37 = .ok (.bipush 40, 2) := by decide +kernel
theorem dX3_few_39 : decode cX3_few 39 = .ok (.if_icmp .ne 6, 3) := by decide +kernel
theorem dX3_few_42 : decode cX3_few 42 = .ok (.bipush (-103), 2) := by decide +kernel
theorem dX3_few_44 : decode cX3_few 44 = .ok (.ireturn, 1) := by decide +kernel
theorem dX3_few_45 : decode cX3_few 45 = .ok (.aload_n 0, 1) := by decide +kernel
theorem dX3_few_46 : decode cX3_few 46 = .ok (.dup, 1) := by decide +kernel
theorem dX3_few_47 : decode cX3_few 47 = .ok (.getfield 147, 3) := by decide +kernel
theorem dX3_few_50 : decode cX3_few 50 = .ok (.iconst 1, 1) := by decide +kernel
theorem dX3_few_51 : decode cX3_few 51 = .ok (.iadd, 1) := by decide +kernel
theorem dX3_few_52 : decode cX3_few 52 = .ok (.putfield 147, 3) := by decide +kernel
theorem dX3_few_55 : decode cX3_few 55 = .ok (.aload_n 0, 1) := by decide +kernel
theorem dX3_few_56 : decode cX3_few 56 = .ok (.iload_n 1, 1) := by decide +kernel
theorem dX3_few_57 : decode cX3_few 57 = .ok (.iload_n 2, 1) := by decide +kernel
theorem dX3_few_58 : decode cX3_few 58 = .ok (.iload_n 3, 1) := by decide +kernel
theorem dX3_few_59 : decode cX3_few 59 = .ok (.invokevirtual 150, 3) := by decide +kernel
theorem dX3_few_62 : decode cX3_few 62 = .ok (.ireturn, 1) := by decide +kernel
set_option maxRecDepth 20000 in
theorem ggX3_found_X3_isDrawer : GoodIn wsX3_found wsX3_isDrawer := goodIn_r _ [9, 10, 11, 12, 8, 13, 17, 18, 19, 20, 21, 22, 23, 24, 25, 26, 27, 28, 29, 30, 31, 32, 33, 34, 35, 36, 37, 38, 39, 40, 41, 42, 43, 44, 45] (by decide +kernel) (by decide +kernel)
set_option maxRecDepth 20000 in
theorem gX3_found_X3_isDrawer : GoodIn wsX3_found (wsV RX3 122 RX3 yX3_isDrawer wsX3_isDrawer) := goodIn_app (goodIn_of _ (by decide +kernel)) ggX3_found_X3_isDrawer
set_option maxRecDepth 20000 in
theorem ggX3_found_X3_isDay : GoodIn wsX3_found wsX3_isDay := goodIn_r _ [16, 11, 12, 8, 13] (by decide +kernel) (by decide +kernel)
set_option maxRecDepth 20000 in
theorem gX3_found_X3_isDay : GoodIn wsX3_found (va_wsS RX3 129 yX3_isDay wsX3_isDay) := goodIn_app (goodIn_of _ (by decide +kernel)) ggX3_found_X3_isDay
theorem dX3_found_0 : decode cX3_found 0 = .ok (.aload_n 0, 1) := by decide +kernel
theorem dX3_found_1 : decode cX3_found 1 = .ok (.iload_n 1, 1) := by decide +kernel
theorem dX3_found_2 : decode cX3_found 2 = .ok (.invokevirtual 122, 3) := by decide +kernel
theorem dX3_found_5 : decode cX3_found 5 = .ok (.ifCond .eq 10, 3) := by decide +kernel
theorem dX3_found_8 : decode cX3_found 8 = .ok (.iload_n 2, 1) := by decide +kernel
theorem dX3_found_9 : decode cX3_found 9 = .ok (.invokestatic 129, 3) := by decide +kernel
theorem dX3_found_12 : decode cX3_found 12 = .ok (.ifCond .ne 6, 3) := by decide +kernel
theorem dX3_found_15 : decode cX3_found 15 = .ok (.bipush (-101), 2) := by decide +kernel
theorem dX3_found_17 : decode cX3_found 17 = .ok (.ireturn, 1) := by decide +kernel
theorem dX3_found_18 : decode cX3_found 18 = .ok (.aload_n 0, 1) := by decide +kernel
theorem dX3_found_19 : decode cX3_found 19 = .ok (.getfield 85, 3) := by decide +kernel
theorem dX3_found_22 : decode cX3_found 22 = .ok (.bipush 8, 2) := by decide +kernel
theorem dX3_found_24 : decode cX3_found 24 = .ok (.if_icmp .ne 6, 3) := by decide +kernel
theorem dX3_found_27 : decode cX3_found 27 = .ok (.bipush (-104), 2) := by decide +kernel
theorem dX3_found_29 : decode cX3_found 29 = .ok (.ireturn, 1) := by decide +kernel
theorem dX3_found_30 : decode cX3_found 30 = .ok (.aload_n 0, 1) := by decide +kernel
theorem dX3_found_31 : decode cX3_found 31 = .ok (.getfield 25, 3) := by decide +kernel
theorem dX3_found_34 : decode cX3_found 34 = .ok (.aload_n 0, 1) := by decide +kernel
theorem dX3_found_35 : decode cX3_found 35 = .ok (.getfield 85, 3) := by decide +kernel
theorem dX3_found_38 : decode cX3_found 38 = .ok (.iload_n 1, 1) := by decide +kernel
theorem dX3_found_39 : decode cX3_found 39 = .ok (.iastore, 1) := by decide +kernel
theorem dX3_found_40 : decode cX3_found 40 = .ok (.aload_n 0, 1) := by decide +kernel
theorem dX3_found_41 : decode cX3_found 41 = .ok (.getfield 28, 3) := by decide +kernel
theorem dX3_found_44 : decode cX3_found 44 = .ok (.aload_n 0, 1) := by decide +kernel
theorem dX3_found_45 : decode cX3_found 45 = .ok (.getfield 85, 3) := by decide +kernel
theorem dX3_found_48 : decode cX3_found 48 = .ok (.iload_n 2, 1) := by decide +kernel
theorem dX3_found_49 : decode cX3_found 49 = .ok (.iastore, 1) := by decide +kernel
theorem dX3_found_50 : decode cX3_found 50 = .ok (.aload_n 0, 1) := by decide +kernel
theorem dX3_found_51 : decode cX3_found 51 = .ok (.getfield 31, 3) := by decide +kernel
theorem dX3_found_54 : decode cX3_found 54 = .ok (.aload_n 0, 1) := by decide +kernel
theorem dX3_found_55 : decode cX3_found 55 = .ok (.getfield 85, 3) := by decide +kernel
theorem dX3_found_58 : decode cX3_found 58 = .ok (.iload_n 3, 1) := by decide +kernel
theorem dX3_found_59 : decode cX3_found 59 = .ok (.ifCond .eq 7, 3) := by decide +kernel
theorem dX3_found_62 : decode cX3_found 62 = .ok (.iconst 1, 1) := by decide +kernel
theorem dX3_found_63 : decode cX3_found 63 = .ok (.goto 4, 3) := by decide +kernel
theorem dX3_found_66 : decode cX3_found 66 = .ok (.iconst 0, 1) := by decide +kernel
theorem dX3_found_67 : decode cX3_found 67 = .ok (.iastore, 1) := by decide +kernel
theorem dX3_found_68 : decode cX3_found 68 = .ok (.aload_n 0, 1) := by decide +kernel
theorem dX3_found_69 : decode cX3_found 69 = .ok (.dup, 1) := by decide +kernel
theorem dX3_found_70 : decode cX3_found 70 = .ok (.getfield 85, 3) := by decide +kernel
theorem dX3_found_73 : decode cX3_found 73 = .ok (.iconst 1, 1) := by decide +kernel
theorem dX3_found_74 : decode cX3_found 74 = .ok (.iadd, 1) := by decide +kernel
theorem dX3_found_75 : decode cX3_found 75 = .ok (.putfield 85, 3) := by decide +kernel
theorem dX3_found_78 : decode cX3_found 78 = .ok (.aload_n 0, 1) := by decide +kernel
theorem dX3_found_79 : decode cX3_found 79 = .ok (.getfield 85, 3) := by decide +kernel
theorem dX3_found_82 : decode cX3_found 82 = .ok (.ireturn, 1) := by decide +kernel
theorem dX3_forget_0 : decode cX3_forget 0 = .ok (.aload_n 0, 1) := by decide +kernel
theorem dX3_forget_1 : decode cX3_forget 1 = .ok (.getfield 85, 3) := by decide +kernel
theorem dX3_forget_4 : decode cX3_forget 4 = .ok (.istore_n 1, 1) := by decide +kernel
theorem dX3_forget_5 : decode cX3_forget 5 = .ok (.aload_n 0, 1) := by decide +kernel
theorem dX3_forget_6 : decode cX3_forget 6 = .ok (.iconst 0, 1) := by decide +kernel
theorem dX3_forget_7 : decode cX3_forget 7 = .ok (.putfield 85, 3) := by decide +kernel
theorem dX3_forget_10 : decode cX3_forget 10 = .ok (.iload_n 1, 1) := by decide +kernel
theorem dX3_forget_11 : decode cX3_forget 11 = .ok (.ireturn, 1) := by decide +kernel
theorem dX3_isFound_0 : decode cX3_isFound 0 = .ok (.iconst 1, 1) := by decide +kernel
theorem dX3_isFound_1 : decode cX3_isFound 1 = .ok (.istore_n 3, 1) := by decide +kernel
theorem dX3_isFound_2 : decode cX3_isFound 2 = .ok (.iconst 0, 1) := by decide +kernel
theorem dX3_isFound_3 : decode cX3_isFound 3 = .ok (.istore 4, 2) := by decide +kernel
theorem dX3_isFound_5 : decode cX3_isFound 5 = .ok (.iload 4, 2) := by decide +kernel
theorem dX3_isFound_7 : decode cX3_isFound 7 = .ok (.aload_n 0, 1) := by decide +kernel
theorem dX3_isFound_8 : decode cX3_isFound 8 = .ok (.getfield 85, 3) := by decide +kernel
theorem dX3_isFound_11 : decode cX3_isFound 11 = .ok (.if_icmp .ge 51, 3) := by decide +kernel
theorem dX3_isFound_14 : decode cX3_isFound 14 = .ok (.iload_n 3, 1) := by decide +kernel
theorem dX3_isFound_15 : decode cX3_isFound 15 = .ok (.ifCond .eq 39, 3) := by decide +kernel
theorem dX3_isFound_18 : decode cX3_isFound 18 = .ok (.aload_n 0, 1) := by decide +kernel
theorem dX3_isFound_19 : decode cX3_isFound 19 = .ok (.getfield 25, 3) := by decide +kernel
theorem dX3_isFound_22 : decode cX3_isFound 22 = .ok (.iload 4, 2) := by decide +kernel
theorem dX3_isFound_24 : decode cX3_isFound 24 = .ok (.iaload, 1) := by decide +kernel
theorem dX3_isFound_25 : decode cX3_isFound 25 = .ok (.iload_n 1, 1) := by decide +kernel
theorem dX3_isFound_26 : decode cX3_isFound 26 = .ok (.if_icmp .ne 24, 3) := by decide +kernel
theorem dX3_isFound_29 : decode cX3_isFound 29 = .ok (.iload_n 2, 1) := by decide +kernel
theorem dX3_isFound_30 : decode cX3_isFound 30 = .ok (.aload_n 0, 1) := by decide +kernel
theorem dX3_isFound_31 : decode cX3_isFound 31 = .ok (.getfield 28, 3) := by decide +kernel
theorem dX3_isFound_34 : decode cX3_isFound 34 = .ok (.iload 4, 2) := by decide +kernel
theorem dX3_isFound_36 : decode cX3_isFound 36 = .ok (.iaload, 1) := by decide +kernel
theorem dX3_isFound_37 : decode cX3_isFound 37 = .ok (.ishr, 1) := by decide +kernel
theorem dX3_isFound_38 : decode cX3_isFound 38 = .ok (.iconst 1, 1) := by decide +kernel
theorem dX3_isFound_39 : decode cX3_isFound 39 = .ok (.iand, 1) := by decide +kernel
theorem dX3_isFound_40 : decode cX3_isFound 40 = .ok (.aload_n 0, 1) := by decide +kernel
theorem dX3_isFound_41 : decode cX3_isFound 41 = .ok (.getfield 31, 3) := by decide +kernel
theorem dX3_isFound_44 : decode cX3_isFound 44 = .ok (.iload 4, 2) := by decide +kernel
theorem dX3_isFound_46 : decode cX3_isFound 46 = .ok (.iaload, 1) := by decide +kernel
theorem dX3_isFound_47 : decode cX3_isFound 47 = .ok (.if_icmp .ne 7, 3) := by decide +kernel
theorem dX3_isFound_50 : decode cX3_isFound 50 = .ok (.iconst 1, 1) := by decide +kernel
theorem dX3_isFound_51 : decode cX3_isFound 51 = .ok (.goto 4, 3) := by decide +kernel
theorem dX3_isFound_54 : decode cX3_isFound 54 = .ok (.iconst 0, 1) := by decide +kernel
theorem dX3_isFound_55 : decode cX3_isFound 55 = .ok (.istore_n 3, 1) := by decide +kernel
theorem dX3_isFound_56 : decode cX3_isFound 56 = .ok (.iinc 4 1, 3) := by decide +kernel
theorem dX3_isFound_59 : decode cX3_isFound 59 = .ok (.goto (-54), 3) := by decide +kernel
theorem dX3_isFound_62 : decode cX3_isFound 62 = .ok (.iload_n 3, 1) := by decide +kernel
theorem dX3_isFound_63 : decode cX3_isFound 63 = .ok (.ireturn, 1) := by decide +kernel
set_option maxRecDepth 20000 in
theorem ggX3_anyBy_X3_isFound : GoodIn wsX3_anyBy wsX3_isFound := goodIn_r _ [6, 7, 8, 9, 10, 29, 30, 31, 32, 33, 34, 35, 36, 37, 38, 39, 40, 41, 42, 43, 44, 45, 46, 47, 48, 49, 50, 51, 52, 53, 54, 55, 56, 57] (by decide +kernel) (by decide +kernel)
set_option maxRecDepth 20000 in
theorem gX3_anyBy_X3_isFound : GoodIn wsX3_anyBy (wsV RX3 154 RX3 yX3_isFound wsX3_isFound) := goodIn_app (goodIn_of _ (by decide +kernel)) ggX3_anyBy_X3_isFound
set_option maxRecDepth 20000 in
theorem ggX3_anyBy_X3_firstWrong : GoodIn wsX3_anyBy wsX3_firstWrong := goodIn_r _ [14, 15, 16, 17, 5, 18, 19, 20, 21, 22, 23, 24, 25, 26, 27, 28, 29, 30, 31, 32, 33, 34, 35, 36, 37, 38, 39, 40, 41, 42, 43, 44, 45, 46, 47, 48, 49, 50, 51, 52, 53, 54, 55, 56, 57] (by decide +kernel) (by decide +kernel)
set_option maxRecDepth 20000 in
theorem gX3_anyBy_X3_firstWrong : GoodIn wsX3_anyBy (wsV RX3 103 RX3 yX3_firstWrong wsX3_firstWrong) := goodIn_app (goodIn_of _ (by decide +kernel)) ggX3_anyBy_X3_firstWrong
theorem dX3_anyBy_0 : decode cX3_anyBy 0 = .ok (.iconst 0, 1) := by decide +kernel
theorem dX3_anyBy_1 : decode cX3_anyBy 1 = .ok (.istore_n 3, 1) := by decide +kernel
theorem dX3_anyBy_2 : decode cX3_anyBy 2 = .ok (.iconst 0, 1) := by decide +kernel
theorem dX3_anyBy_3 : decode cX3_anyBy 3 = .ok (.istore 4, 2) := by decide +kernel
theorem dX3_anyBy_5 : decode cX3_anyBy 5 = .ok (.iload 4, 2) := by decide +kernel
theorem dX3_anyBy_7 : decode cX3_anyBy 7 = .ok (.sipush 128, 3) := by decide +kernel
theorem dX3_anyBy_10 : decode cX3_anyBy 10 = .ok (.if_icmp .ge 48, 3) := by decide +kernel
theorem dX3_anyBy_13 : decode cX3_anyBy 13 = .ok (.iload_n 3, 1) := by decide +kernel
theorem dX3_anyBy_14 : decode cX3_anyBy 14 = .ok (.ifCond .ne 44, 3) := by decide +kernel
theorem dX3_anyBy_17 : decode cX3_anyBy 17 = .ok (.aload_n 0, 1) := by decide +kernel
theorem dX3_anyBy_18 : decode cX3_anyBy 18 = .ok (.iload_n 1, 1) := by decide +kernel
theorem dX3_anyBy_19 : decode cX3_anyBy 19 = .ok (.iload 4, 2) := by decide +kernel
theorem dX3_anyBy_21 : decode cX3_anyBy 21 = .ok (.invokevirtual 154, 3) := by decide +kernel
theorem dX3_anyBy_24 : decode cX3_anyBy 24 = .ok (.ifCond .eq 26, 3) := by decide +kernel
theorem dX3_anyBy_27 : decode cX3_anyBy 27 = .ok (.aload_n 0, 1) := by decide +kernel
theorem dX3_anyBy_28 : decode cX3_anyBy 28 = .ok (.iload_n 1, 1) := by decide +kernel
theorem dX3_anyBy_29 : decode cX3_anyBy 29 = .ok (.iload 4, 2) := by decide +kernel
theorem dX3_anyBy_31 : decode cX3_anyBy 31 = .ok (.iload_n 2, 1) := by decide +kernel
theorem dX3_anyBy_32 : decode cX3_anyBy 32 = .ok (.aload_n 0, 1) := by decide +kernel
theorem dX3_anyBy_33 : decode cX3_anyBy 33 = .ok (.getfield 13, 3) := by decide +kernel
theorem dX3_anyBy_36 : decode cX3_anyBy 36 = .ok (.iload_n 1, 1) := by decide +kernel
theorem dX3_anyBy_37 : decode cX3_anyBy 37 = .ok (.iaload, 1) := by decide +kernel
theorem dX3_anyBy_38 : decode cX3_anyBy 38 = .ok (.invokevirtual 103, 3) := by decide +kernel
theorem dX3_anyBy_41 : decode cX3_anyBy 41 = .ok (.bipush 7, 2) := by decide +kernel
theorem dX3_anyBy_43 : decode cX3_anyBy 43 = .ok (.if_icmp .ne 7, 3) := by decide +kernel
theorem dX3_anyBy_46 : decode cX3_anyBy 46 = .ok (.iconst 1, 1) := by decide +kernel
theorem dX3_anyBy_47 : decode cX3_anyBy 47 = .ok (.goto 4, 3) := by decide +kernel
theorem dX3_anyBy_50 : decode cX3_anyBy 50 = .ok (.iconst 0, 1) := by decide +kernel
theorem dX3_anyBy_51 : decode cX3_anyBy 51 = .ok (.istore_n 3, 1) := by decide +kernel
theorem dX3_anyBy_52 : decode cX3_anyBy 52 = .ok (.iinc 4 1, 3) := by decide +kernel
theorem dX3_anyBy_55 : decode cX3_anyBy 55 = .ok (.goto (-50), 3) := by decide +kernel
theorem dX3_anyBy_58 : decode cX3_anyBy 58 = .ok (.iload_n 3, 1) := by decide +kernel
theorem dX3_anyBy_59 : decode cX3_anyBy 59 = .ok (.ireturn, 1) := by decide +kernel
set_option maxRecDepth 20000 in
theorem ggX3_delaysOf_X3_anyBy : GoodIn wsX3_delaysOf wsX3_anyBy := goodIn_r _ [5, 6, 7, 8, 9, 4, 10, 11, 12, 13, 14, 15, 16, 17, 18, 19, 20, 21, 22, 23, 24, 25, 26, 27, 28, 29, 30, 31, 32, 33, 34, 35, 36, 37, 38, 39, 40, 41, 42, 43, 44, 45, 46, 47, 48, 49, 50, 51, 52, 53, 54, 55, 56, 57, 58, 59, 60, 61] (by decide +kernel) (by decide +kernel)
set_option maxRecDepth 20000 in
theorem gX3_delaysOf_X3_anyBy : GoodIn wsX3_delaysOf (wsV RX3 157 RX3 yX3_anyBy wsX3_anyBy) := goodIn_app (goodIn_of _ (by decide +kernel)) ggX3_delaysOf_X3_anyBy
theorem dX3_delaysOf_0 : decode cX3_delaysOf 0 = .ok (.iconst 0, 1) := by decide +kernel
theorem dX3_delaysOf_1 : decode cX3_delaysOf 1 = .ok (.istore_n 2, 1) := by decide +kernel
theorem dX3_delaysOf_2 : decode cX3_delaysOf 2 = .ok (.bipush (-3), 2) := by decide +kernel
theorem dX3_delaysOf_4 : decode cX3_delaysOf 4 = .ok (.istore_n 3, 1) := by decide +kernel
theorem dX3_delaysOf_5 : decode cX3_delaysOf 5 = .ok (.iload_n 3, 1) := by decide +kernel
theorem dX3_delaysOf_6 : decode cX3_delaysOf 6 = .ok (.iconst 4, 1) := by decide +kernel
theorem dX3_delaysOf_7 : decode cX3_delaysOf 7 = .ok (.if_icmp .gt 31, 3) := by decide +kernel
theorem dX3_delaysOf_10 : decode cX3_delaysOf 10 = .ok (.iload_n 2, 1) := by decide +kernel
theorem dX3_delaysOf_11 : decode cX3_delaysOf 11 = .ok (.aload_n 0, 1) := by decide +kernel
theorem dX3_delaysOf_12 : decode cX3_delaysOf 12 = .ok (.iload_n 1, 1) := by decide +kernel
theorem dX3_delaysOf_13 : decode cX3_delaysOf 13 = .ok (.iload_n 3, 1) := by decide +kernel
theorem dX3_delaysOf_14 : decode cX3_delaysOf 14 = .ok (.invokevirtual 157, 3) := by decide +kernel
theorem dX3_delaysOf_17 : decode cX3_delaysOf 17 = .ok (.ifCond .eq 12, 3) := by decide +kernel
theorem dX3_delaysOf_20 : decode cX3_delaysOf 20 = .ok (.iconst 1, 1) := by decide +kernel
theorem dX3_delaysOf_21 : decode cX3_delaysOf 21 = .ok (.iload_n 3, 1) := by decide +kernel
theorem dX3_delaysOf_22 : decode cX3_delaysOf 22 = .ok (.bipush (-3), 2) := by decide +kernel
theorem dX3_delaysOf_24 : decode cX3_delaysOf 24 = .ok (.isub, 1) := by decide +kernel
theorem dX3_delaysOf_25 : decode cX3_delaysOf 25 = .ok (.ishl, 1) := by decide +kernel
theorem dX3_delaysOf_26 : decode cX3_delaysOf 26 = .ok (.goto 4, 3) := by decide +kernel
theorem dX3_delaysOf_29 : decode cX3_delaysOf 29 = .ok (.iconst 0, 1) := by decide +kernel
theorem dX3_delaysOf_30 : decode cX3_delaysOf 30 = .ok (.ior, 1) := by decide +kernel
theorem dX3_delaysOf_31 : decode cX3_delaysOf 31 = .ok (.istore_n 2, 1) := by decide +kernel
theorem dX3_delaysOf_32 : decode cX3_delaysOf 32 = .ok (.iinc 3 1, 3) := by decide +kernel
theorem dX3_delaysOf_35 : decode cX3_delaysOf 35 = .ok (.goto (-30), 3) := by decide +kernel
theorem dX3_delaysOf_38 : decode cX3_delaysOf 38 = .ok (.iload_n 2, 1) := by decide +kernel
theorem dX3_delaysOf_39 : decode cX3_delaysOf 39 = .ok (.ireturn, 1) := by decide +kernel
set_option maxRecDepth 20000 in
theorem ggX3_delays_X3_isDrawer : GoodIn wsX3_delays wsX3_isDrawer := goodIn_r _ [5, 6, 7, 8, 4, 9, 45, 46, 47, 48, 49, 50, 51, 52, 53, 54, 55, 56, 57, 58, 59, 60, 61, 62, 63, 64, 65, 66, 67, 68, 69, 70, 71, 72, 73] (by decide +kernel) (by decide +kernel)
set_option maxRecDepth 20000 in
theorem gX3_delays_X3_isDrawer : GoodIn wsX3_delays (wsV RX3 122 RX3 yX3_isDrawer wsX3_isDrawer) := goodIn_app (goodIn_of _ (by decide +kernel)) ggX3_delays_X3_isDrawer
set_option maxRecDepth 20000 in
theorem ggX3_delays_X3_delaysOf : GoodIn wsX3_delays wsX3_delaysOf := goodIn_r _ [13, 14, 15, 16, 4, 17, 18, 19, 20, 21, 22, 23, 24, 25, 26, 27, 28, 29, 30, 31, 32, 33, 34, 35, 36, 37, 38, 39, 40, 41, 42, 43, 44, 45, 46, 47, 48, 49, 50, 51, 52, 53, 54, 55, 56, 57, 58, 59, 60, 61, 62, 63, 64, 65, 66, 67, 68, 69, 70, 71, 72, 73] (by decide +kernel) (by decide +kernel)
set_option maxRecDepth 20000 in
theorem gX3_delays_X3_delaysOf : GoodIn wsX3_delays (wsV RX3 160 RX3 yX3_delaysOf wsX3_delaysOf) := goodIn_app (goodIn_of _ (by decide +kernel)) ggX3_delays_X3_delaysOf
theorem dX3_delays_0 : decode cX3_delays 0 = .ok (.aload_n 0, 1) := by decide +kernel
theorem dX3_delays_1 : decode cX3_delays 1 = .ok (.iload_n 1, 1) := by decide +kernel
theorem dX3_delays_2 : decode cX3_delays 2 = .ok (.invokevirtual 122, 3) := by decide +kernel
theorem dX3_delays_5 : decode cX3_delays 5 = .ok (.ifCond .eq 11, 3) := by decide +kernel
theorem dX3_delays_8 : decode cX3_delays 8 = .ok (.aload_n 0, 1) := by decide +kernel
theorem dX3_delays_9 : decode cX3_delays 9 = .ok (.iload_n 1, 1) := by decide +kernel
theorem dX3_delays_10 : decode cX3_delays 10 = .ok (.invokevirtual 160, 3) := by decide +kernel
theorem dX3_delays_13 : decode cX3_delays 13 = .ok (.goto 5, 3) := by decide +kernel
theorem dX3_delays_16 : decode cX3_delays 16 = .ok (.bipush (-101), 2) := by decide +kernel
theorem dX3_delays_18 : decode cX3_delays 18 = .ok (.ireturn, 1) := by decide +kernel
set_option maxRecDepth 20000 in
theorem ggX3_whoNow_X3_aheadOf : GoodIn wsX3_whoNow wsX3_aheadOf := goodIn_r _ [8, 9, 10, 39, 40, 41, 42, 43, 44, 45, 46, 47, 48, 49, 50, 51, 52, 53, 54, 55, 56, 57, 58, 59, 60, 61, 62, 63, 64, 65, 66, 67] (by decide +kernel) (by decide +kernel)
set_option maxRecDepth 20000 in
theorem gX3_whoNow_X3_aheadOf : GoodIn wsX3_whoNow (wsV RX3 100 RX3 yX3_aheadOf wsX3_aheadOf) := goodIn_app (goodIn_of _ (by decide +kernel)) ggX3_whoNow_X3_aheadOf
set_option maxRecDepth 20000 in
theorem ggX3_whoNow_X3_anyBy : GoodIn wsX3_whoNow wsX3_anyBy := goodIn_r _ [14, 15, 16, 17, 18, 7, 19, 20, 21, 22, 23, 24, 25, 26, 27, 28, 29, 30, 31, 32, 3, 1, 2, 33, 34, 35, 36, 37, 38, 39, 40, 41, 42, 43, 44, 45, 46, 47, 48, 49, 50, 51, 52, 53, 54, 55, 56, 57, 58, 59, 60, 61, 62, 63, 64, 65, 66, 67] (by decide +kernel) (by decide +kernel)
set_option maxRecDepth 20000 in
theorem gX3_whoNow_X3_anyBy : GoodIn wsX3_whoNow (wsV RX3 157 RX3 yX3_anyBy wsX3_anyBy) := goodIn_app (goodIn_of _ (by decide +kernel)) ggX3_whoNow_X3_anyBy
theorem dX3_whoNow_0 : decode cX3_whoNow 0 = .ok (.aload_n 0, 1) := by decide +kernel
theorem dX3_whoNow_1 : decode cX3_whoNow 1 = .ok (.getfield 16, 3) := by decide +kernel
theorem dX3_whoNow_4 : decode cX3_whoNow 4 = .ok (.iload_n 1, 1) := by decide +kernel
theorem dX3_whoNow_5 : decode cX3_whoNow 5 = .ok (.iaload, 1) := by decide +kernel
theorem dX3_whoNow_6 : decode cX3_whoNow 6 = .ok (.istore_n 3, 1) := by decide +kernel
theorem dX3_whoNow_7 : decode cX3_whoNow 7 = .ok (.aload_n 0, 1) := by decide +kernel
theorem dX3_whoNow_8 : decode cX3_whoNow 8 = .ok (.getfield 22, 3) := by decide +kernel
theorem dX3_whoNow_11 : decode cX3_whoNow 11 = .ok (.iload_n 1, 1) := by decide +kernel
theorem dX3_whoNow_12 : decode cX3_whoNow 12 = .ok (.iaload, 1) := by decide +kernel
theorem dX3_whoNow_13 : decode cX3_whoNow 13 = .ok (.istore 4, 2) := by decide +kernel
theorem dX3_whoNow_15 : decode cX3_whoNow 15 = .ok (.iconst 0, 1) := by decide +kernel
theorem dX3_whoNow_16 : decode cX3_whoNow 16 = .ok (.istore 5, 2) := by decide +kernel
theorem dX3_whoNow_18 : decode cX3_whoNow 18 = .ok (.iconst (-1), 1) := by decide +kernel
theorem dX3_whoNow_19 : decode cX3_whoNow 19 = .ok (.istore 6, 2) := by decide +kernel
theorem dX3_whoNow_21 : decode cX3_whoNow 21 = .ok (.bipush 34, 2) := by decide +kernel
theorem dX3_whoNow_23 : decode cX3_whoNow 23 = .ok (.istore 7, 2) := by decide +kernel
theorem dX3_whoNow_25 : decode cX3_whoNow 25 = .ok (.iload 7, 2) := by decide +kernel
theorem dX3_whoNow_27 : decode cX3_whoNow 27 = .ok (.ifCond .lt 82, 3) := by decide +kernel
theorem dX3_whoNow_30 : decode cX3_whoNow 30 = .ok (.aload_n 0, 1) := by decide +kernel
theorem dX3_whoNow_31 : decode cX3_whoNow 31 = .ok (.getfield 16, 3) := by decide +kernel
theorem dX3_whoNow_34 : decode cX3_whoNow 34 = .ok (.iload_n 1, 1) := by decide +kernel
theorem dX3_whoNow_35 : decode cX3_whoNow 35 = .ok (.iload 7, 2) := by decide +kernel
theorem dX3_whoNow_37 : decode cX3_whoNow 37 = .ok (.bipush 7, 2) := by decide +kernel
theorem dX3_whoNow_39 : decode cX3_whoNow 39 = .ok (.idiv, 1) := by decide +kernel
theorem dX3_whoNow_40 : decode cX3_whoNow 40 = .ok (.iastore, 1) := by decide +kernel
theorem dX3_whoNow_41 : decode cX3_whoNow 41 = .ok (.aload_n 0, 1) := by decide +kernel
theorem dX3_whoNow_42 : decode cX3_whoNow 42 = .ok (.getfield 22, 3) := by decide +kernel
theorem dX3_whoNow_45 : decode cX3_whoNow 45 = .ok (.iload_n 1, 1) := by decide +kernel
theorem dX3_whoNow_46 : decode cX3_whoNow 46 = .ok (.iload 7, 2) := by decide +kernel
theorem dX3_whoNow_48 : decode cX3_whoNow 48 = .ok (.bipush 7, 2) := by decide +kernel
theorem dX3_whoNow_50 : decode cX3_whoNow 50 = .ok (.irem, 1) := by decide +kernel
theorem dX3_whoNow_51 : decode cX3_whoNow 51 = .ok (.iastore, 1) := by decide +kernel
theorem dX3_whoNow_52 : decode cX3_whoNow 52 = .ok (.aload_n 0, 1) := by decide +kernel
theorem dX3_whoNow_53 : decode cX3_whoNow 53 = .ok (.aload_n 0, 1) := by decide +kernel
theorem dX3_whoNow_54 : decode cX3_whoNow 54 = .ok (.getfield 19, 3) := by decide +kernel
theorem dX3_whoNow_57 : decode cX3_whoNow 57 = .ok (.iload_n 1, 1) := by decide +kernel
theorem dX3_whoNow_58 : decode cX3_whoNow 58 = .ok (.iaload, 1) := by decide +kernel
theorem dX3_whoNow_59 : decode cX3_whoNow 59 = .ok (.aload_n 0, 1) := by decide +kernel
theorem dX3_whoNow_60 : decode cX3_whoNow 60 = .ok (.aload_n 0, 1) := by decide +kernel
theorem dX3_whoNow_61 : decode cX3_whoNow 61 = .ok (.getfield 19, 3) := by decide +kernel
theorem dX3_whoNow_64 : decode cX3_whoNow 64 = .ok (.iload_n 1, 1) := by decide +kernel
theorem dX3_whoNow_65 : decode cX3_whoNow 65 = .ok (.iaload, 1) := by decide +kernel
theorem dX3_whoNow_66 : decode cX3_whoNow 66 = .ok (.invokevirtual 100, 3) := by decide +kernel
theorem dX3_whoNow_69 : decode cX3_whoNow 69 = .ok (.invokevirtual 157, 3) := by decide +kernel
theorem dX3_whoNow_72 : decode cX3_whoNow 72 = .ok (.istore 8, 2) := by decide +kernel
theorem dX3_whoNow_74 : decode cX3_whoNow 74 = .ok (.iload 5, 2) := by decide +kernel
theorem dX3_whoNow_76 : decode cX3_whoNow 76 = .ok (.iload 8, 2) := by decide +kernel
theorem dX3_whoNow_78 : decode cX3_whoNow 78 = .ok (.ifCond .eq 7, 3) := by decide +kernel
theorem dX3_whoNow_81 : decode cX3_whoNow 81 = .ok (.iconst 1, 1) := by decide +kernel
theorem dX3_whoNow_82 : decode cX3_whoNow 82 = .ok (.goto 4, 3) := by decide +kernel
theorem dX3_whoNow_85 : decode cX3_whoNow 85 = .ok (.iconst 0, 1) := by decide +kernel
theorem dX3_whoNow_86 : decode cX3_whoNow 86 = .ok (.iadd, 1) := by decide +kernel
theorem dX3_whoNow_87 : decode cX3_whoNow 87 = .ok (.istore 5, 2) := by decide +kernel
theorem dX3_whoNow_89 : decode cX3_whoNow 89 = .ok (.iload 8, 2) := by decide +kernel
theorem dX3_whoNow_91 : decode cX3_whoNow 91 = .ok (.ifCond .eq 8, 3) := by decide +kernel
theorem dX3_whoNow_94 : decode cX3_whoNow 94 = .ok (.iload 7, 2) := by decide +kernel
theorem dX3_whoNow_96 : decode cX3_whoNow 96 = .ok (.goto 5, 3) := by decide +kernel
theorem dX3_whoNow_99 : decode cX3_whoNow 99 = .ok (.iload 6, 2) := by decide +kernel
theorem dX3_whoNow_101 : decode cX3_whoNow 101 = .ok (.istore 6, 2) := by decide +kernel
theorem dX3_whoNow_103 : decode cX3_whoNow 103 = .ok (.iinc 7 (-1), 3) := by decide +kernel
theorem dX3_whoNow_106 : decode cX3_whoNow 106 = .ok (.goto (-81), 3) := by decide +kernel
theorem dX3_whoNow_109 : decode cX3_whoNow 109 = .ok (.aload_n 0, 1) := by decide +kernel
theorem dX3_whoNow_110 : decode cX3_whoNow 110 = .ok (.getfield 16, 3) := by decide +kernel
theorem dX3_whoNow_113 : decode cX3_whoNow 113 = .ok (.iload_n 1, 1) := by decide +kernel
theorem dX3_whoNow_114 : decode cX3_whoNow 114 = .ok (.iload_n 3, 1) := by decide +kernel
theorem dX3_whoNow_115 : decode cX3_whoNow 115 = .ok (.iastore, 1) := by decide +kernel
theorem dX3_whoNow_116 : decode cX3_whoNow 116 = .ok (.aload_n 0, 1) := by decide +kernel
theorem dX3_whoNow_117 : decode cX3_whoNow 117 = .ok (.getfield 22, 3) := by decide +kernel
theorem dX3_whoNow_120 : decode cX3_whoNow 120 = .ok (.iload_n 1, 1) := by decide +kernel
theorem dX3_whoNow_121 : decode cX3_whoNow 121 = .ok (.iload 4, 2) := by decide +kernel
theorem dX3_whoNow_123 : decode cX3_whoNow 123 = .ok (.iastore, 1) := by decide +kernel
theorem dX3_whoNow_124 : decode cX3_whoNow 124 = .ok (.iload_n 2, 1) := by decide +kernel
theorem dX3_whoNow_125 : decode cX3_whoNow 125 = .ok (.ifCond .ne 8, 3) := by decide +kernel
theorem dX3_whoNow_128 : decode cX3_whoNow 128 = .ok (.iload 5, 2) := by decide +kernel
theorem dX3_whoNow_130 : decode cX3_whoNow 130 = .ok (.goto 5, 3) := by decide +kernel
theorem dX3_whoNow_133 : decode cX3_whoNow 133 = .ok (.iload 6, 2) := by decide +kernel
theorem dX3_whoNow_135 : decode cX3_whoNow 135 = .ok (.ireturn, 1) := by decide +kernel
set_option maxRecDepth 20000 in
theorem ggX3_who_X3_isPerson : GoodIn wsX3_who wsX3_isPerson := goodIn_r _ [5, 6, 7, 8, 4, 9, 50, 51, 52, 53, 54, 55, 56, 57, 58, 59, 60, 61, 62, 63, 64, 65, 66, 67, 68, 69, 70, 71, 72, 73, 74, 75, 76, 77, 78] (by decide +kernel) (by decide +kernel)
set_option maxRecDepth 20000 in
theorem gX3_who_X3_isPerson : GoodIn wsX3_who (wsV RX3 132 RX3 yX3_isPerson wsX3_isPerson) := goodIn_app (goodIn_of _ (by decide +kernel)) ggX3_who_X3_isPerson
set_option maxRecDepth 20000 in
theorem ggX3_who_X3_within : GoodIn wsX3_who wsX3_within := goodIn_r _ [9] (by decide +kernel) (by decide +kernel)
set_option maxRecDepth 20000 in
theorem gX3_who_X3_within : GoodIn wsX3_who (va_wsS RX3 56 yX3_within wsX3_within) := goodIn_app (goodIn_of _ (by decide +kernel)) ggX3_who_X3_within
set_option maxRecDepth 20000 in
theorem ggX3_who_X3_whoNow : GoodIn wsX3_who wsX3_whoNow := goodIn_r _ [13, 14, 15, 16, 17, 18, 19, 4, 20, 21, 22, 23, 24, 25, 26, 27, 28, 29, 30, 31, 32, 33, 34, 35, 36, 37, 38, 39, 40, 41, 42, 43, 6, 44, 45, 46, 47, 48, 49, 50, 51, 52, 53, 54, 55, 56, 57, 58, 59, 60, 61, 62, 63, 64, 65, 66, 67, 68, 69, 70, 71, 72, 73, 74, 75, 76, 77, 78] (by decide +kernel) (by decide +kernel)
set_option maxRecDepth 20000 in
theorem gX3_who_X3_whoNow : GoodIn wsX3_who (wsV RX3 163 RX3 yX3_whoNow wsX3_whoNow) := goodIn_app (goodIn_of _ (by decide +kernel)) ggX3_who_X3_whoNow
theorem dX3_who_0 : decode cX3_who 0 = .ok (.aload_n 0, 1) := by decide +kernel
theorem dX3_who_1 : decode cX3_who 1 = .ok (.iload_n 1, 1) := by decide +kernel
theorem dX3_who_2 : decode cX3_who 2 = .ok (.invokevirtual 132, 3) := by decide +kernel
theorem dX3_who_5 : decode cX3_who 5 = .ok (.ifCond .ne 6, 3) := by decide +kernel
theorem dX3_who_8 : decode cX3_who 8 = .ok (.bipush (-101), 2) := by decide +kernel
theorem dX3_who_10 : decode cX3_who 10 = .ok (.ireturn, 1) := by decide +kernel
theorem dX3_who_11 : decode cX3_who 11 = .ok (.iload_n 2, 1) := by decide +kernel
theorem dX3_who_12 : decode cX3_who 12 = .ok (.iconst 0, 1) := by decide +kernel
theorem dX3_who_13 : decode cX3_who 13 = .ok (.iconst 1, 1) := by decide +kernel
theorem dX3_who_14 : decode cX3_who 14 = .ok (.invokestatic 56, 3) := by decide +kernel
theorem dX3_who_17 : decode cX3_who 17 = .ok (.ifCond .eq 12, 3) := by decide +kernel
theorem dX3_who_20 : decode cX3_who 20 = .ok (.aload_n 0, 1) := by decide +kernel
theorem dX3_who_21 : decode cX3_who 21 = .ok (.iload_n 1, 1) := by decide +kernel
theorem dX3_who_22 : decode cX3_who 22 = .ok (.iload_n 2, 1) := by decide +kernel
theorem dX3_who_23 : decode cX3_who 23 = .ok (.invokevirtual 163, 3) := by decide +kernel
theorem dX3_who_26 : decode cX3_who 26 = .ok (.goto 5, 3) := by decide +kernel
theorem dX3_who_29 : decode cX3_who 29 = .ok (.bipush (-102), 2) := by decide +kernel
theorem dX3_who_31 : decode cX3_who 31 = .ok (.ireturn, 1) := by decide +kernel
theorem dX3_draw_0 : decode cX3_draw 0 = .ok (.aload_n 0, 1) := by decide +kernel
theorem dX3_draw_1 : decode cX3_draw 1 = .ok (.ldc2_w 166, 3) := by decide +kernel
theorem dX3_draw_4 : decode cX3_draw 4 = .ok (.aload_n 0, 1) := by decide +kernel
theorem dX3_draw_5 : decode cX3_draw 5 = .ok (.getfield 168, 3) := by decide +kernel
theorem dX3_draw_8 : decode cX3_draw 8 = .ok (.lmul, 1) := by decide +kernel
theorem dX3_draw_9 : decode cX3_draw 9 = .ok (.ldc2_w 172, 3) := by decide +kernel
theorem dX3_draw_12 : decode cX3_draw 12 = .ok (.ladd, 1) := by decide +kernel
theorem dX3_draw_13 : decode cX3_draw 13 = .ok (.ldc2_w 174, 3) := by decide +kernel
theorem dX3_draw_16 : decode cX3_draw 16 = .ok (.land, 1) := by decide +kernel
theorem dX3_draw_17 : decode cX3_draw 17 = .ok (.putfield 168, 3) := by decide +kernel
theorem dX3_draw_20 : decode cX3_draw 20 = .ok (.aload_n 0, 1) := by decide +kernel
theorem dX3_draw_21 : decode cX3_draw 21 = .ok (.getfield 168, 3) := by decide +kernel
theorem dX3_draw_24 : decode cX3_draw 24 = .ok (.ldc2_w 176, 3) := by decide +kernel
theorem dX3_draw_27 : decode cX3_draw 27 = .ok (.ldiv, 1) := by decide +kernel
theorem dX3_draw_28 : decode cX3_draw 28 = .ok (.iload_n 1, 1) := by decide +kernel
theorem dX3_draw_29 : decode cX3_draw 29 = .ok (.i2l, 1) := by decide +kernel
theorem dX3_draw_30 : decode cX3_draw 30 = .ok (.lrem, 1) := by decide +kernel
theorem dX3_draw_31 : decode cX3_draw 31 = .ok (.l2i, 1) := by decide +kernel
theorem dX3_draw_32 : decode cX3_draw 32 = .ok (.ireturn, 1) := by decide +kernel
set_option maxRecDepth 20000 in
theorem ggX3_anyLaid_X3_aheadOf : GoodIn wsX3_anyLaid wsX3_aheadOf := goodIn_r _ [5, 6, 7, 26, 27, 28, 29, 30, 31, 32, 33, 34, 35, 36, 37, 38, 39, 40, 41, 42, 43, 44, 45, 46, 47, 48, 49, 50, 51, 52, 53, 54] (by decide +kernel) (by decide +kernel)
set_option maxRecDepth 20000 in
theorem gX3_anyLaid_X3_aheadOf : GoodIn wsX3_anyLaid (wsV RX3 100 RX3 yX3_aheadOf wsX3_aheadOf) := goodIn_app (goodIn_of _ (by decide +kernel)) ggX3_anyLaid_X3_aheadOf
set_option maxRecDepth 20000 in
theorem ggX3_anyLaid_X3_firstWrong : GoodIn wsX3_anyLaid wsX3_firstWrong := goodIn_r _ [11, 12, 13, 14, 4, 15, 16, 17, 18, 19, 20, 21, 22, 23, 24, 25, 26, 27, 28, 29, 30, 31, 32, 33, 34, 35, 36, 37, 38, 39, 40, 41, 42, 43, 44, 45, 46, 47, 48, 49, 50, 51, 52, 53, 54] (by decide +kernel) (by decide +kernel)
set_option maxRecDepth 20000 in
theorem gX3_anyLaid_X3_firstWrong : GoodIn wsX3_anyLaid (wsV RX3 103 RX3 yX3_firstWrong wsX3_firstWrong) := goodIn_app (goodIn_of _ (by decide +kernel)) ggX3_anyLaid_X3_firstWrong
theorem dX3_anyLaid_0 : decode cX3_anyLaid 0 = .ok (.iconst 0, 1) := by decide +kernel
theorem dX3_anyLaid_1 : decode cX3_anyLaid 1 = .ok (.istore_n 3, 1) := by decide +kernel
theorem dX3_anyLaid_2 : decode cX3_anyLaid 2 = .ok (.iconst 0, 1) := by decide +kernel
theorem dX3_anyLaid_3 : decode cX3_anyLaid 3 = .ok (.istore 4, 2) := by decide +kernel
theorem dX3_anyLaid_5 : decode cX3_anyLaid 5 = .ok (.iload 4, 2) := by decide +kernel
theorem dX3_anyLaid_7 : decode cX3_anyLaid 7 = .ok (.sipush 128, 3) := by decide +kernel
theorem dX3_anyLaid_10 : decode cX3_anyLaid 10 = .ok (.if_icmp .ge 37, 3) := by decide +kernel
theorem dX3_anyLaid_13 : decode cX3_anyLaid 13 = .ok (.iload_n 3, 1) := by decide +kernel
theorem dX3_anyLaid_14 : decode cX3_anyLaid 14 = .ok (.ifCond .ne 33, 3) := by decide +kernel
theorem dX3_anyLaid_17 : decode cX3_anyLaid 17 = .ok (.aload_n 0, 1) := by decide +kernel
theorem dX3_anyLaid_18 : decode cX3_anyLaid 18 = .ok (.iload_n 1, 1) := by decide +kernel
theorem dX3_anyLaid_19 : decode cX3_anyLaid 19 = .ok (.iload 4, 2) := by decide +kernel
theorem dX3_anyLaid_21 : decode cX3_anyLaid 21 = .ok (.aload_n 0, 1) := by decide +kernel
theorem dX3_anyLaid_22 : decode cX3_anyLaid 22 = .ok (.iload_n 1, 1) := by decide +kernel
theorem dX3_anyLaid_23 : decode cX3_anyLaid 23 = .ok (.invokevirtual 100, 3) := by decide +kernel
theorem dX3_anyLaid_26 : decode cX3_anyLaid 26 = .ok (.iload_n 2, 1) := by decide +kernel
theorem dX3_anyLaid_27 : decode cX3_anyLaid 27 = .ok (.invokevirtual 103, 3) := by decide +kernel
theorem dX3_anyLaid_30 : decode cX3_anyLaid 30 = .ok (.bipush 7, 2) := by decide +kernel
theorem dX3_anyLaid_32 : decode cX3_anyLaid 32 = .ok (.if_icmp .ne 7, 3) := by decide +kernel
theorem dX3_anyLaid_35 : decode cX3_anyLaid 35 = .ok (.iconst 1, 1) := by decide +kernel
theorem dX3_anyLaid_36 : decode cX3_anyLaid 36 = .ok (.goto 4, 3) := by decide +kernel
theorem dX3_anyLaid_39 : decode cX3_anyLaid 39 = .ok (.iconst 0, 1) := by decide +kernel
theorem dX3_anyLaid_40 : decode cX3_anyLaid 40 = .ok (.istore_n 3, 1) := by decide +kernel
theorem dX3_anyLaid_41 : decode cX3_anyLaid 41 = .ok (.iinc 4 1, 3) := by decide +kernel
theorem dX3_anyLaid_44 : decode cX3_anyLaid 44 = .ok (.goto (-39), 3) := by decide +kernel
theorem dX3_anyLaid_47 : decode cX3_anyLaid 47 = .ok (.iload_n 3, 1) := by decide +kernel
theorem dX3_anyLaid_48 : decode cX3_anyLaid 48 = .ok (.ireturn, 1) := by decide +kernel
set_option maxRecDepth 20000 in
theorem ggX3_weeksNow_X3_draw : GoodIn wsX3_weeksNow wsX3_draw := goodIn_r _ [6, 7, 1, 8, 9, 10, 39, 40, 41, 42, 43, 44, 45, 46, 47, 48, 49, 50, 51, 52, 53, 54, 55, 56, 57, 58, 59, 60, 61, 62, 63, 64, 65, 66, 67] (by decide +kernel) (by decide +kernel)
set_option maxRecDepth 20000 in
theorem gX3_weeksNow_X3_draw : GoodIn wsX3_weeksNow (wsV RX3 178 RX3 yX3_draw wsX3_draw) := goodIn_app (goodIn_of _ (by decide +kernel)) ggX3_weeksNow_X3_draw
set_option maxRecDepth 20000 in
theorem ggX3_weeksNow_X3_anyLaid : GoodIn wsX3_weeksNow wsX3_anyLaid := goodIn_r _ [14, 15, 16, 17, 5, 18, 19, 20, 21, 22, 23, 24, 25, 26, 27, 28, 29, 30, 31, 32, 33, 34, 35, 36, 37, 38, 39, 40, 41, 42, 43, 44, 45, 46, 47, 48, 49, 50, 51, 52, 53, 54, 55, 56, 57, 58, 59, 60, 61, 62, 63, 64, 65, 66, 67] (by decide +kernel) (by decide +kernel)
set_option maxRecDepth 20000 in
theorem gX3_weeksNow_X3_anyLaid : GoodIn wsX3_weeksNow (wsV RX3 181 RX3 yX3_anyLaid wsX3_anyLaid) := goodIn_app (goodIn_of _ (by decide +kernel)) ggX3_weeksNow_X3_anyLaid
theorem dX3_weeksNow_0 : decode cX3_weeksNow 0 = .ok (.aload_n 0, 1) := by decide +kernel
theorem dX3_weeksNow_1 : decode cX3_weeksNow 1 = .ok (.iload_n 2, 1) := by decide +kernel
theorem dX3_weeksNow_2 : decode cX3_weeksNow 2 = .ok (.i2l, 1) := by decide +kernel
theorem dX3_weeksNow_3 : decode cX3_weeksNow 3 = .ok (.putfield 168, 3) := by decide +kernel
theorem dX3_weeksNow_6 : decode cX3_weeksNow 6 = .ok (.iconst 0, 1) := by decide +kernel
theorem dX3_weeksNow_7 : decode cX3_weeksNow 7 = .ok (.istore 4, 2) := by decide +kernel
theorem dX3_weeksNow_9 : decode cX3_weeksNow 9 = .ok (.iconst 0, 1) := by decide +kernel
theorem dX3_weeksNow_10 : decode cX3_weeksNow 10 = .ok (.istore 5, 2) := by decide +kernel
theorem dX3_weeksNow_12 : decode cX3_weeksNow 12 = .ok (.iload 5, 2) := by decide +kernel
theorem dX3_weeksNow_14 : decode cX3_weeksNow 14 = .ok (.iload_n 1, 1) := by decide +kernel
theorem dX3_weeksNow_15 : decode cX3_weeksNow 15 = .ok (.bipush 9, 2) := by decide +kernel
theorem dX3_weeksNow_17 : decode cX3_weeksNow 17 = .ok (.imul, 1) := by decide +kernel
theorem dX3_weeksNow_18 : decode cX3_weeksNow 18 = .ok (.if_icmp .ge 73, 3) := by decide +kernel
theorem dX3_weeksNow_21 : decode cX3_weeksNow 21 = .ok (.iconst 0, 1) := by decide +kernel
theorem dX3_weeksNow_22 : decode cX3_weeksNow 22 = .ok (.istore 6, 2) := by decide +kernel
theorem dX3_weeksNow_24 : decode cX3_weeksNow 24 = .ok (.iconst 0, 1) := by decide +kernel
theorem dX3_weeksNow_25 : decode cX3_weeksNow 25 = .ok (.istore 7, 2) := by decide +kernel
theorem dX3_weeksNow_27 : decode cX3_weeksNow 27 = .ok (.iload 7, 2) := by decide +kernel
theorem dX3_weeksNow_29 : decode cX3_weeksNow 29 = .ok (.bipush 7, 2) := by decide +kernel
theorem dX3_weeksNow_31 : decode cX3_weeksNow 31 = .ok (.if_icmp .ge 30, 3) := by decide +kernel
theorem dX3_weeksNow_34 : decode cX3_weeksNow 34 = .ok (.iload 6, 2) := by decide +kernel
theorem dX3_weeksNow_36 : decode cX3_weeksNow 36 = .ok (.aload_n 0, 1) := by decide +kernel
theorem dX3_weeksNow_37 : decode cX3_weeksNow 37 = .ok (.iconst 4, 1) := by decide +kernel
theorem dX3_weeksNow_38 : decode cX3_weeksNow 38 = .ok (.invokevirtual 178, 3) := by decide +kernel
theorem dX3_weeksNow_41 : decode cX3_weeksNow 41 = .ok (.ifCond .ne 10, 3) := by decide +kernel
theorem dX3_weeksNow_44 : decode cX3_weeksNow 44 = .ok (.iconst 1, 1) := by decide +kernel
theorem dX3_weeksNow_45 : decode cX3_weeksNow 45 = .ok (.iload 7, 2) := by decide +kernel
theorem dX3_weeksNow_47 : decode cX3_weeksNow 47 = .ok (.ishl, 1) := by decide +kernel
theorem dX3_weeksNow_48 : decode cX3_weeksNow 48 = .ok (.goto 4, 3) := by decide +kernel
theorem dX3_weeksNow_51 : decode cX3_weeksNow 51 = .ok (.iconst 0, 1) := by decide +kernel
theorem dX3_weeksNow_52 : decode cX3_weeksNow 52 = .ok (.ior, 1) := by decide +kernel
theorem dX3_weeksNow_53 : decode cX3_weeksNow 53 = .ok (.istore 6, 2) := by decide +kernel
theorem dX3_weeksNow_55 : decode cX3_weeksNow 55 = .ok (.iinc 7 1, 3) := by decide +kernel
theorem dX3_weeksNow_58 : decode cX3_weeksNow 58 = .ok (.goto (-31), 3) := by decide +kernel
theorem dX3_weeksNow_61 : decode cX3_weeksNow 61 = .ok (.iload 4, 2) := by decide +kernel
theorem dX3_weeksNow_63 : decode cX3_weeksNow 63 = .ok (.aload_n 0, 1) := by decide +kernel
theorem dX3_weeksNow_64 : decode cX3_weeksNow 64 = .ok (.iload 5, 2) := by decide +kernel
theorem dX3_weeksNow_66 : decode cX3_weeksNow 66 = .ok (.bipush 9, 2) := by decide +kernel
theorem dX3_weeksNow_68 : decode cX3_weeksNow 68 = .ok (.irem, 1) := by decide +kernel
theorem dX3_weeksNow_69 : decode cX3_weeksNow 69 = .ok (.iload 6, 2) := by decide +kernel
theorem dX3_weeksNow_71 : decode cX3_weeksNow 71 = .ok (.invokevirtual 181, 3) := by decide +kernel
theorem dX3_weeksNow_74 : decode cX3_weeksNow 74 = .ok (.ifCond .eq 7, 3) := by decide +kernel
theorem dX3_weeksNow_77 : decode cX3_weeksNow 77 = .ok (.iconst 0, 1) := by decide +kernel
theorem dX3_weeksNow_78 : decode cX3_weeksNow 78 = .ok (.goto 4, 3) := by decide +kernel
theorem dX3_weeksNow_81 : decode cX3_weeksNow 81 = .ok (.iconst 1, 1) := by decide +kernel
theorem dX3_weeksNow_82 : decode cX3_weeksNow 82 = .ok (.iadd, 1) := by decide +kernel
theorem dX3_weeksNow_83 : decode cX3_weeksNow 83 = .ok (.istore 4, 2) := by decide +kernel
theorem dX3_weeksNow_85 : decode cX3_weeksNow 85 = .ok (.iinc 5 1, 3) := by decide +kernel
theorem dX3_weeksNow_88 : decode cX3_weeksNow 88 = .ok (.goto (-76), 3) := by decide +kernel
theorem dX3_weeksNow_91 : decode cX3_weeksNow 91 = .ok (.iload_n 3, 1) := by decide +kernel
theorem dX3_weeksNow_92 : decode cX3_weeksNow 92 = .ok (.ifCond .ne 8, 3) := by decide +kernel
theorem dX3_weeksNow_95 : decode cX3_weeksNow 95 = .ok (.iload 4, 2) := by decide +kernel
theorem dX3_weeksNow_97 : decode cX3_weeksNow 97 = .ok (.goto 8, 3) := by decide +kernel
theorem dX3_weeksNow_100 : decode cX3_weeksNow 100 = .ok (.aload_n 0, 1) := by decide +kernel
theorem dX3_weeksNow_101 : decode cX3_weeksNow 101 = .ok (.getfield 168, 3) := by decide +kernel
theorem dX3_weeksNow_104 : decode cX3_weeksNow 104 = .ok (.l2i, 1) := by decide +kernel
theorem dX3_weeksNow_105 : decode cX3_weeksNow 105 = .ok (.ireturn, 1) := by decide +kernel
set_option maxRecDepth 20000 in
theorem ggX3_weeks_X3_within : GoodIn wsX3_weeks wsX3_within := goodIn_r _ [5] (by decide +kernel) (by decide +kernel)
set_option maxRecDepth 20000 in
theorem gX3_weeks_X3_within : GoodIn wsX3_weeks (va_wsS RX3 56 yX3_within wsX3_within) := goodIn_app (goodIn_of _ (by decide +kernel)) ggX3_weeks_X3_within
set_option maxRecDepth 20000 in
theorem ggX3_weeks_X3_weeksNow : GoodIn wsX3_weeks wsX3_weeksNow := goodIn_r _ [9, 10, 11, 12, 13, 4, 14, 15, 16, 17, 18, 19, 20, 21, 22, 23, 24, 25, 26, 27, 28, 29, 30, 31, 32, 33, 34, 35, 36, 37, 38, 39, 40, 41, 42, 43, 44, 45, 46, 47, 48, 49, 50, 51, 52, 53, 54, 55, 56, 57, 58, 59, 60, 61, 62, 63, 64, 65, 66, 67, 68, 69, 70, 71, 72, 73, 74, 75] (by decide +kernel) (by decide +kernel)
set_option maxRecDepth 20000 in
theorem gX3_weeks_X3_weeksNow : GoodIn wsX3_weeks (wsV RX3 184 RX3 yX3_weeksNow wsX3_weeksNow) := goodIn_app (goodIn_of _ (by decide +kernel)) ggX3_weeks_X3_weeksNow
theorem dX3_weeks_0 : decode cX3_weeks 0 = .ok (.iload_n 1, 1) := by decide +kernel
theorem dX3_weeks_1 : decode cX3_weeks 1 = .ok (.iconst 1, 1) := by decide +kernel
theorem dX3_weeks_2 : decode cX3_weeks 2 = .ok (.bipush 12, 2) := by decide +kernel
theorem dX3_weeks_4 : decode cX3_weeks 4 = .ok (.invokestatic 56, 3) := by decide +kernel
theorem dX3_weeks_7 : decode cX3_weeks 7 = .ok (.ifCond .eq 16, 3) := by decide +kernel
theorem dX3_weeks_10 : decode cX3_weeks 10 = .ok (.iload_n 2, 1) := by decide +kernel
theorem dX3_weeks_11 : decode cX3_weeks 11 = .ok (.ifCond .lt 12, 3) := by decide +kernel
theorem dX3_weeks_14 : decode cX3_weeks 14 = .ok (.iload_n 3, 1) := by decide +kernel
theorem dX3_weeks_15 : decode cX3_weeks 15 = .ok (.iconst 0, 1) := by decide +kernel
theorem dX3_weeks_16 : decode cX3_weeks 16 = .ok (.iconst 1, 1) := by decide +kernel
theorem dX3_weeks_17 : decode cX3_weeks 17 = .ok (.invokestatic 56, 3) := by decide +kernel
theorem dX3_weeks_20 : decode cX3_weeks 20 = .ok (.ifCond .ne 6, 3) := by decide +kernel
theorem dX3_weeks_23 : decode cX3_weeks 23 = .ok (.bipush (-102), 2) := by decide +kernel
theorem dX3_weeks_25 : decode cX3_weeks 25 = .ok (.ireturn, 1) := by decide +kernel
theorem dX3_weeks_26 : decode cX3_weeks 26 = .ok (.aload_n 0, 1) := by decide +kernel
theorem dX3_weeks_27 : decode cX3_weeks 27 = .ok (.getfield 75, 3) := by decide +kernel
theorem dX3_weeks_30 : decode cX3_weeks 30 = .ok (.ifCond .eq 13, 3) := by decide +kernel
theorem dX3_weeks_33 : decode cX3_weeks 33 = .ok (.aload_n 0, 1) := by decide +kernel
theorem dX3_weeks_34 : decode cX3_weeks 34 = .ok (.iload_n 1, 1) := by decide +kernel
theorem dX3_weeks_35 : decode cX3_weeks 35 = .ok (.iload_n 2, 1) := by decide +kernel
theorem dX3_weeks_36 : decode cX3_weeks 36 = .ok (.iload_n 3, 1) := by decide +kernel
theorem dX3_weeks_37 : decode cX3_weeks 37 = .ok (.invokevirtual 184, 3) := by decide +kernel
theorem dX3_weeks_40 : decode cX3_weeks 40 = .ok (.goto 5, 3) := by decide +kernel
theorem dX3_weeks_43 : decode cX3_weeks 43 = .ok (.bipush (-103), 2) := by decide +kernel
theorem dX3_weeks_45 : decode cX3_weeks 45 = .ok (.ireturn, 1) := by decide +kernel
theorem dX3_image_0 : decode cX3_image 0 = .ok (.aload_n 0, 1) := by decide +kernel
theorem dX3_image_1 : decode cX3_image 1 = .ok (.getfield 75, 3) := by decide +kernel
theorem dX3_image_4 : decode cX3_image 4 = .ok (.ifCond .ne 6, 3) := by decide +kernel
theorem dX3_image_7 : decode cX3_image 7 = .ok (.bipush (-103), 2) := by decide +kernel
theorem dX3_image_9 : decode cX3_image 9 = .ok (.ireturn, 1) := by decide +kernel
theorem dX3_image_10 : decode cX3_image 10 = .ok (.aload_n 0, 1) := by decide +kernel
theorem dX3_image_11 : decode cX3_image 11 = .ok (.iconst 1, 1) := by decide +kernel
theorem dX3_image_12 : decode cX3_image 12 = .ok (.putfield 187, 3) := by decide +kernel
theorem dX3_image_15 : decode cX3_image 15 = .ok (.aload_n 0, 1) := by decide +kernel
theorem dX3_image_16 : decode cX3_image 16 = .ok (.aload_n 0, 1) := by decide +kernel
theorem dX3_image_17 : decode cX3_image 17 = .ok (.getfield 79, 3) := by decide +kernel
theorem dX3_image_20 : decode cX3_image 20 = .ok (.putfield 190, 3) := by decide +kernel
theorem dX3_image_23 : decode cX3_image 23 = .ok (.aload_n 0, 1) := by decide +kernel
theorem dX3_image_24 : decode cX3_image 24 = .ok (.aload_n 0, 1) := by decide +kernel
theorem dX3_image_25 : decode cX3_image 25 = .ok (.getfield 72, 3) := by decide +kernel
theorem dX3_image_28 : decode cX3_image 28 = .ok (.putfield 193, 3) := by decide +kernel
theorem dX3_image_31 : decode cX3_image 31 = .ok (.aload_n 0, 1) := by decide +kernel
theorem dX3_image_32 : decode cX3_image 32 = .ok (.aload_n 0, 1) := by decide +kernel
theorem dX3_image_33 : decode cX3_image 33 = .ok (.getfield 82, 3) := by decide +kernel
theorem dX3_image_36 : decode cX3_image 36 = .ok (.putfield 196, 3) := by decide +kernel
theorem dX3_image_39 : decode cX3_image 39 = .ok (.aload_n 0, 1) := by decide +kernel
theorem dX3_image_40 : decode cX3_image 40 = .ok (.aload_n 0, 1) := by decide +kernel
theorem dX3_image_41 : decode cX3_image 41 = .ok (.getfield 85, 3) := by decide +kernel
theorem dX3_image_44 : decode cX3_image 44 = .ok (.putfield 199, 3) := by decide +kernel
theorem dX3_image_47 : decode cX3_image 47 = .ok (.iconst 0, 1) := by decide +kernel
theorem dX3_image_48 : decode cX3_image 48 = .ok (.istore_n 1, 1) := by decide +kernel
theorem dX3_image_49 : decode cX3_image 49 = .ok (.iload_n 1, 1) := by decide +kernel
theorem dX3_image_50 : decode cX3_image 50 = .ok (.bipush 9, 2) := by decide +kernel
theorem dX3_image_52 : decode cX3_image 52 = .ok (.if_icmp .ge 21, 3) := by decide +kernel
theorem dX3_image_55 : decode cX3_image 55 = .ok (.aload_n 0, 1) := by decide +kernel
theorem dX3_image_56 : decode cX3_image 56 = .ok (.getfield 38, 3) := by decide +kernel
theorem dX3_image_59 : decode cX3_image 59 = .ok (.iload_n 1, 1) := by decide +kernel
theorem dX3_image_60 : decode cX3_image 60 = .ok (.aload_n 0, 1) := by decide +kernel
theorem dX3_image_61 : decode cX3_image 61 = .ok (.getfield 13, 3) := by decide +kernel
theorem dX3_image_64 : decode cX3_image 64 = .ok (.iload_n 1, 1) := by decide +kernel
theorem dX3_image_65 : decode cX3_image 65 = .ok (.iaload, 1) := by decide +kernel
theorem dX3_image_66 : decode cX3_image 66 = .ok (.iastore, 1) := by decide +kernel
theorem dX3_image_67 : decode cX3_image 67 = .ok (.iinc 1 1, 3) := by decide +kernel
theorem dX3_image_70 : decode cX3_image 70 = .ok (.goto (-21), 3) := by decide +kernel
theorem dX3_image_73 : decode cX3_image 73 = .ok (.iconst 0, 1) := by decide +kernel
theorem dX3_image_74 : decode cX3_image 74 = .ok (.istore_n 1, 1) := by decide +kernel
theorem dX3_image_75 : decode cX3_image 75 = .ok (.iload_n 1, 1) := by decide +kernel
theorem dX3_image_76 : decode cX3_image 76 = .ok (.bipush 6, 2) := by decide +kernel
theorem dX3_image_78 : decode cX3_image 78 = .ok (.if_icmp .ge 33, 3) := by decide +kernel
theorem dX3_image_81 : decode cX3_image 81 = .ok (.aload_n 0, 1) := by decide +kernel
