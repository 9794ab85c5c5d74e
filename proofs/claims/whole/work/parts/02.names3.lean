theorem dX2_digest_112 : decode cX2_digest 112 = .ok (.invokevirtual 204, 3) := by decide +kernel
theorem dX2_digest_115 : decode cX2_digest 115 = .ok (.i2l, 1) := by decide +kernel
theorem dX2_digest_116 : decode cX2_digest 116 = .ok (.ladd, 1) := by decide +kernel
theorem dX2_digest_117 : decode cX2_digest 117 = .ok (.lstore_n 1, 1) := by decide +kernel
theorem dX2_digest_118 : decode cX2_digest 118 = .ok (.iinc 3 1, 3) := by decide +kernel
theorem dX2_digest_121 : decode cX2_digest 121 = .ok (.goto (-22), 3) := by decide +kernel
theorem dX2_digest_124 : decode cX2_digest 124 = .ok (.lload_n 1, 1) := by decide +kernel
theorem dX2_digest_125 : decode cX2_digest 125 = .ok (.lreturn, 1) := by decide +kernel
set_option maxRecDepth 20000 in
theorem ggX2_digestOfDrawer_X2_drawer : GoodIn wsX2_digestOfDrawer wsX2_drawer := goodIn_r _ [6, 7, 8, 9, 10, 11, 12, 5, 13, 14, 15, 16, 17, 18, 19, 20, 21, 22, 23, 24, 25, 26, 27, 28, 29, 30, 31, 32, 33, 34, 35, 36, 37, 38, 39, 40, 41, 42, 43, 44, 45, 46, 47, 48, 49, 50, 51, 52, 53, 54, 55, 56, 57, 58, 59, 60, 61, 62, 63, 64, 65, 66, 67, 68, 69, 70, 71, 72, 73, 74, 75, 76, 77, 78, 79, 80, 81, 82, 83, 84, 85, 86, 87, 88, 89, 90, 91, 92, 119, 120, 121, 122, 123, 124, 125, 126, 127, 128, 129, 130, 131, 132, 133, 134, 135, 136, 137, 138, 139, 140, 141, 142, 143, 144] (by decide +kernel) (by decide +kernel)
set_option maxRecDepth 20000 in
theorem gX2_digestOfDrawer_X2_drawer : GoodIn wsX2_digestOfDrawer (wsV RX2 207 RX2 yX2_drawer wsX2_drawer) := goodIn_app (goodIn_of _ (by decide +kernel)) ggX2_digestOfDrawer_X2_drawer
set_option maxRecDepth 20000 in
theorem ggX2_digestOfDrawer_X2_sure : GoodIn wsX2_digestOfDrawer wsX2_sure := goodIn_r _ [96, 10, 11, 12, 5, 13, 14, 97, 98, 99, 27, 28, 29, 30, 31, 32, 33, 34, 35, 8, 9, 36, 37, 38, 39, 15, 16, 17, 18, 19, 7, 40, 41, 42, 43, 44, 45, 46, 47, 48, 49, 50, 51, 52, 53, 54, 55, 56, 57, 58, 59, 60, 61, 62, 63, 64, 65, 66, 67, 68, 69, 70, 71, 100, 101, 102, 103, 87, 88, 119, 120, 121, 122, 123, 124, 125, 126, 127, 128, 129, 130, 131, 132, 133, 134, 135, 136, 137, 138, 139, 140, 141, 142, 143, 144] (by decide +kernel) (by decide +kernel)
set_option maxRecDepth 20000 in
theorem gX2_digestOfDrawer_X2_sure : GoodIn wsX2_digestOfDrawer (wsV RX2 210 RX2 yX2_sure wsX2_sure) := goodIn_app (goodIn_of _ (by decide +kernel)) ggX2_digestOfDrawer_X2_sure
set_option maxRecDepth 20000 in
theorem ggX2_digestOfDrawer_X2_delays : GoodIn wsX2_digestOfDrawer wsX2_delays := goodIn_r _ [107, 108, 10, 11, 12, 5, 13, 14, 31, 32, 33, 34, 35, 8, 9, 36, 37, 38, 39, 15, 16, 17, 18, 19, 7, 40, 41, 42, 43, 44, 45, 46, 47, 48, 49, 50, 51, 52, 53, 54, 55, 56, 57, 58, 59, 60, 61, 62, 63, 64, 65, 66, 67, 68, 69, 70, 71, 109, 110, 111, 112, 113, 114, 115, 116, 117, 118, 138, 139, 140, 141, 142, 143, 144, 119, 120, 121, 122, 123, 124, 125, 126, 127, 128, 129, 130, 131, 132, 133, 134, 135, 136, 137] (by decide +kernel) (by decide +kernel)
set_option maxRecDepth 20000 in
theorem gX2_digestOfDrawer_X2_delays : GoodIn wsX2_digestOfDrawer (wsV RX2 213 RX2 yX2_delays wsX2_delays) := goodIn_app (goodIn_of _ (by decide +kernel)) ggX2_digestOfDrawer_X2_delays
theorem dX2_digestOfDrawer_0 : decode cX2_digestOfDrawer 0 = .ok (.lload_n 1, 1) := by decide +kernel
theorem dX2_digestOfDrawer_1 : decode cX2_digestOfDrawer 1 = .ok (.lstore 4, 2) := by decide +kernel
theorem dX2_digestOfDrawer_3 : decode cX2_digestOfDrawer 3 = .ok (.iconst 0, 1) := by decide +kernel
theorem dX2_digestOfDrawer_4 : decode cX2_digestOfDrawer 4 = .ok (.istore 6, 2) := by decide +kernel
theorem dX2_digestOfDrawer_6 : decode cX2_digestOfDrawer 6 = .ok (.iload 6, 2) := by decide +kernel
theorem dX2_digestOfDrawer_8 : decode cX2_digestOfDrawer 8 = .ok (.bipush 6, 2) := by decide +kernel
theorem dX2_digestOfDrawer_10 : decode cX2_digestOfDrawer 10 = .ok (.if_icmp .gt 26, 3) := by decide +kernel
theorem dX2_digestOfDrawer_13 : decode cX2_digestOfDrawer 13 = .ok (.ldc2_w 202, 3) := by decide +kernel
theorem dX2_digestOfDrawer_16 : decode cX2_digestOfDrawer 16 = .ok (.lload 4, 2) := by decide +kernel
theorem dX2_digestOfDrawer_18 : decode cX2_digestOfDrawer 18 = .ok (.lmul, 1) := by decide +kernel
theorem dX2_digestOfDrawer_19 : decode cX2_digestOfDrawer 19 = .ok (.aload_n 0, 1) := by decide +kernel
theorem dX2_digestOfDrawer_20 : decode cX2_digestOfDrawer 20 = .ok (.iload_n 3, 1) := by decide +kernel
theorem dX2_digestOfDrawer_21 : decode cX2_digestOfDrawer 21 = .ok (.iload 6, 2) := by decide +kernel
theorem dX2_digestOfDrawer_23 : decode cX2_digestOfDrawer 23 = .ok (.invokevirtual 207, 3) := by decide +kernel
theorem dX2_digestOfDrawer_26 : decode cX2_digestOfDrawer 26 = .ok (.i2l, 1) := by decide +kernel
theorem dX2_digestOfDrawer_27 : decode cX2_digestOfDrawer 27 = .ok (.ladd, 1) := by decide +kernel
theorem dX2_digestOfDrawer_28 : decode cX2_digestOfDrawer 28 = .ok (.lstore 4, 2) := by decide +kernel
theorem dX2_digestOfDrawer_30 : decode cX2_digestOfDrawer 30 = .ok (.iinc 6 1, 3) := by decide +kernel
theorem dX2_digestOfDrawer_33 : decode cX2_digestOfDrawer 33 = .ok (.goto (-27), 3) := by decide +kernel
theorem dX2_digestOfDrawer_36 : decode cX2_digestOfDrawer 36 = .ok (.iconst 0, 1) := by decide +kernel
theorem dX2_digestOfDrawer_37 : decode cX2_digestOfDrawer 37 = .ok (.istore 6, 2) := by decide +kernel
theorem dX2_digestOfDrawer_39 : decode cX2_digestOfDrawer 39 = .ok (.iload 6, 2) := by decide +kernel
theorem dX2_digestOfDrawer_41 : decode cX2_digestOfDrawer 41 = .ok (.bipush 7, 2) := by decide +kernel
theorem dX2_digestOfDrawer_43 : decode cX2_digestOfDrawer 43 = .ok (.if_icmp .ge 26, 3) := by decide +kernel
theorem dX2_digestOfDrawer_46 : decode cX2_digestOfDrawer 46 = .ok (.ldc2_w 202, 3) := by decide +kernel
theorem dX2_digestOfDrawer_49 : decode cX2_digestOfDrawer 49 = .ok (.lload 4, 2) := by decide +kernel
theorem dX2_digestOfDrawer_51 : decode cX2_digestOfDrawer 51 = .ok (.lmul, 1) := by decide +kernel
theorem dX2_digestOfDrawer_52 : decode cX2_digestOfDrawer 52 = .ok (.aload_n 0, 1) := by decide +kernel
theorem dX2_digestOfDrawer_53 : decode cX2_digestOfDrawer 53 = .ok (.iload_n 3, 1) := by decide +kernel
theorem dX2_digestOfDrawer_54 : decode cX2_digestOfDrawer 54 = .ok (.iload 6, 2) := by decide +kernel
theorem dX2_digestOfDrawer_56 : decode cX2_digestOfDrawer 56 = .ok (.invokevirtual 210, 3) := by decide +kernel
theorem dX2_digestOfDrawer_59 : decode cX2_digestOfDrawer 59 = .ok (.i2l, 1) := by decide +kernel
theorem dX2_digestOfDrawer_60 : decode cX2_digestOfDrawer 60 = .ok (.ladd, 1) := by decide +kernel
theorem dX2_digestOfDrawer_61 : decode cX2_digestOfDrawer 61 = .ok (.lstore 4, 2) := by decide +kernel
theorem dX2_digestOfDrawer_63 : decode cX2_digestOfDrawer 63 = .ok (.iinc 6 1, 3) := by decide +kernel
theorem dX2_digestOfDrawer_66 : decode cX2_digestOfDrawer 66 = .ok (.goto (-27), 3) := by decide +kernel
theorem dX2_digestOfDrawer_69 : decode cX2_digestOfDrawer 69 = .ok (.ldc2_w 202, 3) := by decide +kernel
theorem dX2_digestOfDrawer_72 : decode cX2_digestOfDrawer 72 = .ok (.lload 4, 2) := by decide +kernel
theorem dX2_digestOfDrawer_74 : decode cX2_digestOfDrawer 74 = .ok (.lmul, 1) := by decide +kernel
theorem dX2_digestOfDrawer_75 : decode cX2_digestOfDrawer 75 = .ok (.aload_n 0, 1) := by decide +kernel
theorem dX2_digestOfDrawer_76 : decode cX2_digestOfDrawer 76 = .ok (.iload_n 3, 1) := by decide +kernel
theorem dX2_digestOfDrawer_77 : decode cX2_digestOfDrawer 77 = .ok (.invokevirtual 213, 3) := by decide +kernel
theorem dX2_digestOfDrawer_80 : decode cX2_digestOfDrawer 80 = .ok (.i2l, 1) := by decide +kernel
theorem dX2_digestOfDrawer_81 : decode cX2_digestOfDrawer 81 = .ok (.ladd, 1) := by decide +kernel
theorem dX2_digestOfDrawer_82 : decode cX2_digestOfDrawer 82 = .ok (.lreturn, 1) := by decide +kernel
set_option maxRecDepth 20000 in
theorem ggX2_digestOfPerson_X2_about : GoodIn wsX2_digestOfPerson wsX2_about := goodIn_r _ [6, 7, 8, 9, 10, 11, 12, 13, 5, 14, 15, 16, 17, 18, 19, 20, 21, 22, 23, 24, 83, 84, 85, 86, 87, 88, 89, 90, 91, 92, 93, 94, 95, 96, 97, 98, 99, 100, 101] (by decide +kernel) (by decide +kernel)
set_option maxRecDepth 20000 in
theorem gX2_digestOfPerson_X2_about : GoodIn wsX2_digestOfPerson (wsV RX2 216 RX2 yX2_about wsX2_about) := goodIn_app (goodIn_of _ (by decide +kernel)) ggX2_digestOfPerson_X2_about
set_option maxRecDepth 20000 in
theorem ggX2_digestOfPerson_X2_who : GoodIn wsX2_digestOfPerson wsX2_who := goodIn_r _ [28, 11, 12, 13, 5, 14, 7, 15, 29, 30, 31, 32, 10, 33, 34, 35, 36, 37, 38, 8, 9, 39, 40, 41, 42, 43, 44, 45, 46, 47, 48, 49, 50, 51, 52, 53, 54, 55, 56, 57, 17, 18, 23, 24, 58, 59, 60, 61, 62, 63, 64, 65, 66, 67, 68, 69, 70, 71, 72, 73, 74, 75, 76, 77, 78, 79, 80, 81, 82, 83, 84, 85, 86, 87, 88, 89, 90, 91, 92, 93, 94, 95, 96, 97, 98, 99, 100, 101, 102, 103, 104, 105, 106, 107, 108] (by decide +kernel) (by decide +kernel)
set_option maxRecDepth 20000 in
theorem gX2_digestOfPerson_X2_who : GoodIn wsX2_digestOfPerson (wsV RX2 219 RX2 yX2_who wsX2_who) := goodIn_app (goodIn_of _ (by decide +kernel)) ggX2_digestOfPerson_X2_who
theorem dX2_digestOfPerson_0 : decode cX2_digestOfPerson 0 = .ok (.lload_n 1, 1) := by decide +kernel
theorem dX2_digestOfPerson_1 : decode cX2_digestOfPerson 1 = .ok (.lstore 4, 2) := by decide +kernel
theorem dX2_digestOfPerson_3 : decode cX2_digestOfPerson 3 = .ok (.iconst 0, 1) := by decide +kernel
theorem dX2_digestOfPerson_4 : decode cX2_digestOfPerson 4 = .ok (.istore 6, 2) := by decide +kernel
theorem dX2_digestOfPerson_6 : decode cX2_digestOfPerson 6 = .ok (.iload 6, 2) := by decide +kernel
theorem dX2_digestOfPerson_8 : decode cX2_digestOfPerson 8 = .ok (.iconst 2, 1) := by decide +kernel
theorem dX2_digestOfPerson_9 : decode cX2_digestOfPerson 9 = .ok (.if_icmp .gt 26, 3) := by decide +kernel
theorem dX2_digestOfPerson_12 : decode cX2_digestOfPerson 12 = .ok (.ldc2_w 202, 3) := by decide +kernel
theorem dX2_digestOfPerson_15 : decode cX2_digestOfPerson 15 = .ok (.lload 4, 2) := by decide +kernel
theorem dX2_digestOfPerson_17 : decode cX2_digestOfPerson 17 = .ok (.lmul, 1) := by decide +kernel
theorem dX2_digestOfPerson_18 : decode cX2_digestOfPerson 18 = .ok (.aload_n 0, 1) := by decide +kernel
theorem dX2_digestOfPerson_19 : decode cX2_digestOfPerson 19 = .ok (.iload_n 3, 1) := by decide +kernel
theorem dX2_digestOfPerson_20 : decode cX2_digestOfPerson 20 = .ok (.iload 6, 2) := by decide +kernel
theorem dX2_digestOfPerson_22 : decode cX2_digestOfPerson 22 = .ok (.invokevirtual 216, 3) := by decide +kernel
theorem dX2_digestOfPerson_25 : decode cX2_digestOfPerson 25 = .ok (.i2l, 1) := by decide +kernel
theorem dX2_digestOfPerson_26 : decode cX2_digestOfPerson 26 = .ok (.ladd, 1) := by decide +kernel
theorem dX2_digestOfPerson_27 : decode cX2_digestOfPerson 27 = .ok (.lstore 4, 2) := by decide +kernel
theorem dX2_digestOfPerson_29 : decode cX2_digestOfPerson 29 = .ok (.iinc 6 1, 3) := by decide +kernel
theorem dX2_digestOfPerson_32 : decode cX2_digestOfPerson 32 = .ok (.goto (-26), 3) := by decide +kernel
theorem dX2_digestOfPerson_35 : decode cX2_digestOfPerson 35 = .ok (.iconst 0, 1) := by decide +kernel
theorem dX2_digestOfPerson_36 : decode cX2_digestOfPerson 36 = .ok (.istore 6, 2) := by decide +kernel
theorem dX2_digestOfPerson_38 : decode cX2_digestOfPerson 38 = .ok (.iload 6, 2) := by decide +kernel
theorem dX2_digestOfPerson_40 : decode cX2_digestOfPerson 40 = .ok (.iconst 1, 1) := by decide +kernel
theorem dX2_digestOfPerson_41 : decode cX2_digestOfPerson 41 = .ok (.if_icmp .gt 26, 3) := by decide +kernel
theorem dX2_digestOfPerson_44 : decode cX2_digestOfPerson 44 = .ok (.ldc2_w 202, 3) := by decide +kernel
theorem dX2_digestOfPerson_47 : decode cX2_digestOfPerson 47 = .ok (.lload 4, 2) := by decide +kernel
theorem dX2_digestOfPerson_49 : decode cX2_digestOfPerson 49 = .ok (.lmul, 1) := by decide +kernel
theorem dX2_digestOfPerson_50 : decode cX2_digestOfPerson 50 = .ok (.aload_n 0, 1) := by decide +kernel
theorem dX2_digestOfPerson_51 : decode cX2_digestOfPerson 51 = .ok (.iload_n 3, 1) := by decide +kernel
theorem dX2_digestOfPerson_52 : decode cX2_digestOfPerson 52 = .ok (.iload 6, 2) := by decide +kernel
theorem dX2_digestOfPerson_54 : decode cX2_digestOfPerson 54 = .ok (.invokevirtual 219, 3) := by decide +kernel
theorem dX2_digestOfPerson_57 : decode cX2_digestOfPerson 57 = .ok (.i2l, 1) := by decide +kernel
theorem dX2_digestOfPerson_58 : decode cX2_digestOfPerson 58 = .ok (.ladd, 1) := by decide +kernel
theorem dX2_digestOfPerson_59 : decode cX2_digestOfPerson 59 = .ok (.lstore 4, 2) := by decide +kernel
theorem dX2_digestOfPerson_61 : decode cX2_digestOfPerson 61 = .ok (.iinc 6 1, 3) := by decide +kernel
theorem dX2_digestOfPerson_64 : decode cX2_digestOfPerson 64 = .ok (.goto (-26), 3) := by decide +kernel
theorem dX2_digestOfPerson_67 : decode cX2_digestOfPerson 67 = .ok (.lload 4, 2) := by decide +kernel
theorem dX2_digestOfPerson_69 : decode cX2_digestOfPerson 69 = .ok (.lreturn, 1) := by decide +kernel
theorem dX2_isDrawer_0 : decode cX2_isDrawer 0 = .ok (.aload_n 0, 1) := by decide +kernel
theorem dX2_isDrawer_1 : decode cX2_isDrawer 1 = .ok (.getfield 49, 3) := by decide +kernel
theorem dX2_isDrawer_4 : decode cX2_isDrawer 4 = .ok (.ifCond .eq 17, 3) := by decide +kernel
theorem dX2_isDrawer_7 : decode cX2_isDrawer 7 = .ok (.iload_n 1, 1) := by decide +kernel
theorem dX2_isDrawer_8 : decode cX2_isDrawer 8 = .ok (.ifCond .lt 13, 3) := by decide +kernel
theorem dX2_isDrawer_11 : decode cX2_isDrawer 11 = .ok (.iload_n 1, 1) := by decide +kernel
theorem dX2_isDrawer_12 : decode cX2_isDrawer 12 = .ok (.bipush 9, 2) := by decide +kernel
theorem dX2_isDrawer_14 : decode cX2_isDrawer 14 = .ok (.if_icmp .ge 7, 3) := by decide +kernel
theorem dX2_isDrawer_17 : decode cX2_isDrawer 17 = .ok (.iconst 1, 1) := by decide +kernel
theorem dX2_isDrawer_18 : decode cX2_isDrawer 18 = .ok (.goto 4, 3) := by decide +kernel
theorem dX2_isDrawer_21 : decode cX2_isDrawer 21 = .ok (.iconst 0, 1) := by decide +kernel
theorem dX2_isDrawer_22 : decode cX2_isDrawer 22 = .ok (.ireturn, 1) := by decide +kernel
theorem dX2_isPerson_0 : decode cX2_isPerson 0 = .ok (.iload_n 1, 1) := by decide +kernel
theorem dX2_isPerson_1 : decode cX2_isPerson 1 = .ok (.ifCond .lt 18, 3) := by decide +kernel
theorem dX2_isPerson_4 : decode cX2_isPerson 4 = .ok (.iload_n 1, 1) := by decide +kernel
theorem dX2_isPerson_5 : decode cX2_isPerson 5 = .ok (.aload_n 0, 1) := by decide +kernel
theorem dX2_isPerson_6 : decode cX2_isPerson 6 = .ok (.getfield 19, 3) := by decide +kernel
theorem dX2_isPerson_9 : decode cX2_isPerson 9 = .ok (.getfield 94, 3) := by decide +kernel
theorem dX2_isPerson_12 : decode cX2_isPerson 12 = .ok (.if_icmp .ge 7, 3) := by decide +kernel
theorem dX2_isPerson_15 : decode cX2_isPerson 15 = .ok (.iconst 1, 1) := by decide +kernel
theorem dX2_isPerson_16 : decode cX2_isPerson 16 = .ok (.goto 4, 3) := by decide +kernel
theorem dX2_isPerson_19 : decode cX2_isPerson 19 = .ok (.iconst 0, 1) := by decide +kernel
theorem dX2_isPerson_20 : decode cX2_isPerson 20 = .ok (.ireturn, 1) := by decide +kernel
theorem dX2_isDay_0 : decode cX2_isDay 0 = .ok (.iload_n 0, 1) := by decide +kernel
theorem dX2_isDay_1 : decode cX2_isDay 1 = .ok (.ifCond .lt 13, 3) := by decide +kernel
theorem dX2_isDay_4 : decode cX2_isDay 4 = .ok (.iload_n 0, 1) := by decide +kernel
theorem dX2_isDay_5 : decode cX2_isDay 5 = .ok (.bipush 7, 2) := by decide +kernel
theorem dX2_isDay_7 : decode cX2_isDay 7 = .ok (.if_icmp .ge 7, 3) := by decide +kernel
theorem dX2_isDay_10 : decode cX2_isDay 10 = .ok (.iconst 1, 1) := by decide +kernel
theorem dX2_isDay_11 : decode cX2_isDay 11 = .ok (.goto 4, 3) := by decide +kernel
theorem dX2_isDay_14 : decode cX2_isDay 14 = .ok (.iconst 0, 1) := by decide +kernel
theorem dX2_isDay_15 : decode cX2_isDay 15 = .ok (.ireturn, 1) := by decide +kernel
theorem dX2_isKind_0 : decode cX2_isKind 0 = .ok (.iload_n 0, 1) := by decide +kernel
theorem dX2_isKind_1 : decode cX2_isKind 1 = .ok (.ifCond .lt 12, 3) := by decide +kernel
theorem dX2_isKind_4 : decode cX2_isKind 4 = .ok (.iload_n 0, 1) := by decide +kernel
theorem dX2_isKind_5 : decode cX2_isKind 5 = .ok (.iconst 5, 1) := by decide +kernel
theorem dX2_isKind_6 : decode cX2_isKind 6 = .ok (.if_icmp .ge 7, 3) := by decide +kernel
theorem dX2_isKind_9 : decode cX2_isKind 9 = .ok (.iconst 1, 1) := by decide +kernel
theorem dX2_isKind_10 : decode cX2_isKind 10 = .ok (.goto 4, 3) := by decide +kernel
theorem dX2_isKind_13 : decode cX2_isKind 13 = .ok (.iconst 0, 1) := by decide +kernel
theorem dX2_isKind_14 : decode cX2_isKind 14 = .ok (.ireturn, 1) := by decide +kernel
theorem dX2_bitOf_0 : decode cX2_bitOf 0 = .ok (.iload_n 0, 1) := by decide +kernel
theorem dX2_bitOf_1 : decode cX2_bitOf 1 = .ok (.iload_n 1, 1) := by decide +kernel
theorem dX2_bitOf_2 : decode cX2_bitOf 2 = .ok (.ishr, 1) := by decide +kernel
theorem dX2_bitOf_3 : decode cX2_bitOf 3 = .ok (.iconst 1, 1) := by decide +kernel
theorem dX2_bitOf_4 : decode cX2_bitOf 4 = .ok (.iand, 1) := by decide +kernel
theorem dX2_bitOf_5 : decode cX2_bitOf 5 = .ok (.ireturn, 1) := by decide +kernel
set_option maxRecDepth 20000 in
theorem ggX2_fittingLetters_X2_fits : GoodIn wsX2_fittingLetters wsX2_fits := goodIn_r _ [6] (by decide +kernel) (by decide +kernel)
set_option maxRecDepth 20000 in
theorem gX2_fittingLetters_X2_fits : GoodIn wsX2_fittingLetters (va_wsS RX2 222 yX2_fits wsX2_fits) := goodIn_app (goodIn_of _ (by decide +kernel)) ggX2_fittingLetters_X2_fits
theorem dX2_fittingLetters_0 : decode cX2_fittingLetters 0 = .ok (.iconst 0, 1) := by decide +kernel
theorem dX2_fittingLetters_1 : decode cX2_fittingLetters 1 = .ok (.istore_n 1, 1) := by decide +kernel
theorem dX2_fittingLetters_2 : decode cX2_fittingLetters 2 = .ok (.iload_n 1, 1) := by decide +kernel
theorem dX2_fittingLetters_3 : decode cX2_fittingLetters 3 = .ok (.aload_n 0, 1) := by decide +kernel
theorem dX2_fittingLetters_4 : decode cX2_fittingLetters 4 = .ok (.getfield 33, 3) := by decide +kernel
theorem dX2_fittingLetters_7 : decode cX2_fittingLetters 7 = .ok (.if_icmp .ge 33, 3) := by decide +kernel
theorem dX2_fittingLetters_10 : decode cX2_fittingLetters 10 = .ok (.iload_n 1, 1) := by decide +kernel
theorem dX2_fittingLetters_11 : decode cX2_fittingLetters 11 = .ok (.aload_n 0, 1) := by decide +kernel
theorem dX2_fittingLetters_12 : decode cX2_fittingLetters 12 = .ok (.getfield 9, 3) := by decide +kernel
theorem dX2_fittingLetters_15 : decode cX2_fittingLetters 15 = .ok (.arraylength, 1) := by decide +kernel
theorem dX2_fittingLetters_16 : decode cX2_fittingLetters 16 = .ok (.if_icmp .ge 24, 3) := by decide +kernel
theorem dX2_fittingLetters_19 : decode cX2_fittingLetters 19 = .ok (.iload_n 1, 1) := by decide +kernel
theorem dX2_fittingLetters_20 : decode cX2_fittingLetters 20 = .ok (.aload_n 0, 1) := by decide +kernel
theorem dX2_fittingLetters_21 : decode cX2_fittingLetters 21 = .ok (.getfield 9, 3) := by decide +kernel
theorem dX2_fittingLetters_24 : decode cX2_fittingLetters 24 = .ok (.iload_n 1, 1) := by decide +kernel
theorem dX2_fittingLetters_25 : decode cX2_fittingLetters 25 = .ok (.iaload, 1) := by decide +kernel
theorem dX2_fittingLetters_26 : decode cX2_fittingLetters 26 = .ok (.invokestatic 222, 3) := by decide +kernel
theorem dX2_fittingLetters_29 : decode cX2_fittingLetters 29 = .ok (.ifCond .ne 5, 3) := by decide +kernel
theorem dX2_fittingLetters_32 : decode cX2_fittingLetters 32 = .ok (.iload_n 1, 1) := by decide +kernel
theorem dX2_fittingLetters_33 : decode cX2_fittingLetters 33 = .ok (.ireturn, 1) := by decide +kernel
theorem dX2_fittingLetters_34 : decode cX2_fittingLetters 34 = .ok (.iinc 1 1, 3) := by decide +kernel
theorem dX2_fittingLetters_37 : decode cX2_fittingLetters 37 = .ok (.goto (-35), 3) := by decide +kernel
theorem dX2_fittingLetters_40 : decode cX2_fittingLetters 40 = .ok (.aload_n 0, 1) := by decide +kernel
theorem dX2_fittingLetters_41 : decode cX2_fittingLetters 41 = .ok (.getfield 33, 3) := by decide +kernel
theorem dX2_fittingLetters_44 : decode cX2_fittingLetters 44 = .ok (.ireturn, 1) := by decide +kernel
theorem dX2_fits_0 : decode cX2_fits 0 = .ok (.iload_n 0, 1) := by decide +kernel
theorem dX2_fits_1 : decode cX2_fits 1 = .ok (.bipush 9, 2) := by decide +kernel
theorem dX2_fits_3 : decode cX2_fits 3 = .ok (.if_icmp .ge 33, 3) := by decide +kernel
theorem dX2_fits_6 : decode cX2_fits 6 = .ok (.iload_n 1, 1) := by decide +kernel
theorem dX2_fits_7 : decode cX2_fits 7 = .ok (.bipush 121, 2) := by decide +kernel
theorem dX2_fits_9 : decode cX2_fits 9 = .ok (.if_icmp .eq 21, 3) := by decide +kernel
theorem dX2_fits_12 : decode cX2_fits 12 = .ok (.iload_n 1, 1) := by decide +kernel
theorem dX2_fits_13 : decode cX2_fits 13 = .ok (.bipush 122, 2) := by decide +kernel
theorem dX2_fits_15 : decode cX2_fits 15 = .ok (.if_icmp .eq 15, 3) := by decide +kernel
theorem dX2_fits_18 : decode cX2_fits 18 = .ok (.iload_n 1, 1) := by decide +kernel
theorem dX2_fits_19 : decode cX2_fits 19 = .ok (.bipush 97, 2) := by decide +kernel
theorem dX2_fits_21 : decode cX2_fits 21 = .ok (.if_icmp .lt 13, 3) := by decide +kernel
theorem dX2_fits_24 : decode cX2_fits 24 = .ok (.iload_n 1, 1) := by decide +kernel
theorem dX2_fits_25 : decode cX2_fits 25 = .ok (.bipush 100, 2) := by decide +kernel
theorem dX2_fits_27 : decode cX2_fits 27 = .ok (.if_icmp .gt 7, 3) := by decide +kernel
theorem dX2_fits_30 : decode cX2_fits 30 = .ok (.iconst 1, 1) := by decide +kernel
theorem dX2_fits_31 : decode cX2_fits 31 = .ok (.goto 4, 3) := by decide +kernel
theorem dX2_fits_34 : decode cX2_fits 34 = .ok (.iconst 0, 1) := by decide +kernel
theorem dX2_fits_35 : decode cX2_fits 35 = .ok (.ireturn, 1) := by decide +kernel
theorem dX2_fits_36 : decode cX2_fits 36 = .ok (.iload_n 0, 1) := by decide +kernel
theorem dX2_fits_37 : decode cX2_fits 37 = .ok (.bipush 9, 2) := by decide +kernel
theorem dX2_fits_39 : decode cX2_fits 39 = .ok (.if_icmp .ne 19, 3) := by decide +kernel
theorem dX2_fits_42 : decode cX2_fits 42 = .ok (.iload_n 1, 1) := by decide +kernel
theorem dX2_fits_43 : decode cX2_fits 43 = .ok (.bipush 48, 2) := by decide +kernel
theorem dX2_fits_45 : decode cX2_fits 45 = .ok (.if_icmp .lt 13, 3) := by decide +kernel
theorem dX2_fits_48 : decode cX2_fits 48 = .ok (.iload_n 1, 1) := by decide +kernel
theorem dX2_fits_49 : decode cX2_fits 49 = .ok (.bipush 52, 2) := by decide +kernel
theorem dX2_fits_51 : decode cX2_fits 51 = .ok (.if_icmp .ge 7, 3) := by decide +kernel
theorem dX2_fits_54 : decode cX2_fits 54 = .ok (.iconst 1, 1) := by decide +kernel
theorem dX2_fits_55 : decode cX2_fits 55 = .ok (.goto 4, 3) := by decide +kernel
theorem dX2_fits_58 : decode cX2_fits 58 = .ok (.iconst 0, 1) := by decide +kernel
theorem dX2_fits_59 : decode cX2_fits 59 = .ok (.ireturn, 1) := by decide +kernel
theorem dX2_delayByLetter_0 : decode cX2_delayByLetter 0 = .ok (.iload_n 0, 1) := by decide +kernel
theorem dX2_delayByLetter_1 : decode cX2_delayByLetter 1 = .ok (.bipush 121, 2) := by decide +kernel
theorem dX2_delayByLetter_3 : decode cX2_delayByLetter 3 = .ok (.if_icmp .lt 12, 3) := by decide +kernel
theorem dX2_delayByLetter_6 : decode cX2_delayByLetter 6 = .ok (.iload_n 0, 1) := by decide +kernel
theorem dX2_delayByLetter_7 : decode cX2_delayByLetter 7 = .ok (.bipush 122, 2) := by decide +kernel
theorem dX2_delayByLetter_9 : decode cX2_delayByLetter 9 = .ok (.isub, 1) := by decide +kernel
theorem dX2_delayByLetter_10 : decode cX2_delayByLetter 10 = .ok (.iconst 1, 1) := by decide +kernel
theorem dX2_delayByLetter_11 : decode cX2_delayByLetter 11 = .ok (.isub, 1) := by decide +kernel
theorem dX2_delayByLetter_12 : decode cX2_delayByLetter 12 = .ok (.goto 7, 3) := by decide +kernel
theorem dX2_delayByLetter_15 : decode cX2_delayByLetter 15 = .ok (.iload_n 0, 1) := by decide +kernel
theorem dX2_delayByLetter_16 : decode cX2_delayByLetter 16 = .ok (.bipush 97, 2) := by decide +kernel
theorem dX2_delayByLetter_18 : decode cX2_delayByLetter 18 = .ok (.isub, 1) := by decide +kernel
theorem dX2_delayByLetter_19 : decode cX2_delayByLetter 19 = .ok (.ireturn, 1) := by decide +kernel
theorem dX2_isOfKind_0 : decode cX2_isOfKind 0 = .ok (.iload_n 1, 1) := by decide +kernel
theorem dX2_isOfKind_1 : decode cX2_isOfKind 1 = .ok (.ifCond .eq 18, 3) := by decide +kernel
theorem dX2_isOfKind_4 : decode cX2_isOfKind 4 = .ok (.iload_n 1, 1) := by decide +kernel
theorem dX2_isOfKind_5 : decode cX2_isOfKind 5 = .ok (.iload_n 0, 1) := by decide +kernel
theorem dX2_isOfKind_6 : decode cX2_isOfKind 6 = .ok (.if_icmp .eq 13, 3) := by decide +kernel
theorem dX2_isOfKind_9 : decode cX2_isOfKind 9 = .ok (.iload_n 1, 1) := by decide +kernel
theorem dX2_isOfKind_10 : decode cX2_isOfKind 10 = .ok (.iconst 2, 1) := by decide +kernel
theorem dX2_isOfKind_11 : decode cX2_isOfKind 11 = .ok (.if_icmp .ne 12, 3) := by decide +kernel
theorem dX2_isOfKind_14 : decode cX2_isOfKind 14 = .ok (.iload_n 0, 1) := by decide +kernel
theorem dX2_isOfKind_15 : decode cX2_isOfKind 15 = .ok (.iconst 4, 1) := by decide +kernel
theorem dX2_isOfKind_16 : decode cX2_isOfKind 16 = .ok (.if_icmp .ne 7, 3) := by decide +kernel
theorem dX2_isOfKind_19 : decode cX2_isOfKind 19 = .ok (.iconst 1, 1) := by decide +kernel
theorem dX2_isOfKind_20 : decode cX2_isOfKind 20 = .ok (.goto 4, 3) := by decide +kernel
theorem dX2_isOfKind_23 : decode cX2_isOfKind 23 = .ok (.iconst 0, 1) := by decide +kernel
theorem dX2_isOfKind_24 : decode cX2_isOfKind 24 = .ok (.ireturn, 1) := by decide +kernel
theorem dX2_putsIfEmpty_0 : decode cX2_putsIfEmpty 0 = .ok (.iload_n 0, 1) := by decide +kernel
theorem dX2_putsIfEmpty_1 : decode cX2_putsIfEmpty 1 = .ok (.tableswitch 43 2 4 #[27, 30, 34], 27) := by decide +kernel
theorem dX2_putsIfEmpty_28 : decode cX2_putsIfEmpty 28 = .ok (.bipush 127, 2) := by decide +kernel
theorem dX2_putsIfEmpty_30 : decode cX2_putsIfEmpty 30 = .ok (.ireturn, 1) := by decide +kernel
theorem dX2_putsIfEmpty_31 : decode cX2_putsIfEmpty 31 = .ok (.iconst 1, 1) := by decide +kernel
theorem dX2_putsIfEmpty_32 : decode cX2_putsIfEmpty 32 = .ok (.iload_n 1, 1) := by decide +kernel
theorem dX2_putsIfEmpty_33 : decode cX2_putsIfEmpty 33 = .ok (.ishl, 1) := by decide +kernel
theorem dX2_putsIfEmpty_34 : decode cX2_putsIfEmpty 34 = .ok (.ireturn, 1) := by decide +kernel
theorem dX2_putsIfEmpty_35 : decode cX2_putsIfEmpty 35 = .ok (.bipush 127, 2) := by decide +kernel
theorem dX2_putsIfEmpty_37 : decode cX2_putsIfEmpty 37 = .ok (.iconst 1, 1) := by decide +kernel
theorem dX2_putsIfEmpty_38 : decode cX2_putsIfEmpty 38 = .ok (.iload_n 1, 1) := by decide +kernel
theorem dX2_putsIfEmpty_39 : decode cX2_putsIfEmpty 39 = .ok (.ishl, 1) := by decide +kernel
theorem dX2_putsIfEmpty_40 : decode cX2_putsIfEmpty 40 = .ok (.iconst (-1), 1) := by decide +kernel
theorem dX2_putsIfEmpty_41 : decode cX2_putsIfEmpty 41 = .ok (.ixor, 1) := by decide +kernel
theorem dX2_putsIfEmpty_42 : decode cX2_putsIfEmpty 42 = .ok (.iand, 1) := by decide +kernel
theorem dX2_putsIfEmpty_43 : decode cX2_putsIfEmpty 43 = .ok (.ireturn, 1) := by decide +kernel
theorem dX2_putsIfEmpty_44 : decode cX2_putsIfEmpty 44 = .ok (.iconst 0, 1) := by decide +kernel
theorem dX2_putsIfEmpty_45 : decode cX2_putsIfEmpty 45 = .ok (.ireturn, 1) := by decide +kernel
theorem dX2_putsIfThere_0 : decode cX2_putsIfThere 0 = .ok (.iload_n 0, 1) := by decide +kernel
theorem dX2_putsIfThere_1 : decode cX2_putsIfThere 1 = .ok (.lookupswitch 34 #[(1, 27), (3, 30)], 27) := by decide +kernel
theorem dX2_putsIfThere_28 : decode cX2_putsIfThere 28 = .ok (.bipush 127, 2) := by decide +kernel
theorem dX2_putsIfThere_30 : decode cX2_putsIfThere 30 = .ok (.ireturn, 1) := by decide +kernel
theorem dX2_putsIfThere_31 : decode cX2_putsIfThere 31 = .ok (.iconst 1, 1) := by decide +kernel
theorem dX2_putsIfThere_32 : decode cX2_putsIfThere 32 = .ok (.iload_n 1, 1) := by decide +kernel
theorem dX2_putsIfThere_33 : decode cX2_putsIfThere 33 = .ok (.ishl, 1) := by decide +kernel
theorem dX2_putsIfThere_34 : decode cX2_putsIfThere 34 = .ok (.ireturn, 1) := by decide +kernel
theorem dX2_putsIfThere_35 : decode cX2_putsIfThere 35 = .ok (.iconst 0, 1) := by decide +kernel
theorem dX2_putsIfThere_36 : decode cX2_putsIfThere 36 = .ok (.ireturn, 1) := by decide +kernel
theorem dX2_aheadOf_0 : decode cX2_aheadOf 0 = .ok (.aload_n 0, 1) := by decide +kernel
theorem dX2_aheadOf_1 : decode cX2_aheadOf 1 = .ok (.getfield 19, 3) := by decide +kernel
theorem dX2_aheadOf_4 : decode cX2_aheadOf 4 = .ok (.getfield 59, 3) := by decide +kernel
theorem dX2_aheadOf_7 : decode cX2_aheadOf 7 = .ok (.tableswitch 49 0 2 #[25, 32, 41], 25) := by decide +kernel
theorem dX2_aheadOf_32 : decode cX2_aheadOf 32 = .ok (.aload_n 0, 1) := by decide +kernel
theorem dX2_aheadOf_33 : decode cX2_aheadOf 33 = .ok (.getfield 13, 3) := by decide +kernel
theorem dX2_aheadOf_36 : decode cX2_aheadOf 36 = .ok (.iload_n 1, 1) := by decide +kernel
theorem dX2_aheadOf_37 : decode cX2_aheadOf 37 = .ok (.iaload, 1) := by decide +kernel
theorem dX2_aheadOf_38 : decode cX2_aheadOf 38 = .ok (.ireturn, 1) := by decide +kernel
theorem dX2_aheadOf_39 : decode cX2_aheadOf 39 = .ok (.aload_n 0, 1) := by decide +kernel
theorem dX2_aheadOf_40 : decode cX2_aheadOf 40 = .ok (.getfield 13, 3) := by decide +kernel
theorem dX2_aheadOf_43 : decode cX2_aheadOf 43 = .ok (.iload_n 1, 1) := by decide +kernel
theorem dX2_aheadOf_44 : decode cX2_aheadOf 44 = .ok (.iaload, 1) := by decide +kernel
theorem dX2_aheadOf_45 : decode cX2_aheadOf 45 = .ok (.iconst 1, 1) := by decide +kernel
theorem dX2_aheadOf_46 : decode cX2_aheadOf 46 = .ok (.iadd, 1) := by decide +kernel
theorem dX2_aheadOf_47 : decode cX2_aheadOf 47 = .ok (.ireturn, 1) := by decide +kernel
theorem dX2_aheadOf_48 : decode cX2_aheadOf 48 = .ok (.aload_n 0, 1) := by decide +kernel
theorem dX2_aheadOf_49 : decode cX2_aheadOf 49 = .ok (.getfield 13, 3) := by decide +kernel
theorem dX2_aheadOf_52 : decode cX2_aheadOf 52 = .ok (.iload_n 1, 1) := by decide +kernel
theorem dX2_aheadOf_53 : decode cX2_aheadOf 53 = .ok (.iaload, 1) := by decide +kernel
theorem dX2_aheadOf_54 : decode cX2_aheadOf 54 = .ok (.ineg, 1) := by decide +kernel
theorem dX2_aheadOf_55 : decode cX2_aheadOf 55 = .ok (.ireturn, 1) := by decide +kernel
theorem dX2_aheadOf_56 : decode cX2_aheadOf 56 = .ok (.iconst 0, 1) := by decide +kernel
theorem dX2_aheadOf_57 : decode cX2_aheadOf 57 = .ok (.ireturn, 1) := by decide +kernel
set_option maxRecDepth 20000 in
theorem ggX2_courseOf_X2_courseWithout : GoodIn wsX2_courseOf wsX2_courseWithout := goodIn_r _ [5, 6, 7, 8, 9, 10, 11, 12, 13, 14, 15, 4, 16, 17, 18, 19, 20, 21, 22, 23, 24, 25, 26, 27, 28, 29, 30, 31, 32, 33, 34, 35, 51, 52, 53, 54, 55, 56, 57, 58, 59, 60, 61, 62, 63, 64, 65, 66, 67, 68, 69, 70, 71, 72, 73, 74, 75, 76] (by decide +kernel) (by decide +kernel)
set_option maxRecDepth 20000 in
theorem gX2_courseOf_X2_courseWithout : GoodIn wsX2_courseOf (wsV RX2 123 RX2 yX2_courseWithout wsX2_courseWithout) := goodIn_app (goodIn_of _ (by decide +kernel)) ggX2_courseOf_X2_courseWithout
set_option maxRecDepth 20000 in
theorem ggX2_courseOf_X0_settle : GoodIn wsX2_courseOf wsX0_settle := goodIn_r _ [39, 24, 40, 41, 42, 43, 44, 45, 22, 46, 26, 27, 25, 47, 48, 49, 50, 70, 71, 72, 73, 74, 75, 76] (by decide +kernel) (by decide +kernel)
set_option maxRecDepth 20000 in
theorem gX2_courseOf_X0_settle : GoodIn wsX2_courseOf (wsV RX2 160 RX0 yX0_settle wsX0_settle) := goodIn_app (goodIn_of _ (by decide +kernel)) ggX2_courseOf_X0_settle
theorem dX2_courseOf_0 : decode cX2_courseOf 0 = .ok (.aload_n 0, 1) := by decide +kernel
theorem dX2_courseOf_1 : decode cX2_courseOf 1 = .ok (.iconst (-1), 1) := by decide +kernel
theorem dX2_courseOf_2 : decode cX2_courseOf 2 = .ok (.iload_n 1, 1) := by decide +kernel
theorem dX2_courseOf_3 : decode cX2_courseOf 3 = .ok (.invokevirtual 123, 3) := by decide +kernel
theorem dX2_courseOf_6 : decode cX2_courseOf 6 = .ok (.astore_n 2, 1) := by decide +kernel
theorem dX2_courseOf_7 : decode cX2_courseOf 7 = .ok (.aload_n 2, 1) := by decide +kernel
theorem dX2_courseOf_8 : decode cX2_courseOf 8 = .ok (.invokevirtual 160, 3) := by decide +kernel
theorem dX2_courseOf_11 : decode cX2_courseOf 11 = .ok (.aload_n 2, 1) := by decide +kernel
theorem dX2_courseOf_12 : decode cX2_courseOf 12 = .ok (.areturn, 1) := by decide +kernel
set_option maxRecDepth 20000 in
theorem ggX2_courseWithout_X2_aheadOf : GoodIn wsX2_courseWithout wsX2_aheadOf := goodIn_r _ [12, 2, 13, 14, 32, 33, 34, 35, 36, 37, 38, 39, 40, 41, 42, 43, 44, 45, 46, 47, 48, 49, 50] (by decide +kernel) (by decide +kernel)
set_option maxRecDepth 20000 in
theorem gX2_courseWithout_X2_aheadOf : GoodIn wsX2_courseWithout (wsV RX2 66 RX2 yX2_aheadOf wsX2_aheadOf) := goodIn_app (goodIn_of _ (by decide +kernel)) ggX2_courseWithout_X2_aheadOf
set_option maxRecDepth 20000 in
theorem ggX2_courseWithout_X0_start : GoodIn wsX2_courseWithout wsX0_start := goodIn_r _ [19, 20, 21, 22, 23, 51, 52, 53, 54, 55, 56, 57] (by decide +kernel) (by decide +kernel)
set_option maxRecDepth 20000 in
theorem gX2_courseWithout_X0_start : GoodIn wsX2_courseWithout (wsV RX2 225 RX0 yX0_start wsX0_start) := goodIn_app (goodIn_of _ (by decide +kernel)) ggX2_courseWithout_X0_start
set_option maxRecDepth 20000 in
theorem ggX2_courseWithout_X0_join : GoodIn wsX2_courseWithout wsX0_join := goodIn_r _ [27, 22, 23, 28, 11, 29, 30, 31, 51, 52, 53, 54, 55, 56, 57] (by decide +kernel) (by decide +kernel)
set_option maxRecDepth 20000 in
theorem gX2_courseWithout_X0_join : GoodIn wsX2_courseWithout (wsV RX2 229 RX0 yX0_join wsX0_join) := goodIn_app (goodIn_of _ (by decide +kernel)) ggX2_courseWithout_X0_join
theorem dX2_courseWithout_0 : decode cX2_courseWithout 0 = .ok (.aload_n 0, 1) := by decide +kernel
theorem dX2_courseWithout_1 : decode cX2_courseWithout 1 = .ok (.getfield 29, 3) := by decide +kernel
theorem dX2_courseWithout_4 : decode cX2_courseWithout 4 = .ok (.aload_n 0, 1) := by decide +kernel
theorem dX2_courseWithout_5 : decode cX2_courseWithout 5 = .ok (.iload_n 2, 1) := by decide +kernel
theorem dX2_courseWithout_6 : decode cX2_courseWithout 6 = .ok (.invokevirtual 66, 3) := by decide +kernel
theorem dX2_courseWithout_9 : decode cX2_courseWithout 9 = .ok (.aload_n 0, 1) := by decide +kernel
theorem dX2_courseWithout_10 : decode cX2_courseWithout 10 = .ok (.getfield 19, 3) := by decide +kernel
theorem dX2_courseWithout_13 : decode cX2_courseWithout 13 = .ok (.getfield 72, 3) := by decide +kernel
theorem dX2_courseWithout_16 : decode cX2_courseWithout 16 = .ok (.iload_n 2, 1) := by decide +kernel
theorem dX2_courseWithout_17 : decode cX2_courseWithout 17 = .ok (.iaload, 1) := by decide +kernel
theorem dX2_courseWithout_18 : decode cX2_courseWithout 18 = .ok (.invokevirtual 225, 3) := by decide +kernel
theorem dX2_courseWithout_21 : decode cX2_courseWithout 21 = .ok (.iconst 0, 1) := by decide +kernel
theorem dX2_courseWithout_22 : decode cX2_courseWithout 22 = .ok (.istore_n 3, 1) := by decide +kernel
theorem dX2_courseWithout_23 : decode cX2_courseWithout 23 = .ok (.iload_n 3, 1) := by decide +kernel
theorem dX2_courseWithout_24 : decode cX2_courseWithout 24 = .ok (.aload_n 0, 1) := by decide +kernel
theorem dX2_courseWithout_25 : decode cX2_courseWithout 25 = .ok (.getfield 19, 3) := by decide +kernel
theorem dX2_courseWithout_28 : decode cX2_courseWithout 28 = .ok (.getfield 94, 3) := by decide +kernel
theorem dX2_courseWithout_31 : decode cX2_courseWithout 31 = .ok (.if_icmp .ge 52, 3) := by decide +kernel
theorem dX2_courseWithout_34 : decode cX2_courseWithout 34 = .ok (.iload_n 3, 1) := by decide +kernel
theorem dX2_courseWithout_35 : decode cX2_courseWithout 35 = .ok (.iload_n 1, 1) := by decide +kernel
theorem dX2_courseWithout_36 : decode cX2_courseWithout 36 = .ok (.if_icmp .eq 41, 3) := by decide +kernel
theorem dX2_courseWithout_39 : decode cX2_courseWithout 39 = .ok (.aload_n 0, 1) := by decide +kernel
theorem dX2_courseWithout_40 : decode cX2_courseWithout 40 = .ok (.getfield 19, 3) := by decide +kernel
theorem dX2_courseWithout_43 : decode cX2_courseWithout 43 = .ok (.getfield 100, 3) := by decide +kernel
theorem dX2_courseWithout_46 : decode cX2_courseWithout 46 = .ok (.iload_n 3, 1) := by decide +kernel
theorem dX2_courseWithout_47 : decode cX2_courseWithout 47 = .ok (.iaload, 1) := by decide +kernel
theorem dX2_courseWithout_48 : decode cX2_courseWithout 48 = .ok (.iload_n 2, 1) := by decide +kernel
theorem dX2_courseWithout_49 : decode cX2_courseWithout 49 = .ok (.if_icmp .ne 28, 3) := by decide +kernel
theorem dX2_courseWithout_52 : decode cX2_courseWithout 52 = .ok (.aload_n 0, 1) := by decide +kernel
theorem dX2_courseWithout_53 : decode cX2_courseWithout 53 = .ok (.getfield 29, 3) := by decide +kernel
theorem dX2_courseWithout_56 : decode cX2_courseWithout 56 = .ok (.aload_n 0, 1) := by decide +kernel
theorem dX2_courseWithout_57 : decode cX2_courseWithout 57 = .ok (.getfield 19, 3) := by decide +kernel
theorem dX2_courseWithout_60 : decode cX2_courseWithout 60 = .ok (.getfield 97, 3) := by decide +kernel
theorem dX2_courseWithout_63 : decode cX2_courseWithout 63 = .ok (.iload_n 3, 1) := by decide +kernel
theorem dX2_courseWithout_64 : decode cX2_courseWithout 64 = .ok (.iaload, 1) := by decide +kernel
theorem dX2_courseWithout_65 : decode cX2_courseWithout 65 = .ok (.aload_n 0, 1) := by decide +kernel
theorem dX2_courseWithout_66 : decode cX2_courseWithout 66 = .ok (.getfield 19, 3) := by decide +kernel
theorem dX2_courseWithout_69 : decode cX2_courseWithout 69 = .ok (.getfield 103, 3) := by decide +kernel
theorem dX2_courseWithout_72 : decode cX2_courseWithout 72 = .ok (.iload_n 3, 1) := by decide +kernel
theorem dX2_courseWithout_73 : decode cX2_courseWithout 73 = .ok (.iaload, 1) := by decide +kernel
theorem dX2_courseWithout_74 : decode cX2_courseWithout 74 = .ok (.invokevirtual 229, 3) := by decide +kernel
theorem dX2_courseWithout_77 : decode cX2_courseWithout 77 = .ok (.iinc 3 1, 3) := by decide +kernel
theorem dX2_courseWithout_80 : decode cX2_courseWithout 80 = .ok (.goto (-57), 3) := by decide +kernel
theorem dX2_courseWithout_83 : decode cX2_courseWithout 83 = .ok (.aload_n 0, 1) := by decide +kernel
theorem dX2_courseWithout_84 : decode cX2_courseWithout 84 = .ok (.getfield 29, 3) := by decide +kernel
theorem dX2_courseWithout_87 : decode cX2_courseWithout 87 = .ok (.areturn, 1) := by decide +kernel
set_option maxRecDepth 20000 in
theorem ggX2_canBe_X2_courseWithout : GoodIn wsX2_canBe wsX2_courseWithout := goodIn_r _ [7, 8, 1, 9, 10, 2, 11, 12, 13, 14, 15, 6, 16, 17, 18, 19, 20, 21, 22, 23, 24, 25, 26, 27, 28, 29, 30, 31, 32, 33, 34, 35, 61, 62, 63, 64, 65, 66, 67, 68, 69, 70, 71, 72, 73, 74, 75, 76, 77, 78, 79, 80, 81, 82, 83, 84, 85, 86] (by decide +kernel) (by decide +kernel)
set_option maxRecDepth 20000 in
theorem gX2_canBe_X2_courseWithout : GoodIn wsX2_canBe (wsV RX2 123 RX2 yX2_courseWithout wsX2_courseWithout) := goodIn_app (goodIn_of _ (by decide +kernel)) ggX2_canBe_X2_courseWithout
set_option maxRecDepth 20000 in
theorem ggX2_canBe_X0_join : GoodIn wsX2_canBe wsX0_join := goodIn_r _ [31, 26, 27, 32, 6, 33, 34, 35, 80, 81, 82, 83, 84, 85, 86] (by decide +kernel) (by decide +kernel)
set_option maxRecDepth 20000 in
theorem gX2_canBe_X0_join : GoodIn wsX2_canBe (wsV RX2 229 RX0 yX0_join wsX0_join) := goodIn_app (goodIn_of _ (by decide +kernel)) ggX2_canBe_X0_join
set_option maxRecDepth 20000 in
theorem ggX2_canBe_X0_settle : GoodIn wsX2_canBe wsX0_settle := goodIn_r _ [39, 24, 40, 41, 42, 43, 44, 45, 22, 46, 26, 27, 25, 47, 48, 49, 50, 80, 81, 82, 83, 84, 85, 86] (by decide +kernel) (by decide +kernel)
set_option maxRecDepth 20000 in
theorem gX2_canBe_X0_settle : GoodIn wsX2_canBe (wsV RX2 160 RX0 yX0_settle wsX0_settle) := goodIn_app (goodIn_of _ (by decide +kernel)) ggX2_canBe_X0_settle
set_option maxRecDepth 20000 in
theorem ggX2_canBe_X2_isAsFound : GoodIn wsX2_canBe wsX2_isAsFound := goodIn_r _ [54, 1, 55, 56, 57, 58, 59, 22, 60, 42, 40, 41, 61, 62, 63, 64, 65, 66, 67, 68, 69, 70, 71, 72, 73, 74, 75, 76, 77, 78, 79, 80, 81, 82, 83, 84, 85, 86] (by decide +kernel) (by decide +kernel)
set_option maxRecDepth 20000 in
theorem gX2_canBe_X2_isAsFound : GoodIn wsX2_canBe (wsV RX2 163 RX2 yX2_isAsFound wsX2_isAsFound) := goodIn_app (goodIn_of _ (by decide +kernel)) ggX2_canBe_X2_isAsFound
theorem dX2_canBe_0 : decode cX2_canBe 0 = .ok (.aload_n 0, 1) := by decide +kernel
theorem dX2_canBe_1 : decode cX2_canBe 1 = .ok (.getfield 19, 3) := by decide +kernel
theorem dX2_canBe_4 : decode cX2_canBe 4 = .ok (.getfield 100, 3) := by decide +kernel
theorem dX2_canBe_7 : decode cX2_canBe 7 = .ok (.iload_n 1, 1) := by decide +kernel
theorem dX2_canBe_8 : decode cX2_canBe 8 = .ok (.iaload, 1) := by decide +kernel
theorem dX2_canBe_9 : decode cX2_canBe 9 = .ok (.istore 4, 2) := by decide +kernel
theorem dX2_canBe_11 : decode cX2_canBe 11 = .ok (.aload_n 0, 1) := by decide +kernel
theorem dX2_canBe_12 : decode cX2_canBe 12 = .ok (.iload_n 1, 1) := by decide +kernel
theorem dX2_canBe_13 : decode cX2_canBe 13 = .ok (.iload 4, 2) := by decide +kernel
theorem dX2_canBe_15 : decode cX2_canBe 15 = .ok (.invokevirtual 123, 3) := by decide +kernel
theorem dX2_canBe_18 : decode cX2_canBe 18 = .ok (.astore 5, 2) := by decide +kernel
theorem dX2_canBe_20 : decode cX2_canBe 20 = .ok (.aload 5, 2) := by decide +kernel
theorem dX2_canBe_22 : decode cX2_canBe 22 = .ok (.iload_n 2, 1) := by decide +kernel
theorem dX2_canBe_23 : decode cX2_canBe 23 = .ok (.iload_n 3, 1) := by decide +kernel
theorem dX2_canBe_24 : decode cX2_canBe 24 = .ok (.invokevirtual 229, 3) := by decide +kernel
theorem dX2_canBe_27 : decode cX2_canBe 27 = .ok (.aload 5, 2) := by decide +kernel
theorem dX2_canBe_29 : decode cX2_canBe 29 = .ok (.invokevirtual 160, 3) := by decide +kernel
theorem dX2_canBe_32 : decode cX2_canBe 32 = .ok (.aload_n 0, 1) := by decide +kernel
theorem dX2_canBe_33 : decode cX2_canBe 33 = .ok (.aload 5, 2) := by decide +kernel
theorem dX2_canBe_35 : decode cX2_canBe 35 = .ok (.iload 4, 2) := by decide +kernel
theorem dX2_canBe_37 : decode cX2_canBe 37 = .ok (.invokevirtual 163, 3) := by decide +kernel
theorem dX2_canBe_40 : decode cX2_canBe 40 = .ok (.ireturn, 1) := by decide +kernel
set_option maxRecDepth 20000 in
theorem ggX2_isAsFound_X0_allows : GoodIn wsX2_isAsFound wsX0_allows := goodIn_r _ [8, 9, 10, 11, 31, 32, 33, 34, 35, 36, 37] (by decide +kernel) (by decide +kernel)
set_option maxRecDepth 20000 in
theorem gX2_isAsFound_X0_allows : GoodIn wsX2_isAsFound (wsV RX2 232 RX0 yX0_allows wsX0_allows) := goodIn_app (goodIn_of _ (by decide +kernel)) ggX2_isAsFound_X0_allows
theorem dX2_isAsFound_0 : decode cX2_isAsFound 0 = .ok (.aload_n 1, 1) := by decide +kernel
theorem dX2_isAsFound_1 : decode cX2_isAsFound 1 = .ok (.aload_n 0, 1) := by decide +kernel
theorem dX2_isAsFound_2 : decode cX2_isAsFound 2 = .ok (.getfield 19, 3) := by decide +kernel
theorem dX2_isAsFound_5 : decode cX2_isAsFound 5 = .ok (.getfield 148, 3) := by decide +kernel
theorem dX2_isAsFound_8 : decode cX2_isAsFound 8 = .ok (.iload_n 2, 1) := by decide +kernel
theorem dX2_isAsFound_9 : decode cX2_isAsFound 9 = .ok (.iaload, 1) := by decide +kernel
theorem dX2_isAsFound_10 : decode cX2_isAsFound 10 = .ok (.aload_n 0, 1) := by decide +kernel
theorem dX2_isAsFound_11 : decode cX2_isAsFound 11 = .ok (.getfield 19, 3) := by decide +kernel
theorem dX2_isAsFound_14 : decode cX2_isAsFound 14 = .ok (.getfield 151, 3) := by decide +kernel
theorem dX2_isAsFound_17 : decode cX2_isAsFound 17 = .ok (.iload_n 2, 1) := by decide +kernel
theorem dX2_isAsFound_18 : decode cX2_isAsFound 18 = .ok (.iaload, 1) := by decide +kernel
theorem dX2_isAsFound_19 : decode cX2_isAsFound 19 = .ok (.invokevirtual 232, 3) := by decide +kernel
theorem dX2_isAsFound_22 : decode cX2_isAsFound 22 = .ok (.ireturn, 1) := by decide +kernel
set_option maxRecDepth 20000 in
theorem ggX2_drawersThatAgree_X2_courseOf : GoodIn wsX2_drawersThatAgree wsX2_courseOf := goodIn_r _ [7, 8, 9, 10, 6, 11, 12, 13, 14, 15, 16, 17, 18, 19, 20, 21, 22, 23, 24, 25, 26, 27, 28, 29, 30, 31, 32, 33, 34, 35, 36, 37, 38, 39, 40, 41, 42, 43, 44, 45, 46, 47, 48, 49, 50, 51, 52, 53, 54, 55, 56, 57, 58, 59, 60, 61, 62, 63, 64, 65, 66, 74, 75, 76, 77, 78, 79, 80, 81, 82, 67, 68, 69, 70, 71, 72, 73] (by decide +kernel) (by decide +kernel)
set_option maxRecDepth 20000 in
theorem gX2_drawersThatAgree_X2_courseOf : GoodIn wsX2_drawersThatAgree (wsV RX2 75 RX2 yX2_courseOf wsX2_courseOf) := goodIn_app (goodIn_of _ (by decide +kernel)) ggX2_drawersThatAgree_X2_courseOf
theorem dX2_drawersThatAgree_0 : decode cX2_drawersThatAgree 0 = .ok (.aload_n 0, 1) := by decide +kernel
theorem dX2_drawersThatAgree_1 : decode cX2_drawersThatAgree 1 = .ok (.getfield 49, 3) := by decide +kernel
theorem dX2_drawersThatAgree_4 : decode cX2_drawersThatAgree 4 = .ok (.ifCond .ne 5, 3) := by decide +kernel
theorem dX2_drawersThatAgree_7 : decode cX2_drawersThatAgree 7 = .ok (.iconst 0, 1) := by decide +kernel
theorem dX2_drawersThatAgree_8 : decode cX2_drawersThatAgree 8 = .ok (.ireturn, 1) := by decide +kernel
theorem dX2_drawersThatAgree_9 : decode cX2_drawersThatAgree 9 = .ok (.iconst 0, 1) := by decide +kernel
theorem dX2_drawersThatAgree_10 : decode cX2_drawersThatAgree 10 = .ok (.istore_n 1, 1) := by decide +kernel
theorem dX2_drawersThatAgree_11 : decode cX2_drawersThatAgree 11 = .ok (.iconst 0, 1) := by decide +kernel
theorem dX2_drawersThatAgree_12 : decode cX2_drawersThatAgree 12 = .ok (.istore_n 2, 1) := by decide +kernel
theorem dX2_drawersThatAgree_13 : decode cX2_drawersThatAgree 13 = .ok (.iload_n 2, 1) := by decide +kernel
theorem dX2_drawersThatAgree_14 : decode cX2_drawersThatAgree 14 = .ok (.bipush 9, 2) := by decide +kernel
theorem dX2_drawersThatAgree_16 : decode cX2_drawersThatAgree 16 = .ok (.if_icmp .ge 23, 3) := by decide +kernel
theorem dX2_drawersThatAgree_19 : decode cX2_drawersThatAgree 19 = .ok (.aload_n 0, 1) := by decide +kernel
theorem dX2_drawersThatAgree_20 : decode cX2_drawersThatAgree 20 = .ok (.iload_n 2, 1) := by decide +kernel
theorem dX2_drawersThatAgree_21 : decode cX2_drawersThatAgree 21 = .ok (.invokevirtual 75, 3) := by decide +kernel
theorem dX2_drawersThatAgree_24 : decode cX2_drawersThatAgree 24 = .ok (.getfield 180, 3) := by decide +kernel
theorem dX2_drawersThatAgree_27 : decode cX2_drawersThatAgree 27 = .ok (.ifCond .ne 6, 3) := by decide +kernel
theorem dX2_drawersThatAgree_30 : decode cX2_drawersThatAgree 30 = .ok (.iinc 1 1, 3) := by decide +kernel
theorem dX2_drawersThatAgree_33 : decode cX2_drawersThatAgree 33 = .ok (.iinc 2 1, 3) := by decide +kernel
theorem dX2_drawersThatAgree_36 : decode cX2_drawersThatAgree 36 = .ok (.goto (-23), 3) := by decide +kernel
theorem dX2_drawersThatAgree_39 : decode cX2_drawersThatAgree 39 = .ok (.iload_n 1, 1) := by decide +kernel
theorem dX2_drawersThatAgree_40 : decode cX2_drawersThatAgree 40 = .ok (.ireturn, 1) := by decide +kernel
set_option maxRecDepth 20000 in
theorem ggX2_fewestLaid_J6_bitCount_0f7a4 : GoodIn wsX2_fewestLaid wsJ6_bitCount_0f7a4 := goodIn_r _ [5, 6, 7, 8] (by decide +kernel) (by decide +kernel)
set_option maxRecDepth 20000 in
theorem gX2_fewestLaid_J6_bitCount_0f7a4 : GoodIn wsX2_fewestLaid (va_wsS RX2 140 yJ6_bitCount_0f7a4 wsJ6_bitCount_0f7a4) := goodIn_app (goodIn_of _ (by decide +kernel)) ggX2_fewestLaid_J6_bitCount_0f7a4
set_option maxRecDepth 20000 in
theorem ggX2_fewestLaid_X0_settle : GoodIn wsX2_fewestLaid wsX0_settle := goodIn_r _ [13, 14, 15, 16, 17, 18, 19, 20, 12, 21, 22, 23, 24, 25, 26, 27, 28, 33, 34, 35, 36, 37, 38, 39] (by decide +kernel) (by decide +kernel)
set_option maxRecDepth 20000 in
theorem gX2_fewestLaid_X0_settle : GoodIn wsX2_fewestLaid (wsV RX2 160 RX0 yX0_settle wsX0_settle) := goodIn_app (goodIn_of _ (by decide +kernel)) ggX2_fewestLaid_X0_settle
set_option maxRecDepth 20000 in
theorem ggX2_fewestLaid_X0_isSureOfAll : GoodIn wsX2_fewestLaid wsX0_isSureOfAll := goodIn_r _ [32, 17, 16, 33, 34, 35, 36, 37, 38, 39] (by decide +kernel) (by decide +kernel)
set_option maxRecDepth 20000 in
theorem gX2_fewestLaid_X0_isSureOfAll : GoodIn wsX2_fewestLaid (wsV RX2 235 RX0 yX0_isSureOfAll wsX0_isSureOfAll) := goodIn_app (goodIn_of _ (by decide +kernel)) ggX2_fewestLaid_X0_isSureOfAll
theorem dX2_fewestLaid_0 : decode cX2_fewestLaid 0 = .ok (.iconst (-1), 1) := by decide +kernel
theorem dX2_fewestLaid_1 : decode cX2_fewestLaid 1 = .ok (.istore_n 2, 1) := by decide +kernel
theorem dX2_fewestLaid_2 : decode cX2_fewestLaid 2 = .ok (.iconst 0, 1) := by decide +kernel
theorem dX2_fewestLaid_3 : decode cX2_fewestLaid 3 = .ok (.istore_n 3, 1) := by decide +kernel
theorem dX2_fewestLaid_4 : decode cX2_fewestLaid 4 = .ok (.iload_n 3, 1) := by decide +kernel
theorem dX2_fewestLaid_5 : decode cX2_fewestLaid 5 = .ok (.bipush 127, 2) := by decide +kernel
theorem dX2_fewestLaid_7 : decode cX2_fewestLaid 7 = .ok (.if_icmp .gt 44, 3) := by decide +kernel
theorem dX2_fewestLaid_10 : decode cX2_fewestLaid 10 = .ok (.iload_n 2, 1) := by decide +kernel
theorem dX2_fewestLaid_11 : decode cX2_fewestLaid 11 = .ok (.iconst (-1), 1) := by decide +kernel
theorem dX2_fewestLaid_12 : decode cX2_fewestLaid 12 = .ok (.if_icmp .eq 14, 3) := by decide +kernel
theorem dX2_fewestLaid_15 : decode cX2_fewestLaid 15 = .ok (.iload_n 3, 1) := by decide +kernel
theorem dX2_fewestLaid_16 : decode cX2_fewestLaid 16 = .ok (.invokestatic 140, 3) := by decide +kernel
theorem dX2_fewestLaid_19 : decode cX2_fewestLaid 19 = .ok (.iload_n 2, 1) := by decide +kernel
theorem dX2_fewestLaid_20 : decode cX2_fewestLaid 20 = .ok (.invokestatic 140, 3) := by decide +kernel
theorem dX2_fewestLaid_23 : decode cX2_fewestLaid 23 = .ok (.if_icmp .ge 22, 3) := by decide +kernel
theorem dX2_fewestLaid_26 : decode cX2_fewestLaid 26 = .ok (.aload_n 0, 1) := by decide +kernel
theorem dX2_fewestLaid_27 : decode cX2_fewestLaid 27 = .ok (.iload_n 3, 1) := by decide +kernel
theorem dX2_fewestLaid_28 : decode cX2_fewestLaid 28 = .ok (.putfield 171, 3) := by decide +kernel
theorem dX2_fewestLaid_31 : decode cX2_fewestLaid 31 = .ok (.aload_n 0, 1) := by decide +kernel
theorem dX2_fewestLaid_32 : decode cX2_fewestLaid 32 = .ok (.invokevirtual 160, 3) := by decide +kernel
theorem dX2_fewestLaid_35 : decode cX2_fewestLaid 35 = .ok (.aload_n 0, 1) := by decide +kernel
theorem dX2_fewestLaid_36 : decode cX2_fewestLaid 36 = .ok (.iload_n 1, 1) := by decide +kernel
theorem dX2_fewestLaid_37 : decode cX2_fewestLaid 37 = .ok (.invokevirtual 235, 3) := by decide +kernel
theorem dX2_fewestLaid_40 : decode cX2_fewestLaid 40 = .ok (.ifCond .eq 5, 3) := by decide +kernel
theorem dX2_fewestLaid_43 : decode cX2_fewestLaid 43 = .ok (.iload_n 3, 1) := by decide +kernel
theorem dX2_fewestLaid_44 : decode cX2_fewestLaid 44 = .ok (.istore_n 2, 1) := by decide +kernel
theorem dX2_fewestLaid_45 : decode cX2_fewestLaid 45 = .ok (.iinc 3 1, 3) := by decide +kernel
theorem dX2_fewestLaid_48 : decode cX2_fewestLaid 48 = .ok (.goto (-44), 3) := by decide +kernel
theorem dX2_fewestLaid_51 : decode cX2_fewestLaid 51 = .ok (.iload_n 2, 1) := by decide +kernel
theorem dX2_fewestLaid_52 : decode cX2_fewestLaid 52 = .ok (.ireturn, 1) := by decide +kernel
theorem dX2_nextSeed_0 : decode cX2_nextSeed 0 = .ok (.ldc 238, 2) := by decide +kernel
theorem dX2_nextSeed_2 : decode cX2_nextSeed 2 = .ok (.iload_n 0, 1) := by decide +kernel
theorem dX2_nextSeed_3 : decode cX2_nextSeed 3 = .ok (.imul, 1) := by decide +kernel
theorem dX2_nextSeed_4 : decode cX2_nextSeed 4 = .ok (.sipush 12345, 3) := by decide +kernel
theorem dX2_nextSeed_7 : decode cX2_nextSeed 7 = .ok (.iadd, 1) := by decide +kernel
theorem dX2_nextSeed_8 : decode cX2_nextSeed 8 = .ok (.ldc 239, 2) := by decide +kernel
theorem dX2_nextSeed_10 : decode cX2_nextSeed 10 = .ok (.iand, 1) := by decide +kernel
theorem dX2_nextSeed_11 : decode cX2_nextSeed 11 = .ok (.ireturn, 1) := by decide +kernel
theorem dX2_drawOf_0 : decode cX2_drawOf 0 = .ok (.iload_n 1, 1) := by decide +kernel
theorem dX2_drawOf_1 : decode cX2_drawOf 1 = .ok (.ifCond .le 12, 3) := by decide +kernel
theorem dX2_drawOf_4 : decode cX2_drawOf 4 = .ok (.iload_n 0, 1) := by decide +kernel
theorem dX2_drawOf_5 : decode cX2_drawOf 5 = .ok (.ldc 240, 2) := by decide +kernel
theorem dX2_drawOf_7 : decode cX2_drawOf 7 = .ok (.idiv, 1) := by decide +kernel
theorem dX2_drawOf_8 : decode cX2_drawOf 8 = .ok (.iload_n 1, 1) := by decide +kernel
theorem dX2_drawOf_9 : decode cX2_drawOf 9 = .ok (.irem, 1) := by decide +kernel
theorem dX2_drawOf_10 : decode cX2_drawOf 10 = .ok (.goto 4, 3) := by decide +kernel
theorem dX2_drawOf_13 : decode cX2_drawOf 13 = .ok (.iconst 0, 1) := by decide +kernel
theorem dX2_drawOf_14 : decode cX2_drawOf 14 = .ok (.ireturn, 1) := by decide +kernel
theorem dX3_init_0 : decode cX3_init 0 = .ok (.aload_n 0, 1) := by decide +kernel
theorem dX3_init_1 : decode cX3_init 1 = .ok (.invokespecial 1, 3) := by decide +kernel
theorem dX3_init_4 : decode cX3_init 4 = .ok (.aload_n 0, 1) := by decide +kernel
theorem dX3_init_5 : decode cX3_init 5 = .ok (.bipush 9, 2) := by decide +kernel
theorem dX3_init_7 : decode cX3_init 7 = .ok (.newarray .int, 2) := by decide +kernel
theorem dX3_init_9 : decode cX3_init 9 = .ok (.putfield 7, 3) := by decide +kernel
theorem dX3_init_12 : decode cX3_init 12 = .ok (.aload_n 0, 1) := by decide +kernel
theorem dX3_init_13 : decode cX3_init 13 = .ok (.bipush 9, 2) := by decide +kernel
theorem dX3_init_15 : decode cX3_init 15 = .ok (.newarray .int, 2) := by decide +kernel
theorem dX3_init_17 : decode cX3_init 17 = .ok (.putfield 13, 3) := by decide +kernel
theorem dX3_init_20 : decode cX3_init 20 = .ok (.aload_n 0, 1) := by decide +kernel
theorem dX3_init_21 : decode cX3_init 21 = .ok (.bipush 6, 2) := by decide +kernel
theorem dX3_init_23 : decode cX3_init 23 = .ok (.newarray .int, 2) := by decide +kernel
theorem dX3_init_25 : decode cX3_init 25 = .ok (.putfield 16, 3) := by decide +kernel
theorem dX3_init_28 : decode cX3_init 28 = .ok (.aload_n 0, 1) := by decide +kernel
theorem dX3_init_29 : decode cX3_init 29 = .ok (.bipush 6, 2) := by decide +kernel
theorem dX3_init_31 : decode cX3_init 31 = .ok (.newarray .int, 2) := by decide +kernel
theorem dX3_init_33 : decode cX3_init 33 = .ok (.putfield 19, 3) := by decide +kernel
theorem dX3_init_36 : decode cX3_init 36 = .ok (.aload_n 0, 1) := by decide +kernel
theorem dX3_init_37 : decode cX3_init 37 = .ok (.bipush 6, 2) := by decide +kernel
theorem dX3_init_39 : decode cX3_init 39 = .ok (.newarray .int, 2) := by decide +kernel
theorem dX3_init_41 : decode cX3_init 41 = .ok (.putfield 22, 3) := by decide +kernel
theorem dX3_init_44 : decode cX3_init 44 = .ok (.aload_n 0, 1) := by decide +kernel
theorem dX3_init_45 : decode cX3_init 45 = .ok (.bipush 8, 2) := by decide +kernel
theorem dX3_init_47 : decode cX3_init 47 = .ok (.newarray .int, 2) := by decide +kernel
theorem dX3_init_49 : decode cX3_init 49 = .ok (.putfield 25, 3) := by decide +kernel
theorem dX3_init_52 : decode cX3_init 52 = .ok (.aload_n 0, 1) := by decide +kernel
theorem dX3_init_53 : decode cX3_init 53 = .ok (.bipush 8, 2) := by decide +kernel
theorem dX3_init_55 : decode cX3_init 55 = .ok (.newarray .int, 2) := by decide +kernel
theorem dX3_init_57 : decode cX3_init 57 = .ok (.putfield 28, 3) := by decide +kernel
theorem dX3_init_60 : decode cX3_init 60 = .ok (.aload_n 0, 1) := by decide +kernel
theorem dX3_init_61 : decode cX3_init 61 = .ok (.bipush 8, 2) := by decide +kernel
theorem dX3_init_63 : decode cX3_init 63 = .ok (.newarray .int, 2) := by decide +kernel
theorem dX3_init_65 : decode cX3_init 65 = .ok (.putfield 31, 3) := by decide +kernel
theorem dX3_init_68 : decode cX3_init 68 = .ok (.aload_n 0, 1) := by decide +kernel
theorem dX3_init_69 : decode cX3_init 69 = .ok (.bipush 12, 2) := by decide +kernel
theorem dX3_init_71 : decode cX3_init 71 = .ok (.newarray .byte, 2) := by decide +kernel
theorem dX3_init_73 : decode cX3_init 73 = .ok (.putfield 34, 3) := by decide +kernel
theorem dX3_init_76 : decode cX3_init 76 = .ok (.aload_n 0, 1) := by decide +kernel
theorem dX3_init_77 : decode cX3_init 77 = .ok (.bipush 9, 2) := by decide +kernel
theorem dX3_init_79 : decode cX3_init 79 = .ok (.newarray .int, 2) := by decide +kernel
theorem dX3_init_81 : decode cX3_init 81 = .ok (.putfield 38, 3) := by decide +kernel
theorem dX3_init_84 : decode cX3_init 84 = .ok (.aload_n 0, 1) := by decide +kernel
theorem dX3_init_85 : decode cX3_init 85 = .ok (.bipush 6, 2) := by decide +kernel
theorem dX3_init_87 : decode cX3_init 87 = .ok (.newarray .int, 2) := by decide +kernel
theorem dX3_init_89 : decode cX3_init 89 = .ok (.putfield 41, 3) := by decide +kernel
theorem dX3_init_92 : decode cX3_init 92 = .ok (.aload_n 0, 1) := by decide +kernel
theorem dX3_init_93 : decode cX3_init 93 = .ok (.bipush 6, 2) := by decide +kernel
theorem dX3_init_95 : decode cX3_init 95 = .ok (.newarray .int, 2) := by decide +kernel
theorem dX3_init_97 : decode cX3_init 97 = .ok (.putfield 44, 3) := by decide +kernel
theorem dX3_init_100 : decode cX3_init 100 = .ok (.aload_n 0, 1) := by decide +kernel
theorem dX3_init_101 : decode cX3_init 101 = .ok (.bipush 8, 2) := by decide +kernel
theorem dX3_init_103 : decode cX3_init 103 = .ok (.newarray .int, 2) := by decide +kernel
theorem dX3_init_105 : decode cX3_init 105 = .ok (.putfield 47, 3) := by decide +kernel
theorem dX3_init_108 : decode cX3_init 108 = .ok (.aload_n 0, 1) := by decide +kernel
theorem dX3_init_109 : decode cX3_init 109 = .ok (.bipush 8, 2) := by decide +kernel
theorem dX3_init_111 : decode cX3_init 111 = .ok (.newarray .int, 2) := by decide +kernel
theorem dX3_init_113 : decode cX3_init 113 = .ok (.putfield 50, 3) := by decide +kernel
theorem dX3_init_116 : decode cX3_init 116 = .ok (.aload_n 0, 1) := by decide +kernel
theorem dX3_init_117 : decode cX3_init 117 = .ok (.bipush 8, 2) := by decide +kernel
theorem dX3_init_119 : decode cX3_init 119 = .ok (.newarray .int, 2) := by decide +kernel
theorem dX3_init_121 : decode cX3_init 121 = .ok (.putfield 53, 3) := by decide +kernel
theorem dX3_init_124 : decode cX3_init 124 = .ok (.return_, 1) := by decide +kernel
theorem dX3_within_0 : decode cX3_within 0 = .ok (.iload_n 0, 1) := by decide +kernel
theorem dX3_within_1 : decode cX3_within 1 = .ok (.iload_n 1, 1) := by decide +kernel
theorem dX3_within_2 : decode cX3_within 2 = .ok (.if_icmp .lt 12, 3) := by decide +kernel
theorem dX3_within_5 : decode cX3_within 5 = .ok (.iload_n 0, 1) := by decide +kernel
theorem dX3_within_6 : decode cX3_within 6 = .ok (.iload_n 2, 1) := by decide +kernel
theorem dX3_within_7 : decode cX3_within 7 = .ok (.if_icmp .gt 7, 3) := by decide +kernel
theorem dX3_within_10 : decode cX3_within 10 = .ok (.iconst 1, 1) := by decide +kernel
theorem dX3_within_11 : decode cX3_within 11 = .ok (.goto 4, 3) := by decide +kernel
theorem dX3_within_14 : decode cX3_within 14 = .ok (.iconst 0, 1) := by decide +kernel
theorem dX3_within_15 : decode cX3_within 15 = .ok (.ireturn, 1) := by decide +kernel
theorem dX3_has_0 : decode cX3_has 0 = .ok (.iload_n 0, 1) := by decide +kernel
theorem dX3_has_1 : decode cX3_has 1 = .ok (.iload_n 1, 1) := by decide +kernel
theorem dX3_has_2 : decode cX3_has 2 = .ok (.ishr, 1) := by decide +kernel
theorem dX3_has_3 : decode cX3_has 3 = .ok (.iconst 1, 1) := by decide +kernel
theorem dX3_has_4 : decode cX3_has 4 = .ok (.iand, 1) := by decide +kernel
theorem dX3_has_5 : decode cX3_has 5 = .ok (.iconst 1, 1) := by decide +kernel
theorem dX3_has_6 : decode cX3_has 6 = .ok (.if_icmp .ne 7, 3) := by decide +kernel
theorem dX3_has_9 : decode cX3_has 9 = .ok (.iconst 1, 1) := by decide +kernel
theorem dX3_has_10 : decode cX3_has 10 = .ok (.goto 4, 3) := by decide +kernel
theorem dX3_has_13 : decode cX3_has 13 = .ok (.iconst 0, 1) := by decide +kernel
theorem dX3_has_14 : decode cX3_has 14 = .ok (.ireturn, 1) := by decide +kernel
theorem dX3_size_0 : decode cX3_size 0 = .ok (.iconst 0, 1) := by decide +kernel
theorem dX3_size_1 : decode cX3_size 1 = .ok (.istore_n 1, 1) := by decide +kernel
theorem dX3_size_2 : decode cX3_size 2 = .ok (.iconst 0, 1) := by decide +kernel
theorem dX3_size_3 : decode cX3_size 3 = .ok (.istore_n 2, 1) := by decide +kernel
theorem dX3_size_4 : decode cX3_size 4 = .ok (.iload_n 2, 1) := by decide +kernel
theorem dX3_size_5 : decode cX3_size 5 = .ok (.bipush 7, 2) := by decide +kernel
theorem dX3_size_7 : decode cX3_size 7 = .ok (.if_icmp .ge 17, 3) := by decide +kernel
theorem dX3_size_10 : decode cX3_size 10 = .ok (.iload_n 1, 1) := by decide +kernel
theorem dX3_size_11 : decode cX3_size 11 = .ok (.iload_n 0, 1) := by decide +kernel
theorem dX3_size_12 : decode cX3_size 12 = .ok (.iload_n 2, 1) := by decide +kernel
theorem dX3_size_13 : decode cX3_size 13 = .ok (.ishr, 1) := by decide +kernel
theorem dX3_size_14 : decode cX3_size 14 = .ok (.iconst 1, 1) := by decide +kernel
theorem dX3_size_15 : decode cX3_size 15 = .ok (.iand, 1) := by decide +kernel
theorem dX3_size_16 : decode cX3_size 16 = .ok (.iadd, 1) := by decide +kernel
theorem dX3_size_17 : decode cX3_size 17 = .ok (.istore_n 1, 1) := by decide +kernel
theorem dX3_size_18 : decode cX3_size 18 = .ok (.iinc 2 1, 3) := by decide +kernel
theorem dX3_size_21 : decode cX3_size 21 = .ok (.goto (-17), 3) := by decide +kernel
theorem dX3_size_24 : decode cX3_size 24 = .ok (.iload_n 1, 1) := by decide +kernel
theorem dX3_size_25 : decode cX3_size 25 = .ok (.ireturn, 1) := by decide +kernel
set_option maxRecDepth 20000 in
theorem ggX3_letter_X3_within : GoodIn wsX3_letter wsX3_within := goodIn_r _ [6] (by decide +kernel) (by decide +kernel)
set_option maxRecDepth 20000 in
theorem gX3_letter_X3_within : GoodIn wsX3_letter (va_wsS RX3 56 yX3_within wsX3_within) := goodIn_app (goodIn_of _ (by decide +kernel)) ggX3_letter_X3_within
theorem dX3_letter_0 : decode cX3_letter 0 = .ok (.iload_n 1, 1) := by decide +kernel
theorem dX3_letter_1 : decode cX3_letter 1 = .ok (.bipush 32, 2) := by decide +kernel
theorem dX3_letter_3 : decode cX3_letter 3 = .ok (.bipush 126, 2) := by decide +kernel
theorem dX3_letter_5 : decode cX3_letter 5 = .ok (.invokestatic 56, 3) := by decide +kernel
theorem dX3_letter_8 : decode cX3_letter 8 = .ok (.ifCond .ne 6, 3) := by decide +kernel
theorem dX3_letter_11 : decode cX3_letter 11 = .ok (.bipush (-102), 2) := by decide +kernel
theorem dX3_letter_13 : decode cX3_letter 13 = .ok (.ireturn, 1) := by decide +kernel
theorem dX3_letter_14 : decode cX3_letter 14 = .ok (.aload_n 0, 1) := by decide +kernel
theorem dX3_letter_15 : decode cX3_letter 15 = .ok (.getfield 60, 3) := by decide +kernel
theorem dX3_letter_18 : decode cX3_letter 18 = .ok (.bipush 12, 2) := by decide +kernel
theorem dX3_letter_20 : decode cX3_letter 20 = .ok (.if_icmp .ne 6, 3) := by decide +kernel
theorem dX3_letter_23 : decode cX3_letter 23 = .ok (.bipush (-104), 2) := by decide +kernel
theorem dX3_letter_25 : decode cX3_letter 25 = .ok (.ireturn, 1) := by decide +kernel
theorem dX3_letter_26 : decode cX3_letter 26 = .ok (.aload_n 0, 1) := by decide +kernel
theorem dX3_letter_27 : decode cX3_letter 27 = .ok (.getfield 34, 3) := by decide +kernel
theorem dX3_letter_30 : decode cX3_letter 30 = .ok (.aload_n 0, 1) := by decide +kernel
theorem dX3_letter_31 : decode cX3_letter 31 = .ok (.getfield 60, 3) := by decide +kernel
theorem dX3_letter_34 : decode cX3_letter 34 = .ok (.iload_n 1, 1) := by decide +kernel
theorem dX3_letter_35 : decode cX3_letter 35 = .ok (.i2b, 1) := by decide +kernel
theorem dX3_letter_36 : decode cX3_letter 36 = .ok (.bastore, 1) := by decide +kernel
theorem dX3_letter_37 : decode cX3_letter 37 = .ok (.aload_n 0, 1) := by decide +kernel
theorem dX3_letter_38 : decode cX3_letter 38 = .ok (.dup, 1) := by decide +kernel
theorem dX3_letter_39 : decode cX3_letter 39 = .ok (.getfield 60, 3) := by decide +kernel
theorem dX3_letter_42 : decode cX3_letter 42 = .ok (.iconst 1, 1) := by decide +kernel
theorem dX3_letter_43 : decode cX3_letter 43 = .ok (.iadd, 1) := by decide +kernel
theorem dX3_letter_44 : decode cX3_letter 44 = .ok (.putfield 60, 3) := by decide +kernel
theorem dX3_letter_47 : decode cX3_letter 47 = .ok (.aload_n 0, 1) := by decide +kernel
theorem dX3_letter_48 : decode cX3_letter 48 = .ok (.getfield 60, 3) := by decide +kernel
theorem dX3_letter_51 : decode cX3_letter 51 = .ok (.ireturn, 1) := by decide +kernel
theorem dX3_blank_0 : decode cX3_blank 0 = .ok (.aload_n 0, 1) := by decide +kernel
theorem dX3_blank_1 : decode cX3_blank 1 = .ok (.getfield 60, 3) := by decide +kernel
theorem dX3_blank_4 : decode cX3_blank 4 = .ok (.istore_n 1, 1) := by decide +kernel
theorem dX3_blank_5 : decode cX3_blank 5 = .ok (.aload_n 0, 1) := by decide +kernel
theorem dX3_blank_6 : decode cX3_blank 6 = .ok (.iconst 0, 1) := by decide +kernel
theorem dX3_blank_7 : decode cX3_blank 7 = .ok (.putfield 60, 3) := by decide +kernel
theorem dX3_blank_10 : decode cX3_blank 10 = .ok (.iload_n 1, 1) := by decide +kernel
theorem dX3_blank_11 : decode cX3_blank 11 = .ok (.ireturn, 1) := by decide +kernel
theorem dX3_delayBy_0 : decode cX3_delayBy 0 = .ok (.iload_n 0, 1) := by decide +kernel
theorem dX3_delayBy_1 : decode cX3_delayBy 1 = .ok (.lookupswitch 72 #[(97, 64), (98, 66), (99, 68), (100, 70), (121, 59), (122, 62)], 59) := by decide +kernel
theorem dX3_delayBy_60 : decode cX3_delayBy 60 = .ok (.bipush (-2), 2) := by decide +kernel
theorem dX3_delayBy_62 : decode cX3_delayBy 62 = .ok (.ireturn, 1) := by decide +kernel
theorem dX3_delayBy_63 : decode cX3_delayBy 63 = .ok (.iconst (-1), 1) := by decide +kernel
theorem dX3_delayBy_64 : decode cX3_delayBy 64 = .ok (.ireturn, 1) := by decide +kernel
theorem dX3_delayBy_65 : decode cX3_delayBy 65 = .ok (.iconst 0, 1) := by decide +kernel
theorem dX3_delayBy_66 : decode cX3_delayBy 66 = .ok (.ireturn, 1) := by decide +kernel
theorem dX3_delayBy_67 : decode cX3_delayBy 67 = .ok (.iconst 1, 1) := by decide +kernel
theorem dX3_delayBy_68 : decode cX3_delayBy 68 = .ok (.ireturn, 1) := by decide +kernel
theorem dX3_delayBy_69 : decode cX3_delayBy 69 = .ok (.iconst 2, 1) := by decide +kernel
theorem dX3_delayBy_70 : decode cX3_delayBy 70 = .ok (.ireturn, 1) := by decide +kernel
theorem dX3_delayBy_71 : decode cX3_delayBy 71 = .ok (.iconst 3, 1) := by decide +kernel
theorem dX3_delayBy_72 : decode cX3_delayBy 72 = .ok (.ireturn, 1) := by decide +kernel
theorem dX3_delayBy_73 : decode cX3_delayBy 73 = .ok (.bipush 99, 2) := by decide +kernel
theorem dX3_delayBy_75 : decode cX3_delayBy 75 = .ok (.ireturn, 1) := by decide +kernel
set_option maxRecDepth 20000 in
theorem ggX3_faultNow_X3_delayBy : GoodIn wsX3_faultNow wsX3_delayBy := goodIn_r _ [6] (by decide +kernel) (by decide +kernel)
set_option maxRecDepth 20000 in
theorem gX3_faultNow_X3_delayBy : GoodIn wsX3_faultNow (va_wsS RX3 64 yX3_delayBy wsX3_delayBy) := goodIn_app (goodIn_of _ (by decide +kernel)) ggX3_faultNow_X3_delayBy
set_option maxRecDepth 20000 in
theorem ggX3_faultNow_X3_within : GoodIn wsX3_faultNow wsX3_within := goodIn_r _ [9] (by decide +kernel) (by decide +kernel)
set_option maxRecDepth 20000 in
theorem gX3_faultNow_X3_within : GoodIn wsX3_faultNow (va_wsS RX3 56 yX3_within wsX3_within) := goodIn_app (goodIn_of _ (by decide +kernel)) ggX3_faultNow_X3_within
theorem dX3_faultNow_0 : decode cX3_faultNow 0 = .ok (.iconst 0, 1) := by decide +kernel
theorem dX3_faultNow_1 : decode cX3_faultNow 1 = .ok (.istore_n 1, 1) := by decide +kernel
theorem dX3_faultNow_2 : decode cX3_faultNow 2 = .ok (.iload_n 1, 1) := by decide +kernel
theorem dX3_faultNow_3 : decode cX3_faultNow 3 = .ok (.aload_n 0, 1) := by decide +kernel
theorem dX3_faultNow_4 : decode cX3_faultNow 4 = .ok (.getfield 60, 3) := by decide +kernel
theorem dX3_faultNow_7 : decode cX3_faultNow 7 = .ok (.if_icmp .ge 55, 3) := by decide +kernel
theorem dX3_faultNow_10 : decode cX3_faultNow 10 = .ok (.iload_n 1, 1) := by decide +kernel
theorem dX3_faultNow_11 : decode cX3_faultNow 11 = .ok (.bipush 9, 2) := by decide +kernel
theorem dX3_faultNow_13 : decode cX3_faultNow 13 = .ok (.if_icmp .ge 20, 3) := by decide +kernel
theorem dX3_faultNow_16 : decode cX3_faultNow 16 = .ok (.aload_n 0, 1) := by decide +kernel
theorem dX3_faultNow_17 : decode cX3_faultNow 17 = .ok (.getfield 34, 3) := by decide +kernel
theorem dX3_faultNow_20 : decode cX3_faultNow 20 = .ok (.iload_n 1, 1) := by decide +kernel
theorem dX3_faultNow_21 : decode cX3_faultNow 21 = .ok (.baload, 1) := by decide +kernel
theorem dX3_faultNow_22 : decode cX3_faultNow 22 = .ok (.invokestatic 64, 3) := by decide +kernel
theorem dX3_faultNow_25 : decode cX3_faultNow 25 = .ok (.bipush 99, 2) := by decide +kernel
theorem dX3_faultNow_27 : decode cX3_faultNow 27 = .ok (.if_icmp .eq 35, 3) := by decide +kernel
theorem dX3_faultNow_30 : decode cX3_faultNow 30 = .ok (.goto 26, 3) := by decide +kernel
theorem dX3_faultNow_33 : decode cX3_faultNow 33 = .ok (.iload_n 1, 1) := by decide +kernel
theorem dX3_faultNow_34 : decode cX3_faultNow 34 = .ok (.bipush 9, 2) := by decide +kernel
theorem dX3_faultNow_36 : decode cX3_faultNow 36 = .ok (.if_icmp .ne 26, 3) := by decide +kernel
theorem dX3_faultNow_39 : decode cX3_faultNow 39 = .ok (.aload_n 0, 1) := by decide +kernel
theorem dX3_faultNow_40 : decode cX3_faultNow 40 = .ok (.getfield 34, 3) := by decide +kernel
theorem dX3_faultNow_43 : decode cX3_faultNow 43 = .ok (.iload_n 1, 1) := by decide +kernel
theorem dX3_faultNow_44 : decode cX3_faultNow 44 = .ok (.baload, 1) := by decide +kernel
theorem dX3_faultNow_45 : decode cX3_faultNow 45 = .ok (.bipush 48, 2) := by decide +kernel
theorem dX3_faultNow_47 : decode cX3_faultNow 47 = .ok (.isub, 1) := by decide +kernel
theorem dX3_faultNow_48 : decode cX3_faultNow 48 = .ok (.iconst 0, 1) := by decide +kernel
theorem dX3_faultNow_49 : decode cX3_faultNow 49 = .ok (.iconst 3, 1) := by decide +kernel
theorem dX3_faultNow_50 : decode cX3_faultNow 50 = .ok (.invokestatic 56, 3) := by decide +kernel
theorem dX3_faultNow_53 : decode cX3_faultNow 53 = .ok (.ifCond .eq 9, 3) := by decide +kernel
theorem dX3_faultNow_56 : decode cX3_faultNow 56 = .ok (.iinc 1 1, 3) := by decide +kernel
theorem dX3_faultNow_59 : decode cX3_faultNow 59 = .ok (.goto (-57), 3) := by decide +kernel
theorem dX3_faultNow_62 : decode cX3_faultNow 62 = .ok (.iload_n 1, 1) := by decide +kernel
theorem dX3_faultNow_63 : decode cX3_faultNow 63 = .ok (.ireturn, 1) := by decide +kernel
set_option maxRecDepth 20000 in
theorem ggX3_fault_X3_faultNow : GoodIn wsX3_fault wsX3_faultNow := goodIn_r _ [5, 6, 7, 8, 9, 4, 10, 11, 12, 13, 14, 15, 16, 17, 18, 19, 20, 21, 22, 23, 24, 25, 26, 27, 28, 29, 30, 31, 32, 33, 34, 35, 36, 37, 38, 39, 40, 41, 42] (by decide +kernel) (by decide +kernel)
set_option maxRecDepth 20000 in
theorem gX3_fault_X3_faultNow : GoodIn wsX3_fault (wsV RX3 68 RX3 yX3_faultNow wsX3_faultNow) := goodIn_app (goodIn_of _ (by decide +kernel)) ggX3_fault_X3_faultNow
theorem dX3_fault_0 : decode cX3_fault 0 = .ok (.aload_n 0, 1) := by decide +kernel
theorem dX3_fault_1 : decode cX3_fault 1 = .ok (.invokevirtual 68, 3) := by decide +kernel
theorem dX3_fault_4 : decode cX3_fault 4 = .ok (.ireturn, 1) := by decide +kernel
set_option maxRecDepth 20000 in
theorem ggX3_chest_X3_faultNow : GoodIn wsX3_chest wsX3_faultNow := goodIn_r _ [14, 1, 3, 15, 16, 13, 17, 18, 19, 20, 21, 22, 23, 24, 25, 26, 27, 28, 29, 30, 31, 32, 33, 34, 35, 36, 37, 38, 39, 40, 41, 42, 43, 44, 45, 46, 47, 48, 49] (by decide +kernel) (by decide +kernel)
set_option maxRecDepth 20000 in
theorem gX3_chest_X3_faultNow : GoodIn wsX3_chest (wsV RX3 68 RX3 yX3_faultNow wsX3_faultNow) := goodIn_app (goodIn_of _ (by decide +kernel)) ggX3_chest_X3_faultNow
set_option maxRecDepth 20000 in
theorem ggX3_chest_X3_delayBy : GoodIn wsX3_chest wsX3_delayBy := goodIn_r _ [17] (by decide +kernel) (by decide +kernel)
set_option maxRecDepth 20000 in
theorem gX3_chest_X3_delayBy : GoodIn wsX3_chest (va_wsS RX3 64 yX3_delayBy wsX3_delayBy) := goodIn_app (goodIn_of _ (by decide +kernel)) ggX3_chest_X3_delayBy
theorem dX3_chest_0 : decode cX3_chest 0 = .ok (.aload_n 0, 1) := by decide +kernel
theorem dX3_chest_1 : decode cX3_chest 1 = .ok (.getfield 60, 3) := by decide +kernel
theorem dX3_chest_4 : decode cX3_chest 4 = .ok (.bipush 10, 2) := by decide +kernel
theorem dX3_chest_6 : decode cX3_chest 6 = .ok (.if_icmp .ne 14, 3) := by decide +kernel
theorem dX3_chest_9 : decode cX3_chest 9 = .ok (.aload_n 0, 1) := by decide +kernel
theorem dX3_chest_10 : decode cX3_chest 10 = .ok (.invokevirtual 68, 3) := by decide +kernel
theorem dX3_chest_13 : decode cX3_chest 13 = .ok (.aload_n 0, 1) := by decide +kernel
theorem dX3_chest_14 : decode cX3_chest 14 = .ok (.getfield 60, 3) := by decide +kernel
theorem dX3_chest_17 : decode cX3_chest 17 = .ok (.if_icmp .eq 6, 3) := by decide +kernel
theorem dX3_chest_20 : decode cX3_chest 20 = .ok (.bipush (-103), 2) := by decide +kernel
theorem dX3_chest_22 : decode cX3_chest 22 = .ok (.ireturn, 1) := by decide +kernel
theorem dX3_chest_23 : decode cX3_chest 23 = .ok (.iconst 0, 1) := by decide +kernel
theorem dX3_chest_24 : decode cX3_chest 24 = .ok (.istore_n 1, 1) := by decide +kernel
theorem dX3_chest_25 : decode cX3_chest 25 = .ok (.iconst 0, 1) := by decide +kernel
theorem dX3_chest_26 : decode cX3_chest 26 = .ok (.istore_n 2, 1) := by decide +kernel
theorem dX3_chest_27 : decode cX3_chest 27 = .ok (.iload_n 2, 1) := by decide +kernel
theorem dX3_chest_28 : decode cX3_chest 28 = .ok (.bipush 9, 2) := by decide +kernel
theorem dX3_chest_30 : decode cX3_chest 30 = .ok (.if_icmp .ge 48, 3) := by decide +kernel
theorem dX3_chest_33 : decode cX3_chest 33 = .ok (.aload_n 0, 1) := by decide +kernel
theorem dX3_chest_34 : decode cX3_chest 34 = .ok (.getfield 7, 3) := by decide +kernel
theorem dX3_chest_37 : decode cX3_chest 37 = .ok (.iload_n 2, 1) := by decide +kernel
theorem dX3_chest_38 : decode cX3_chest 38 = .ok (.aload_n 0, 1) := by decide +kernel
theorem dX3_chest_39 : decode cX3_chest 39 = .ok (.getfield 34, 3) := by decide +kernel
theorem dX3_chest_42 : decode cX3_chest 42 = .ok (.iload_n 2, 1) := by decide +kernel
theorem dX3_chest_43 : decode cX3_chest 43 = .ok (.baload, 1) := by decide +kernel
theorem dX3_chest_44 : decode cX3_chest 44 = .ok (.invokestatic 64, 3) := by decide +kernel
theorem dX3_chest_47 : decode cX3_chest 47 = .ok (.iastore, 1) := by decide +kernel
theorem dX3_chest_48 : decode cX3_chest 48 = .ok (.aload_n 0, 1) := by decide +kernel
