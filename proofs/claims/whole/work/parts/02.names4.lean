theorem dX3_chest_49 : decode cX3_chest 49 = .ok (.getfield 13, 3) := by decide +kernel
theorem dX3_chest_52 : decode cX3_chest 52 = .ok (.iload_n 2, 1) := by decide +kernel
theorem dX3_chest_53 : decode cX3_chest 53 = .ok (.iconst 0, 1) := by decide +kernel
theorem dX3_chest_54 : decode cX3_chest 54 = .ok (.iastore, 1) := by decide +kernel
theorem dX3_chest_55 : decode cX3_chest 55 = .ok (.iload_n 1, 1) := by decide +kernel
theorem dX3_chest_56 : decode cX3_chest 56 = .ok (.aload_n 0, 1) := by decide +kernel
theorem dX3_chest_57 : decode cX3_chest 57 = .ok (.getfield 7, 3) := by decide +kernel
theorem dX3_chest_60 : decode cX3_chest 60 = .ok (.iload_n 2, 1) := by decide +kernel
theorem dX3_chest_61 : decode cX3_chest 61 = .ok (.iaload, 1) := by decide +kernel
theorem dX3_chest_62 : decode cX3_chest 62 = .ok (.ifCond .ne 7, 3) := by decide +kernel
theorem dX3_chest_65 : decode cX3_chest 65 = .ok (.iconst 0, 1) := by decide +kernel
theorem dX3_chest_66 : decode cX3_chest 66 = .ok (.goto 4, 3) := by decide +kernel
theorem dX3_chest_69 : decode cX3_chest 69 = .ok (.iconst 1, 1) := by decide +kernel
theorem dX3_chest_70 : decode cX3_chest 70 = .ok (.iadd, 1) := by decide +kernel
theorem dX3_chest_71 : decode cX3_chest 71 = .ok (.istore_n 1, 1) := by decide +kernel
theorem dX3_chest_72 : decode cX3_chest 72 = .ok (.iinc 2 1, 3) := by decide +kernel
theorem dX3_chest_75 : decode cX3_chest 75 = .ok (.goto (-48), 3) := by decide +kernel
theorem dX3_chest_78 : decode cX3_chest 78 = .ok (.aload_n 0, 1) := by decide +kernel
theorem dX3_chest_79 : decode cX3_chest 79 = .ok (.aload_n 0, 1) := by decide +kernel
theorem dX3_chest_80 : decode cX3_chest 80 = .ok (.getfield 34, 3) := by decide +kernel
theorem dX3_chest_83 : decode cX3_chest 83 = .ok (.bipush 9, 2) := by decide +kernel
theorem dX3_chest_85 : decode cX3_chest 85 = .ok (.baload, 1) := by decide +kernel
theorem dX3_chest_86 : decode cX3_chest 86 = .ok (.bipush 48, 2) := by decide +kernel
theorem dX3_chest_88 : decode cX3_chest 88 = .ok (.isub, 1) := by decide +kernel
theorem dX3_chest_89 : decode cX3_chest 89 = .ok (.putfield 72, 3) := by decide +kernel
theorem dX3_chest_92 : decode cX3_chest 92 = .ok (.aload_n 0, 1) := by decide +kernel
theorem dX3_chest_93 : decode cX3_chest 93 = .ok (.iconst 1, 1) := by decide +kernel
theorem dX3_chest_94 : decode cX3_chest 94 = .ok (.putfield 75, 3) := by decide +kernel
theorem dX3_chest_97 : decode cX3_chest 97 = .ok (.aload_n 0, 1) := by decide +kernel
theorem dX3_chest_98 : decode cX3_chest 98 = .ok (.dup, 1) := by decide +kernel
theorem dX3_chest_99 : decode cX3_chest 99 = .ok (.getfield 79, 3) := by decide +kernel
theorem dX3_chest_102 : decode cX3_chest 102 = .ok (.iconst 1, 1) := by decide +kernel
theorem dX3_chest_103 : decode cX3_chest 103 = .ok (.iadd, 1) := by decide +kernel
theorem dX3_chest_104 : decode cX3_chest 104 = .ok (.putfield 79, 3) := by decide +kernel
theorem dX3_chest_107 : decode cX3_chest 107 = .ok (.aload_n 0, 1) := by decide +kernel
theorem dX3_chest_108 : decode cX3_chest 108 = .ok (.iconst 0, 1) := by decide +kernel
theorem dX3_chest_109 : decode cX3_chest 109 = .ok (.putfield 82, 3) := by decide +kernel
theorem dX3_chest_112 : decode cX3_chest 112 = .ok (.aload_n 0, 1) := by decide +kernel
theorem dX3_chest_113 : decode cX3_chest 113 = .ok (.iconst 0, 1) := by decide +kernel
theorem dX3_chest_114 : decode cX3_chest 114 = .ok (.putfield 85, 3) := by decide +kernel
theorem dX3_chest_117 : decode cX3_chest 117 = .ok (.aload_n 0, 1) := by decide +kernel
theorem dX3_chest_118 : decode cX3_chest 118 = .ok (.iconst 0, 1) := by decide +kernel
theorem dX3_chest_119 : decode cX3_chest 119 = .ok (.putfield 60, 3) := by decide +kernel
theorem dX3_chest_122 : decode cX3_chest 122 = .ok (.iload_n 1, 1) := by decide +kernel
theorem dX3_chest_123 : decode cX3_chest 123 = .ok (.ireturn, 1) := by decide +kernel
set_option maxRecDepth 20000 in
theorem ggX3_face_X3_within : GoodIn wsX3_face wsX3_within := goodIn_r _ [6] (by decide +kernel) (by decide +kernel)
set_option maxRecDepth 20000 in
theorem gX3_face_X3_within : GoodIn wsX3_face (va_wsS RX3 56 yX3_within wsX3_within) := goodIn_app (goodIn_of _ (by decide +kernel)) ggX3_face_X3_within
theorem dX3_face_0 : decode cX3_face 0 = .ok (.iload_n 1, 1) := by decide +kernel
theorem dX3_face_1 : decode cX3_face 1 = .ok (.iconst 0, 1) := by decide +kernel
theorem dX3_face_2 : decode cX3_face 2 = .ok (.iconst 3, 1) := by decide +kernel
theorem dX3_face_3 : decode cX3_face 3 = .ok (.invokestatic 56, 3) := by decide +kernel
theorem dX3_face_6 : decode cX3_face 6 = .ok (.ifCond .ne 6, 3) := by decide +kernel
theorem dX3_face_9 : decode cX3_face 9 = .ok (.bipush (-102), 2) := by decide +kernel
theorem dX3_face_11 : decode cX3_face 11 = .ok (.ireturn, 1) := by decide +kernel
theorem dX3_face_12 : decode cX3_face 12 = .ok (.aload_n 0, 1) := by decide +kernel
theorem dX3_face_13 : decode cX3_face 13 = .ok (.getfield 75, 3) := by decide +kernel
theorem dX3_face_16 : decode cX3_face 16 = .ok (.ifCond .ne 6, 3) := by decide +kernel
theorem dX3_face_19 : decode cX3_face 19 = .ok (.bipush (-103), 2) := by decide +kernel
theorem dX3_face_21 : decode cX3_face 21 = .ok (.ireturn, 1) := by decide +kernel
theorem dX3_face_22 : decode cX3_face 22 = .ok (.aload_n 0, 1) := by decide +kernel
theorem dX3_face_23 : decode cX3_face 23 = .ok (.getfield 72, 3) := by decide +kernel
theorem dX3_face_26 : decode cX3_face 26 = .ok (.istore_n 2, 1) := by decide +kernel
theorem dX3_face_27 : decode cX3_face 27 = .ok (.aload_n 0, 1) := by decide +kernel
theorem dX3_face_28 : decode cX3_face 28 = .ok (.iload_n 1, 1) := by decide +kernel
theorem dX3_face_29 : decode cX3_face 29 = .ok (.putfield 72, 3) := by decide +kernel
theorem dX3_face_32 : decode cX3_face 32 = .ok (.iload_n 2, 1) := by decide +kernel
theorem dX3_face_33 : decode cX3_face 33 = .ok (.ireturn, 1) := by decide +kernel
set_option maxRecDepth 20000 in
theorem ggX3_isDrawer_X3_within : GoodIn wsX3_isDrawer wsX3_within := goodIn_r _ [5] (by decide +kernel) (by decide +kernel)
set_option maxRecDepth 20000 in
theorem gX3_isDrawer_X3_within : GoodIn wsX3_isDrawer (va_wsS RX3 56 yX3_within wsX3_within) := goodIn_app (goodIn_of _ (by decide +kernel)) ggX3_isDrawer_X3_within
theorem dX3_isDrawer_0 : decode cX3_isDrawer 0 = .ok (.aload_n 0, 1) := by decide +kernel
theorem dX3_isDrawer_1 : decode cX3_isDrawer 1 = .ok (.getfield 75, 3) := by decide +kernel
theorem dX3_isDrawer_4 : decode cX3_isDrawer 4 = .ok (.ifCond .eq 17, 3) := by decide +kernel
theorem dX3_isDrawer_7 : decode cX3_isDrawer 7 = .ok (.iload_n 1, 1) := by decide +kernel
theorem dX3_isDrawer_8 : decode cX3_isDrawer 8 = .ok (.iconst 0, 1) := by decide +kernel
theorem dX3_isDrawer_9 : decode cX3_isDrawer 9 = .ok (.bipush 8, 2) := by decide +kernel
theorem dX3_isDrawer_11 : decode cX3_isDrawer 11 = .ok (.invokestatic 56, 3) := by decide +kernel
theorem dX3_isDrawer_14 : decode cX3_isDrawer 14 = .ok (.ifCond .eq 7, 3) := by decide +kernel
theorem dX3_isDrawer_17 : decode cX3_isDrawer 17 = .ok (.iconst 1, 1) := by decide +kernel
theorem dX3_isDrawer_18 : decode cX3_isDrawer 18 = .ok (.goto 4, 3) := by decide +kernel
theorem dX3_isDrawer_21 : decode cX3_isDrawer 21 = .ok (.iconst 0, 1) := by decide +kernel
theorem dX3_isDrawer_22 : decode cX3_isDrawer 22 = .ok (.ireturn, 1) := by decide +kernel
set_option maxRecDepth 20000 in
theorem ggX3_isDay_X3_within : GoodIn wsX3_isDay wsX3_within := goodIn_r _ [4] (by decide +kernel) (by decide +kernel)
set_option maxRecDepth 20000 in
theorem gX3_isDay_X3_within : GoodIn wsX3_isDay (va_wsS RX3 56 yX3_within wsX3_within) := goodIn_app (goodIn_of _ (by decide +kernel)) ggX3_isDay_X3_within
theorem dX3_isDay_0 : decode cX3_isDay 0 = .ok (.iload_n 0, 1) := by decide +kernel
theorem dX3_isDay_1 : decode cX3_isDay 1 = .ok (.iconst 0, 1) := by decide +kernel
theorem dX3_isDay_2 : decode cX3_isDay 2 = .ok (.bipush 6, 2) := by decide +kernel
theorem dX3_isDay_4 : decode cX3_isDay 4 = .ok (.invokestatic 56, 3) := by decide +kernel
theorem dX3_isDay_7 : decode cX3_isDay 7 = .ok (.ireturn, 1) := by decide +kernel
theorem dX3_aheadOf_0 : decode cX3_aheadOf 0 = .ok (.aload_n 0, 1) := by decide +kernel
theorem dX3_aheadOf_1 : decode cX3_aheadOf 1 = .ok (.getfield 72, 3) := by decide +kernel
theorem dX3_aheadOf_4 : decode cX3_aheadOf 4 = .ok (.tableswitch 52 0 2 #[28, 35, 44], 28) := by decide +kernel
theorem dX3_aheadOf_32 : decode cX3_aheadOf 32 = .ok (.aload_n 0, 1) := by decide +kernel
theorem dX3_aheadOf_33 : decode cX3_aheadOf 33 = .ok (.getfield 7, 3) := by decide +kernel
theorem dX3_aheadOf_36 : decode cX3_aheadOf 36 = .ok (.iload_n 1, 1) := by decide +kernel
theorem dX3_aheadOf_37 : decode cX3_aheadOf 37 = .ok (.iaload, 1) := by decide +kernel
theorem dX3_aheadOf_38 : decode cX3_aheadOf 38 = .ok (.ireturn, 1) := by decide +kernel
theorem dX3_aheadOf_39 : decode cX3_aheadOf 39 = .ok (.aload_n 0, 1) := by decide +kernel
theorem dX3_aheadOf_40 : decode cX3_aheadOf 40 = .ok (.getfield 7, 3) := by decide +kernel
theorem dX3_aheadOf_43 : decode cX3_aheadOf 43 = .ok (.iload_n 1, 1) := by decide +kernel
theorem dX3_aheadOf_44 : decode cX3_aheadOf 44 = .ok (.iaload, 1) := by decide +kernel
theorem dX3_aheadOf_45 : decode cX3_aheadOf 45 = .ok (.iconst 1, 1) := by decide +kernel
theorem dX3_aheadOf_46 : decode cX3_aheadOf 46 = .ok (.iadd, 1) := by decide +kernel
theorem dX3_aheadOf_47 : decode cX3_aheadOf 47 = .ok (.ireturn, 1) := by decide +kernel
theorem dX3_aheadOf_48 : decode cX3_aheadOf 48 = .ok (.aload_n 0, 1) := by decide +kernel
theorem dX3_aheadOf_49 : decode cX3_aheadOf 49 = .ok (.getfield 7, 3) := by decide +kernel
theorem dX3_aheadOf_52 : decode cX3_aheadOf 52 = .ok (.iload_n 1, 1) := by decide +kernel
theorem dX3_aheadOf_53 : decode cX3_aheadOf 53 = .ok (.iaload, 1) := by decide +kernel
theorem dX3_aheadOf_54 : decode cX3_aheadOf 54 = .ok (.ineg, 1) := by decide +kernel
theorem dX3_aheadOf_55 : decode cX3_aheadOf 55 = .ok (.ireturn, 1) := by decide +kernel
theorem dX3_aheadOf_56 : decode cX3_aheadOf 56 = .ok (.iconst 0, 1) := by decide +kernel
theorem dX3_aheadOf_57 : decode cX3_aheadOf 57 = .ok (.ireturn, 1) := by decide +kernel
theorem dX3_puts_0 : decode cX3_puts 0 = .ok (.iload_n 0, 1) := by decide +kernel
theorem dX3_puts_1 : decode cX3_puts 1 = .ok (.tableswitch 69 1 4 #[31, 33, 43, 54], 31) := by decide +kernel
theorem dX3_puts_32 : decode cX3_puts 32 = .ok (.iload_n 3, 1) := by decide +kernel
theorem dX3_puts_33 : decode cX3_puts 33 = .ok (.ireturn, 1) := by decide +kernel
theorem dX3_puts_34 : decode cX3_puts 34 = .ok (.iload_n 3, 1) := by decide +kernel
theorem dX3_puts_35 : decode cX3_puts 35 = .ok (.ifCond .ne 7, 3) := by decide +kernel
theorem dX3_puts_38 : decode cX3_puts 38 = .ok (.iconst 1, 1) := by decide +kernel
theorem dX3_puts_39 : decode cX3_puts 39 = .ok (.goto 4, 3) := by decide +kernel
theorem dX3_puts_42 : decode cX3_puts 42 = .ok (.iconst 0, 1) := by decide +kernel
theorem dX3_puts_43 : decode cX3_puts 43 = .ok (.ireturn, 1) := by decide +kernel
theorem dX3_puts_44 : decode cX3_puts 44 = .ok (.iload_n 2, 1) := by decide +kernel
theorem dX3_puts_45 : decode cX3_puts 45 = .ok (.iload_n 1, 1) := by decide +kernel
theorem dX3_puts_46 : decode cX3_puts 46 = .ok (.if_icmp .ne 7, 3) := by decide +kernel
theorem dX3_puts_49 : decode cX3_puts 49 = .ok (.iconst 1, 1) := by decide +kernel
theorem dX3_puts_50 : decode cX3_puts 50 = .ok (.goto 4, 3) := by decide +kernel
theorem dX3_puts_53 : decode cX3_puts 53 = .ok (.iconst 0, 1) := by decide +kernel
theorem dX3_puts_54 : decode cX3_puts 54 = .ok (.ireturn, 1) := by decide +kernel
theorem dX3_puts_55 : decode cX3_puts 55 = .ok (.iload_n 3, 1) := by decide +kernel
theorem dX3_puts_56 : decode cX3_puts 56 = .ok (.ifCond .ne 12, 3) := by decide +kernel
theorem dX3_puts_59 : decode cX3_puts 59 = .ok (.iload_n 2, 1) := by decide +kernel
theorem dX3_puts_60 : decode cX3_puts 60 = .ok (.iload_n 1, 1) := by decide +kernel
theorem dX3_puts_61 : decode cX3_puts 61 = .ok (.if_icmp .eq 7, 3) := by decide +kernel
theorem dX3_puts_64 : decode cX3_puts 64 = .ok (.iconst 1, 1) := by decide +kernel
theorem dX3_puts_65 : decode cX3_puts 65 = .ok (.goto 4, 3) := by decide +kernel
theorem dX3_puts_68 : decode cX3_puts 68 = .ok (.iconst 0, 1) := by decide +kernel
theorem dX3_puts_69 : decode cX3_puts 69 = .ok (.ireturn, 1) := by decide +kernel
theorem dX3_puts_70 : decode cX3_puts 70 = .ok (.iconst 0, 1) := by decide +kernel
theorem dX3_puts_71 : decode cX3_puts 71 = .ok (.ireturn, 1) := by decide +kernel
set_option maxRecDepth 20000 in
theorem ggX3_putBy_X3_has : GoodIn wsX3_putBy wsX3_has := goodIn_r _ [8] (by decide +kernel) (by decide +kernel)
set_option maxRecDepth 20000 in
theorem gX3_putBy_X3_has : GoodIn wsX3_putBy (va_wsS RX3 88 yX3_has wsX3_has) := goodIn_app (goodIn_of _ (by decide +kernel)) ggX3_putBy_X3_has
set_option maxRecDepth 20000 in
theorem ggX3_putBy_X3_puts : GoodIn wsX3_putBy wsX3_puts := goodIn_r _ [11] (by decide +kernel) (by decide +kernel)
set_option maxRecDepth 20000 in
theorem gX3_putBy_X3_puts : GoodIn wsX3_putBy (va_wsS RX3 92 yX3_puts wsX3_puts) := goodIn_app (goodIn_of _ (by decide +kernel)) ggX3_putBy_X3_puts
theorem dX3_putBy_0 : decode cX3_putBy 0 = .ok (.iconst 0, 1) := by decide +kernel
theorem dX3_putBy_1 : decode cX3_putBy 1 = .ok (.istore_n 3, 1) := by decide +kernel
theorem dX3_putBy_2 : decode cX3_putBy 2 = .ok (.iconst 0, 1) := by decide +kernel
theorem dX3_putBy_3 : decode cX3_putBy 3 = .ok (.istore 4, 2) := by decide +kernel
theorem dX3_putBy_5 : decode cX3_putBy 5 = .ok (.iload 4, 2) := by decide +kernel
theorem dX3_putBy_7 : decode cX3_putBy 7 = .ok (.aload_n 0, 1) := by decide +kernel
theorem dX3_putBy_8 : decode cX3_putBy 8 = .ok (.getfield 82, 3) := by decide +kernel
theorem dX3_putBy_11 : decode cX3_putBy 11 = .ok (.if_icmp .ge 75, 3) := by decide +kernel
theorem dX3_putBy_14 : decode cX3_putBy 14 = .ok (.iconst 0, 1) := by decide +kernel
theorem dX3_putBy_15 : decode cX3_putBy 15 = .ok (.istore 5, 2) := by decide +kernel
theorem dX3_putBy_17 : decode cX3_putBy 17 = .ok (.iload 5, 2) := by decide +kernel
theorem dX3_putBy_19 : decode cX3_putBy 19 = .ok (.bipush 7, 2) := by decide +kernel
theorem dX3_putBy_21 : decode cX3_putBy 21 = .ok (.if_icmp .ge 59, 3) := by decide +kernel
theorem dX3_putBy_24 : decode cX3_putBy 24 = .ok (.aload_n 0, 1) := by decide +kernel
theorem dX3_putBy_25 : decode cX3_putBy 25 = .ok (.getfield 19, 3) := by decide +kernel
theorem dX3_putBy_28 : decode cX3_putBy 28 = .ok (.iload 4, 2) := by decide +kernel
theorem dX3_putBy_30 : decode cX3_putBy 30 = .ok (.iaload, 1) := by decide +kernel
theorem dX3_putBy_31 : decode cX3_putBy 31 = .ok (.iload_n 1, 1) := by decide +kernel
theorem dX3_putBy_32 : decode cX3_putBy 32 = .ok (.if_icmp .ne 48, 3) := by decide +kernel
theorem dX3_putBy_35 : decode cX3_putBy 35 = .ok (.iload_n 3, 1) := by decide +kernel
theorem dX3_putBy_36 : decode cX3_putBy 36 = .ok (.aload_n 0, 1) := by decide +kernel
theorem dX3_putBy_37 : decode cX3_putBy 37 = .ok (.getfield 16, 3) := by decide +kernel
theorem dX3_putBy_40 : decode cX3_putBy 40 = .ok (.iload 4, 2) := by decide +kernel
theorem dX3_putBy_42 : decode cX3_putBy 42 = .ok (.iaload, 1) := by decide +kernel
theorem dX3_putBy_43 : decode cX3_putBy 43 = .ok (.aload_n 0, 1) := by decide +kernel
theorem dX3_putBy_44 : decode cX3_putBy 44 = .ok (.getfield 22, 3) := by decide +kernel
theorem dX3_putBy_47 : decode cX3_putBy 47 = .ok (.iload 4, 2) := by decide +kernel
theorem dX3_putBy_49 : decode cX3_putBy 49 = .ok (.iaload, 1) := by decide +kernel
theorem dX3_putBy_50 : decode cX3_putBy 50 = .ok (.iload 5, 2) := by decide +kernel
theorem dX3_putBy_52 : decode cX3_putBy 52 = .ok (.iload_n 2, 1) := by decide +kernel
theorem dX3_putBy_53 : decode cX3_putBy 53 = .ok (.iload 5, 2) := by decide +kernel
theorem dX3_putBy_55 : decode cX3_putBy 55 = .ok (.invokestatic 88, 3) := by decide +kernel
theorem dX3_putBy_58 : decode cX3_putBy 58 = .ok (.invokestatic 92, 3) := by decide +kernel
theorem dX3_putBy_61 : decode cX3_putBy 61 = .ok (.ifCond .eq 10, 3) := by decide +kernel
theorem dX3_putBy_64 : decode cX3_putBy 64 = .ok (.iconst 1, 1) := by decide +kernel
theorem dX3_putBy_65 : decode cX3_putBy 65 = .ok (.iload 5, 2) := by decide +kernel
theorem dX3_putBy_67 : decode cX3_putBy 67 = .ok (.ishl, 1) := by decide +kernel
theorem dX3_putBy_68 : decode cX3_putBy 68 = .ok (.goto 4, 3) := by decide +kernel
theorem dX3_putBy_71 : decode cX3_putBy 71 = .ok (.iconst 0, 1) := by decide +kernel
theorem dX3_putBy_72 : decode cX3_putBy 72 = .ok (.ior, 1) := by decide +kernel
theorem dX3_putBy_73 : decode cX3_putBy 73 = .ok (.istore_n 3, 1) := by decide +kernel
theorem dX3_putBy_74 : decode cX3_putBy 74 = .ok (.iinc 5 1, 3) := by decide +kernel
theorem dX3_putBy_77 : decode cX3_putBy 77 = .ok (.goto (-60), 3) := by decide +kernel
theorem dX3_putBy_80 : decode cX3_putBy 80 = .ok (.iinc 4 1, 3) := by decide +kernel
theorem dX3_putBy_83 : decode cX3_putBy 83 = .ok (.goto (-78), 3) := by decide +kernel
theorem dX3_putBy_86 : decode cX3_putBy 86 = .ok (.iload_n 3, 1) := by decide +kernel
theorem dX3_putBy_87 : decode cX3_putBy 87 = .ok (.ireturn, 1) := by decide +kernel
set_option maxRecDepth 20000 in
theorem ggX3_firstWrong_X3_putBy : GoodIn wsX3_firstWrong wsX3_putBy := goodIn_r _ [5, 6, 7, 8, 9, 10, 11, 4, 12, 13, 14, 15, 16, 17, 18, 19, 20, 21, 22, 23, 24, 25, 26, 27, 28, 29, 30, 31, 32, 33, 34, 35, 36, 37, 38, 39, 40, 41, 42, 43, 44] (by decide +kernel) (by decide +kernel)
set_option maxRecDepth 20000 in
theorem gX3_firstWrong_X3_putBy : GoodIn wsX3_firstWrong (wsV RX3 96 RX3 yX3_putBy wsX3_putBy) := goodIn_app (goodIn_of _ (by decide +kernel)) ggX3_firstWrong_X3_putBy
set_option maxRecDepth 20000 in
theorem ggX3_firstWrong_X3_has : GoodIn wsX3_firstWrong wsX3_has := goodIn_r _ [12] (by decide +kernel) (by decide +kernel)
set_option maxRecDepth 20000 in
theorem gX3_firstWrong_X3_has : GoodIn wsX3_firstWrong (va_wsS RX3 88 yX3_has wsX3_has) := goodIn_app (goodIn_of _ (by decide +kernel)) ggX3_firstWrong_X3_has
theorem dX3_firstWrong_0 : decode cX3_firstWrong 0 = .ok (.aload_n 0, 1) := by decide +kernel
theorem dX3_firstWrong_1 : decode cX3_firstWrong 1 = .ok (.iload_n 1, 1) := by decide +kernel
theorem dX3_firstWrong_2 : decode cX3_firstWrong 2 = .ok (.iload_n 2, 1) := by decide +kernel
theorem dX3_firstWrong_3 : decode cX3_firstWrong 3 = .ok (.invokevirtual 96, 3) := by decide +kernel
theorem dX3_firstWrong_6 : decode cX3_firstWrong 6 = .ok (.iload 4, 2) := by decide +kernel
theorem dX3_firstWrong_8 : decode cX3_firstWrong 8 = .ok (.ior, 1) := by decide +kernel
theorem dX3_firstWrong_9 : decode cX3_firstWrong 9 = .ok (.istore 5, 2) := by decide +kernel
theorem dX3_firstWrong_11 : decode cX3_firstWrong 11 = .ok (.iload_n 3, 1) := by decide +kernel
theorem dX3_firstWrong_12 : decode cX3_firstWrong 12 = .ok (.ifCond .lt 10, 3) := by decide +kernel
theorem dX3_firstWrong_15 : decode cX3_firstWrong 15 = .ok (.iload 5, 2) := by decide +kernel
theorem dX3_firstWrong_17 : decode cX3_firstWrong 17 = .ok (.iload_n 3, 1) := by decide +kernel
theorem dX3_firstWrong_18 : decode cX3_firstWrong 18 = .ok (.ishl, 1) := by decide +kernel
theorem dX3_firstWrong_19 : decode cX3_firstWrong 19 = .ok (.goto 8, 3) := by decide +kernel
theorem dX3_firstWrong_22 : decode cX3_firstWrong 22 = .ok (.iload 5, 2) := by decide +kernel
theorem dX3_firstWrong_24 : decode cX3_firstWrong 24 = .ok (.iload_n 3, 1) := by decide +kernel
theorem dX3_firstWrong_25 : decode cX3_firstWrong 25 = .ok (.ineg, 1) := by decide +kernel
theorem dX3_firstWrong_26 : decode cX3_firstWrong 26 = .ok (.ishr, 1) := by decide +kernel
theorem dX3_firstWrong_27 : decode cX3_firstWrong 27 = .ok (.bipush 127, 2) := by decide +kernel
theorem dX3_firstWrong_29 : decode cX3_firstWrong 29 = .ok (.iand, 1) := by decide +kernel
theorem dX3_firstWrong_30 : decode cX3_firstWrong 30 = .ok (.istore 6, 2) := by decide +kernel
theorem dX3_firstWrong_32 : decode cX3_firstWrong 32 = .ok (.iconst 0, 1) := by decide +kernel
theorem dX3_firstWrong_33 : decode cX3_firstWrong 33 = .ok (.istore 7, 2) := by decide +kernel
theorem dX3_firstWrong_35 : decode cX3_firstWrong 35 = .ok (.iload 7, 2) := by decide +kernel
theorem dX3_firstWrong_37 : decode cX3_firstWrong 37 = .ok (.bipush 7, 2) := by decide +kernel
theorem dX3_firstWrong_39 : decode cX3_firstWrong 39 = .ok (.if_icmp .ge 25, 3) := by decide +kernel
theorem dX3_firstWrong_42 : decode cX3_firstWrong 42 = .ok (.iload_n 2, 1) := by decide +kernel
theorem dX3_firstWrong_43 : decode cX3_firstWrong 43 = .ok (.iload 7, 2) := by decide +kernel
theorem dX3_firstWrong_45 : decode cX3_firstWrong 45 = .ok (.invokestatic 88, 3) := by decide +kernel
theorem dX3_firstWrong_48 : decode cX3_firstWrong 48 = .ok (.iload 6, 2) := by decide +kernel
theorem dX3_firstWrong_50 : decode cX3_firstWrong 50 = .ok (.iload 7, 2) := by decide +kernel
theorem dX3_firstWrong_52 : decode cX3_firstWrong 52 = .ok (.invokestatic 88, 3) := by decide +kernel
theorem dX3_firstWrong_55 : decode cX3_firstWrong 55 = .ok (.if_icmp .ne 9, 3) := by decide +kernel
theorem dX3_firstWrong_58 : decode cX3_firstWrong 58 = .ok (.iinc 7 1, 3) := by decide +kernel
theorem dX3_firstWrong_61 : decode cX3_firstWrong 61 = .ok (.goto (-26), 3) := by decide +kernel
theorem dX3_firstWrong_64 : decode cX3_firstWrong 64 = .ok (.iload 7, 2) := by decide +kernel
theorem dX3_firstWrong_66 : decode cX3_firstWrong 66 = .ok (.ireturn, 1) := by decide +kernel
set_option maxRecDepth 20000 in
theorem ggX3_isSo_X3_aheadOf : GoodIn wsX3_isSo wsX3_aheadOf := goodIn_r _ [6, 7, 8, 27, 28, 29, 30, 31, 32, 33, 34, 35, 36, 37, 38, 39, 40, 41, 42, 43, 44, 45, 46, 47, 48, 49, 50, 51, 52, 53, 54, 55] (by decide +kernel) (by decide +kernel)
set_option maxRecDepth 20000 in
theorem gX3_isSo_X3_aheadOf : GoodIn wsX3_isSo (wsV RX3 100 RX3 yX3_aheadOf wsX3_aheadOf) := goodIn_app (goodIn_of _ (by decide +kernel)) ggX3_isSo_X3_aheadOf
set_option maxRecDepth 20000 in
theorem ggX3_isSo_X3_firstWrong : GoodIn wsX3_isSo wsX3_firstWrong := goodIn_r _ [12, 13, 14, 15, 5, 16, 17, 18, 19, 20, 21, 22, 23, 24, 25, 26, 27, 28, 29, 30, 31, 32, 33, 34, 35, 36, 37, 38, 39, 40, 41, 42, 43, 44, 45, 46, 47, 48, 49, 50, 51, 52, 53, 54, 55] (by decide +kernel) (by decide +kernel)
set_option maxRecDepth 20000 in
theorem gX3_isSo_X3_firstWrong : GoodIn wsX3_isSo (wsV RX3 103 RX3 yX3_firstWrong wsX3_firstWrong) := goodIn_app (goodIn_of _ (by decide +kernel)) ggX3_isSo_X3_firstWrong
theorem dX3_isSo_0 : decode cX3_isSo 0 = .ok (.aload_n 0, 1) := by decide +kernel
theorem dX3_isSo_1 : decode cX3_isSo 1 = .ok (.iload_n 1, 1) := by decide +kernel
theorem dX3_isSo_2 : decode cX3_isSo 2 = .ok (.iload_n 2, 1) := by decide +kernel
theorem dX3_isSo_3 : decode cX3_isSo 3 = .ok (.aload_n 0, 1) := by decide +kernel
theorem dX3_isSo_4 : decode cX3_isSo 4 = .ok (.iload_n 1, 1) := by decide +kernel
theorem dX3_isSo_5 : decode cX3_isSo 5 = .ok (.invokevirtual 100, 3) := by decide +kernel
theorem dX3_isSo_8 : decode cX3_isSo 8 = .ok (.aload_n 0, 1) := by decide +kernel
theorem dX3_isSo_9 : decode cX3_isSo 9 = .ok (.getfield 13, 3) := by decide +kernel
theorem dX3_isSo_12 : decode cX3_isSo 12 = .ok (.iload_n 1, 1) := by decide +kernel
theorem dX3_isSo_13 : decode cX3_isSo 13 = .ok (.iaload, 1) := by decide +kernel
theorem dX3_isSo_14 : decode cX3_isSo 14 = .ok (.invokevirtual 103, 3) := by decide +kernel
theorem dX3_isSo_17 : decode cX3_isSo 17 = .ok (.bipush 7, 2) := by decide +kernel
theorem dX3_isSo_19 : decode cX3_isSo 19 = .ok (.if_icmp .ne 7, 3) := by decide +kernel
theorem dX3_isSo_22 : decode cX3_isSo 22 = .ok (.iconst 1, 1) := by decide +kernel
theorem dX3_isSo_23 : decode cX3_isSo 23 = .ok (.goto 4, 3) := by decide +kernel
theorem dX3_isSo_26 : decode cX3_isSo 26 = .ok (.iconst 0, 1) := by decide +kernel
theorem dX3_isSo_27 : decode cX3_isSo 27 = .ok (.ireturn, 1) := by decide +kernel
set_option maxRecDepth 20000 in
theorem ggX3_agreeing_X3_isSo : GoodIn wsX3_agreeing wsX3_isSo := goodIn_r _ [5, 6, 7, 8, 9, 4, 10, 11, 12, 13, 14, 15, 16, 17, 18, 19, 20, 21, 22, 23, 24, 25, 26, 27, 28, 29, 30, 31, 32, 33, 34, 35, 36, 37, 38, 39, 40, 41, 42, 43, 44, 45, 46, 47, 48, 49, 50, 51, 52, 53, 54, 55, 56, 57, 58, 59] (by decide +kernel) (by decide +kernel)
set_option maxRecDepth 20000 in
theorem gX3_agreeing_X3_isSo : GoodIn wsX3_agreeing (wsV RX3 107 RX3 yX3_isSo wsX3_isSo) := goodIn_app (goodIn_of _ (by decide +kernel)) ggX3_agreeing_X3_isSo
theorem dX3_agreeing_0 : decode cX3_agreeing 0 = .ok (.iconst 0, 1) := by decide +kernel
theorem dX3_agreeing_1 : decode cX3_agreeing 1 = .ok (.istore_n 2, 1) := by decide +kernel
theorem dX3_agreeing_2 : decode cX3_agreeing 2 = .ok (.iconst 0, 1) := by decide +kernel
theorem dX3_agreeing_3 : decode cX3_agreeing 3 = .ok (.istore_n 3, 1) := by decide +kernel
theorem dX3_agreeing_4 : decode cX3_agreeing 4 = .ok (.iload_n 3, 1) := by decide +kernel
theorem dX3_agreeing_5 : decode cX3_agreeing 5 = .ok (.sipush 128, 3) := by decide +kernel
theorem dX3_agreeing_8 : decode cX3_agreeing 8 = .ok (.if_icmp .ge 26, 3) := by decide +kernel
theorem dX3_agreeing_11 : decode cX3_agreeing 11 = .ok (.iload_n 2, 1) := by decide +kernel
theorem dX3_agreeing_12 : decode cX3_agreeing 12 = .ok (.aload_n 0, 1) := by decide +kernel
theorem dX3_agreeing_13 : decode cX3_agreeing 13 = .ok (.iload_n 1, 1) := by decide +kernel
theorem dX3_agreeing_14 : decode cX3_agreeing 14 = .ok (.iload_n 3, 1) := by decide +kernel
theorem dX3_agreeing_15 : decode cX3_agreeing 15 = .ok (.invokevirtual 107, 3) := by decide +kernel
theorem dX3_agreeing_18 : decode cX3_agreeing 18 = .ok (.ifCond .eq 7, 3) := by decide +kernel
theorem dX3_agreeing_21 : decode cX3_agreeing 21 = .ok (.iconst 1, 1) := by decide +kernel
theorem dX3_agreeing_22 : decode cX3_agreeing 22 = .ok (.goto 4, 3) := by decide +kernel
theorem dX3_agreeing_25 : decode cX3_agreeing 25 = .ok (.iconst 0, 1) := by decide +kernel
theorem dX3_agreeing_26 : decode cX3_agreeing 26 = .ok (.iadd, 1) := by decide +kernel
theorem dX3_agreeing_27 : decode cX3_agreeing 27 = .ok (.istore_n 2, 1) := by decide +kernel
theorem dX3_agreeing_28 : decode cX3_agreeing 28 = .ok (.iinc 3 1, 3) := by decide +kernel
theorem dX3_agreeing_31 : decode cX3_agreeing 31 = .ok (.goto (-27), 3) := by decide +kernel
theorem dX3_agreeing_34 : decode cX3_agreeing 34 = .ok (.iload_n 2, 1) := by decide +kernel
theorem dX3_agreeing_35 : decode cX3_agreeing 35 = .ok (.ireturn, 1) := by decide +kernel
set_option maxRecDepth 20000 in
theorem ggX3_cannotOf_X3_aheadOf : GoodIn wsX3_cannotOf wsX3_aheadOf := goodIn_r _ [6, 7, 8, 27, 28, 29, 30, 31, 32, 33, 34, 35, 36, 37, 38, 39, 40, 41, 42, 43, 44, 45, 46, 47, 48, 49, 50, 51, 52, 53, 54, 55] (by decide +kernel) (by decide +kernel)
set_option maxRecDepth 20000 in
theorem gX3_cannotOf_X3_aheadOf : GoodIn wsX3_cannotOf (wsV RX3 100 RX3 yX3_aheadOf wsX3_aheadOf) := goodIn_app (goodIn_of _ (by decide +kernel)) ggX3_cannotOf_X3_aheadOf
set_option maxRecDepth 20000 in
theorem ggX3_cannotOf_X3_firstWrong : GoodIn wsX3_cannotOf wsX3_firstWrong := goodIn_r _ [12, 13, 14, 15, 5, 16, 17, 18, 19, 20, 21, 22, 23, 24, 25, 26, 27, 28, 29, 30, 31, 32, 33, 34, 35, 36, 37, 38, 39, 40, 41, 42, 43, 44, 45, 46, 47, 48, 49, 50, 51, 52, 53, 54, 55] (by decide +kernel) (by decide +kernel)
set_option maxRecDepth 20000 in
theorem gX3_cannotOf_X3_firstWrong : GoodIn wsX3_cannotOf (wsV RX3 103 RX3 yX3_firstWrong wsX3_firstWrong) := goodIn_app (goodIn_of _ (by decide +kernel)) ggX3_cannotOf_X3_firstWrong
theorem dX3_cannotOf_0 : decode cX3_cannotOf 0 = .ok (.iconst 0, 1) := by decide +kernel
theorem dX3_cannotOf_1 : decode cX3_cannotOf 1 = .ok (.istore_n 2, 1) := by decide +kernel
theorem dX3_cannotOf_2 : decode cX3_cannotOf 2 = .ok (.iconst 0, 1) := by decide +kernel
theorem dX3_cannotOf_3 : decode cX3_cannotOf 3 = .ok (.istore_n 3, 1) := by decide +kernel
theorem dX3_cannotOf_4 : decode cX3_cannotOf 4 = .ok (.iload_n 3, 1) := by decide +kernel
theorem dX3_cannotOf_5 : decode cX3_cannotOf 5 = .ok (.sipush 128, 3) := by decide +kernel
theorem dX3_cannotOf_8 : decode cX3_cannotOf 8 = .ok (.if_icmp .ge 41, 3) := by decide +kernel
theorem dX3_cannotOf_11 : decode cX3_cannotOf 11 = .ok (.aload_n 0, 1) := by decide +kernel
theorem dX3_cannotOf_12 : decode cX3_cannotOf 12 = .ok (.iload_n 1, 1) := by decide +kernel
theorem dX3_cannotOf_13 : decode cX3_cannotOf 13 = .ok (.iload_n 3, 1) := by decide +kernel
theorem dX3_cannotOf_14 : decode cX3_cannotOf 14 = .ok (.aload_n 0, 1) := by decide +kernel
theorem dX3_cannotOf_15 : decode cX3_cannotOf 15 = .ok (.iload_n 1, 1) := by decide +kernel
theorem dX3_cannotOf_16 : decode cX3_cannotOf 16 = .ok (.invokevirtual 100, 3) := by decide +kernel
theorem dX3_cannotOf_19 : decode cX3_cannotOf 19 = .ok (.aload_n 0, 1) := by decide +kernel
theorem dX3_cannotOf_20 : decode cX3_cannotOf 20 = .ok (.getfield 13, 3) := by decide +kernel
theorem dX3_cannotOf_23 : decode cX3_cannotOf 23 = .ok (.iload_n 1, 1) := by decide +kernel
theorem dX3_cannotOf_24 : decode cX3_cannotOf 24 = .ok (.iaload, 1) := by decide +kernel
theorem dX3_cannotOf_25 : decode cX3_cannotOf 25 = .ok (.invokevirtual 103, 3) := by decide +kernel
theorem dX3_cannotOf_28 : decode cX3_cannotOf 28 = .ok (.istore 4, 2) := by decide +kernel
theorem dX3_cannotOf_30 : decode cX3_cannotOf 30 = .ok (.iload 4, 2) := by decide +kernel
theorem dX3_cannotOf_32 : decode cX3_cannotOf 32 = .ok (.iload_n 2, 1) := by decide +kernel
theorem dX3_cannotOf_33 : decode cX3_cannotOf 33 = .ok (.if_icmp .le 8, 3) := by decide +kernel
theorem dX3_cannotOf_36 : decode cX3_cannotOf 36 = .ok (.iload 4, 2) := by decide +kernel
theorem dX3_cannotOf_38 : decode cX3_cannotOf 38 = .ok (.goto 4, 3) := by decide +kernel
theorem dX3_cannotOf_41 : decode cX3_cannotOf 41 = .ok (.iload_n 2, 1) := by decide +kernel
theorem dX3_cannotOf_42 : decode cX3_cannotOf 42 = .ok (.istore_n 2, 1) := by decide +kernel
theorem dX3_cannotOf_43 : decode cX3_cannotOf 43 = .ok (.iinc 3 1, 3) := by decide +kernel
theorem dX3_cannotOf_46 : decode cX3_cannotOf 46 = .ok (.goto (-42), 3) := by decide +kernel
theorem dX3_cannotOf_49 : decode cX3_cannotOf 49 = .ok (.iload_n 2, 1) := by decide +kernel
theorem dX3_cannotOf_50 : decode cX3_cannotOf 50 = .ok (.bipush 7, 2) := by decide +kernel
theorem dX3_cannotOf_52 : decode cX3_cannotOf 52 = .ok (.if_icmp .ne 7, 3) := by decide +kernel
theorem dX3_cannotOf_55 : decode cX3_cannotOf 55 = .ok (.iconst (-1), 1) := by decide +kernel
theorem dX3_cannotOf_56 : decode cX3_cannotOf 56 = .ok (.goto 4, 3) := by decide +kernel
theorem dX3_cannotOf_59 : decode cX3_cannotOf 59 = .ok (.iload_n 2, 1) := by decide +kernel
theorem dX3_cannotOf_60 : decode cX3_cannotOf 60 = .ok (.ireturn, 1) := by decide +kernel
set_option maxRecDepth 20000 in
theorem ggX3_leastOf_X3_isSo : GoodIn wsX3_leastOf wsX3_isSo := goodIn_r _ [5, 6, 7, 8, 9, 4, 10, 11, 12, 13, 14, 15, 16, 17, 18, 19, 20, 21, 22, 23, 24, 25, 26, 27, 28, 29, 30, 31, 32, 33, 34, 35, 36, 37, 38, 39, 40, 41, 42, 43, 44, 45, 46, 47, 48, 49, 50, 51, 52, 53, 54, 55, 56, 57, 58, 59] (by decide +kernel) (by decide +kernel)
set_option maxRecDepth 20000 in
theorem gX3_leastOf_X3_isSo : GoodIn wsX3_leastOf (wsV RX3 107 RX3 yX3_isSo wsX3_isSo) := goodIn_app (goodIn_of _ (by decide +kernel)) ggX3_leastOf_X3_isSo
theorem dX3_leastOf_0 : decode cX3_leastOf 0 = .ok (.iconst 0, 1) := by decide +kernel
theorem dX3_leastOf_1 : decode cX3_leastOf 1 = .ok (.istore_n 2, 1) := by decide +kernel
theorem dX3_leastOf_2 : decode cX3_leastOf 2 = .ok (.iload_n 2, 1) := by decide +kernel
theorem dX3_leastOf_3 : decode cX3_leastOf 3 = .ok (.sipush 128, 3) := by decide +kernel
theorem dX3_leastOf_6 : decode cX3_leastOf 6 = .ok (.if_icmp .ge 18, 3) := by decide +kernel
theorem dX3_leastOf_9 : decode cX3_leastOf 9 = .ok (.aload_n 0, 1) := by decide +kernel
theorem dX3_leastOf_10 : decode cX3_leastOf 10 = .ok (.iload_n 1, 1) := by decide +kernel
theorem dX3_leastOf_11 : decode cX3_leastOf 11 = .ok (.iload_n 2, 1) := by decide +kernel
theorem dX3_leastOf_12 : decode cX3_leastOf 12 = .ok (.invokevirtual 107, 3) := by decide +kernel
theorem dX3_leastOf_15 : decode cX3_leastOf 15 = .ok (.ifCond .ne 9, 3) := by decide +kernel
theorem dX3_leastOf_18 : decode cX3_leastOf 18 = .ok (.iinc 2 1, 3) := by decide +kernel
theorem dX3_leastOf_21 : decode cX3_leastOf 21 = .ok (.goto (-19), 3) := by decide +kernel
theorem dX3_leastOf_24 : decode cX3_leastOf 24 = .ok (.iload_n 2, 1) := by decide +kernel
theorem dX3_leastOf_25 : decode cX3_leastOf 25 = .ok (.sipush 128, 3) := by decide +kernel
theorem dX3_leastOf_28 : decode cX3_leastOf 28 = .ok (.if_icmp .ne 7, 3) := by decide +kernel
theorem dX3_leastOf_31 : decode cX3_leastOf 31 = .ok (.iconst (-1), 1) := by decide +kernel
theorem dX3_leastOf_32 : decode cX3_leastOf 32 = .ok (.goto 4, 3) := by decide +kernel
theorem dX3_leastOf_35 : decode cX3_leastOf 35 = .ok (.iload_n 2, 1) := by decide +kernel
theorem dX3_leastOf_36 : decode cX3_leastOf 36 = .ok (.ireturn, 1) := by decide +kernel
theorem dX3_peopleOf_0 : decode cX3_peopleOf 0 = .ok (.iconst 0, 1) := by decide +kernel
theorem dX3_peopleOf_1 : decode cX3_peopleOf 1 = .ok (.istore_n 2, 1) := by decide +kernel
theorem dX3_peopleOf_2 : decode cX3_peopleOf 2 = .ok (.iconst 0, 1) := by decide +kernel
theorem dX3_peopleOf_3 : decode cX3_peopleOf 3 = .ok (.istore_n 3, 1) := by decide +kernel
theorem dX3_peopleOf_4 : decode cX3_peopleOf 4 = .ok (.iload_n 3, 1) := by decide +kernel
theorem dX3_peopleOf_5 : decode cX3_peopleOf 5 = .ok (.aload_n 0, 1) := by decide +kernel
theorem dX3_peopleOf_6 : decode cX3_peopleOf 6 = .ok (.getfield 82, 3) := by decide +kernel
theorem dX3_peopleOf_9 : decode cX3_peopleOf 9 = .ok (.if_icmp .ge 29, 3) := by decide +kernel
theorem dX3_peopleOf_12 : decode cX3_peopleOf 12 = .ok (.iload_n 2, 1) := by decide +kernel
theorem dX3_peopleOf_13 : decode cX3_peopleOf 13 = .ok (.aload_n 0, 1) := by decide +kernel
theorem dX3_peopleOf_14 : decode cX3_peopleOf 14 = .ok (.getfield 19, 3) := by decide +kernel
theorem dX3_peopleOf_17 : decode cX3_peopleOf 17 = .ok (.iload_n 3, 1) := by decide +kernel
theorem dX3_peopleOf_18 : decode cX3_peopleOf 18 = .ok (.iaload, 1) := by decide +kernel
theorem dX3_peopleOf_19 : decode cX3_peopleOf 19 = .ok (.iload_n 1, 1) := by decide +kernel
theorem dX3_peopleOf_20 : decode cX3_peopleOf 20 = .ok (.if_icmp .ne 9, 3) := by decide +kernel
theorem dX3_peopleOf_23 : decode cX3_peopleOf 23 = .ok (.iconst 1, 1) := by decide +kernel
theorem dX3_peopleOf_24 : decode cX3_peopleOf 24 = .ok (.iload_n 3, 1) := by decide +kernel
theorem dX3_peopleOf_25 : decode cX3_peopleOf 25 = .ok (.ishl, 1) := by decide +kernel
theorem dX3_peopleOf_26 : decode cX3_peopleOf 26 = .ok (.goto 4, 3) := by decide +kernel
theorem dX3_peopleOf_29 : decode cX3_peopleOf 29 = .ok (.iconst 0, 1) := by decide +kernel
theorem dX3_peopleOf_30 : decode cX3_peopleOf 30 = .ok (.ior, 1) := by decide +kernel
theorem dX3_peopleOf_31 : decode cX3_peopleOf 31 = .ok (.istore_n 2, 1) := by decide +kernel
theorem dX3_peopleOf_32 : decode cX3_peopleOf 32 = .ok (.iinc 3 1, 3) := by decide +kernel
theorem dX3_peopleOf_35 : decode cX3_peopleOf 35 = .ok (.goto (-31), 3) := by decide +kernel
theorem dX3_peopleOf_38 : decode cX3_peopleOf 38 = .ok (.iload_n 2, 1) := by decide +kernel
theorem dX3_peopleOf_39 : decode cX3_peopleOf 39 = .ok (.ireturn, 1) := by decide +kernel
set_option maxRecDepth 20000 in
theorem ggX3_drawerNow_X3_aheadOf : GoodIn wsX3_drawerNow wsX3_aheadOf := goodIn_r _ [7, 8, 1, 47, 48, 49, 50, 51, 52, 53, 54, 55, 56, 57, 58, 59, 60, 61, 62, 63, 64, 65, 66, 67, 68, 69, 70, 71, 72, 73, 74, 75] (by decide +kernel) (by decide +kernel)
set_option maxRecDepth 20000 in
theorem gX3_drawerNow_X3_aheadOf : GoodIn wsX3_drawerNow (wsV RX3 100 RX3 yX3_aheadOf wsX3_aheadOf) := goodIn_app (goodIn_of _ (by decide +kernel)) ggX3_drawerNow_X3_aheadOf
set_option maxRecDepth 20000 in
theorem ggX3_drawerNow_X3_peopleOf : GoodIn wsX3_drawerNow wsX3_peopleOf := goodIn_r _ [12, 13, 14, 47, 48, 49, 50, 51, 52, 53, 54, 55, 56, 57, 58, 59, 60, 61, 62, 63, 64, 65, 66, 67, 68, 69, 70, 71, 72, 73, 74, 75] (by decide +kernel) (by decide +kernel)
set_option maxRecDepth 20000 in
theorem gX3_drawerNow_X3_peopleOf : GoodIn wsX3_drawerNow (wsV RX3 110 RX3 yX3_peopleOf wsX3_peopleOf) := goodIn_app (goodIn_of _ (by decide +kernel)) ggX3_drawerNow_X3_peopleOf
set_option maxRecDepth 20000 in
theorem ggX3_drawerNow_X3_agreeing : GoodIn wsX3_drawerNow wsX3_agreeing := goodIn_r _ [18, 19, 20, 21, 6, 22, 2, 3, 4, 5, 7, 8, 1, 23, 24, 25, 26, 27, 28, 29, 30, 13, 14, 31, 32, 33, 34, 35, 36, 37, 38, 47, 48, 49, 50, 51, 52, 53, 54, 55, 56, 57, 58, 59, 60, 61, 62, 63, 64, 65, 66, 67, 68, 69, 70, 71, 72, 73, 74, 75] (by decide +kernel) (by decide +kernel)
set_option maxRecDepth 20000 in
theorem gX3_drawerNow_X3_agreeing : GoodIn wsX3_drawerNow (wsV RX3 113 RX3 yX3_agreeing wsX3_agreeing) := goodIn_app (goodIn_of _ (by decide +kernel)) ggX3_drawerNow_X3_agreeing
set_option maxRecDepth 20000 in
theorem ggX3_drawerNow_X3_cannotOf : GoodIn wsX3_drawerNow wsX3_cannotOf := goodIn_r _ [42, 2, 3, 4, 5, 6, 7, 8, 1, 23, 24, 25, 26, 27, 28, 29, 30, 13, 14, 31, 32, 33, 34, 35, 36, 37, 38, 47, 48, 49, 50, 51, 52, 53, 54, 55, 56, 57, 58, 59, 60, 61, 62, 63, 64, 65, 66, 67, 68, 69, 70, 71, 72, 73, 74, 75] (by decide +kernel) (by decide +kernel)
set_option maxRecDepth 20000 in
theorem gX3_drawerNow_X3_cannotOf : GoodIn wsX3_drawerNow (wsV RX3 116 RX3 yX3_cannotOf wsX3_cannotOf) := goodIn_app (goodIn_of _ (by decide +kernel)) ggX3_drawerNow_X3_cannotOf
set_option maxRecDepth 20000 in
theorem ggX3_drawerNow_X3_leastOf : GoodIn wsX3_drawerNow wsX3_leastOf := goodIn_r _ [46, 19, 20, 21, 6, 22, 2, 3, 4, 5, 7, 8, 1, 23, 24, 25, 26, 27, 28, 29, 30, 13, 14, 31, 32, 33, 34, 35, 36, 37, 38, 47, 48, 49, 50, 51, 52, 53, 54, 55, 56, 57, 58, 59, 60, 61, 62, 63, 64, 65, 66, 67, 68, 69, 70, 71, 72, 73, 74, 75] (by decide +kernel) (by decide +kernel)
set_option maxRecDepth 20000 in
theorem gX3_drawerNow_X3_leastOf : GoodIn wsX3_drawerNow (wsV RX3 119 RX3 yX3_leastOf wsX3_leastOf) := goodIn_app (goodIn_of _ (by decide +kernel)) ggX3_drawerNow_X3_leastOf
theorem dX3_drawerNow_0 : decode cX3_drawerNow 0 = .ok (.iload_n 2, 1) := by decide +kernel
theorem dX3_drawerNow_1 : decode cX3_drawerNow 1 = .ok (.tableswitch 83 0 5 #[39, 49, 58, 64, 71, 77], 39) := by decide +kernel
theorem dX3_drawerNow_40 : decode cX3_drawerNow 40 = .ok (.aload_n 0, 1) := by decide +kernel
theorem dX3_drawerNow_41 : decode cX3_drawerNow 41 = .ok (.getfield 7, 3) := by decide +kernel
theorem dX3_drawerNow_44 : decode cX3_drawerNow 44 = .ok (.iload_n 1, 1) := by decide +kernel
theorem dX3_drawerNow_45 : decode cX3_drawerNow 45 = .ok (.iaload, 1) := by decide +kernel
theorem dX3_drawerNow_46 : decode cX3_drawerNow 46 = .ok (.bipush 10, 2) := by decide +kernel
theorem dX3_drawerNow_48 : decode cX3_drawerNow 48 = .ok (.iadd, 1) := by decide +kernel
theorem dX3_drawerNow_49 : decode cX3_drawerNow 49 = .ok (.ireturn, 1) := by decide +kernel
theorem dX3_drawerNow_50 : decode cX3_drawerNow 50 = .ok (.aload_n 0, 1) := by decide +kernel
theorem dX3_drawerNow_51 : decode cX3_drawerNow 51 = .ok (.iload_n 1, 1) := by decide +kernel
theorem dX3_drawerNow_52 : decode cX3_drawerNow 52 = .ok (.invokevirtual 100, 3) := by decide +kernel
theorem dX3_drawerNow_55 : decode cX3_drawerNow 55 = .ok (.bipush 10, 2) := by decide +kernel
theorem dX3_drawerNow_57 : decode cX3_drawerNow 57 = .ok (.iadd, 1) := by decide +kernel
theorem dX3_drawerNow_58 : decode cX3_drawerNow 58 = .ok (.ireturn, 1) := by decide +kernel
theorem dX3_drawerNow_59 : decode cX3_drawerNow 59 = .ok (.aload_n 0, 1) := by decide +kernel
theorem dX3_drawerNow_60 : decode cX3_drawerNow 60 = .ok (.iload_n 1, 1) := by decide +kernel
theorem dX3_drawerNow_61 : decode cX3_drawerNow 61 = .ok (.invokevirtual 110, 3) := by decide +kernel
theorem dX3_drawerNow_64 : decode cX3_drawerNow 64 = .ok (.ireturn, 1) := by decide +kernel
theorem dX3_drawerNow_65 : decode cX3_drawerNow 65 = .ok (.aload_n 0, 1) := by decide +kernel
theorem dX3_drawerNow_66 : decode cX3_drawerNow 66 = .ok (.getfield 13, 3) := by decide +kernel
theorem dX3_drawerNow_69 : decode cX3_drawerNow 69 = .ok (.iload_n 1, 1) := by decide +kernel
theorem dX3_drawerNow_70 : decode cX3_drawerNow 70 = .ok (.iaload, 1) := by decide +kernel
theorem dX3_drawerNow_71 : decode cX3_drawerNow 71 = .ok (.ireturn, 1) := by decide +kernel
theorem dX3_drawerNow_72 : decode cX3_drawerNow 72 = .ok (.aload_n 0, 1) := by decide +kernel
theorem dX3_drawerNow_73 : decode cX3_drawerNow 73 = .ok (.iload_n 1, 1) := by decide +kernel
theorem dX3_drawerNow_74 : decode cX3_drawerNow 74 = .ok (.invokevirtual 113, 3) := by decide +kernel
theorem dX3_drawerNow_77 : decode cX3_drawerNow 77 = .ok (.ireturn, 1) := by decide +kernel
theorem dX3_drawerNow_78 : decode cX3_drawerNow 78 = .ok (.aload_n 0, 1) := by decide +kernel
theorem dX3_drawerNow_79 : decode cX3_drawerNow 79 = .ok (.iload_n 1, 1) := by decide +kernel
theorem dX3_drawerNow_80 : decode cX3_drawerNow 80 = .ok (.invokevirtual 116, 3) := by decide +kernel
theorem dX3_drawerNow_83 : decode cX3_drawerNow 83 = .ok (.ireturn, 1) := by decide +kernel
theorem dX3_drawerNow_84 : decode cX3_drawerNow 84 = .ok (.aload_n 0, 1) := by decide +kernel
theorem dX3_drawerNow_85 : decode cX3_drawerNow 85 = .ok (.iload_n 1, 1) := by decide +kernel
theorem dX3_drawerNow_86 : decode cX3_drawerNow 86 = .ok (.invokevirtual 119, 3) := by decide +kernel
theorem dX3_drawerNow_89 : decode cX3_drawerNow 89 = .ok (.ireturn, 1) := by decide +kernel
set_option maxRecDepth 20000 in
theorem ggX3_drawer_X3_isDrawer : GoodIn wsX3_drawer wsX3_isDrawer := goodIn_r _ [5, 6, 7, 8, 4, 9, 59, 60, 61, 62, 63, 64, 65, 66, 67, 68, 69, 70, 71, 72, 73, 74, 75, 76, 77, 78, 79, 80, 81, 82, 83, 84, 85, 86, 87] (by decide +kernel) (by decide +kernel)
set_option maxRecDepth 20000 in
theorem gX3_drawer_X3_isDrawer : GoodIn wsX3_drawer (wsV RX3 122 RX3 yX3_isDrawer wsX3_isDrawer) := goodIn_app (goodIn_of _ (by decide +kernel)) ggX3_drawer_X3_isDrawer
set_option maxRecDepth 20000 in
theorem ggX3_drawer_X3_within : GoodIn wsX3_drawer wsX3_within := goodIn_r _ [9] (by decide +kernel) (by decide +kernel)
set_option maxRecDepth 20000 in
theorem gX3_drawer_X3_within : GoodIn wsX3_drawer (va_wsS RX3 56 yX3_within wsX3_within) := goodIn_app (goodIn_of _ (by decide +kernel)) ggX3_drawer_X3_within
set_option maxRecDepth 20000 in
theorem ggX3_drawer_X3_drawerNow : GoodIn wsX3_drawer wsX3_drawerNow := goodIn_r _ [13, 14, 15, 16, 17, 18, 4, 19, 20, 21, 22, 23, 24, 25, 26, 27, 28, 29, 30, 31, 32, 33, 34, 35, 36, 37, 38, 39, 40, 41, 42, 43, 44, 45, 46, 47, 48, 49, 50, 51, 52, 53, 54, 55, 56, 57, 58, 59, 60, 61, 62, 63, 64, 65, 66, 67, 68, 69, 70, 71, 72, 73, 74, 75, 76, 77, 78, 79, 80, 81, 82, 83, 84, 85, 86, 87] (by decide +kernel) (by decide +kernel)
set_option maxRecDepth 20000 in
theorem gX3_drawer_X3_drawerNow : GoodIn wsX3_drawer (wsV RX3 126 RX3 yX3_drawerNow wsX3_drawerNow) := goodIn_app (goodIn_of _ (by decide +kernel)) ggX3_drawer_X3_drawerNow
theorem dX3_drawer_0 : decode cX3_drawer 0 = .ok (.aload_n 0, 1) := by decide +kernel
theorem dX3_drawer_1 : decode cX3_drawer 1 = .ok (.iload_n 1, 1) := by decide +kernel
theorem dX3_drawer_2 : decode cX3_drawer 2 = .ok (.invokevirtual 122, 3) := by decide +kernel
theorem dX3_drawer_5 : decode cX3_drawer 5 = .ok (.ifCond .ne 8, 3) := by decide +kernel
theorem dX3_drawer_8 : decode cX3_drawer 8 = .ok (.bipush (-101), 2) := by decide +kernel
theorem dX3_drawer_10 : decode cX3_drawer 10 = .ok (.goto 24, 3) := by decide +kernel
theorem dX3_drawer_13 : decode cX3_drawer 13 = .ok (.iload_n 2, 1) := by decide +kernel
theorem dX3_drawer_14 : decode cX3_drawer 14 = .ok (.iconst 0, 1) := by decide +kernel
theorem dX3_drawer_15 : decode cX3_drawer 15 = .ok (.bipush 6, 2) := by decide +kernel
theorem dX3_drawer_17 : decode cX3_drawer 17 = .ok (.invokestatic 56, 3) := by decide +kernel
theorem dX3_drawer_20 : decode cX3_drawer 20 = .ok (.ifCond .eq 12, 3) := by decide +kernel
theorem dX3_drawer_23 : decode cX3_drawer 23 = .ok (.aload_n 0, 1) := by decide +kernel
theorem dX3_drawer_24 : decode cX3_drawer 24 = .ok (.iload_n 1, 1) := by decide +kernel
theorem dX3_drawer_25 : decode cX3_drawer 25 = .ok (.iload_n 2, 1) := by decide +kernel
theorem dX3_drawer_26 : decode cX3_drawer 26 = .ok (.invokevirtual 126, 3) := by decide +kernel
theorem dX3_drawer_29 : decode cX3_drawer 29 = .ok (.goto 5, 3) := by decide +kernel
theorem dX3_drawer_32 : decode cX3_drawer 32 = .ok (.bipush (-102), 2) := by decide +kernel
theorem dX3_drawer_34 : decode cX3_drawer 34 = .ok (.ireturn, 1) := by decide +kernel
set_option maxRecDepth 20000 in
theorem ggX3_isPerson_X3_within : GoodIn wsX3_isPerson wsX3_within := goodIn_r _ [5] (by decide +kernel) (by decide +kernel)
set_option maxRecDepth 20000 in
theorem gX3_isPerson_X3_within : GoodIn wsX3_isPerson (va_wsS RX3 56 yX3_within wsX3_within) := goodIn_app (goodIn_of _ (by decide +kernel)) ggX3_isPerson_X3_within
theorem dX3_isPerson_0 : decode cX3_isPerson 0 = .ok (.iload_n 1, 1) := by decide +kernel
theorem dX3_isPerson_1 : decode cX3_isPerson 1 = .ok (.iconst 0, 1) := by decide +kernel
theorem dX3_isPerson_2 : decode cX3_isPerson 2 = .ok (.aload_n 0, 1) := by decide +kernel
theorem dX3_isPerson_3 : decode cX3_isPerson 3 = .ok (.getfield 82, 3) := by decide +kernel
theorem dX3_isPerson_6 : decode cX3_isPerson 6 = .ok (.iconst 1, 1) := by decide +kernel
theorem dX3_isPerson_7 : decode cX3_isPerson 7 = .ok (.isub, 1) := by decide +kernel
theorem dX3_isPerson_8 : decode cX3_isPerson 8 = .ok (.invokestatic 56, 3) := by decide +kernel
theorem dX3_isPerson_11 : decode cX3_isPerson 11 = .ok (.ireturn, 1) := by decide +kernel
set_option maxRecDepth 20000 in
theorem ggX3_person_X3_within : GoodIn wsX3_person wsX3_within := goodIn_r _ [8] (by decide +kernel) (by decide +kernel)
set_option maxRecDepth 20000 in
theorem gX3_person_X3_within : GoodIn wsX3_person (va_wsS RX3 56 yX3_within wsX3_within) := goodIn_app (goodIn_of _ (by decide +kernel)) ggX3_person_X3_within
set_option maxRecDepth 20000 in
theorem ggX3_person_X3_isDrawer : GoodIn wsX3_person wsX3_isDrawer := goodIn_r _ [12, 13, 5, 6, 7, 8, 17, 18, 19, 20, 21, 22, 23, 24, 25, 26, 27, 28, 29, 30, 31, 32, 33, 34, 35, 36, 37, 38, 39, 40, 41, 42, 43, 44, 45] (by decide +kernel) (by decide +kernel)
set_option maxRecDepth 20000 in
theorem gX3_person_X3_isDrawer : GoodIn wsX3_person (wsV RX3 122 RX3 yX3_isDrawer wsX3_isDrawer) := goodIn_app (goodIn_of _ (by decide +kernel)) ggX3_person_X3_isDrawer
set_option maxRecDepth 20000 in
theorem ggX3_person_X3_isDay : GoodIn wsX3_person wsX3_isDay := goodIn_r _ [16, 5, 6, 7, 8] (by decide +kernel) (by decide +kernel)
set_option maxRecDepth 20000 in
theorem gX3_person_X3_isDay : GoodIn wsX3_person (va_wsS RX3 129 yX3_isDay wsX3_isDay) := goodIn_app (goodIn_of _ (by decide +kernel)) ggX3_person_X3_isDay
theorem dX3_person_0 : decode cX3_person 0 = .ok (.iload_n 1, 1) := by decide +kernel
theorem dX3_person_1 : decode cX3_person 1 = .ok (.iconst 0, 1) := by decide +kernel
theorem dX3_person_2 : decode cX3_person 2 = .ok (.iconst 4, 1) := by decide +kernel
theorem dX3_person_3 : decode cX3_person 3 = .ok (.invokestatic 56, 3) := by decide +kernel
theorem dX3_person_6 : decode cX3_person 6 = .ok (.ifCond .ne 6, 3) := by decide +kernel
theorem dX3_person_9 : decode cX3_person 9 = .ok (.bipush (-102), 2) := by decide +kernel
theorem dX3_person_11 : decode cX3_person 11 = .ok (.ireturn, 1) := by decide +kernel
theorem dX3_person_12 : decode cX3_person 12 = .ok (.aload_n 0, 1) := by decide +kernel
theorem dX3_person_13 : decode cX3_person 13 = .ok (.iload_n 2, 1) := by decide +kernel
theorem dX3_person_14 : decode cX3_person 14 = .ok (.invokevirtual 122, 3) := by decide +kernel
theorem dX3_person_17 : decode cX3_person 17 = .ok (.ifCond .eq 10, 3) := by decide +kernel
theorem dX3_person_20 : decode cX3_person 20 = .ok (.iload_n 3, 1) := by decide +kernel
theorem dX3_person_21 : decode cX3_person 21 = .ok (.invokestatic 129, 3) := by decide +kernel
theorem dX3_person_24 : decode cX3_person 24 = .ok (.ifCond .ne 6, 3) := by decide +kernel
theorem dX3_person_27 : decode cX3_person 27 = .ok (.bipush (-101), 2) := by decide +kernel
theorem dX3_person_29 : decode cX3_person 29 = .ok (.ireturn, 1) := by decide +kernel
theorem dX3_person_30 : decode cX3_person 30 = .ok (.aload_n 0, 1) := by decide +kernel
theorem dX3_person_31 : decode cX3_person 31 = .ok (.getfield 82, 3) := by decide +kernel
theorem dX3_person_34 : decode cX3_person 34 = .ok (.bipush 6, 2) := by decide +kernel
theorem dX3_person_36 : decode cX3_person 36 = .ok (.if_icmp .ne 6, 3) := by decide +kernel
theorem dX3_person_39 : decode cX3_person 39 = .ok (.bipush (-104), 2) := by decide +kernel
theorem dX3_person_41 : decode cX3_person 41 = .ok (.ireturn, 1) := by decide +kernel
theorem dX3_person_42 : decode cX3_person 42 = .ok (.aload_n 0, 1) := by decide +kernel
theorem dX3_person_43 : decode cX3_person 43 = .ok (.getfield 16, 3) := by decide +kernel
theorem dX3_person_46 : decode cX3_person 46 = .ok (.aload_n 0, 1) := by decide +kernel
theorem dX3_person_47 : decode cX3_person 47 = .ok (.getfield 82, 3) := by decide +kernel
theorem dX3_person_50 : decode cX3_person 50 = .ok (.iload_n 1, 1) := by decide +kernel
theorem dX3_person_51 : decode cX3_person 51 = .ok (.iastore, 1) := by decide +kernel
theorem dX3_person_52 : decode cX3_person 52 = .ok (.aload_n 0, 1) := by decide +kernel
theorem dX3_person_53 : decode cX3_person 53 = .ok (.getfield 19, 3) := by decide +kernel
theorem dX3_person_56 : decode cX3_person 56 = .ok (.aload_n 0, 1) := by decide +kernel
theorem dX3_person_57 : decode cX3_person 57 = .ok (.getfield 82, 3) := by decide +kernel
theorem dX3_person_60 : decode cX3_person 60 = .ok (.iload_n 2, 1) := by decide +kernel
theorem dX3_person_61 : decode cX3_person 61 = .ok (.iastore, 1) := by decide +kernel
theorem dX3_person_62 : decode cX3_person 62 = .ok (.aload_n 0, 1) := by decide +kernel
theorem dX3_person_63 : decode cX3_person 63 = .ok (.getfield 22, 3) := by decide +kernel
theorem dX3_person_66 : decode cX3_person 66 = .ok (.aload_n 0, 1) := by decide +kernel
theorem dX3_person_67 : decode cX3_person 67 = .ok (.getfield 82, 3) := by decide +kernel
theorem dX3_person_70 : decode cX3_person 70 = .ok (.iload_n 3, 1) := by decide +kernel
theorem dX3_person_71 : decode cX3_person 71 = .ok (.iastore, 1) := by decide +kernel
theorem dX3_person_72 : decode cX3_person 72 = .ok (.aload_n 0, 1) := by decide +kernel
theorem dX3_person_73 : decode cX3_person 73 = .ok (.dup, 1) := by decide +kernel
theorem dX3_person_74 : decode cX3_person 74 = .ok (.getfield 82, 3) := by decide +kernel
theorem dX3_person_77 : decode cX3_person 77 = .ok (.iconst 1, 1) := by decide +kernel
theorem dX3_person_78 : decode cX3_person 78 = .ok (.iadd, 1) := by decide +kernel
theorem dX3_person_79 : decode cX3_person 79 = .ok (.putfield 82, 3) := by decide +kernel
theorem dX3_person_82 : decode cX3_person 82 = .ok (.aload_n 0, 1) := by decide +kernel
theorem dX3_person_83 : decode cX3_person 83 = .ok (.getfield 82, 3) := by decide +kernel
theorem dX3_person_86 : decode cX3_person 86 = .ok (.iconst 1, 1) := by decide +kernel
theorem dX3_person_87 : decode cX3_person 87 = .ok (.isub, 1) := by decide +kernel
theorem dX3_person_88 : decode cX3_person 88 = .ok (.ireturn, 1) := by decide +kernel
set_option maxRecDepth 20000 in
theorem ggX3_personNow_X3_puts : GoodIn wsX3_personNow wsX3_puts := goodIn_r _ [7] (by decide +kernel) (by decide +kernel)
set_option maxRecDepth 20000 in
theorem gX3_personNow_X3_puts : GoodIn wsX3_personNow (va_wsS RX3 92 yX3_puts wsX3_puts) := goodIn_app (goodIn_of _ (by decide +kernel)) ggX3_personNow_X3_puts
theorem dX3_personNow_0 : decode cX3_personNow 0 = .ok (.iload_n 2, 1) := by decide +kernel
theorem dX3_personNow_1 : decode cX3_personNow 1 = .ok (.iconst 2, 1) := by decide +kernel
theorem dX3_personNow_2 : decode cX3_personNow 2 = .ok (.if_icmp .le 42, 3) := by decide +kernel
theorem dX3_personNow_5 : decode cX3_personNow 5 = .ok (.aload_n 0, 1) := by decide +kernel
theorem dX3_personNow_6 : decode cX3_personNow 6 = .ok (.getfield 16, 3) := by decide +kernel
theorem dX3_personNow_9 : decode cX3_personNow 9 = .ok (.iload_n 1, 1) := by decide +kernel
theorem dX3_personNow_10 : decode cX3_personNow 10 = .ok (.iaload, 1) := by decide +kernel
theorem dX3_personNow_11 : decode cX3_personNow 11 = .ok (.aload_n 0, 1) := by decide +kernel
theorem dX3_personNow_12 : decode cX3_personNow 12 = .ok (.getfield 22, 3) := by decide +kernel
theorem dX3_personNow_15 : decode cX3_personNow 15 = .ok (.iload_n 1, 1) := by decide +kernel
theorem dX3_personNow_16 : decode cX3_personNow 16 = .ok (.iaload, 1) := by decide +kernel
theorem dX3_personNow_17 : decode cX3_personNow 17 = .ok (.iload_n 2, 1) := by decide +kernel
theorem dX3_personNow_18 : decode cX3_personNow 18 = .ok (.bipush 10, 2) := by decide +kernel
theorem dX3_personNow_20 : decode cX3_personNow 20 = .ok (.irem, 1) := by decide +kernel
theorem dX3_personNow_21 : decode cX3_personNow 21 = .ok (.iload_n 2, 1) := by decide +kernel
theorem dX3_personNow_22 : decode cX3_personNow 22 = .ok (.bipush 20, 2) := by decide +kernel
theorem dX3_personNow_24 : decode cX3_personNow 24 = .ok (.if_icmp .lt 7, 3) := by decide +kernel
theorem dX3_personNow_27 : decode cX3_personNow 27 = .ok (.iconst 1, 1) := by decide +kernel
theorem dX3_personNow_28 : decode cX3_personNow 28 = .ok (.goto 4, 3) := by decide +kernel
theorem dX3_personNow_31 : decode cX3_personNow 31 = .ok (.iconst 0, 1) := by decide +kernel
theorem dX3_personNow_32 : decode cX3_personNow 32 = .ok (.invokestatic 92, 3) := by decide +kernel
theorem dX3_personNow_35 : decode cX3_personNow 35 = .ok (.ifCond .eq 7, 3) := by decide +kernel
theorem dX3_personNow_38 : decode cX3_personNow 38 = .ok (.iconst 1, 1) := by decide +kernel
theorem dX3_personNow_39 : decode cX3_personNow 39 = .ok (.goto 4, 3) := by decide +kernel
theorem dX3_personNow_42 : decode cX3_personNow 42 = .ok (.iconst 0, 1) := by decide +kernel
theorem dX3_personNow_43 : decode cX3_personNow 43 = .ok (.ireturn, 1) := by decide +kernel
theorem dX3_personNow_44 : decode cX3_personNow 44 = .ok (.iload_n 2, 1) := by decide +kernel
theorem dX3_personNow_45 : decode cX3_personNow 45 = .ok (.ifCond .ne 12, 3) := by decide +kernel
theorem dX3_personNow_48 : decode cX3_personNow 48 = .ok (.aload_n 0, 1) := by decide +kernel
theorem dX3_personNow_49 : decode cX3_personNow 49 = .ok (.getfield 16, 3) := by decide +kernel
theorem dX3_personNow_52 : decode cX3_personNow 52 = .ok (.iload_n 1, 1) := by decide +kernel
theorem dX3_personNow_53 : decode cX3_personNow 53 = .ok (.iaload, 1) := by decide +kernel
theorem dX3_personNow_54 : decode cX3_personNow 54 = .ok (.goto 23, 3) := by decide +kernel
theorem dX3_personNow_57 : decode cX3_personNow 57 = .ok (.iload_n 2, 1) := by decide +kernel
theorem dX3_personNow_58 : decode cX3_personNow 58 = .ok (.iconst 1, 1) := by decide +kernel
theorem dX3_personNow_59 : decode cX3_personNow 59 = .ok (.if_icmp .ne 12, 3) := by decide +kernel
theorem dX3_personNow_62 : decode cX3_personNow 62 = .ok (.aload_n 0, 1) := by decide +kernel
theorem dX3_personNow_63 : decode cX3_personNow 63 = .ok (.getfield 19, 3) := by decide +kernel
theorem dX3_personNow_66 : decode cX3_personNow 66 = .ok (.iload_n 1, 1) := by decide +kernel
theorem dX3_personNow_67 : decode cX3_personNow 67 = .ok (.iaload, 1) := by decide +kernel
theorem dX3_personNow_68 : decode cX3_personNow 68 = .ok (.goto 9, 3) := by decide +kernel
theorem dX3_personNow_71 : decode cX3_personNow 71 = .ok (.aload_n 0, 1) := by decide +kernel
theorem dX3_personNow_72 : decode cX3_personNow 72 = .ok (.getfield 22, 3) := by decide +kernel
theorem dX3_personNow_75 : decode cX3_personNow 75 = .ok (.iload_n 1, 1) := by decide +kernel
theorem dX3_personNow_76 : decode cX3_personNow 76 = .ok (.iaload, 1) := by decide +kernel
theorem dX3_personNow_77 : decode cX3_personNow 77 = .ok (.ireturn, 1) := by decide +kernel
set_option maxRecDepth 20000 in
theorem ggX3_about_X3_within : GoodIn wsX3_about wsX3_within := goodIn_r _ [4] (by decide +kernel) (by decide +kernel)
set_option maxRecDepth 20000 in
theorem gX3_about_X3_within : GoodIn wsX3_about (va_wsS RX3 56 yX3_within wsX3_within) := goodIn_app (goodIn_of _ (by decide +kernel)) ggX3_about_X3_within
set_option maxRecDepth 20000 in
theorem ggX3_about_X3_isPerson : GoodIn wsX3_about wsX3_isPerson := goodIn_r _ [8, 9, 1, 2, 3, 4, 20, 21, 22, 23, 24, 25, 26, 27, 28, 29, 30, 31, 32, 33, 34, 35, 36, 37, 38, 39, 40, 41, 42, 43, 44, 45, 46, 47, 48] (by decide +kernel) (by decide +kernel)
set_option maxRecDepth 20000 in
theorem gX3_about_X3_isPerson : GoodIn wsX3_about (wsV RX3 132 RX3 yX3_isPerson wsX3_isPerson) := goodIn_app (goodIn_of _ (by decide +kernel)) ggX3_about_X3_isPerson
set_option maxRecDepth 20000 in
theorem ggX3_about_X3_personNow : GoodIn wsX3_about wsX3_personNow := goodIn_r _ [13, 14, 15, 16, 17, 18, 3, 19, 20, 21, 22, 23, 24, 25, 26, 27, 28, 29, 30, 31, 32, 33, 34, 35, 36, 37, 38, 39, 40, 41, 42, 43, 44, 45, 46, 47, 48] (by decide +kernel) (by decide +kernel)
set_option maxRecDepth 20000 in
theorem gX3_about_X3_personNow : GoodIn wsX3_about (wsV RX3 135 RX3 yX3_personNow wsX3_personNow) := goodIn_app (goodIn_of _ (by decide +kernel)) ggX3_about_X3_personNow
theorem dX3_about_0 : decode cX3_about 0 = .ok (.iload_n 2, 1) := by decide +kernel
theorem dX3_about_1 : decode cX3_about 1 = .ok (.iconst 0, 1) := by decide +kernel
theorem dX3_about_2 : decode cX3_about 2 = .ok (.iconst 2, 1) := by decide +kernel
theorem dX3_about_3 : decode cX3_about 3 = .ok (.invokestatic 56, 3) := by decide +kernel
theorem dX3_about_6 : decode cX3_about 6 = .ok (.ifCond .ne 25, 3) := by decide +kernel
theorem dX3_about_9 : decode cX3_about 9 = .ok (.iload_n 2, 1) := by decide +kernel
theorem dX3_about_10 : decode cX3_about 10 = .ok (.bipush 10, 2) := by decide +kernel
theorem dX3_about_12 : decode cX3_about 12 = .ok (.bipush 16, 2) := by decide +kernel
theorem dX3_about_14 : decode cX3_about 14 = .ok (.invokestatic 56, 3) := by decide +kernel
theorem dX3_about_17 : decode cX3_about 17 = .ok (.ifCond .ne 14, 3) := by decide +kernel
theorem dX3_about_20 : decode cX3_about 20 = .ok (.iload_n 2, 1) := by decide +kernel
theorem dX3_about_21 : decode cX3_about 21 = .ok (.bipush 20, 2) := by decide +kernel
theorem dX3_about_23 : decode cX3_about 23 = .ok (.bipush 26, 2) := by decide +kernel
theorem dX3_about_25 : decode cX3_about 25 = .ok (.invokestatic 56, 3) := by decide +kernel
theorem dX3_about_28 : decode cX3_about 28 = .ok (.ifCond .eq 7, 3) := by decide +kernel
theorem dX3_about_31 : decode cX3_about 31 = .ok (.iconst 1, 1) := by decide +kernel
theorem dX3_about_32 : decode cX3_about 32 = .ok (.goto 4, 3) := by decide +kernel
theorem dX3_about_35 : decode cX3_about 35 = .ok (.iconst 0, 1) := by decide +kernel
theorem dX3_about_36 : decode cX3_about 36 = .ok (.istore_n 3, 1) := by decide +kernel
theorem dX3_about_37 : decode cX3_about 37 = .ok (.aload_n 0, 1) := by decide +kernel
theorem dX3_about_38 : decode cX3_about 38 = .ok (.iload_n 1, 1) := by decide +kernel
theorem dX3_about_39 : decode cX3_about 39 = .ok (.invokevirtual 132, 3) := by decide +kernel
theorem dX3_about_42 : decode cX3_about 42 = .ok (.ifCond .ne 8, 3) := by decide +kernel
theorem dX3_about_45 : decode cX3_about 45 = .ok (.bipush (-101), 2) := by decide +kernel
theorem dX3_about_47 : decode cX3_about 47 = .ok (.goto 18, 3) := by decide +kernel
theorem dX3_about_50 : decode cX3_about 50 = .ok (.iload_n 3, 1) := by decide +kernel
theorem dX3_about_51 : decode cX3_about 51 = .ok (.ifCond .eq 12, 3) := by decide +kernel
theorem dX3_about_54 : decode cX3_about 54 = .ok (.aload_n 0, 1) := by decide +kernel
theorem dX3_about_55 : decode cX3_about 55 = .ok (.iload_n 1, 1) := by decide +kernel
theorem dX3_about_56 : decode cX3_about 56 = .ok (.iload_n 2, 1) := by decide +kernel
theorem dX3_about_57 : decode cX3_about 57 = .ok (.invokevirtual 135, 3) := by decide +kernel
theorem dX3_about_60 : decode cX3_about 60 = .ok (.goto 5, 3) := by decide +kernel
theorem dX3_about_63 : decode cX3_about 63 = .ok (.bipush (-102), 2) := by decide +kernel
theorem dX3_about_65 : decode cX3_about 65 = .ok (.ireturn, 1) := by decide +kernel
set_option maxRecDepth 20000 in
theorem ggX3_as_X3_isPerson : GoodIn wsX3_as wsX3_isPerson := goodIn_r _ [6, 7, 8, 9, 5, 10, 11, 12, 13, 14, 15, 16, 17, 18, 19, 20, 21, 22, 23, 24, 25, 26, 27, 28, 29, 30, 31, 32, 33, 34, 35, 36, 37, 38, 39] (by decide +kernel) (by decide +kernel)
set_option maxRecDepth 20000 in
theorem gX3_as_X3_isPerson : GoodIn wsX3_as (wsV RX3 132 RX3 yX3_isPerson wsX3_isPerson) := goodIn_app (goodIn_of _ (by decide +kernel)) ggX3_as_X3_isPerson
set_option maxRecDepth 20000 in
theorem ggX3_as_X3_within : GoodIn wsX3_as wsX3_within := goodIn_r _ [10] (by decide +kernel) (by decide +kernel)
set_option maxRecDepth 20000 in
theorem gX3_as_X3_within : GoodIn wsX3_as (va_wsS RX3 56 yX3_within wsX3_within) := goodIn_app (goodIn_of _ (by decide +kernel)) ggX3_as_X3_within
theorem dX3_as_0 : decode cX3_as 0 = .ok (.aload_n 0, 1) := by decide +kernel
theorem dX3_as_1 : decode cX3_as 1 = .ok (.iload_n 1, 1) := by decide +kernel
theorem dX3_as_2 : decode cX3_as 2 = .ok (.invokevirtual 132, 3) := by decide +kernel
theorem dX3_as_5 : decode cX3_as 5 = .ok (.ifCond .ne 6, 3) := by decide +kernel
theorem dX3_as_8 : decode cX3_as 8 = .ok (.bipush (-101), 2) := by decide +kernel
theorem dX3_as_10 : decode cX3_as 10 = .ok (.ireturn, 1) := by decide +kernel
theorem dX3_as_11 : decode cX3_as 11 = .ok (.iload_n 2, 1) := by decide +kernel
theorem dX3_as_12 : decode cX3_as 12 = .ok (.iconst 0, 1) := by decide +kernel
theorem dX3_as_13 : decode cX3_as 13 = .ok (.iconst 4, 1) := by decide +kernel
theorem dX3_as_14 : decode cX3_as 14 = .ok (.invokestatic 56, 3) := by decide +kernel
theorem dX3_as_17 : decode cX3_as 17 = .ok (.ifCond .ne 6, 3) := by decide +kernel
theorem dX3_as_20 : decode cX3_as 20 = .ok (.bipush (-102), 2) := by decide +kernel
theorem dX3_as_22 : decode cX3_as 22 = .ok (.ireturn, 1) := by decide +kernel
theorem dX3_as_23 : decode cX3_as 23 = .ok (.aload_n 0, 1) := by decide +kernel
theorem dX3_as_24 : decode cX3_as 24 = .ok (.getfield 16, 3) := by decide +kernel
theorem dX3_as_27 : decode cX3_as 27 = .ok (.iload_n 1, 1) := by decide +kernel
theorem dX3_as_28 : decode cX3_as 28 = .ok (.iaload, 1) := by decide +kernel
theorem dX3_as_29 : decode cX3_as 29 = .ok (.istore_n 3, 1) := by decide +kernel
theorem dX3_as_30 : decode cX3_as 30 = .ok (.iload_n 2, 1) := by decide +kernel
theorem dX3_as_31 : decode cX3_as 31 = .ok (.ifCond .eq 18, 3) := by decide +kernel
theorem dX3_as_34 : decode cX3_as 34 = .ok (.iload_n 3, 1) := by decide +kernel
theorem dX3_as_35 : decode cX3_as 35 = .ok (.iload_n 2, 1) := by decide +kernel
theorem dX3_as_36 : decode cX3_as 36 = .ok (.if_icmp .eq 13, 3) := by decide +kernel
theorem dX3_as_39 : decode cX3_as 39 = .ok (.iload_n 2, 1) := by decide +kernel
theorem dX3_as_40 : decode cX3_as 40 = .ok (.iconst 2, 1) := by decide +kernel
theorem dX3_as_41 : decode cX3_as 41 = .ok (.if_icmp .ne 12, 3) := by decide +kernel
theorem dX3_as_44 : decode cX3_as 44 = .ok (.iload_n 3, 1) := by decide +kernel
theorem dX3_as_45 : decode cX3_as 45 = .ok (.iconst 4, 1) := by decide +kernel
theorem dX3_as_46 : decode cX3_as 46 = .ok (.if_icmp .ne 7, 3) := by decide +kernel
theorem dX3_as_49 : decode cX3_as 49 = .ok (.iload_n 1, 1) := by decide +kernel
theorem dX3_as_50 : decode cX3_as 50 = .ok (.goto 4, 3) := by decide +kernel
theorem dX3_as_53 : decode cX3_as 53 = .ok (.iconst (-1), 1) := by decide +kernel
theorem dX3_as_54 : decode cX3_as 54 = .ok (.ireturn, 1) := by decide +kernel
set_option maxRecDepth 20000 in
theorem ggX3_move_X3_isPerson : GoodIn wsX3_move wsX3_isPerson := goodIn_r _ [6, 7, 8, 9, 5, 10, 16, 17, 18, 19, 20, 21, 22, 23, 24, 25, 26, 27, 28, 29, 30, 31, 32, 33, 34, 35, 36, 37, 38, 39, 40, 41, 42, 43, 44] (by decide +kernel) (by decide +kernel)
set_option maxRecDepth 20000 in
theorem gX3_move_X3_isPerson : GoodIn wsX3_move (wsV RX3 132 RX3 yX3_isPerson wsX3_isPerson) := goodIn_app (goodIn_of _ (by decide +kernel)) ggX3_move_X3_isPerson
set_option maxRecDepth 20000 in
theorem ggX3_move_X3_isDrawer : GoodIn wsX3_move wsX3_isDrawer := goodIn_r _ [14, 15, 8, 9, 5, 10, 16, 17, 18, 19, 20, 21, 22, 23, 24, 25, 26, 27, 28, 29, 30, 31, 32, 33, 34, 35, 36, 37, 38, 39, 40, 41, 42, 43, 44] (by decide +kernel) (by decide +kernel)
set_option maxRecDepth 20000 in
theorem gX3_move_X3_isDrawer : GoodIn wsX3_move (wsV RX3 122 RX3 yX3_isDrawer wsX3_isDrawer) := goodIn_app (goodIn_of _ (by decide +kernel)) ggX3_move_X3_isDrawer
theorem dX3_move_0 : decode cX3_move 0 = .ok (.aload_n 0, 1) := by decide +kernel
theorem dX3_move_1 : decode cX3_move 1 = .ok (.iload_n 1, 1) := by decide +kernel
theorem dX3_move_2 : decode cX3_move 2 = .ok (.invokevirtual 132, 3) := by decide +kernel
theorem dX3_move_5 : decode cX3_move 5 = .ok (.ifCond .eq 11, 3) := by decide +kernel
theorem dX3_move_8 : decode cX3_move 8 = .ok (.aload_n 0, 1) := by decide +kernel
theorem dX3_move_9 : decode cX3_move 9 = .ok (.iload_n 2, 1) := by decide +kernel
theorem dX3_move_10 : decode cX3_move 10 = .ok (.invokevirtual 122, 3) := by decide +kernel
theorem dX3_move_13 : decode cX3_move 13 = .ok (.ifCond .ne 6, 3) := by decide +kernel
theorem dX3_move_16 : decode cX3_move 16 = .ok (.bipush (-101), 2) := by decide +kernel
theorem dX3_move_18 : decode cX3_move 18 = .ok (.ireturn, 1) := by decide +kernel
theorem dX3_move_19 : decode cX3_move 19 = .ok (.aload_n 0, 1) := by decide +kernel
theorem dX3_move_20 : decode cX3_move 20 = .ok (.getfield 19, 3) := by decide +kernel
theorem dX3_move_23 : decode cX3_move 23 = .ok (.iload_n 1, 1) := by decide +kernel
theorem dX3_move_24 : decode cX3_move 24 = .ok (.iaload, 1) := by decide +kernel
theorem dX3_move_25 : decode cX3_move 25 = .ok (.istore_n 3, 1) := by decide +kernel
theorem dX3_move_26 : decode cX3_move 26 = .ok (.aload_n 0, 1) := by decide +kernel
theorem dX3_move_27 : decode cX3_move 27 = .ok (.getfield 19, 3) := by decide +kernel
theorem dX3_move_30 : decode cX3_move 30 = .ok (.iload_n 1, 1) := by decide +kernel
theorem dX3_move_31 : decode cX3_move 31 = .ok (.iload_n 2, 1) := by decide +kernel
theorem dX3_move_32 : decode cX3_move 32 = .ok (.iastore, 1) := by decide +kernel
theorem dX3_move_33 : decode cX3_move 33 = .ok (.iload_n 3, 1) := by decide +kernel
theorem dX3_move_34 : decode cX3_move 34 = .ok (.ireturn, 1) := by decide +kernel
set_option maxRecDepth 20000 in
theorem ggX3_lay_X3_isDrawer : GoodIn wsX3_lay wsX3_isDrawer := goodIn_r _ [6, 7, 8, 9, 5, 10, 14, 15, 16, 17, 18, 19, 20, 21, 22, 23, 24, 25, 26, 27, 28, 29, 30, 31, 32, 33, 34, 35, 36, 37, 38, 39, 40, 41, 42] (by decide +kernel) (by decide +kernel)
set_option maxRecDepth 20000 in
theorem gX3_lay_X3_isDrawer : GoodIn wsX3_lay (wsV RX3 122 RX3 yX3_isDrawer wsX3_isDrawer) := goodIn_app (goodIn_of _ (by decide +kernel)) ggX3_lay_X3_isDrawer
set_option maxRecDepth 20000 in
theorem ggX3_lay_X3_isDay : GoodIn wsX3_lay wsX3_isDay := goodIn_r _ [13, 8, 9, 5, 10] (by decide +kernel) (by decide +kernel)
set_option maxRecDepth 20000 in
theorem gX3_lay_X3_isDay : GoodIn wsX3_lay (va_wsS RX3 129 yX3_isDay wsX3_isDay) := goodIn_app (goodIn_of _ (by decide +kernel)) ggX3_lay_X3_isDay
theorem dX3_lay_0 : decode cX3_lay 0 = .ok (.aload_n 0, 1) := by decide +kernel
theorem dX3_lay_1 : decode cX3_lay 1 = .ok (.iload_n 1, 1) := by decide +kernel
theorem dX3_lay_2 : decode cX3_lay 2 = .ok (.invokevirtual 122, 3) := by decide +kernel
theorem dX3_lay_5 : decode cX3_lay 5 = .ok (.ifCond .eq 10, 3) := by decide +kernel
theorem dX3_lay_8 : decode cX3_lay 8 = .ok (.iload_n 2, 1) := by decide +kernel
theorem dX3_lay_9 : decode cX3_lay 9 = .ok (.invokestatic 129, 3) := by decide +kernel
theorem dX3_lay_12 : decode cX3_lay 12 = .ok (.ifCond .ne 6, 3) := by decide +kernel
theorem dX3_lay_15 : decode cX3_lay 15 = .ok (.bipush (-101), 2) := by decide +kernel
theorem dX3_lay_17 : decode cX3_lay 17 = .ok (.ireturn, 1) := by decide +kernel
theorem dX3_lay_18 : decode cX3_lay 18 = .ok (.aload_n 0, 1) := by decide +kernel
theorem dX3_lay_19 : decode cX3_lay 19 = .ok (.getfield 13, 3) := by decide +kernel
theorem dX3_lay_22 : decode cX3_lay 22 = .ok (.iload_n 1, 1) := by decide +kernel
theorem dX3_lay_23 : decode cX3_lay 23 = .ok (.iaload, 1) := by decide +kernel
theorem dX3_lay_24 : decode cX3_lay 24 = .ok (.iload_n 2, 1) := by decide +kernel
theorem dX3_lay_25 : decode cX3_lay 25 = .ok (.ishr, 1) := by decide +kernel
theorem dX3_lay_26 : decode cX3_lay 26 = .ok (.iconst 1, 1) := by decide +kernel
theorem dX3_lay_27 : decode cX3_lay 27 = .ok (.iand, 1) := by decide +kernel
theorem dX3_lay_28 : decode cX3_lay 28 = .ok (.istore 4, 2) := by decide +kernel
theorem dX3_lay_30 : decode cX3_lay 30 = .ok (.aload_n 0, 1) := by decide +kernel
theorem dX3_lay_31 : decode cX3_lay 31 = .ok (.getfield 13, 3) := by decide +kernel
theorem dX3_lay_34 : decode cX3_lay 34 = .ok (.iload_n 1, 1) := by decide +kernel
theorem dX3_lay_35 : decode cX3_lay 35 = .ok (.iload_n 3, 1) := by decide +kernel
theorem dX3_lay_36 : decode cX3_lay 36 = .ok (.ifCond .eq 16, 3) := by decide +kernel
theorem dX3_lay_39 : decode cX3_lay 39 = .ok (.aload_n 0, 1) := by decide +kernel
theorem dX3_lay_40 : decode cX3_lay 40 = .ok (.getfield 13, 3) := by decide +kernel
theorem dX3_lay_43 : decode cX3_lay 43 = .ok (.iload_n 1, 1) := by decide +kernel
theorem dX3_lay_44 : decode cX3_lay 44 = .ok (.iaload, 1) := by decide +kernel
theorem dX3_lay_45 : decode cX3_lay 45 = .ok (.iconst 1, 1) := by decide +kernel
theorem dX3_lay_46 : decode cX3_lay 46 = .ok (.iload_n 2, 1) := by decide +kernel
theorem dX3_lay_47 : decode cX3_lay 47 = .ok (.ishl, 1) := by decide +kernel
theorem dX3_lay_48 : decode cX3_lay 48 = .ok (.ior, 1) := by decide +kernel
theorem dX3_lay_49 : decode cX3_lay 49 = .ok (.goto 15, 3) := by decide +kernel
theorem dX3_lay_52 : decode cX3_lay 52 = .ok (.aload_n 0, 1) := by decide +kernel
theorem dX3_lay_53 : decode cX3_lay 53 = .ok (.getfield 13, 3) := by decide +kernel
theorem dX3_lay_56 : decode cX3_lay 56 = .ok (.iload_n 1, 1) := by decide +kernel
theorem dX3_lay_57 : decode cX3_lay 57 = .ok (.iaload, 1) := by decide +kernel
theorem dX3_lay_58 : decode cX3_lay 58 = .ok (.iconst 1, 1) := by decide +kernel
