set_option maxRecDepth 20000 in
theorem gX0_join_X2_putsIfThere_n28 : GoodIn wsX0_join (wsX2_putsIfThere) := ggX0_join_X2_putsIfThere
theorem dX0_join_0 : decode cX0_join 0 = .ok (.aload_n 0, 1) := by decide +kernel
theorem dX0_join_1 : decode cX0_join 1 = .ok (.dup, 1) := by decide +kernel
theorem dX0_join_2 : decode cX0_join 2 = .ok (.getfield 18, 3) := by decide +kernel
theorem dX0_join_5 : decode cX0_join 5 = .ok (.iload_n 1, 1) := by decide +kernel
theorem dX0_join_6 : decode cX0_join 6 = .ok (.iload_n 2, 1) := by decide +kernel
theorem dX0_join_7 : decode cX0_join 7 = .ok (.invokestatic 24, 3) := by decide +kernel
theorem dX0_join_10 : decode cX0_join 10 = .ok (.ior, 1) := by decide +kernel
theorem dX0_join_11 : decode cX0_join 11 = .ok (.putfield 18, 3) := by decide +kernel
theorem dX0_join_14 : decode cX0_join 14 = .ok (.aload_n 0, 1) := by decide +kernel
theorem dX0_join_15 : decode cX0_join 15 = .ok (.dup, 1) := by decide +kernel
theorem dX0_join_16 : decode cX0_join 16 = .ok (.getfield 21, 3) := by decide +kernel
theorem dX0_join_19 : decode cX0_join 19 = .ok (.iload_n 1, 1) := by decide +kernel
theorem dX0_join_20 : decode cX0_join 20 = .ok (.iload_n 2, 1) := by decide +kernel
theorem dX0_join_21 : decode cX0_join 21 = .ok (.invokestatic 28, 3) := by decide +kernel
theorem dX0_join_24 : decode cX0_join 24 = .ok (.ior, 1) := by decide +kernel
theorem dX0_join_25 : decode cX0_join 25 = .ok (.putfield 21, 3) := by decide +kernel
theorem dX0_join_28 : decode cX0_join 28 = .ok (.return_, 1) := by decide +kernel
theorem dX0_mustBe_0 : decode cX0_mustBe 0 = .ok (.aload_n 0, 1) := by decide +kernel
theorem dX0_mustBe_1 : decode cX0_mustBe 1 = .ok (.getfield 18, 3) := by decide +kernel
theorem dX0_mustBe_4 : decode cX0_mustBe 4 = .ok (.iload_n 1, 1) := by decide +kernel
theorem dX0_mustBe_5 : decode cX0_mustBe 5 = .ok (.iconst (-1), 1) := by decide +kernel
theorem dX0_mustBe_6 : decode cX0_mustBe 6 = .ok (.ixor, 1) := by decide +kernel
theorem dX0_mustBe_7 : decode cX0_mustBe 7 = .ok (.iand, 1) := by decide +kernel
theorem dX0_mustBe_8 : decode cX0_mustBe 8 = .ok (.aload_n 0, 1) := by decide +kernel
theorem dX0_mustBe_9 : decode cX0_mustBe 9 = .ok (.getfield 21, 3) := by decide +kernel
theorem dX0_mustBe_12 : decode cX0_mustBe 12 = .ok (.iload_n 1, 1) := by decide +kernel
theorem dX0_mustBe_13 : decode cX0_mustBe 13 = .ok (.iand, 1) := by decide +kernel
theorem dX0_mustBe_14 : decode cX0_mustBe 14 = .ok (.ior, 1) := by decide +kernel
theorem dX0_mustBe_15 : decode cX0_mustBe 15 = .ok (.aload_n 0, 1) := by decide +kernel
theorem dX0_mustBe_16 : decode cX0_mustBe 16 = .ok (.getfield 15, 3) := by decide +kernel
theorem dX0_mustBe_19 : decode cX0_mustBe 19 = .ok (.ior, 1) := by decide +kernel
theorem dX0_mustBe_20 : decode cX0_mustBe 20 = .ok (.istore_n 2, 1) := by decide +kernel
theorem dX0_mustBe_21 : decode cX0_mustBe 21 = .ok (.bipush 127, 2) := by decide +kernel
theorem dX0_mustBe_23 : decode cX0_mustBe 23 = .ok (.aload_n 0, 1) := by decide +kernel
theorem dX0_mustBe_24 : decode cX0_mustBe 24 = .ok (.getfield 9, 3) := by decide +kernel
theorem dX0_mustBe_27 : decode cX0_mustBe 27 = .ok (.ifCond .lt 12, 3) := by decide +kernel
theorem dX0_mustBe_30 : decode cX0_mustBe 30 = .ok (.iload_n 2, 1) := by decide +kernel
theorem dX0_mustBe_31 : decode cX0_mustBe 31 = .ok (.aload_n 0, 1) := by decide +kernel
theorem dX0_mustBe_32 : decode cX0_mustBe 32 = .ok (.getfield 9, 3) := by decide +kernel
theorem dX0_mustBe_35 : decode cX0_mustBe 35 = .ok (.ishl, 1) := by decide +kernel
theorem dX0_mustBe_36 : decode cX0_mustBe 36 = .ok (.goto 10, 3) := by decide +kernel
theorem dX0_mustBe_39 : decode cX0_mustBe 39 = .ok (.iload_n 2, 1) := by decide +kernel
theorem dX0_mustBe_40 : decode cX0_mustBe 40 = .ok (.aload_n 0, 1) := by decide +kernel
theorem dX0_mustBe_41 : decode cX0_mustBe 41 = .ok (.getfield 9, 3) := by decide +kernel
theorem dX0_mustBe_44 : decode cX0_mustBe 44 = .ok (.ineg, 1) := by decide +kernel
theorem dX0_mustBe_45 : decode cX0_mustBe 45 = .ok (.ishr, 1) := by decide +kernel
theorem dX0_mustBe_46 : decode cX0_mustBe 46 = .ok (.iand, 1) := by decide +kernel
theorem dX0_mustBe_47 : decode cX0_mustBe 47 = .ok (.ireturn, 1) := by decide +kernel
set_option maxRecDepth 20000 in
theorem ggX0_settle_X0_mustBe : GoodIn wsX0_settle wsX0_mustBe := goodIn_r _ [9, 10, 11, 12, 1, 17, 18, 19, 20, 21, 22, 23] (by decide +kernel) (by decide +kernel)
set_option maxRecDepth 20000 in
theorem gX0_settle_X0_mustBe : GoodIn wsX0_settle (wsV RX0 31 RX0 yX0_mustBe wsX0_mustBe) := goodIn_app (goodIn_of _ (by decide +kernel)) ggX0_settle_X0_mustBe
set_option maxRecDepth 20000 in
theorem ggX0_settle_X0_onlyWeek : GoodIn wsX0_settle wsX0_onlyWeek := goodIn_r _ [16, 5, 6, 7, 8, 9, 10, 11, 12, 1, 17, 18, 19, 20, 21, 22, 23] (by decide +kernel) (by decide +kernel)
set_option maxRecDepth 20000 in
theorem gX0_settle_X0_onlyWeek : GoodIn wsX0_settle (wsV RX0 41 RX0 yX0_onlyWeek wsX0_onlyWeek) := goodIn_app (goodIn_of _ (by decide +kernel)) ggX0_settle_X0_onlyWeek
theorem dX0_settle_0 : decode cX0_settle 0 = .ok (.aload_n 0, 1) := by decide +kernel
theorem dX0_settle_1 : decode cX0_settle 1 = .ok (.getfield 9, 3) := by decide +kernel
theorem dX0_settle_4 : decode cX0_settle 4 = .ok (.ifCond .ne 30, 3) := by decide +kernel
theorem dX0_settle_7 : decode cX0_settle 7 = .ok (.aload_n 0, 1) := by decide +kernel
theorem dX0_settle_8 : decode cX0_settle 8 = .ok (.aload_n 0, 1) := by decide +kernel
theorem dX0_settle_9 : decode cX0_settle 9 = .ok (.bipush 127, 2) := by decide +kernel
theorem dX0_settle_11 : decode cX0_settle 11 = .ok (.invokevirtual 31, 3) := by decide +kernel
theorem dX0_settle_14 : decode cX0_settle 14 = .ok (.putfield 35, 3) := by decide +kernel
theorem dX0_settle_17 : decode cX0_settle 17 = .ok (.aload_n 0, 1) := by decide +kernel
theorem dX0_settle_18 : decode cX0_settle 18 = .ok (.bipush 127, 2) := by decide +kernel
theorem dX0_settle_20 : decode cX0_settle 20 = .ok (.aload_n 0, 1) := by decide +kernel
theorem dX0_settle_21 : decode cX0_settle 21 = .ok (.iconst 0, 1) := by decide +kernel
theorem dX0_settle_22 : decode cX0_settle 22 = .ok (.invokevirtual 31, 3) := by decide +kernel
theorem dX0_settle_25 : decode cX0_settle 25 = .ok (.iconst (-1), 1) := by decide +kernel
theorem dX0_settle_26 : decode cX0_settle 26 = .ok (.ixor, 1) := by decide +kernel
theorem dX0_settle_27 : decode cX0_settle 27 = .ok (.iand, 1) := by decide +kernel
theorem dX0_settle_28 : decode cX0_settle 28 = .ok (.putfield 38, 3) := by decide +kernel
theorem dX0_settle_31 : decode cX0_settle 31 = .ok (.goto 24, 3) := by decide +kernel
theorem dX0_settle_34 : decode cX0_settle 34 = .ok (.aload_n 0, 1) := by decide +kernel
theorem dX0_settle_35 : decode cX0_settle 35 = .ok (.aload_n 0, 1) := by decide +kernel
theorem dX0_settle_36 : decode cX0_settle 36 = .ok (.invokevirtual 41, 3) := by decide +kernel
theorem dX0_settle_39 : decode cX0_settle 39 = .ok (.putfield 35, 3) := by decide +kernel
theorem dX0_settle_42 : decode cX0_settle 42 = .ok (.aload_n 0, 1) := by decide +kernel
theorem dX0_settle_43 : decode cX0_settle 43 = .ok (.bipush 127, 2) := by decide +kernel
theorem dX0_settle_45 : decode cX0_settle 45 = .ok (.aload_n 0, 1) := by decide +kernel
theorem dX0_settle_46 : decode cX0_settle 46 = .ok (.getfield 35, 3) := by decide +kernel
theorem dX0_settle_49 : decode cX0_settle 49 = .ok (.iconst (-1), 1) := by decide +kernel
theorem dX0_settle_50 : decode cX0_settle 50 = .ok (.ixor, 1) := by decide +kernel
theorem dX0_settle_51 : decode cX0_settle 51 = .ok (.iand, 1) := by decide +kernel
theorem dX0_settle_52 : decode cX0_settle 52 = .ok (.putfield 38, 3) := by decide +kernel
theorem dX0_settle_55 : decode cX0_settle 55 = .ok (.aload_n 0, 1) := by decide +kernel
theorem dX0_settle_56 : decode cX0_settle 56 = .ok (.bipush 127, 2) := by decide +kernel
theorem dX0_settle_58 : decode cX0_settle 58 = .ok (.aload_n 0, 1) := by decide +kernel
theorem dX0_settle_59 : decode cX0_settle 59 = .ok (.getfield 35, 3) := by decide +kernel
theorem dX0_settle_62 : decode cX0_settle 62 = .ok (.aload_n 0, 1) := by decide +kernel
theorem dX0_settle_63 : decode cX0_settle 63 = .ok (.getfield 38, 3) := by decide +kernel
theorem dX0_settle_66 : decode cX0_settle 66 = .ok (.ior, 1) := by decide +kernel
theorem dX0_settle_67 : decode cX0_settle 67 = .ok (.iconst (-1), 1) := by decide +kernel
theorem dX0_settle_68 : decode cX0_settle 68 = .ok (.ixor, 1) := by decide +kernel
theorem dX0_settle_69 : decode cX0_settle 69 = .ok (.iand, 1) := by decide +kernel
theorem dX0_settle_70 : decode cX0_settle 70 = .ok (.putfield 45, 3) := by decide +kernel
theorem dX0_settle_73 : decode cX0_settle 73 = .ok (.return_, 1) := by decide +kernel
set_option maxRecDepth 20000 in
theorem ggX0_onlyWeek_X0_mustBe : GoodIn wsX0_onlyWeek wsX0_mustBe := goodIn_r _ [5, 6, 7, 8, 9, 10, 11, 12, 13, 14, 15, 16] (by decide +kernel) (by decide +kernel)
set_option maxRecDepth 20000 in
theorem gX0_onlyWeek_X0_mustBe : GoodIn wsX0_onlyWeek (wsV RX0 31 RX0 yX0_mustBe wsX0_mustBe) := goodIn_app (goodIn_of _ (by decide +kernel)) ggX0_onlyWeek_X0_mustBe
theorem dX0_onlyWeek_0 : decode cX0_onlyWeek 0 = .ok (.iconst 0, 1) := by decide +kernel
theorem dX0_onlyWeek_1 : decode cX0_onlyWeek 1 = .ok (.istore_n 1, 1) := by decide +kernel
theorem dX0_onlyWeek_2 : decode cX0_onlyWeek 2 = .ok (.iconst 0, 1) := by decide +kernel
theorem dX0_onlyWeek_3 : decode cX0_onlyWeek 3 = .ok (.istore_n 2, 1) := by decide +kernel
theorem dX0_onlyWeek_4 : decode cX0_onlyWeek 4 = .ok (.iload_n 2, 1) := by decide +kernel
theorem dX0_onlyWeek_5 : decode cX0_onlyWeek 5 = .ok (.bipush 7, 2) := by decide +kernel
theorem dX0_onlyWeek_7 : decode cX0_onlyWeek 7 = .ok (.if_icmp .ge 15, 3) := by decide +kernel
theorem dX0_onlyWeek_10 : decode cX0_onlyWeek 10 = .ok (.aload_n 0, 1) := by decide +kernel
theorem dX0_onlyWeek_11 : decode cX0_onlyWeek 11 = .ok (.iload_n 1, 1) := by decide +kernel
theorem dX0_onlyWeek_12 : decode cX0_onlyWeek 12 = .ok (.invokevirtual 31, 3) := by decide +kernel
theorem dX0_onlyWeek_15 : decode cX0_onlyWeek 15 = .ok (.istore_n 1, 1) := by decide +kernel
theorem dX0_onlyWeek_16 : decode cX0_onlyWeek 16 = .ok (.iinc 2 1, 3) := by decide +kernel
theorem dX0_onlyWeek_19 : decode cX0_onlyWeek 19 = .ok (.goto (-15), 3) := by decide +kernel
theorem dX0_onlyWeek_22 : decode cX0_onlyWeek 22 = .ok (.iload_n 1, 1) := by decide +kernel
theorem dX0_onlyWeek_23 : decode cX0_onlyWeek 23 = .ok (.ireturn, 1) := by decide +kernel
set_option maxRecDepth 20000 in
theorem ggX0_agreeing_J6_bitCount_0f7a4 : GoodIn wsX0_agreeing wsJ6_bitCount_0f7a4 := goodIn_r _ [7, 8, 9, 10] (by decide +kernel) (by decide +kernel)
set_option maxRecDepth 20000 in
theorem gX0_agreeing_J6_bitCount_0f7a4 : GoodIn wsX0_agreeing (va_wsS RX0 48 yJ6_bitCount_0f7a4 wsJ6_bitCount_0f7a4) := goodIn_app (goodIn_of _ (by decide +kernel)) ggX0_agreeing_J6_bitCount_0f7a4
theorem dX0_agreeing_0 : decode cX0_agreeing 0 = .ok (.aload_n 0, 1) := by decide +kernel
theorem dX0_agreeing_1 : decode cX0_agreeing 1 = .ok (.getfield 45, 3) := by decide +kernel
theorem dX0_agreeing_4 : decode cX0_agreeing 4 = .ok (.ifCond .ne 20, 3) := by decide +kernel
theorem dX0_agreeing_7 : decode cX0_agreeing 7 = .ok (.iconst 1, 1) := by decide +kernel
theorem dX0_agreeing_8 : decode cX0_agreeing 8 = .ok (.aload_n 0, 1) := by decide +kernel
theorem dX0_agreeing_9 : decode cX0_agreeing 9 = .ok (.getfield 35, 3) := by decide +kernel
theorem dX0_agreeing_12 : decode cX0_agreeing 12 = .ok (.aload_n 0, 1) := by decide +kernel
theorem dX0_agreeing_13 : decode cX0_agreeing 13 = .ok (.getfield 38, 3) := by decide +kernel
theorem dX0_agreeing_16 : decode cX0_agreeing 16 = .ok (.iand, 1) := by decide +kernel
theorem dX0_agreeing_17 : decode cX0_agreeing 17 = .ok (.invokestatic 48, 3) := by decide +kernel
theorem dX0_agreeing_20 : decode cX0_agreeing 20 = .ok (.ishl, 1) := by decide +kernel
theorem dX0_agreeing_21 : decode cX0_agreeing 21 = .ok (.goto 4, 3) := by decide +kernel
theorem dX0_agreeing_24 : decode cX0_agreeing 24 = .ok (.iconst 0, 1) := by decide +kernel
theorem dX0_agreeing_25 : decode cX0_agreeing 25 = .ok (.ireturn, 1) := by decide +kernel
set_option maxRecDepth 20000 in
theorem ggX0_firstStuckDay_X2_bitOf : GoodIn wsX0_firstStuckDay wsX2_bitOf := goodIn_r _ [4] (by decide +kernel) (by decide +kernel)
set_option maxRecDepth 20000 in
theorem gX0_firstStuckDay_X2_bitOf_n53 : GoodIn wsX0_firstStuckDay (wsX2_bitOf) := ggX0_firstStuckDay_X2_bitOf
theorem dX0_firstStuckDay_0 : decode cX0_firstStuckDay 0 = .ok (.iconst 0, 1) := by decide +kernel
theorem dX0_firstStuckDay_1 : decode cX0_firstStuckDay 1 = .ok (.istore_n 1, 1) := by decide +kernel
theorem dX0_firstStuckDay_2 : decode cX0_firstStuckDay 2 = .ok (.iload_n 1, 1) := by decide +kernel
theorem dX0_firstStuckDay_3 : decode cX0_firstStuckDay 3 = .ok (.bipush 7, 2) := by decide +kernel
theorem dX0_firstStuckDay_5 : decode cX0_firstStuckDay 5 = .ok (.if_icmp .ge 23, 3) := by decide +kernel
theorem dX0_firstStuckDay_8 : decode cX0_firstStuckDay 8 = .ok (.aload_n 0, 1) := by decide +kernel
theorem dX0_firstStuckDay_9 : decode cX0_firstStuckDay 9 = .ok (.getfield 45, 3) := by decide +kernel
theorem dX0_firstStuckDay_12 : decode cX0_firstStuckDay 12 = .ok (.iload_n 1, 1) := by decide +kernel
theorem dX0_firstStuckDay_13 : decode cX0_firstStuckDay 13 = .ok (.invokestatic 53, 3) := by decide +kernel
theorem dX0_firstStuckDay_16 : decode cX0_firstStuckDay 16 = .ok (.iconst 1, 1) := by decide +kernel
theorem dX0_firstStuckDay_17 : decode cX0_firstStuckDay 17 = .ok (.if_icmp .ne 5, 3) := by decide +kernel
theorem dX0_firstStuckDay_20 : decode cX0_firstStuckDay 20 = .ok (.iload_n 1, 1) := by decide +kernel
theorem dX0_firstStuckDay_21 : decode cX0_firstStuckDay 21 = .ok (.ireturn, 1) := by decide +kernel
theorem dX0_firstStuckDay_22 : decode cX0_firstStuckDay 22 = .ok (.iinc 1 1, 3) := by decide +kernel
theorem dX0_firstStuckDay_25 : decode cX0_firstStuckDay 25 = .ok (.goto (-23), 3) := by decide +kernel
theorem dX0_firstStuckDay_28 : decode cX0_firstStuckDay 28 = .ok (.iconst (-1), 1) := by decide +kernel
theorem dX0_firstStuckDay_29 : decode cX0_firstStuckDay 29 = .ok (.ireturn, 1) := by decide +kernel
theorem dX0_leastWeek_0 : decode cX0_leastWeek 0 = .ok (.aload_n 0, 1) := by decide +kernel
theorem dX0_leastWeek_1 : decode cX0_leastWeek 1 = .ok (.getfield 45, 3) := by decide +kernel
theorem dX0_leastWeek_4 : decode cX0_leastWeek 4 = .ok (.ifCond .ne 15, 3) := by decide +kernel
theorem dX0_leastWeek_7 : decode cX0_leastWeek 7 = .ok (.bipush 127, 2) := by decide +kernel
theorem dX0_leastWeek_9 : decode cX0_leastWeek 9 = .ok (.aload_n 0, 1) := by decide +kernel
theorem dX0_leastWeek_10 : decode cX0_leastWeek 10 = .ok (.getfield 38, 3) := by decide +kernel
theorem dX0_leastWeek_13 : decode cX0_leastWeek 13 = .ok (.iconst (-1), 1) := by decide +kernel
theorem dX0_leastWeek_14 : decode cX0_leastWeek 14 = .ok (.ixor, 1) := by decide +kernel
theorem dX0_leastWeek_15 : decode cX0_leastWeek 15 = .ok (.iand, 1) := by decide +kernel
theorem dX0_leastWeek_16 : decode cX0_leastWeek 16 = .ok (.goto 4, 3) := by decide +kernel
theorem dX0_leastWeek_19 : decode cX0_leastWeek 19 = .ok (.iconst (-1), 1) := by decide +kernel
theorem dX0_leastWeek_20 : decode cX0_leastWeek 20 = .ok (.ireturn, 1) := by decide +kernel
set_option maxRecDepth 20000 in
theorem ggX0_sureOn_X2_bitOf : GoodIn wsX0_sureOn wsX2_bitOf := goodIn_r _ [6] (by decide +kernel) (by decide +kernel)
set_option maxRecDepth 20000 in
theorem gX0_sureOn_X2_bitOf_n53 : GoodIn wsX0_sureOn (wsX2_bitOf) := ggX0_sureOn_X2_bitOf
theorem dX0_sureOn_0 : decode cX0_sureOn 0 = .ok (.aload_n 0, 1) := by decide +kernel
theorem dX0_sureOn_1 : decode cX0_sureOn 1 = .ok (.getfield 45, 3) := by decide +kernel
theorem dX0_sureOn_4 : decode cX0_sureOn 4 = .ok (.ifCond .ne 20, 3) := by decide +kernel
theorem dX0_sureOn_7 : decode cX0_sureOn 7 = .ok (.aload_n 0, 1) := by decide +kernel
theorem dX0_sureOn_8 : decode cX0_sureOn 8 = .ok (.getfield 35, 3) := by decide +kernel
theorem dX0_sureOn_11 : decode cX0_sureOn 11 = .ok (.aload_n 0, 1) := by decide +kernel
theorem dX0_sureOn_12 : decode cX0_sureOn 12 = .ok (.getfield 38, 3) := by decide +kernel
theorem dX0_sureOn_15 : decode cX0_sureOn 15 = .ok (.iand, 1) := by decide +kernel
theorem dX0_sureOn_16 : decode cX0_sureOn 16 = .ok (.iload_n 1, 1) := by decide +kernel
theorem dX0_sureOn_17 : decode cX0_sureOn 17 = .ok (.invokestatic 53, 3) := by decide +kernel
theorem dX0_sureOn_20 : decode cX0_sureOn 20 = .ok (.iconst 1, 1) := by decide +kernel
theorem dX0_sureOn_21 : decode cX0_sureOn 21 = .ok (.if_icmp .ne 5, 3) := by decide +kernel
theorem dX0_sureOn_24 : decode cX0_sureOn 24 = .ok (.iconst (-1), 1) := by decide +kernel
theorem dX0_sureOn_25 : decode cX0_sureOn 25 = .ok (.ireturn, 1) := by decide +kernel
theorem dX0_sureOn_26 : decode cX0_sureOn 26 = .ok (.aload_n 0, 1) := by decide +kernel
theorem dX0_sureOn_27 : decode cX0_sureOn 27 = .ok (.getfield 35, 3) := by decide +kernel
theorem dX0_sureOn_30 : decode cX0_sureOn 30 = .ok (.iload_n 1, 1) := by decide +kernel
theorem dX0_sureOn_31 : decode cX0_sureOn 31 = .ok (.invokestatic 53, 3) := by decide +kernel
theorem dX0_sureOn_34 : decode cX0_sureOn 34 = .ok (.ireturn, 1) := by decide +kernel
theorem dX0_isSureOfAll_0 : decode cX0_isSureOfAll 0 = .ok (.aload_n 0, 1) := by decide +kernel
theorem dX0_isSureOfAll_1 : decode cX0_isSureOfAll 1 = .ok (.getfield 45, 3) := by decide +kernel
theorem dX0_isSureOfAll_4 : decode cX0_isSureOfAll 4 = .ok (.ifCond .ne 16, 3) := by decide +kernel
theorem dX0_isSureOfAll_7 : decode cX0_isSureOfAll 7 = .ok (.iload_n 1, 1) := by decide +kernel
theorem dX0_isSureOfAll_8 : decode cX0_isSureOfAll 8 = .ok (.aload_n 0, 1) := by decide +kernel
theorem dX0_isSureOfAll_9 : decode cX0_isSureOfAll 9 = .ok (.getfield 38, 3) := by decide +kernel
theorem dX0_isSureOfAll_12 : decode cX0_isSureOfAll 12 = .ok (.iand, 1) := by decide +kernel
theorem dX0_isSureOfAll_13 : decode cX0_isSureOfAll 13 = .ok (.ifCond .ne 7, 3) := by decide +kernel
theorem dX0_isSureOfAll_16 : decode cX0_isSureOfAll 16 = .ok (.iconst 1, 1) := by decide +kernel
theorem dX0_isSureOfAll_17 : decode cX0_isSureOfAll 17 = .ok (.goto 4, 3) := by decide +kernel
theorem dX0_isSureOfAll_20 : decode cX0_isSureOfAll 20 = .ok (.iconst 0, 1) := by decide +kernel
theorem dX0_isSureOfAll_21 : decode cX0_isSureOfAll 21 = .ok (.ireturn, 1) := by decide +kernel
theorem dX0_allows_0 : decode cX0_allows 0 = .ok (.aload_n 0, 1) := by decide +kernel
theorem dX0_allows_1 : decode cX0_allows 1 = .ok (.getfield 45, 3) := by decide +kernel
theorem dX0_allows_4 : decode cX0_allows 4 = .ok (.ifCond .ne 35, 3) := by decide +kernel
theorem dX0_allows_7 : decode cX0_allows 7 = .ok (.iload_n 1, 1) := by decide +kernel
theorem dX0_allows_8 : decode cX0_allows 8 = .ok (.iload_n 2, 1) := by decide +kernel
theorem dX0_allows_9 : decode cX0_allows 9 = .ok (.iand, 1) := by decide +kernel
theorem dX0_allows_10 : decode cX0_allows 10 = .ok (.ifCond .ne 29, 3) := by decide +kernel
theorem dX0_allows_13 : decode cX0_allows 13 = .ok (.iload_n 1, 1) := by decide +kernel
theorem dX0_allows_14 : decode cX0_allows 14 = .ok (.aload_n 0, 1) := by decide +kernel
theorem dX0_allows_15 : decode cX0_allows 15 = .ok (.getfield 35, 3) := by decide +kernel
theorem dX0_allows_18 : decode cX0_allows 18 = .ok (.iconst (-1), 1) := by decide +kernel
theorem dX0_allows_19 : decode cX0_allows 19 = .ok (.ixor, 1) := by decide +kernel
theorem dX0_allows_20 : decode cX0_allows 20 = .ok (.iand, 1) := by decide +kernel
theorem dX0_allows_21 : decode cX0_allows 21 = .ok (.ifCond .ne 18, 3) := by decide +kernel
theorem dX0_allows_24 : decode cX0_allows 24 = .ok (.iload_n 2, 1) := by decide +kernel
theorem dX0_allows_25 : decode cX0_allows 25 = .ok (.aload_n 0, 1) := by decide +kernel
theorem dX0_allows_26 : decode cX0_allows 26 = .ok (.getfield 38, 3) := by decide +kernel
theorem dX0_allows_29 : decode cX0_allows 29 = .ok (.iconst (-1), 1) := by decide +kernel
theorem dX0_allows_30 : decode cX0_allows 30 = .ok (.ixor, 1) := by decide +kernel
theorem dX0_allows_31 : decode cX0_allows 31 = .ok (.iand, 1) := by decide +kernel
theorem dX0_allows_32 : decode cX0_allows 32 = .ok (.ifCond .ne 7, 3) := by decide +kernel
theorem dX0_allows_35 : decode cX0_allows 35 = .ok (.iconst 1, 1) := by decide +kernel
theorem dX0_allows_36 : decode cX0_allows 36 = .ok (.goto 4, 3) := by decide +kernel
theorem dX0_allows_39 : decode cX0_allows 39 = .ok (.iconst 0, 1) := by decide +kernel
theorem dX0_allows_40 : decode cX0_allows 40 = .ok (.ireturn, 1) := by decide +kernel
theorem dX1_init_0 : decode cX1_init 0 = .ok (.aload_n 0, 1) := by decide +kernel
theorem dX1_init_1 : decode cX1_init 1 = .ok (.invokespecial 3, 3) := by decide +kernel
theorem dX1_init_4 : decode cX1_init 4 = .ok (.aload_n 0, 1) := by decide +kernel
theorem dX1_init_5 : decode cX1_init 5 = .ok (.bipush 6, 2) := by decide +kernel
theorem dX1_init_7 : decode cX1_init 7 = .ok (.newarray .int, 2) := by decide +kernel
theorem dX1_init_9 : decode cX1_init 9 = .ok (.putfield 9, 3) := by decide +kernel
theorem dX1_init_12 : decode cX1_init 12 = .ok (.aload_n 0, 1) := by decide +kernel
theorem dX1_init_13 : decode cX1_init 13 = .ok (.bipush 6, 2) := by decide +kernel
theorem dX1_init_15 : decode cX1_init 15 = .ok (.newarray .int, 2) := by decide +kernel
theorem dX1_init_17 : decode cX1_init 17 = .ok (.putfield 15, 3) := by decide +kernel
theorem dX1_init_20 : decode cX1_init 20 = .ok (.aload_n 0, 1) := by decide +kernel
theorem dX1_init_21 : decode cX1_init 21 = .ok (.bipush 6, 2) := by decide +kernel
theorem dX1_init_23 : decode cX1_init 23 = .ok (.newarray .int, 2) := by decide +kernel
theorem dX1_init_25 : decode cX1_init 25 = .ok (.putfield 18, 3) := by decide +kernel
theorem dX1_init_28 : decode cX1_init 28 = .ok (.aload_n 0, 1) := by decide +kernel
theorem dX1_init_29 : decode cX1_init 29 = .ok (.bipush 9, 2) := by decide +kernel
theorem dX1_init_31 : decode cX1_init 31 = .ok (.newarray .int, 2) := by decide +kernel
theorem dX1_init_33 : decode cX1_init 33 = .ok (.putfield 21, 3) := by decide +kernel
theorem dX1_init_36 : decode cX1_init 36 = .ok (.aload_n 0, 1) := by decide +kernel
theorem dX1_init_37 : decode cX1_init 37 = .ok (.bipush 9, 2) := by decide +kernel
theorem dX1_init_39 : decode cX1_init 39 = .ok (.newarray .int, 2) := by decide +kernel
theorem dX1_init_41 : decode cX1_init 41 = .ok (.putfield 24, 3) := by decide +kernel
theorem dX1_init_44 : decode cX1_init 44 = .ok (.aload_n 0, 1) := by decide +kernel
theorem dX1_init_45 : decode cX1_init 45 = .ok (.bipush 9, 2) := by decide +kernel
theorem dX1_init_47 : decode cX1_init 47 = .ok (.newarray .int, 2) := by decide +kernel
theorem dX1_init_49 : decode cX1_init 49 = .ok (.putfield 27, 3) := by decide +kernel
theorem dX1_init_52 : decode cX1_init 52 = .ok (.return_, 1) := by decide +kernel
set_option maxRecDepth 20000 in
theorem ggX1_clear_X1_clearFound : GoodIn wsX1_clear wsX1_clearFound := goodIn_r _ [8, 9, 10, 11, 12, 13, 14, 15, 16, 17, 18, 19, 20] (by decide +kernel) (by decide +kernel)
set_option maxRecDepth 20000 in
theorem gX1_clear_X1_clearFound : GoodIn wsX1_clear (wsV RX1 37 RX1 yX1_clearFound wsX1_clearFound) := goodIn_app (goodIn_of _ (by decide +kernel)) ggX1_clear_X1_clearFound
theorem dX1_clear_0 : decode cX1_clear 0 = .ok (.aload_n 0, 1) := by decide +kernel
theorem dX1_clear_1 : decode cX1_clear 1 = .ok (.iload_n 1, 1) := by decide +kernel
theorem dX1_clear_2 : decode cX1_clear 2 = .ok (.putfield 30, 3) := by decide +kernel
theorem dX1_clear_5 : decode cX1_clear 5 = .ok (.aload_n 0, 1) := by decide +kernel
theorem dX1_clear_6 : decode cX1_clear 6 = .ok (.iconst 0, 1) := by decide +kernel
theorem dX1_clear_7 : decode cX1_clear 7 = .ok (.putfield 34, 3) := by decide +kernel
theorem dX1_clear_10 : decode cX1_clear 10 = .ok (.iconst 0, 1) := by decide +kernel
theorem dX1_clear_11 : decode cX1_clear 11 = .ok (.istore_n 2, 1) := by decide +kernel
theorem dX1_clear_12 : decode cX1_clear 12 = .ok (.iload_n 2, 1) := by decide +kernel
theorem dX1_clear_13 : decode cX1_clear 13 = .ok (.bipush 9, 2) := by decide +kernel
theorem dX1_clear_15 : decode cX1_clear 15 = .ok (.if_icmp .ge 16, 3) := by decide +kernel
theorem dX1_clear_18 : decode cX1_clear 18 = .ok (.aload_n 0, 1) := by decide +kernel
theorem dX1_clear_19 : decode cX1_clear 19 = .ok (.getfield 21, 3) := by decide +kernel
theorem dX1_clear_22 : decode cX1_clear 22 = .ok (.iload_n 2, 1) := by decide +kernel
theorem dX1_clear_23 : decode cX1_clear 23 = .ok (.iconst 0, 1) := by decide +kernel
theorem dX1_clear_24 : decode cX1_clear 24 = .ok (.iastore, 1) := by decide +kernel
theorem dX1_clear_25 : decode cX1_clear 25 = .ok (.iinc 2 1, 3) := by decide +kernel
theorem dX1_clear_28 : decode cX1_clear 28 = .ok (.goto (-16), 3) := by decide +kernel
theorem dX1_clear_31 : decode cX1_clear 31 = .ok (.aload_n 0, 1) := by decide +kernel
theorem dX1_clear_32 : decode cX1_clear 32 = .ok (.invokevirtual 37, 3) := by decide +kernel
theorem dX1_clear_35 : decode cX1_clear 35 = .ok (.return_, 1) := by decide +kernel
theorem dX1_clearFound_0 : decode cX1_clearFound 0 = .ok (.aload_n 0, 1) := by decide +kernel
theorem dX1_clearFound_1 : decode cX1_clearFound 1 = .ok (.iconst 0, 1) := by decide +kernel
theorem dX1_clearFound_2 : decode cX1_clearFound 2 = .ok (.putfield 40, 3) := by decide +kernel
theorem dX1_clearFound_5 : decode cX1_clearFound 5 = .ok (.iconst 0, 1) := by decide +kernel
theorem dX1_clearFound_6 : decode cX1_clearFound 6 = .ok (.istore_n 1, 1) := by decide +kernel
theorem dX1_clearFound_7 : decode cX1_clearFound 7 = .ok (.iload_n 1, 1) := by decide +kernel
theorem dX1_clearFound_8 : decode cX1_clearFound 8 = .ok (.bipush 9, 2) := by decide +kernel
theorem dX1_clearFound_10 : decode cX1_clearFound 10 = .ok (.if_icmp .ge 23, 3) := by decide +kernel
theorem dX1_clearFound_13 : decode cX1_clearFound 13 = .ok (.aload_n 0, 1) := by decide +kernel
theorem dX1_clearFound_14 : decode cX1_clearFound 14 = .ok (.getfield 24, 3) := by decide +kernel
theorem dX1_clearFound_17 : decode cX1_clearFound 17 = .ok (.iload_n 1, 1) := by decide +kernel
theorem dX1_clearFound_18 : decode cX1_clearFound 18 = .ok (.iconst 0, 1) := by decide +kernel
theorem dX1_clearFound_19 : decode cX1_clearFound 19 = .ok (.iastore, 1) := by decide +kernel
theorem dX1_clearFound_20 : decode cX1_clearFound 20 = .ok (.aload_n 0, 1) := by decide +kernel
theorem dX1_clearFound_21 : decode cX1_clearFound 21 = .ok (.getfield 27, 3) := by decide +kernel
theorem dX1_clearFound_24 : decode cX1_clearFound 24 = .ok (.iload_n 1, 1) := by decide +kernel
theorem dX1_clearFound_25 : decode cX1_clearFound 25 = .ok (.iconst 0, 1) := by decide +kernel
theorem dX1_clearFound_26 : decode cX1_clearFound 26 = .ok (.iastore, 1) := by decide +kernel
theorem dX1_clearFound_27 : decode cX1_clearFound 27 = .ok (.iinc 1 1, 3) := by decide +kernel
theorem dX1_clearFound_30 : decode cX1_clearFound 30 = .ok (.goto (-23), 3) := by decide +kernel
theorem dX1_clearFound_33 : decode cX1_clearFound 33 = .ok (.return_, 1) := by decide +kernel
theorem dX1_takeFrom_0 : decode cX1_takeFrom 0 = .ok (.aload_n 0, 1) := by decide +kernel
theorem dX1_takeFrom_1 : decode cX1_takeFrom 1 = .ok (.aload_n 1, 1) := by decide +kernel
theorem dX1_takeFrom_2 : decode cX1_takeFrom 2 = .ok (.getfield 30, 3) := by decide +kernel
theorem dX1_takeFrom_5 : decode cX1_takeFrom 5 = .ok (.putfield 30, 3) := by decide +kernel
theorem dX1_takeFrom_8 : decode cX1_takeFrom 8 = .ok (.aload_n 0, 1) := by decide +kernel
theorem dX1_takeFrom_9 : decode cX1_takeFrom 9 = .ok (.aload_n 1, 1) := by decide +kernel
theorem dX1_takeFrom_10 : decode cX1_takeFrom 10 = .ok (.getfield 34, 3) := by decide +kernel
theorem dX1_takeFrom_13 : decode cX1_takeFrom 13 = .ok (.putfield 34, 3) := by decide +kernel
theorem dX1_takeFrom_16 : decode cX1_takeFrom 16 = .ok (.aload_n 0, 1) := by decide +kernel
theorem dX1_takeFrom_17 : decode cX1_takeFrom 17 = .ok (.aload_n 1, 1) := by decide +kernel
theorem dX1_takeFrom_18 : decode cX1_takeFrom 18 = .ok (.getfield 40, 3) := by decide +kernel
theorem dX1_takeFrom_21 : decode cX1_takeFrom 21 = .ok (.putfield 40, 3) := by decide +kernel
theorem dX1_takeFrom_24 : decode cX1_takeFrom 24 = .ok (.iconst 0, 1) := by decide +kernel
theorem dX1_takeFrom_25 : decode cX1_takeFrom 25 = .ok (.istore_n 2, 1) := by decide +kernel
theorem dX1_takeFrom_26 : decode cX1_takeFrom 26 = .ok (.iload_n 2, 1) := by decide +kernel
theorem dX1_takeFrom_27 : decode cX1_takeFrom 27 = .ok (.bipush 6, 2) := by decide +kernel
theorem dX1_takeFrom_29 : decode cX1_takeFrom 29 = .ok (.if_icmp .ge 45, 3) := by decide +kernel
theorem dX1_takeFrom_32 : decode cX1_takeFrom 32 = .ok (.aload_n 0, 1) := by decide +kernel
theorem dX1_takeFrom_33 : decode cX1_takeFrom 33 = .ok (.getfield 9, 3) := by decide +kernel
theorem dX1_takeFrom_36 : decode cX1_takeFrom 36 = .ok (.iload_n 2, 1) := by decide +kernel
theorem dX1_takeFrom_37 : decode cX1_takeFrom 37 = .ok (.aload_n 1, 1) := by decide +kernel
theorem dX1_takeFrom_38 : decode cX1_takeFrom 38 = .ok (.getfield 9, 3) := by decide +kernel
theorem dX1_takeFrom_41 : decode cX1_takeFrom 41 = .ok (.iload_n 2, 1) := by decide +kernel
theorem dX1_takeFrom_42 : decode cX1_takeFrom 42 = .ok (.iaload, 1) := by decide +kernel
theorem dX1_takeFrom_43 : decode cX1_takeFrom 43 = .ok (.iastore, 1) := by decide +kernel
theorem dX1_takeFrom_44 : decode cX1_takeFrom 44 = .ok (.aload_n 0, 1) := by decide +kernel
theorem dX1_takeFrom_45 : decode cX1_takeFrom 45 = .ok (.getfield 15, 3) := by decide +kernel
theorem dX1_takeFrom_48 : decode cX1_takeFrom 48 = .ok (.iload_n 2, 1) := by decide +kernel
theorem dX1_takeFrom_49 : decode cX1_takeFrom 49 = .ok (.aload_n 1, 1) := by decide +kernel
theorem dX1_takeFrom_50 : decode cX1_takeFrom 50 = .ok (.getfield 15, 3) := by decide +kernel
theorem dX1_takeFrom_53 : decode cX1_takeFrom 53 = .ok (.iload_n 2, 1) := by decide +kernel
theorem dX1_takeFrom_54 : decode cX1_takeFrom 54 = .ok (.iaload, 1) := by decide +kernel
theorem dX1_takeFrom_55 : decode cX1_takeFrom 55 = .ok (.iastore, 1) := by decide +kernel
theorem dX1_takeFrom_56 : decode cX1_takeFrom 56 = .ok (.aload_n 0, 1) := by decide +kernel
theorem dX1_takeFrom_57 : decode cX1_takeFrom 57 = .ok (.getfield 18, 3) := by decide +kernel
theorem dX1_takeFrom_60 : decode cX1_takeFrom 60 = .ok (.iload_n 2, 1) := by decide +kernel
theorem dX1_takeFrom_61 : decode cX1_takeFrom 61 = .ok (.aload_n 1, 1) := by decide +kernel
theorem dX1_takeFrom_62 : decode cX1_takeFrom 62 = .ok (.getfield 18, 3) := by decide +kernel
theorem dX1_takeFrom_65 : decode cX1_takeFrom 65 = .ok (.iload_n 2, 1) := by decide +kernel
theorem dX1_takeFrom_66 : decode cX1_takeFrom 66 = .ok (.iaload, 1) := by decide +kernel
theorem dX1_takeFrom_67 : decode cX1_takeFrom 67 = .ok (.iastore, 1) := by decide +kernel
theorem dX1_takeFrom_68 : decode cX1_takeFrom 68 = .ok (.iinc 2 1, 3) := by decide +kernel
theorem dX1_takeFrom_71 : decode cX1_takeFrom 71 = .ok (.goto (-45), 3) := by decide +kernel
theorem dX1_takeFrom_74 : decode cX1_takeFrom 74 = .ok (.iconst 0, 1) := by decide +kernel
theorem dX1_takeFrom_75 : decode cX1_takeFrom 75 = .ok (.istore_n 2, 1) := by decide +kernel
theorem dX1_takeFrom_76 : decode cX1_takeFrom 76 = .ok (.iload_n 2, 1) := by decide +kernel
theorem dX1_takeFrom_77 : decode cX1_takeFrom 77 = .ok (.bipush 9, 2) := by decide +kernel
theorem dX1_takeFrom_79 : decode cX1_takeFrom 79 = .ok (.if_icmp .ge 45, 3) := by decide +kernel
theorem dX1_takeFrom_82 : decode cX1_takeFrom 82 = .ok (.aload_n 0, 1) := by decide +kernel
theorem dX1_takeFrom_83 : decode cX1_takeFrom 83 = .ok (.getfield 21, 3) := by decide +kernel
theorem dX1_takeFrom_86 : decode cX1_takeFrom 86 = .ok (.iload_n 2, 1) := by decide +kernel
theorem dX1_takeFrom_87 : decode cX1_takeFrom 87 = .ok (.aload_n 1, 1) := by decide +kernel
theorem dX1_takeFrom_88 : decode cX1_takeFrom 88 = .ok (.getfield 21, 3) := by decide +kernel
theorem dX1_takeFrom_91 : decode cX1_takeFrom 91 = .ok (.iload_n 2, 1) := by decide +kernel
theorem dX1_takeFrom_92 : decode cX1_takeFrom 92 = .ok (.iaload, 1) := by decide +kernel
theorem dX1_takeFrom_93 : decode cX1_takeFrom 93 = .ok (.iastore, 1) := by decide +kernel
theorem dX1_takeFrom_94 : decode cX1_takeFrom 94 = .ok (.aload_n 0, 1) := by decide +kernel
theorem dX1_takeFrom_95 : decode cX1_takeFrom 95 = .ok (.getfield 24, 3) := by decide +kernel
theorem dX1_takeFrom_98 : decode cX1_takeFrom 98 = .ok (.iload_n 2, 1) := by decide +kernel
theorem dX1_takeFrom_99 : decode cX1_takeFrom 99 = .ok (.aload_n 1, 1) := by decide +kernel
theorem dX1_takeFrom_100 : decode cX1_takeFrom 100 = .ok (.getfield 24, 3) := by decide +kernel
theorem dX1_takeFrom_103 : decode cX1_takeFrom 103 = .ok (.iload_n 2, 1) := by decide +kernel
theorem dX1_takeFrom_104 : decode cX1_takeFrom 104 = .ok (.iaload, 1) := by decide +kernel
theorem dX1_takeFrom_105 : decode cX1_takeFrom 105 = .ok (.iastore, 1) := by decide +kernel
theorem dX1_takeFrom_106 : decode cX1_takeFrom 106 = .ok (.aload_n 0, 1) := by decide +kernel
theorem dX1_takeFrom_107 : decode cX1_takeFrom 107 = .ok (.getfield 27, 3) := by decide +kernel
theorem dX1_takeFrom_110 : decode cX1_takeFrom 110 = .ok (.iload_n 2, 1) := by decide +kernel
theorem dX1_takeFrom_111 : decode cX1_takeFrom 111 = .ok (.aload_n 1, 1) := by decide +kernel
theorem dX1_takeFrom_112 : decode cX1_takeFrom 112 = .ok (.getfield 27, 3) := by decide +kernel
theorem dX1_takeFrom_115 : decode cX1_takeFrom 115 = .ok (.iload_n 2, 1) := by decide +kernel
theorem dX1_takeFrom_116 : decode cX1_takeFrom 116 = .ok (.iaload, 1) := by decide +kernel
theorem dX1_takeFrom_117 : decode cX1_takeFrom 117 = .ok (.iastore, 1) := by decide +kernel
theorem dX1_takeFrom_118 : decode cX1_takeFrom 118 = .ok (.iinc 2 1, 3) := by decide +kernel
theorem dX1_takeFrom_121 : decode cX1_takeFrom 121 = .ok (.goto (-45), 3) := by decide +kernel
theorem dX1_takeFrom_124 : decode cX1_takeFrom 124 = .ok (.return_, 1) := by decide +kernel
theorem dX1_peopleOf_0 : decode cX1_peopleOf 0 = .ok (.iconst 0, 1) := by decide +kernel
theorem dX1_peopleOf_1 : decode cX1_peopleOf 1 = .ok (.istore_n 2, 1) := by decide +kernel
theorem dX1_peopleOf_2 : decode cX1_peopleOf 2 = .ok (.iconst 0, 1) := by decide +kernel
theorem dX1_peopleOf_3 : decode cX1_peopleOf 3 = .ok (.istore_n 3, 1) := by decide +kernel
theorem dX1_peopleOf_4 : decode cX1_peopleOf 4 = .ok (.iload_n 3, 1) := by decide +kernel
theorem dX1_peopleOf_5 : decode cX1_peopleOf 5 = .ok (.aload_n 0, 1) := by decide +kernel
theorem dX1_peopleOf_6 : decode cX1_peopleOf 6 = .ok (.getfield 34, 3) := by decide +kernel
theorem dX1_peopleOf_9 : decode cX1_peopleOf 9 = .ok (.if_icmp .ge 25, 3) := by decide +kernel
theorem dX1_peopleOf_12 : decode cX1_peopleOf 12 = .ok (.aload_n 0, 1) := by decide +kernel
theorem dX1_peopleOf_13 : decode cX1_peopleOf 13 = .ok (.getfield 15, 3) := by decide +kernel
theorem dX1_peopleOf_16 : decode cX1_peopleOf 16 = .ok (.iload_n 3, 1) := by decide +kernel
theorem dX1_peopleOf_17 : decode cX1_peopleOf 17 = .ok (.iaload, 1) := by decide +kernel
theorem dX1_peopleOf_18 : decode cX1_peopleOf 18 = .ok (.iload_n 1, 1) := by decide +kernel
theorem dX1_peopleOf_19 : decode cX1_peopleOf 19 = .ok (.if_icmp .ne 9, 3) := by decide +kernel
theorem dX1_peopleOf_22 : decode cX1_peopleOf 22 = .ok (.iload_n 2, 1) := by decide +kernel
theorem dX1_peopleOf_23 : decode cX1_peopleOf 23 = .ok (.iconst 1, 1) := by decide +kernel
theorem dX1_peopleOf_24 : decode cX1_peopleOf 24 = .ok (.iload_n 3, 1) := by decide +kernel
theorem dX1_peopleOf_25 : decode cX1_peopleOf 25 = .ok (.ishl, 1) := by decide +kernel
theorem dX1_peopleOf_26 : decode cX1_peopleOf 26 = .ok (.ior, 1) := by decide +kernel
theorem dX1_peopleOf_27 : decode cX1_peopleOf 27 = .ok (.istore_n 2, 1) := by decide +kernel
theorem dX1_peopleOf_28 : decode cX1_peopleOf 28 = .ok (.iinc 3 1, 3) := by decide +kernel
theorem dX1_peopleOf_31 : decode cX1_peopleOf 31 = .ok (.goto (-27), 3) := by decide +kernel
theorem dX1_peopleOf_34 : decode cX1_peopleOf 34 = .ok (.iload_n 2, 1) := by decide +kernel
theorem dX1_peopleOf_35 : decode cX1_peopleOf 35 = .ok (.ireturn, 1) := by decide +kernel
set_option maxRecDepth 20000 in
theorem ggX1_thingsLaid_J6_bitCount_0f7a4 : GoodIn wsX1_thingsLaid wsJ6_bitCount_0f7a4 := goodIn_r _ [5, 6, 7, 8] (by decide +kernel) (by decide +kernel)
set_option maxRecDepth 20000 in
theorem gX1_thingsLaid_J6_bitCount_0f7a4 : GoodIn wsX1_thingsLaid (va_wsS RX1 43 yJ6_bitCount_0f7a4 wsJ6_bitCount_0f7a4) := goodIn_app (goodIn_of _ (by decide +kernel)) ggX1_thingsLaid_J6_bitCount_0f7a4
theorem dX1_thingsLaid_0 : decode cX1_thingsLaid 0 = .ok (.iconst 0, 1) := by decide +kernel
theorem dX1_thingsLaid_1 : decode cX1_thingsLaid 1 = .ok (.istore_n 1, 1) := by decide +kernel
theorem dX1_thingsLaid_2 : decode cX1_thingsLaid 2 = .ok (.iconst 0, 1) := by decide +kernel
theorem dX1_thingsLaid_3 : decode cX1_thingsLaid 3 = .ok (.istore_n 2, 1) := by decide +kernel
theorem dX1_thingsLaid_4 : decode cX1_thingsLaid 4 = .ok (.iload_n 2, 1) := by decide +kernel
theorem dX1_thingsLaid_5 : decode cX1_thingsLaid 5 = .ok (.bipush 9, 2) := by decide +kernel
theorem dX1_thingsLaid_7 : decode cX1_thingsLaid 7 = .ok (.if_icmp .ge 21, 3) := by decide +kernel
theorem dX1_thingsLaid_10 : decode cX1_thingsLaid 10 = .ok (.iload_n 1, 1) := by decide +kernel
theorem dX1_thingsLaid_11 : decode cX1_thingsLaid 11 = .ok (.aload_n 0, 1) := by decide +kernel
theorem dX1_thingsLaid_12 : decode cX1_thingsLaid 12 = .ok (.getfield 21, 3) := by decide +kernel
theorem dX1_thingsLaid_15 : decode cX1_thingsLaid 15 = .ok (.iload_n 2, 1) := by decide +kernel
theorem dX1_thingsLaid_16 : decode cX1_thingsLaid 16 = .ok (.iaload, 1) := by decide +kernel
theorem dX1_thingsLaid_17 : decode cX1_thingsLaid 17 = .ok (.invokestatic 43, 3) := by decide +kernel
theorem dX1_thingsLaid_20 : decode cX1_thingsLaid 20 = .ok (.iadd, 1) := by decide +kernel
theorem dX1_thingsLaid_21 : decode cX1_thingsLaid 21 = .ok (.istore_n 1, 1) := by decide +kernel
theorem dX1_thingsLaid_22 : decode cX1_thingsLaid 22 = .ok (.iinc 2 1, 3) := by decide +kernel
theorem dX1_thingsLaid_25 : decode cX1_thingsLaid 25 = .ok (.goto (-21), 3) := by decide +kernel
theorem dX1_thingsLaid_28 : decode cX1_thingsLaid 28 = .ok (.iload_n 1, 1) := by decide +kernel
theorem dX1_thingsLaid_29 : decode cX1_thingsLaid 29 = .ok (.ireturn, 1) := by decide +kernel
set_option maxRecDepth 20000 in
theorem ggX2_init_X1_init : GoodIn wsX2_init wsX1_init := goodIn_r _ [17, 18, 2, 3, 4, 19, 20, 21, 22, 23, 24, 38, 39, 40, 41, 42, 43, 44, 45, 46] (by decide +kernel) (by decide +kernel)
set_option maxRecDepth 20000 in
theorem gX2_init_X1_init_n18 : GoodIn wsX2_init (wsX1_init) := ggX2_init_X1_init
set_option maxRecDepth 20000 in
theorem ggX2_init_X0_init : GoodIn wsX2_init wsX0_init := goodIn_r _ [26, 27, 2, 3] (by decide +kernel) (by decide +kernel)
set_option maxRecDepth 20000 in
theorem gX2_init_X0_init_n28 : GoodIn wsX2_init (wsX0_init) := ggX2_init_X0_init
theorem dX2_init_0 : decode cX2_init 0 = .ok (.aload_n 0, 1) := by decide +kernel
theorem dX2_init_1 : decode cX2_init 1 = .ok (.invokespecial 3, 3) := by decide +kernel
theorem dX2_init_4 : decode cX2_init 4 = .ok (.aload_n 0, 1) := by decide +kernel
theorem dX2_init_5 : decode cX2_init 5 = .ok (.bipush 12, 2) := by decide +kernel
theorem dX2_init_7 : decode cX2_init 7 = .ok (.newarray .int, 2) := by decide +kernel
theorem dX2_init_9 : decode cX2_init 9 = .ok (.putfield 9, 3) := by decide +kernel
theorem dX2_init_12 : decode cX2_init 12 = .ok (.aload_n 0, 1) := by decide +kernel
theorem dX2_init_13 : decode cX2_init 13 = .ok (.bipush 9, 2) := by decide +kernel
theorem dX2_init_15 : decode cX2_init 15 = .ok (.newarray .int, 2) := by decide +kernel
theorem dX2_init_17 : decode cX2_init 17 = .ok (.putfield 13, 3) := by decide +kernel
theorem dX2_init_20 : decode cX2_init 20 = .ok (.aload_n 0, 1) := by decide +kernel
theorem dX2_init_21 : decode cX2_init 21 = .ok (.new 16, 3) := by decide +kernel
theorem dX2_init_24 : decode cX2_init 24 = .ok (.dup, 1) := by decide +kernel
theorem dX2_init_25 : decode cX2_init 25 = .ok (.invokespecial 18, 3) := by decide +kernel
theorem dX2_init_28 : decode cX2_init 28 = .ok (.putfield 19, 3) := by decide +kernel
theorem dX2_init_31 : decode cX2_init 31 = .ok (.aload_n 0, 1) := by decide +kernel
theorem dX2_init_32 : decode cX2_init 32 = .ok (.new 16, 3) := by decide +kernel
theorem dX2_init_35 : decode cX2_init 35 = .ok (.dup, 1) := by decide +kernel
theorem dX2_init_36 : decode cX2_init 36 = .ok (.invokespecial 18, 3) := by decide +kernel
theorem dX2_init_39 : decode cX2_init 39 = .ok (.putfield 23, 3) := by decide +kernel
theorem dX2_init_42 : decode cX2_init 42 = .ok (.aload_n 0, 1) := by decide +kernel
theorem dX2_init_43 : decode cX2_init 43 = .ok (.new 26, 3) := by decide +kernel
theorem dX2_init_46 : decode cX2_init 46 = .ok (.dup, 1) := by decide +kernel
theorem dX2_init_47 : decode cX2_init 47 = .ok (.invokespecial 28, 3) := by decide +kernel
theorem dX2_init_50 : decode cX2_init 50 = .ok (.putfield 29, 3) := by decide +kernel
theorem dX2_init_53 : decode cX2_init 53 = .ok (.return_, 1) := by decide +kernel
theorem dX2_letter_0 : decode cX2_letter 0 = .ok (.iload_n 1, 1) := by decide +kernel
theorem dX2_letter_1 : decode cX2_letter 1 = .ok (.bipush 32, 2) := by decide +kernel
theorem dX2_letter_3 : decode cX2_letter 3 = .ok (.if_icmp .lt 9, 3) := by decide +kernel
theorem dX2_letter_6 : decode cX2_letter 6 = .ok (.iload_n 1, 1) := by decide +kernel
theorem dX2_letter_7 : decode cX2_letter 7 = .ok (.bipush 126, 2) := by decide +kernel
theorem dX2_letter_9 : decode cX2_letter 9 = .ok (.if_icmp .le 6, 3) := by decide +kernel
theorem dX2_letter_12 : decode cX2_letter 12 = .ok (.bipush (-102), 2) := by decide +kernel
theorem dX2_letter_14 : decode cX2_letter 14 = .ok (.ireturn, 1) := by decide +kernel
theorem dX2_letter_15 : decode cX2_letter 15 = .ok (.aload_n 0, 1) := by decide +kernel
theorem dX2_letter_16 : decode cX2_letter 16 = .ok (.getfield 33, 3) := by decide +kernel
theorem dX2_letter_19 : decode cX2_letter 19 = .ok (.aload_n 0, 1) := by decide +kernel
theorem dX2_letter_20 : decode cX2_letter 20 = .ok (.getfield 9, 3) := by decide +kernel
theorem dX2_letter_23 : decode cX2_letter 23 = .ok (.arraylength, 1) := by decide +kernel
theorem dX2_letter_24 : decode cX2_letter 24 = .ok (.if_icmp .lt 6, 3) := by decide +kernel
theorem dX2_letter_27 : decode cX2_letter 27 = .ok (.bipush (-104), 2) := by decide +kernel
theorem dX2_letter_29 : decode cX2_letter 29 = .ok (.ireturn, 1) := by decide +kernel
theorem dX2_letter_30 : decode cX2_letter 30 = .ok (.aload_n 0, 1) := by decide +kernel
theorem dX2_letter_31 : decode cX2_letter 31 = .ok (.getfield 9, 3) := by decide +kernel
theorem dX2_letter_34 : decode cX2_letter 34 = .ok (.aload_n 0, 1) := by decide +kernel
theorem dX2_letter_35 : decode cX2_letter 35 = .ok (.getfield 33, 3) := by decide +kernel
theorem dX2_letter_38 : decode cX2_letter 38 = .ok (.iload_n 1, 1) := by decide +kernel
theorem dX2_letter_39 : decode cX2_letter 39 = .ok (.iastore, 1) := by decide +kernel
theorem dX2_letter_40 : decode cX2_letter 40 = .ok (.aload_n 0, 1) := by decide +kernel
theorem dX2_letter_41 : decode cX2_letter 41 = .ok (.dup, 1) := by decide +kernel
theorem dX2_letter_42 : decode cX2_letter 42 = .ok (.getfield 33, 3) := by decide +kernel
theorem dX2_letter_45 : decode cX2_letter 45 = .ok (.iconst 1, 1) := by decide +kernel
theorem dX2_letter_46 : decode cX2_letter 46 = .ok (.iadd, 1) := by decide +kernel
theorem dX2_letter_47 : decode cX2_letter 47 = .ok (.putfield 33, 3) := by decide +kernel
theorem dX2_letter_50 : decode cX2_letter 50 = .ok (.aload_n 0, 1) := by decide +kernel
theorem dX2_letter_51 : decode cX2_letter 51 = .ok (.getfield 33, 3) := by decide +kernel
theorem dX2_letter_54 : decode cX2_letter 54 = .ok (.ireturn, 1) := by decide +kernel
theorem dX2_blank_0 : decode cX2_blank 0 = .ok (.aload_n 0, 1) := by decide +kernel
theorem dX2_blank_1 : decode cX2_blank 1 = .ok (.getfield 33, 3) := by decide +kernel
theorem dX2_blank_4 : decode cX2_blank 4 = .ok (.istore_n 1, 1) := by decide +kernel
theorem dX2_blank_5 : decode cX2_blank 5 = .ok (.aload_n 0, 1) := by decide +kernel
theorem dX2_blank_6 : decode cX2_blank 6 = .ok (.iconst 0, 1) := by decide +kernel
theorem dX2_blank_7 : decode cX2_blank 7 = .ok (.putfield 33, 3) := by decide +kernel
theorem dX2_blank_10 : decode cX2_blank 10 = .ok (.iload_n 1, 1) := by decide +kernel
theorem dX2_blank_11 : decode cX2_blank 11 = .ok (.ireturn, 1) := by decide +kernel
set_option maxRecDepth 20000 in
theorem ggX2_fault_X2_fittingLetters : GoodIn wsX2_fault wsX2_fittingLetters := goodIn_r _ [5, 6, 7, 8, 9, 4, 10, 11, 12, 13, 14, 15, 16, 17, 18, 19, 20] (by decide +kernel) (by decide +kernel)
set_option maxRecDepth 20000 in
theorem gX2_fault_X2_fittingLetters : GoodIn wsX2_fault (wsV RX2 37 RX2 yX2_fittingLetters wsX2_fittingLetters) := goodIn_app (goodIn_of _ (by decide +kernel)) ggX2_fault_X2_fittingLetters
theorem dX2_fault_0 : decode cX2_fault 0 = .ok (.aload_n 0, 1) := by decide +kernel
theorem dX2_fault_1 : decode cX2_fault 1 = .ok (.invokevirtual 37, 3) := by decide +kernel
theorem dX2_fault_4 : decode cX2_fault 4 = .ok (.ireturn, 1) := by decide +kernel
set_option maxRecDepth 20000 in
theorem ggX2_chest_X2_fittingLetters : GoodIn wsX2_chest wsX2_fittingLetters := goodIn_r _ [12, 1, 3, 13, 14, 11, 15, 34, 35, 36, 37, 38, 39, 40, 41, 42, 43] (by decide +kernel) (by decide +kernel)
set_option maxRecDepth 20000 in
theorem gX2_chest_X2_fittingLetters : GoodIn wsX2_chest (wsV RX2 37 RX2 yX2_fittingLetters wsX2_fittingLetters) := goodIn_app (goodIn_of _ (by decide +kernel)) ggX2_chest_X2_fittingLetters
set_option maxRecDepth 20000 in
theorem ggX2_chest_X2_delayByLetter : GoodIn wsX2_chest wsX2_delayByLetter := goodIn_r _ [18] (by decide +kernel) (by decide +kernel)
set_option maxRecDepth 20000 in
theorem gX2_chest_X2_delayByLetter : GoodIn wsX2_chest (va_wsS RX2 41 yX2_delayByLetter wsX2_delayByLetter) := goodIn_app (goodIn_of _ (by decide +kernel)) ggX2_chest_X2_delayByLetter
set_option maxRecDepth 20000 in
theorem ggX2_chest_X1_clear : GoodIn wsX2_chest wsX1_clear := goodIn_r _ [23, 24, 25, 26, 27, 28, 29, 22, 30, 31, 32, 33, 44, 45, 46, 47, 48, 49, 50, 51, 52] (by decide +kernel) (by decide +kernel)
set_option maxRecDepth 20000 in
theorem gX2_chest_X1_clear : GoodIn wsX2_chest (wsV RX2 45 RX1 yX1_clear wsX1_clear) := goodIn_app (goodIn_of _ (by decide +kernel)) ggX2_chest_X1_clear
theorem dX2_chest_0 : decode cX2_chest 0 = .ok (.aload_n 0, 1) := by decide +kernel
theorem dX2_chest_1 : decode cX2_chest 1 = .ok (.getfield 33, 3) := by decide +kernel
theorem dX2_chest_4 : decode cX2_chest 4 = .ok (.bipush 10, 2) := by decide +kernel
theorem dX2_chest_6 : decode cX2_chest 6 = .ok (.if_icmp .ne 12, 3) := by decide +kernel
theorem dX2_chest_9 : decode cX2_chest 9 = .ok (.aload_n 0, 1) := by decide +kernel
theorem dX2_chest_10 : decode cX2_chest 10 = .ok (.invokevirtual 37, 3) := by decide +kernel
theorem dX2_chest_13 : decode cX2_chest 13 = .ok (.bipush 10, 2) := by decide +kernel
theorem dX2_chest_15 : decode cX2_chest 15 = .ok (.if_icmp .eq 6, 3) := by decide +kernel
theorem dX2_chest_18 : decode cX2_chest 18 = .ok (.bipush (-103), 2) := by decide +kernel
theorem dX2_chest_20 : decode cX2_chest 20 = .ok (.ireturn, 1) := by decide +kernel
theorem dX2_chest_21 : decode cX2_chest 21 = .ok (.iconst 0, 1) := by decide +kernel
theorem dX2_chest_22 : decode cX2_chest 22 = .ok (.istore_n 1, 1) := by decide +kernel
theorem dX2_chest_23 : decode cX2_chest 23 = .ok (.iconst 0, 1) := by decide +kernel
theorem dX2_chest_24 : decode cX2_chest 24 = .ok (.istore_n 2, 1) := by decide +kernel
theorem dX2_chest_25 : decode cX2_chest 25 = .ok (.iload_n 2, 1) := by decide +kernel
theorem dX2_chest_26 : decode cX2_chest 26 = .ok (.bipush 9, 2) := by decide +kernel
theorem dX2_chest_28 : decode cX2_chest 28 = .ok (.if_icmp .ge 36, 3) := by decide +kernel
theorem dX2_chest_31 : decode cX2_chest 31 = .ok (.aload_n 0, 1) := by decide +kernel
theorem dX2_chest_32 : decode cX2_chest 32 = .ok (.getfield 13, 3) := by decide +kernel
theorem dX2_chest_35 : decode cX2_chest 35 = .ok (.iload_n 2, 1) := by decide +kernel
theorem dX2_chest_36 : decode cX2_chest 36 = .ok (.aload_n 0, 1) := by decide +kernel
theorem dX2_chest_37 : decode cX2_chest 37 = .ok (.getfield 9, 3) := by decide +kernel
theorem dX2_chest_40 : decode cX2_chest 40 = .ok (.iload_n 2, 1) := by decide +kernel
theorem dX2_chest_41 : decode cX2_chest 41 = .ok (.iaload, 1) := by decide +kernel
theorem dX2_chest_42 : decode cX2_chest 42 = .ok (.invokestatic 41, 3) := by decide +kernel
theorem dX2_chest_45 : decode cX2_chest 45 = .ok (.iastore, 1) := by decide +kernel
theorem dX2_chest_46 : decode cX2_chest 46 = .ok (.aload_n 0, 1) := by decide +kernel
theorem dX2_chest_47 : decode cX2_chest 47 = .ok (.getfield 13, 3) := by decide +kernel
theorem dX2_chest_50 : decode cX2_chest 50 = .ok (.iload_n 2, 1) := by decide +kernel
theorem dX2_chest_51 : decode cX2_chest 51 = .ok (.iaload, 1) := by decide +kernel
theorem dX2_chest_52 : decode cX2_chest 52 = .ok (.ifCond .eq 6, 3) := by decide +kernel
theorem dX2_chest_55 : decode cX2_chest 55 = .ok (.iinc 1 1, 3) := by decide +kernel
theorem dX2_chest_58 : decode cX2_chest 58 = .ok (.iinc 2 1, 3) := by decide +kernel
theorem dX2_chest_61 : decode cX2_chest 61 = .ok (.goto (-36), 3) := by decide +kernel
theorem dX2_chest_64 : decode cX2_chest 64 = .ok (.aload_n 0, 1) := by decide +kernel
theorem dX2_chest_65 : decode cX2_chest 65 = .ok (.getfield 19, 3) := by decide +kernel
theorem dX2_chest_68 : decode cX2_chest 68 = .ok (.aload_n 0, 1) := by decide +kernel
theorem dX2_chest_69 : decode cX2_chest 69 = .ok (.getfield 9, 3) := by decide +kernel
theorem dX2_chest_72 : decode cX2_chest 72 = .ok (.bipush 9, 2) := by decide +kernel
theorem dX2_chest_74 : decode cX2_chest 74 = .ok (.iaload, 1) := by decide +kernel
theorem dX2_chest_75 : decode cX2_chest 75 = .ok (.bipush 48, 2) := by decide +kernel
theorem dX2_chest_77 : decode cX2_chest 77 = .ok (.isub, 1) := by decide +kernel
theorem dX2_chest_78 : decode cX2_chest 78 = .ok (.invokevirtual 45, 3) := by decide +kernel
theorem dX2_chest_81 : decode cX2_chest 81 = .ok (.aload_n 0, 1) := by decide +kernel
theorem dX2_chest_82 : decode cX2_chest 82 = .ok (.iconst 1, 1) := by decide +kernel
theorem dX2_chest_83 : decode cX2_chest 83 = .ok (.putfield 49, 3) := by decide +kernel
theorem dX2_chest_86 : decode cX2_chest 86 = .ok (.aload_n 0, 1) := by decide +kernel
theorem dX2_chest_87 : decode cX2_chest 87 = .ok (.iconst 0, 1) := by decide +kernel
theorem dX2_chest_88 : decode cX2_chest 88 = .ok (.putfield 53, 3) := by decide +kernel
theorem dX2_chest_91 : decode cX2_chest 91 = .ok (.aload_n 0, 1) := by decide +kernel
theorem dX2_chest_92 : decode cX2_chest 92 = .ok (.dup, 1) := by decide +kernel
theorem dX2_chest_93 : decode cX2_chest 93 = .ok (.getfield 56, 3) := by decide +kernel
theorem dX2_chest_96 : decode cX2_chest 96 = .ok (.iconst 1, 1) := by decide +kernel
theorem dX2_chest_97 : decode cX2_chest 97 = .ok (.iadd, 1) := by decide +kernel
theorem dX2_chest_98 : decode cX2_chest 98 = .ok (.putfield 56, 3) := by decide +kernel
theorem dX2_chest_101 : decode cX2_chest 101 = .ok (.aload_n 0, 1) := by decide +kernel
theorem dX2_chest_102 : decode cX2_chest 102 = .ok (.iconst 0, 1) := by decide +kernel
theorem dX2_chest_103 : decode cX2_chest 103 = .ok (.putfield 33, 3) := by decide +kernel
theorem dX2_chest_106 : decode cX2_chest 106 = .ok (.iload_n 1, 1) := by decide +kernel
theorem dX2_chest_107 : decode cX2_chest 107 = .ok (.ireturn, 1) := by decide +kernel
theorem dX2_face_0 : decode cX2_face 0 = .ok (.iload_n 1, 1) := by decide +kernel
theorem dX2_face_1 : decode cX2_face 1 = .ok (.ifCond .lt 8, 3) := by decide +kernel
theorem dX2_face_4 : decode cX2_face 4 = .ok (.iload_n 1, 1) := by decide +kernel
theorem dX2_face_5 : decode cX2_face 5 = .ok (.iconst 4, 1) := by decide +kernel
theorem dX2_face_6 : decode cX2_face 6 = .ok (.if_icmp .lt 6, 3) := by decide +kernel
theorem dX2_face_9 : decode cX2_face 9 = .ok (.bipush (-102), 2) := by decide +kernel
theorem dX2_face_11 : decode cX2_face 11 = .ok (.ireturn, 1) := by decide +kernel
theorem dX2_face_12 : decode cX2_face 12 = .ok (.aload_n 0, 1) := by decide +kernel
theorem dX2_face_13 : decode cX2_face 13 = .ok (.getfield 49, 3) := by decide +kernel
theorem dX2_face_16 : decode cX2_face 16 = .ok (.ifCond .ne 6, 3) := by decide +kernel
theorem dX2_face_19 : decode cX2_face 19 = .ok (.bipush (-103), 2) := by decide +kernel
theorem dX2_face_21 : decode cX2_face 21 = .ok (.ireturn, 1) := by decide +kernel
theorem dX2_face_22 : decode cX2_face 22 = .ok (.aload_n 0, 1) := by decide +kernel
theorem dX2_face_23 : decode cX2_face 23 = .ok (.getfield 19, 3) := by decide +kernel
theorem dX2_face_26 : decode cX2_face 26 = .ok (.getfield 59, 3) := by decide +kernel
theorem dX2_face_29 : decode cX2_face 29 = .ok (.istore_n 2, 1) := by decide +kernel
theorem dX2_face_30 : decode cX2_face 30 = .ok (.aload_n 0, 1) := by decide +kernel
theorem dX2_face_31 : decode cX2_face 31 = .ok (.getfield 19, 3) := by decide +kernel
theorem dX2_face_34 : decode cX2_face 34 = .ok (.iload_n 1, 1) := by decide +kernel
theorem dX2_face_35 : decode cX2_face 35 = .ok (.putfield 59, 3) := by decide +kernel
theorem dX2_face_38 : decode cX2_face 38 = .ok (.iload_n 2, 1) := by decide +kernel
theorem dX2_face_39 : decode cX2_face 39 = .ok (.ireturn, 1) := by decide +kernel
set_option maxRecDepth 20000 in
theorem ggX2_drawer_X2_isDrawer : GoodIn wsX2_drawer wsX2_isDrawer := goodIn_r _ [8, 9, 88, 89, 90, 91, 92, 93, 94, 95, 96, 97] (by decide +kernel) (by decide +kernel)
set_option maxRecDepth 20000 in
theorem gX2_drawer_X2_isDrawer : GoodIn wsX2_drawer (wsV RX2 62 RX2 yX2_isDrawer wsX2_isDrawer) := goodIn_app (goodIn_of _ (by decide +kernel)) ggX2_drawer_X2_isDrawer
set_option maxRecDepth 20000 in
theorem ggX2_drawer_X2_aheadOf : GoodIn wsX2_drawer wsX2_aheadOf := goodIn_r _ [13, 2, 14, 1, 88, 89, 90, 91, 92, 93, 94, 95, 96, 97, 98, 99, 100, 101, 102, 103, 104, 105, 106] (by decide +kernel) (by decide +kernel)
set_option maxRecDepth 20000 in
theorem gX2_drawer_X2_aheadOf : GoodIn wsX2_drawer (wsV RX2 66 RX2 yX2_aheadOf wsX2_aheadOf) := goodIn_app (goodIn_of _ (by decide +kernel)) ggX2_drawer_X2_aheadOf
set_option maxRecDepth 20000 in
theorem ggX2_drawer_X1_peopleOf : GoodIn wsX2_drawer wsX1_peopleOf := goodIn_r _ [19, 20, 21, 98, 99, 100, 101, 102, 103, 104, 105, 106] (by decide +kernel) (by decide +kernel)
set_option maxRecDepth 20000 in
theorem gX2_drawer_X1_peopleOf : GoodIn wsX2_drawer (wsV RX2 69 RX1 yX1_peopleOf wsX1_peopleOf) := goodIn_app (goodIn_of _ (by decide +kernel)) ggX2_drawer_X1_peopleOf
set_option maxRecDepth 20000 in
theorem ggX2_drawer_X2_courseOf : GoodIn wsX2_drawer wsX2_courseOf := goodIn_r _ [25, 26, 27, 28, 7, 29, 30, 2, 3, 31, 32, 33, 34, 10, 11, 12, 13, 14, 1, 35, 36, 37, 38, 39, 40, 41, 42, 43, 44, 45, 46, 47, 48, 49, 50, 51, 52, 53, 54, 55, 56, 57, 58, 59, 60, 61, 62, 63, 64, 65, 66, 88, 89, 90, 91, 92, 93, 94, 95, 96, 97, 98, 99, 100, 101, 102, 103, 104, 105, 106, 107, 108, 109, 110, 111, 112, 113] (by decide +kernel) (by decide +kernel)
set_option maxRecDepth 20000 in
theorem gX2_drawer_X2_courseOf : GoodIn wsX2_drawer (wsV RX2 75 RX2 yX2_courseOf wsX2_courseOf) := goodIn_app (goodIn_of _ (by decide +kernel)) ggX2_drawer_X2_courseOf
set_option maxRecDepth 20000 in
theorem ggX2_drawer_X0_agreeing : GoodIn wsX2_drawer wsX0_agreeing := goodIn_r _ [70, 58, 56, 57, 71, 72, 73, 74, 75, 76, 77, 107, 108, 109, 110, 111, 112, 113] (by decide +kernel) (by decide +kernel)
set_option maxRecDepth 20000 in
theorem gX2_drawer_X0_agreeing : GoodIn wsX2_drawer (wsV RX2 79 RX0 yX0_agreeing wsX0_agreeing) := goodIn_app (goodIn_of _ (by decide +kernel)) ggX2_drawer_X0_agreeing
set_option maxRecDepth 20000 in
theorem ggX2_drawer_X0_firstStuckDay : GoodIn wsX2_drawer wsX0_firstStuckDay := goodIn_r _ [81, 58, 82, 7, 83, 107, 108, 109, 110, 111, 112, 113] (by decide +kernel) (by decide +kernel)
set_option maxRecDepth 20000 in
theorem gX2_drawer_X0_firstStuckDay : GoodIn wsX2_drawer (wsV RX2 82 RX0 yX0_firstStuckDay wsX0_firstStuckDay) := goodIn_app (goodIn_of _ (by decide +kernel)) ggX2_drawer_X0_firstStuckDay
set_option maxRecDepth 20000 in
theorem ggX2_drawer_X0_leastWeek : GoodIn wsX2_drawer wsX0_leastWeek := goodIn_r _ [87, 58, 57, 107, 108, 109, 110, 111, 112, 113] (by decide +kernel) (by decide +kernel)
set_option maxRecDepth 20000 in
theorem gX2_drawer_X0_leastWeek : GoodIn wsX2_drawer (wsV RX2 85 RX0 yX0_leastWeek wsX0_leastWeek) := goodIn_app (goodIn_of _ (by decide +kernel)) ggX2_drawer_X0_leastWeek
theorem dX2_drawer_0 : decode cX2_drawer 0 = .ok (.aload_n 0, 1) := by decide +kernel
theorem dX2_drawer_1 : decode cX2_drawer 1 = .ok (.iload_n 1, 1) := by decide +kernel
theorem dX2_drawer_2 : decode cX2_drawer 2 = .ok (.invokevirtual 62, 3) := by decide +kernel
theorem dX2_drawer_5 : decode cX2_drawer 5 = .ok (.ifCond .ne 6, 3) := by decide +kernel
theorem dX2_drawer_8 : decode cX2_drawer 8 = .ok (.bipush (-101), 2) := by decide +kernel
theorem dX2_drawer_10 : decode cX2_drawer 10 = .ok (.ireturn, 1) := by decide +kernel
theorem dX2_drawer_11 : decode cX2_drawer 11 = .ok (.iload_n 2, 1) := by decide +kernel
theorem dX2_drawer_12 : decode cX2_drawer 12 = .ok (.tableswitch 109 0 6 #[44, 54, 63, 72, 82, 91, 100], 44) := by decide +kernel
theorem dX2_drawer_56 : decode cX2_drawer 56 = .ok (.aload_n 0, 1) := by decide +kernel
theorem dX2_drawer_57 : decode cX2_drawer 57 = .ok (.getfield 13, 3) := by decide +kernel
theorem dX2_drawer_60 : decode cX2_drawer 60 = .ok (.iload_n 1, 1) := by decide +kernel
theorem dX2_drawer_61 : decode cX2_drawer 61 = .ok (.iaload, 1) := by decide +kernel
theorem dX2_drawer_62 : decode cX2_drawer 62 = .ok (.bipush 10, 2) := by decide +kernel
theorem dX2_drawer_64 : decode cX2_drawer 64 = .ok (.iadd, 1) := by decide +kernel
theorem dX2_drawer_65 : decode cX2_drawer 65 = .ok (.ireturn, 1) := by decide +kernel
theorem dX2_drawer_66 : decode cX2_drawer 66 = .ok (.aload_n 0, 1) := by decide +kernel
theorem dX2_drawer_67 : decode cX2_drawer 67 = .ok (.iload_n 1, 1) := by decide +kernel
theorem dX2_drawer_68 : decode cX2_drawer 68 = .ok (.invokevirtual 66, 3) := by decide +kernel
theorem dX2_drawer_71 : decode cX2_drawer 71 = .ok (.bipush 10, 2) := by decide +kernel
theorem dX2_drawer_73 : decode cX2_drawer 73 = .ok (.iadd, 1) := by decide +kernel
theorem dX2_drawer_74 : decode cX2_drawer 74 = .ok (.ireturn, 1) := by decide +kernel
theorem dX2_drawer_75 : decode cX2_drawer 75 = .ok (.aload_n 0, 1) := by decide +kernel
theorem dX2_drawer_76 : decode cX2_drawer 76 = .ok (.getfield 19, 3) := by decide +kernel
theorem dX2_drawer_79 : decode cX2_drawer 79 = .ok (.iload_n 1, 1) := by decide +kernel
theorem dX2_drawer_80 : decode cX2_drawer 80 = .ok (.invokevirtual 69, 3) := by decide +kernel
theorem dX2_drawer_83 : decode cX2_drawer 83 = .ok (.ireturn, 1) := by decide +kernel
theorem dX2_drawer_84 : decode cX2_drawer 84 = .ok (.aload_n 0, 1) := by decide +kernel
theorem dX2_drawer_85 : decode cX2_drawer 85 = .ok (.getfield 19, 3) := by decide +kernel
theorem dX2_drawer_88 : decode cX2_drawer 88 = .ok (.getfield 72, 3) := by decide +kernel
theorem dX2_drawer_91 : decode cX2_drawer 91 = .ok (.iload_n 1, 1) := by decide +kernel
theorem dX2_drawer_92 : decode cX2_drawer 92 = .ok (.iaload, 1) := by decide +kernel
theorem dX2_drawer_93 : decode cX2_drawer 93 = .ok (.ireturn, 1) := by decide +kernel
theorem dX2_drawer_94 : decode cX2_drawer 94 = .ok (.aload_n 0, 1) := by decide +kernel
theorem dX2_drawer_95 : decode cX2_drawer 95 = .ok (.iload_n 1, 1) := by decide +kernel
theorem dX2_drawer_96 : decode cX2_drawer 96 = .ok (.invokevirtual 75, 3) := by decide +kernel
theorem dX2_drawer_99 : decode cX2_drawer 99 = .ok (.invokevirtual 79, 3) := by decide +kernel
theorem dX2_drawer_102 : decode cX2_drawer 102 = .ok (.ireturn, 1) := by decide +kernel
theorem dX2_drawer_103 : decode cX2_drawer 103 = .ok (.aload_n 0, 1) := by decide +kernel
theorem dX2_drawer_104 : decode cX2_drawer 104 = .ok (.iload_n 1, 1) := by decide +kernel
theorem dX2_drawer_105 : decode cX2_drawer 105 = .ok (.invokevirtual 75, 3) := by decide +kernel
theorem dX2_drawer_108 : decode cX2_drawer 108 = .ok (.invokevirtual 82, 3) := by decide +kernel
theorem dX2_drawer_111 : decode cX2_drawer 111 = .ok (.ireturn, 1) := by decide +kernel
theorem dX2_drawer_112 : decode cX2_drawer 112 = .ok (.aload_n 0, 1) := by decide +kernel
theorem dX2_drawer_113 : decode cX2_drawer 113 = .ok (.iload_n 1, 1) := by decide +kernel
theorem dX2_drawer_114 : decode cX2_drawer 114 = .ok (.invokevirtual 75, 3) := by decide +kernel
theorem dX2_drawer_117 : decode cX2_drawer 117 = .ok (.invokevirtual 85, 3) := by decide +kernel
theorem dX2_drawer_120 : decode cX2_drawer 120 = .ok (.ireturn, 1) := by decide +kernel
theorem dX2_drawer_121 : decode cX2_drawer 121 = .ok (.bipush (-102), 2) := by decide +kernel
theorem dX2_drawer_123 : decode cX2_drawer 123 = .ok (.ireturn, 1) := by decide +kernel
set_option maxRecDepth 20000 in
theorem ggX2_person_X2_isKind : GoodIn wsX2_person wsX2_isKind := goodIn_r _ [9] (by decide +kernel) (by decide +kernel)
set_option maxRecDepth 20000 in
theorem gX2_person_X2_isKind : GoodIn wsX2_person (va_wsS RX2 88 yX2_isKind wsX2_isKind) := goodIn_app (goodIn_of _ (by decide +kernel)) ggX2_person_X2_isKind
set_option maxRecDepth 20000 in
theorem ggX2_person_X2_isDrawer : GoodIn wsX2_person wsX2_isDrawer := goodIn_r _ [13, 14, 18, 19, 20, 21, 22, 23, 24, 25, 26, 27] (by decide +kernel) (by decide +kernel)
set_option maxRecDepth 20000 in
theorem gX2_person_X2_isDrawer : GoodIn wsX2_person (wsV RX2 62 RX2 yX2_isDrawer wsX2_isDrawer) := goodIn_app (goodIn_of _ (by decide +kernel)) ggX2_person_X2_isDrawer
set_option maxRecDepth 20000 in
theorem ggX2_person_X2_isDay : GoodIn wsX2_person wsX2_isDay := goodIn_r _ [17] (by decide +kernel) (by decide +kernel)
set_option maxRecDepth 20000 in
theorem gX2_person_X2_isDay : GoodIn wsX2_person (va_wsS RX2 91 yX2_isDay wsX2_isDay) := goodIn_app (goodIn_of _ (by decide +kernel)) ggX2_person_X2_isDay
theorem dX2_person_0 : decode cX2_person 0 = .ok (.iload_n 1, 1) := by decide +kernel
theorem dX2_person_1 : decode cX2_person 1 = .ok (.invokestatic 88, 3) := by decide +kernel
theorem dX2_person_4 : decode cX2_person 4 = .ok (.ifCond .ne 6, 3) := by decide +kernel
theorem dX2_person_7 : decode cX2_person 7 = .ok (.bipush (-102), 2) := by decide +kernel
theorem dX2_person_9 : decode cX2_person 9 = .ok (.ireturn, 1) := by decide +kernel
theorem dX2_person_10 : decode cX2_person 10 = .ok (.aload_n 0, 1) := by decide +kernel
theorem dX2_person_11 : decode cX2_person 11 = .ok (.iload_n 2, 1) := by decide +kernel
theorem dX2_person_12 : decode cX2_person 12 = .ok (.invokevirtual 62, 3) := by decide +kernel
theorem dX2_person_15 : decode cX2_person 15 = .ok (.ifCond .eq 10, 3) := by decide +kernel
theorem dX2_person_18 : decode cX2_person 18 = .ok (.iload_n 3, 1) := by decide +kernel
theorem dX2_person_19 : decode cX2_person 19 = .ok (.invokestatic 91, 3) := by decide +kernel
theorem dX2_person_22 : decode cX2_person 22 = .ok (.ifCond .ne 6, 3) := by decide +kernel
theorem dX2_person_25 : decode cX2_person 25 = .ok (.bipush (-101), 2) := by decide +kernel
theorem dX2_person_27 : decode cX2_person 27 = .ok (.ireturn, 1) := by decide +kernel
theorem dX2_person_28 : decode cX2_person 28 = .ok (.aload_n 0, 1) := by decide +kernel
theorem dX2_person_29 : decode cX2_person 29 = .ok (.getfield 19, 3) := by decide +kernel
theorem dX2_person_32 : decode cX2_person 32 = .ok (.getfield 94, 3) := by decide +kernel
theorem dX2_person_35 : decode cX2_person 35 = .ok (.bipush 6, 2) := by decide +kernel
theorem dX2_person_37 : decode cX2_person 37 = .ok (.if_icmp .lt 6, 3) := by decide +kernel
theorem dX2_person_40 : decode cX2_person 40 = .ok (.bipush (-104), 2) := by decide +kernel
theorem dX2_person_42 : decode cX2_person 42 = .ok (.ireturn, 1) := by decide +kernel
theorem dX2_person_43 : decode cX2_person 43 = .ok (.aload_n 0, 1) := by decide +kernel
theorem dX2_person_44 : decode cX2_person 44 = .ok (.getfield 19, 3) := by decide +kernel
theorem dX2_person_47 : decode cX2_person 47 = .ok (.getfield 94, 3) := by decide +kernel
theorem dX2_person_50 : decode cX2_person 50 = .ok (.istore 4, 2) := by decide +kernel
theorem dX2_person_52 : decode cX2_person 52 = .ok (.aload_n 0, 1) := by decide +kernel
theorem dX2_person_53 : decode cX2_person 53 = .ok (.getfield 19, 3) := by decide +kernel
theorem dX2_person_56 : decode cX2_person 56 = .ok (.getfield 97, 3) := by decide +kernel
theorem dX2_person_59 : decode cX2_person 59 = .ok (.iload 4, 2) := by decide +kernel
theorem dX2_person_61 : decode cX2_person 61 = .ok (.iload_n 1, 1) := by decide +kernel
theorem dX2_person_62 : decode cX2_person 62 = .ok (.iastore, 1) := by decide +kernel
theorem dX2_person_63 : decode cX2_person 63 = .ok (.aload_n 0, 1) := by decide +kernel
theorem dX2_person_64 : decode cX2_person 64 = .ok (.getfield 19, 3) := by decide +kernel
theorem dX2_person_67 : decode cX2_person 67 = .ok (.getfield 100, 3) := by decide +kernel
theorem dX2_person_70 : decode cX2_person 70 = .ok (.iload 4, 2) := by decide +kernel
theorem dX2_person_72 : decode cX2_person 72 = .ok (.iload_n 2, 1) := by decide +kernel
theorem dX2_person_73 : decode cX2_person 73 = .ok (.iastore, 1) := by decide +kernel
theorem dX2_person_74 : decode cX2_person 74 = .ok (.aload_n 0, 1) := by decide +kernel
theorem dX2_person_75 : decode cX2_person 75 = .ok (.getfield 19, 3) := by decide +kernel
theorem dX2_person_78 : decode cX2_person 78 = .ok (.getfield 103, 3) := by decide +kernel
theorem dX2_person_81 : decode cX2_person 81 = .ok (.iload 4, 2) := by decide +kernel
theorem dX2_person_83 : decode cX2_person 83 = .ok (.iload_n 3, 1) := by decide +kernel
theorem dX2_person_84 : decode cX2_person 84 = .ok (.iastore, 1) := by decide +kernel
theorem dX2_person_85 : decode cX2_person 85 = .ok (.aload_n 0, 1) := by decide +kernel
theorem dX2_person_86 : decode cX2_person 86 = .ok (.getfield 19, 3) := by decide +kernel
theorem dX2_person_89 : decode cX2_person 89 = .ok (.dup, 1) := by decide +kernel
theorem dX2_person_90 : decode cX2_person 90 = .ok (.getfield 94, 3) := by decide +kernel
theorem dX2_person_93 : decode cX2_person 93 = .ok (.iconst 1, 1) := by decide +kernel
theorem dX2_person_94 : decode cX2_person 94 = .ok (.iadd, 1) := by decide +kernel
theorem dX2_person_95 : decode cX2_person 95 = .ok (.putfield 94, 3) := by decide +kernel
theorem dX2_person_98 : decode cX2_person 98 = .ok (.iload 4, 2) := by decide +kernel
theorem dX2_person_100 : decode cX2_person 100 = .ok (.ireturn, 1) := by decide +kernel
set_option maxRecDepth 20000 in
theorem ggX2_about_X2_isPerson : GoodIn wsX2_about wsX2_isPerson := goodIn_r _ [9, 1, 10, 20, 21, 22, 23, 24, 25, 26, 27, 28, 29, 30, 31, 32, 33, 34, 35, 36, 37, 38] (by decide +kernel) (by decide +kernel)
set_option maxRecDepth 20000 in
theorem gX2_about_X2_isPerson : GoodIn wsX2_about (wsV RX2 106 RX2 yX2_isPerson wsX2_isPerson) := goodIn_app (goodIn_of _ (by decide +kernel)) ggX2_about_X2_isPerson
set_option maxRecDepth 20000 in
theorem ggX2_about_X2_putsIfEmpty : GoodIn wsX2_about wsX2_putsIfEmpty := goodIn_r _ [13] (by decide +kernel) (by decide +kernel)
set_option maxRecDepth 20000 in
theorem gX2_about_X2_putsIfEmpty : GoodIn wsX2_about (va_wsS RX2 109 yX2_putsIfEmpty wsX2_putsIfEmpty) := goodIn_app (goodIn_of _ (by decide +kernel)) ggX2_about_X2_putsIfEmpty
set_option maxRecDepth 20000 in
theorem ggX2_about_X2_bitOf : GoodIn wsX2_about wsX2_bitOf := goodIn_r _ [16] (by decide +kernel) (by decide +kernel)
set_option maxRecDepth 20000 in
theorem gX2_about_X2_bitOf : GoodIn wsX2_about (va_wsS RX2 113 yX2_bitOf wsX2_bitOf) := goodIn_app (goodIn_of _ (by decide +kernel)) ggX2_about_X2_bitOf
set_option maxRecDepth 20000 in
theorem ggX2_about_X2_putsIfThere : GoodIn wsX2_about wsX2_putsIfThere := goodIn_r _ [19] (by decide +kernel) (by decide +kernel)
set_option maxRecDepth 20000 in
theorem gX2_about_X2_putsIfThere : GoodIn wsX2_about (va_wsS RX2 116 yX2_putsIfThere wsX2_putsIfThere) := goodIn_app (goodIn_of _ (by decide +kernel)) ggX2_about_X2_putsIfThere
theorem dX2_about_0 : decode cX2_about 0 = .ok (.aload_n 0, 1) := by decide +kernel
theorem dX2_about_1 : decode cX2_about 1 = .ok (.iload_n 1, 1) := by decide +kernel
theorem dX2_about_2 : decode cX2_about 2 = .ok (.invokevirtual 106, 3) := by decide +kernel
theorem dX2_about_5 : decode cX2_about 5 = .ok (.ifCond .ne 6, 3) := by decide +kernel
