theorem dX3_image_82 : decode cX3_image 82 = .ok (.getfield 41, 3) := by decide +kernel
theorem dX3_image_85 : decode cX3_image 85 = .ok (.iload_n 1, 1) := by decide +kernel
theorem dX3_image_86 : decode cX3_image 86 = .ok (.aload_n 0, 1) := by decide +kernel
theorem dX3_image_87 : decode cX3_image 87 = .ok (.getfield 19, 3) := by decide +kernel
theorem dX3_image_90 : decode cX3_image 90 = .ok (.iload_n 1, 1) := by decide +kernel
theorem dX3_image_91 : decode cX3_image 91 = .ok (.iaload, 1) := by decide +kernel
theorem dX3_image_92 : decode cX3_image 92 = .ok (.iastore, 1) := by decide +kernel
theorem dX3_image_93 : decode cX3_image 93 = .ok (.aload_n 0, 1) := by decide +kernel
theorem dX3_image_94 : decode cX3_image 94 = .ok (.getfield 44, 3) := by decide +kernel
theorem dX3_image_97 : decode cX3_image 97 = .ok (.iload_n 1, 1) := by decide +kernel
theorem dX3_image_98 : decode cX3_image 98 = .ok (.aload_n 0, 1) := by decide +kernel
theorem dX3_image_99 : decode cX3_image 99 = .ok (.getfield 22, 3) := by decide +kernel
theorem dX3_image_102 : decode cX3_image 102 = .ok (.iload_n 1, 1) := by decide +kernel
theorem dX3_image_103 : decode cX3_image 103 = .ok (.iaload, 1) := by decide +kernel
theorem dX3_image_104 : decode cX3_image 104 = .ok (.iastore, 1) := by decide +kernel
theorem dX3_image_105 : decode cX3_image 105 = .ok (.iinc 1 1, 3) := by decide +kernel
theorem dX3_image_108 : decode cX3_image 108 = .ok (.goto (-33), 3) := by decide +kernel
theorem dX3_image_111 : decode cX3_image 111 = .ok (.iconst 0, 1) := by decide +kernel
theorem dX3_image_112 : decode cX3_image 112 = .ok (.istore_n 1, 1) := by decide +kernel
theorem dX3_image_113 : decode cX3_image 113 = .ok (.iload_n 1, 1) := by decide +kernel
theorem dX3_image_114 : decode cX3_image 114 = .ok (.bipush 8, 2) := by decide +kernel
theorem dX3_image_116 : decode cX3_image 116 = .ok (.if_icmp .ge 45, 3) := by decide +kernel
theorem dX3_image_119 : decode cX3_image 119 = .ok (.aload_n 0, 1) := by decide +kernel
theorem dX3_image_120 : decode cX3_image 120 = .ok (.getfield 47, 3) := by decide +kernel
theorem dX3_image_123 : decode cX3_image 123 = .ok (.iload_n 1, 1) := by decide +kernel
theorem dX3_image_124 : decode cX3_image 124 = .ok (.aload_n 0, 1) := by decide +kernel
theorem dX3_image_125 : decode cX3_image 125 = .ok (.getfield 25, 3) := by decide +kernel
theorem dX3_image_128 : decode cX3_image 128 = .ok (.iload_n 1, 1) := by decide +kernel
theorem dX3_image_129 : decode cX3_image 129 = .ok (.iaload, 1) := by decide +kernel
theorem dX3_image_130 : decode cX3_image 130 = .ok (.iastore, 1) := by decide +kernel
theorem dX3_image_131 : decode cX3_image 131 = .ok (.aload_n 0, 1) := by decide +kernel
theorem dX3_image_132 : decode cX3_image 132 = .ok (.getfield 50, 3) := by decide +kernel
theorem dX3_image_135 : decode cX3_image 135 = .ok (.iload_n 1, 1) := by decide +kernel
theorem dX3_image_136 : decode cX3_image 136 = .ok (.aload_n 0, 1) := by decide +kernel
theorem dX3_image_137 : decode cX3_image 137 = .ok (.getfield 28, 3) := by decide +kernel
theorem dX3_image_140 : decode cX3_image 140 = .ok (.iload_n 1, 1) := by decide +kernel
theorem dX3_image_141 : decode cX3_image 141 = .ok (.iaload, 1) := by decide +kernel
theorem dX3_image_142 : decode cX3_image 142 = .ok (.iastore, 1) := by decide +kernel
theorem dX3_image_143 : decode cX3_image 143 = .ok (.aload_n 0, 1) := by decide +kernel
theorem dX3_image_144 : decode cX3_image 144 = .ok (.getfield 53, 3) := by decide +kernel
theorem dX3_image_147 : decode cX3_image 147 = .ok (.iload_n 1, 1) := by decide +kernel
theorem dX3_image_148 : decode cX3_image 148 = .ok (.aload_n 0, 1) := by decide +kernel
theorem dX3_image_149 : decode cX3_image 149 = .ok (.getfield 31, 3) := by decide +kernel
theorem dX3_image_152 : decode cX3_image 152 = .ok (.iload_n 1, 1) := by decide +kernel
theorem dX3_image_153 : decode cX3_image 153 = .ok (.iaload, 1) := by decide +kernel
theorem dX3_image_154 : decode cX3_image 154 = .ok (.iastore, 1) := by decide +kernel
theorem dX3_image_155 : decode cX3_image 155 = .ok (.iinc 1 1, 3) := by decide +kernel
theorem dX3_image_158 : decode cX3_image 158 = .ok (.goto (-45), 3) := by decide +kernel
theorem dX3_image_161 : decode cX3_image 161 = .ok (.aload_n 0, 1) := by decide +kernel
theorem dX3_image_162 : decode cX3_image 162 = .ok (.getfield 82, 3) := by decide +kernel
theorem dX3_image_165 : decode cX3_image 165 = .ok (.ireturn, 1) := by decide +kernel
theorem dX3_restore_0 : decode cX3_restore 0 = .ok (.aload_n 0, 1) := by decide +kernel
theorem dX3_restore_1 : decode cX3_restore 1 = .ok (.getfield 187, 3) := by decide +kernel
theorem dX3_restore_4 : decode cX3_restore 4 = .ok (.ifCond .eq 14, 3) := by decide +kernel
theorem dX3_restore_7 : decode cX3_restore 7 = .ok (.aload_n 0, 1) := by decide +kernel
theorem dX3_restore_8 : decode cX3_restore 8 = .ok (.getfield 190, 3) := by decide +kernel
theorem dX3_restore_11 : decode cX3_restore 11 = .ok (.aload_n 0, 1) := by decide +kernel
theorem dX3_restore_12 : decode cX3_restore 12 = .ok (.getfield 79, 3) := by decide +kernel
theorem dX3_restore_15 : decode cX3_restore 15 = .ok (.if_icmp .eq 6, 3) := by decide +kernel
theorem dX3_restore_18 : decode cX3_restore 18 = .ok (.bipush (-103), 2) := by decide +kernel
theorem dX3_restore_20 : decode cX3_restore 20 = .ok (.ireturn, 1) := by decide +kernel
theorem dX3_restore_21 : decode cX3_restore 21 = .ok (.aload_n 0, 1) := by decide +kernel
theorem dX3_restore_22 : decode cX3_restore 22 = .ok (.aload_n 0, 1) := by decide +kernel
theorem dX3_restore_23 : decode cX3_restore 23 = .ok (.getfield 193, 3) := by decide +kernel
theorem dX3_restore_26 : decode cX3_restore 26 = .ok (.putfield 72, 3) := by decide +kernel
theorem dX3_restore_29 : decode cX3_restore 29 = .ok (.aload_n 0, 1) := by decide +kernel
theorem dX3_restore_30 : decode cX3_restore 30 = .ok (.aload_n 0, 1) := by decide +kernel
theorem dX3_restore_31 : decode cX3_restore 31 = .ok (.getfield 196, 3) := by decide +kernel
theorem dX3_restore_34 : decode cX3_restore 34 = .ok (.putfield 82, 3) := by decide +kernel
theorem dX3_restore_37 : decode cX3_restore 37 = .ok (.aload_n 0, 1) := by decide +kernel
theorem dX3_restore_38 : decode cX3_restore 38 = .ok (.aload_n 0, 1) := by decide +kernel
theorem dX3_restore_39 : decode cX3_restore 39 = .ok (.getfield 199, 3) := by decide +kernel
theorem dX3_restore_42 : decode cX3_restore 42 = .ok (.putfield 85, 3) := by decide +kernel
theorem dX3_restore_45 : decode cX3_restore 45 = .ok (.iconst 0, 1) := by decide +kernel
theorem dX3_restore_46 : decode cX3_restore 46 = .ok (.istore_n 1, 1) := by decide +kernel
theorem dX3_restore_47 : decode cX3_restore 47 = .ok (.iload_n 1, 1) := by decide +kernel
theorem dX3_restore_48 : decode cX3_restore 48 = .ok (.bipush 9, 2) := by decide +kernel
theorem dX3_restore_50 : decode cX3_restore 50 = .ok (.if_icmp .ge 21, 3) := by decide +kernel
theorem dX3_restore_53 : decode cX3_restore 53 = .ok (.aload_n 0, 1) := by decide +kernel
theorem dX3_restore_54 : decode cX3_restore 54 = .ok (.getfield 13, 3) := by decide +kernel
theorem dX3_restore_57 : decode cX3_restore 57 = .ok (.iload_n 1, 1) := by decide +kernel
theorem dX3_restore_58 : decode cX3_restore 58 = .ok (.aload_n 0, 1) := by decide +kernel
theorem dX3_restore_59 : decode cX3_restore 59 = .ok (.getfield 38, 3) := by decide +kernel
theorem dX3_restore_62 : decode cX3_restore 62 = .ok (.iload_n 1, 1) := by decide +kernel
theorem dX3_restore_63 : decode cX3_restore 63 = .ok (.iaload, 1) := by decide +kernel
theorem dX3_restore_64 : decode cX3_restore 64 = .ok (.iastore, 1) := by decide +kernel
theorem dX3_restore_65 : decode cX3_restore 65 = .ok (.iinc 1 1, 3) := by decide +kernel
theorem dX3_restore_68 : decode cX3_restore 68 = .ok (.goto (-21), 3) := by decide +kernel
theorem dX3_restore_71 : decode cX3_restore 71 = .ok (.iconst 0, 1) := by decide +kernel
theorem dX3_restore_72 : decode cX3_restore 72 = .ok (.istore_n 1, 1) := by decide +kernel
theorem dX3_restore_73 : decode cX3_restore 73 = .ok (.iload_n 1, 1) := by decide +kernel
theorem dX3_restore_74 : decode cX3_restore 74 = .ok (.bipush 6, 2) := by decide +kernel
theorem dX3_restore_76 : decode cX3_restore 76 = .ok (.if_icmp .ge 33, 3) := by decide +kernel
theorem dX3_restore_79 : decode cX3_restore 79 = .ok (.aload_n 0, 1) := by decide +kernel
theorem dX3_restore_80 : decode cX3_restore 80 = .ok (.getfield 19, 3) := by decide +kernel
theorem dX3_restore_83 : decode cX3_restore 83 = .ok (.iload_n 1, 1) := by decide +kernel
theorem dX3_restore_84 : decode cX3_restore 84 = .ok (.aload_n 0, 1) := by decide +kernel
theorem dX3_restore_85 : decode cX3_restore 85 = .ok (.getfield 41, 3) := by decide +kernel
theorem dX3_restore_88 : decode cX3_restore 88 = .ok (.iload_n 1, 1) := by decide +kernel
theorem dX3_restore_89 : decode cX3_restore 89 = .ok (.iaload, 1) := by decide +kernel
theorem dX3_restore_90 : decode cX3_restore 90 = .ok (.iastore, 1) := by decide +kernel
theorem dX3_restore_91 : decode cX3_restore 91 = .ok (.aload_n 0, 1) := by decide +kernel
theorem dX3_restore_92 : decode cX3_restore 92 = .ok (.getfield 22, 3) := by decide +kernel
theorem dX3_restore_95 : decode cX3_restore 95 = .ok (.iload_n 1, 1) := by decide +kernel
theorem dX3_restore_96 : decode cX3_restore 96 = .ok (.aload_n 0, 1) := by decide +kernel
theorem dX3_restore_97 : decode cX3_restore 97 = .ok (.getfield 44, 3) := by decide +kernel
theorem dX3_restore_100 : decode cX3_restore 100 = .ok (.iload_n 1, 1) := by decide +kernel
theorem dX3_restore_101 : decode cX3_restore 101 = .ok (.iaload, 1) := by decide +kernel
theorem dX3_restore_102 : decode cX3_restore 102 = .ok (.iastore, 1) := by decide +kernel
theorem dX3_restore_103 : decode cX3_restore 103 = .ok (.iinc 1 1, 3) := by decide +kernel
theorem dX3_restore_106 : decode cX3_restore 106 = .ok (.goto (-33), 3) := by decide +kernel
theorem dX3_restore_109 : decode cX3_restore 109 = .ok (.iconst 0, 1) := by decide +kernel
theorem dX3_restore_110 : decode cX3_restore 110 = .ok (.istore_n 1, 1) := by decide +kernel
theorem dX3_restore_111 : decode cX3_restore 111 = .ok (.iload_n 1, 1) := by decide +kernel
theorem dX3_restore_112 : decode cX3_restore 112 = .ok (.bipush 8, 2) := by decide +kernel
theorem dX3_restore_114 : decode cX3_restore 114 = .ok (.if_icmp .ge 45, 3) := by decide +kernel
theorem dX3_restore_117 : decode cX3_restore 117 = .ok (.aload_n 0, 1) := by decide +kernel
theorem dX3_restore_118 : decode cX3_restore 118 = .ok (.getfield 25, 3) := by decide +kernel
theorem dX3_restore_121 : decode cX3_restore 121 = .ok (.iload_n 1, 1) := by decide +kernel
theorem dX3_restore_122 : decode cX3_restore 122 = .ok (.aload_n 0, 1) := by decide +kernel
theorem dX3_restore_123 : decode cX3_restore 123 = .ok (.getfield 47, 3) := by decide +kernel
theorem dX3_restore_126 : decode cX3_restore 126 = .ok (.iload_n 1, 1) := by decide +kernel
theorem dX3_restore_127 : decode cX3_restore 127 = .ok (.iaload, 1) := by decide +kernel
theorem dX3_restore_128 : decode cX3_restore 128 = .ok (.iastore, 1) := by decide +kernel
theorem dX3_restore_129 : decode cX3_restore 129 = .ok (.aload_n 0, 1) := by decide +kernel
theorem dX3_restore_130 : decode cX3_restore 130 = .ok (.getfield 28, 3) := by decide +kernel
theorem dX3_restore_133 : decode cX3_restore 133 = .ok (.iload_n 1, 1) := by decide +kernel
theorem dX3_restore_134 : decode cX3_restore 134 = .ok (.aload_n 0, 1) := by decide +kernel
theorem dX3_restore_135 : decode cX3_restore 135 = .ok (.getfield 50, 3) := by decide +kernel
theorem dX3_restore_138 : decode cX3_restore 138 = .ok (.iload_n 1, 1) := by decide +kernel
theorem dX3_restore_139 : decode cX3_restore 139 = .ok (.iaload, 1) := by decide +kernel
theorem dX3_restore_140 : decode cX3_restore 140 = .ok (.iastore, 1) := by decide +kernel
theorem dX3_restore_141 : decode cX3_restore 141 = .ok (.aload_n 0, 1) := by decide +kernel
theorem dX3_restore_142 : decode cX3_restore 142 = .ok (.getfield 31, 3) := by decide +kernel
theorem dX3_restore_145 : decode cX3_restore 145 = .ok (.iload_n 1, 1) := by decide +kernel
theorem dX3_restore_146 : decode cX3_restore 146 = .ok (.aload_n 0, 1) := by decide +kernel
theorem dX3_restore_147 : decode cX3_restore 147 = .ok (.getfield 53, 3) := by decide +kernel
theorem dX3_restore_150 : decode cX3_restore 150 = .ok (.iload_n 1, 1) := by decide +kernel
theorem dX3_restore_151 : decode cX3_restore 151 = .ok (.iaload, 1) := by decide +kernel
theorem dX3_restore_152 : decode cX3_restore 152 = .ok (.iastore, 1) := by decide +kernel
theorem dX3_restore_153 : decode cX3_restore 153 = .ok (.iinc 1 1, 3) := by decide +kernel
theorem dX3_restore_156 : decode cX3_restore 156 = .ok (.goto (-45), 3) := by decide +kernel
theorem dX3_restore_159 : decode cX3_restore 159 = .ok (.aload_n 0, 1) := by decide +kernel
theorem dX3_restore_160 : decode cX3_restore 160 = .ok (.getfield 82, 3) := by decide +kernel
theorem dX3_restore_163 : decode cX3_restore 163 = .ok (.ireturn, 1) := by decide +kernel
set_option maxRecDepth 20000 in
theorem ggX3_agreeingDrawers_X3_anyLaid : GoodIn wsX3_agreeingDrawers wsX3_anyLaid := goodIn_r _ [7, 8, 9, 10, 6, 11, 12, 13, 14, 15, 16, 17, 18, 19, 20, 21, 22, 23, 24, 25, 26, 27, 28, 29, 30, 31, 32, 33, 34, 35, 36, 37, 38, 39, 40, 41, 42, 43, 44, 45, 46, 47, 48, 49, 50, 51, 52, 53, 54, 55, 56, 57, 58, 59, 60] (by decide +kernel) (by decide +kernel)
set_option maxRecDepth 20000 in
theorem gX3_agreeingDrawers_X3_anyLaid : GoodIn wsX3_agreeingDrawers (wsV RX3 181 RX3 yX3_anyLaid wsX3_anyLaid) := goodIn_app (goodIn_of _ (by decide +kernel)) ggX3_agreeingDrawers_X3_anyLaid
theorem dX3_agreeingDrawers_0 : decode cX3_agreeingDrawers 0 = .ok (.iconst 0, 1) := by decide +kernel
theorem dX3_agreeingDrawers_1 : decode cX3_agreeingDrawers 1 = .ok (.istore_n 1, 1) := by decide +kernel
theorem dX3_agreeingDrawers_2 : decode cX3_agreeingDrawers 2 = .ok (.iconst 0, 1) := by decide +kernel
theorem dX3_agreeingDrawers_3 : decode cX3_agreeingDrawers 3 = .ok (.istore_n 2, 1) := by decide +kernel
theorem dX3_agreeingDrawers_4 : decode cX3_agreeingDrawers 4 = .ok (.iload_n 2, 1) := by decide +kernel
theorem dX3_agreeingDrawers_5 : decode cX3_agreeingDrawers 5 = .ok (.bipush 9, 2) := by decide +kernel
theorem dX3_agreeingDrawers_7 : decode cX3_agreeingDrawers 7 = .ok (.if_icmp .ge 38, 3) := by decide +kernel
theorem dX3_agreeingDrawers_10 : decode cX3_agreeingDrawers 10 = .ok (.aload_n 0, 1) := by decide +kernel
theorem dX3_agreeingDrawers_11 : decode cX3_agreeingDrawers 11 = .ok (.getfield 75, 3) := by decide +kernel
theorem dX3_agreeingDrawers_14 : decode cX3_agreeingDrawers 14 = .ok (.ifCond .eq 31, 3) := by decide +kernel
theorem dX3_agreeingDrawers_17 : decode cX3_agreeingDrawers 17 = .ok (.iload_n 1, 1) := by decide +kernel
theorem dX3_agreeingDrawers_18 : decode cX3_agreeingDrawers 18 = .ok (.aload_n 0, 1) := by decide +kernel
theorem dX3_agreeingDrawers_19 : decode cX3_agreeingDrawers 19 = .ok (.iload_n 2, 1) := by decide +kernel
theorem dX3_agreeingDrawers_20 : decode cX3_agreeingDrawers 20 = .ok (.aload_n 0, 1) := by decide +kernel
theorem dX3_agreeingDrawers_21 : decode cX3_agreeingDrawers 21 = .ok (.getfield 13, 3) := by decide +kernel
theorem dX3_agreeingDrawers_24 : decode cX3_agreeingDrawers 24 = .ok (.iload_n 2, 1) := by decide +kernel
theorem dX3_agreeingDrawers_25 : decode cX3_agreeingDrawers 25 = .ok (.iaload, 1) := by decide +kernel
theorem dX3_agreeingDrawers_26 : decode cX3_agreeingDrawers 26 = .ok (.invokevirtual 181, 3) := by decide +kernel
theorem dX3_agreeingDrawers_29 : decode cX3_agreeingDrawers 29 = .ok (.ifCond .eq 7, 3) := by decide +kernel
theorem dX3_agreeingDrawers_32 : decode cX3_agreeingDrawers 32 = .ok (.iconst 1, 1) := by decide +kernel
theorem dX3_agreeingDrawers_33 : decode cX3_agreeingDrawers 33 = .ok (.goto 4, 3) := by decide +kernel
theorem dX3_agreeingDrawers_36 : decode cX3_agreeingDrawers 36 = .ok (.iconst 0, 1) := by decide +kernel
theorem dX3_agreeingDrawers_37 : decode cX3_agreeingDrawers 37 = .ok (.iadd, 1) := by decide +kernel
theorem dX3_agreeingDrawers_38 : decode cX3_agreeingDrawers 38 = .ok (.istore_n 1, 1) := by decide +kernel
theorem dX3_agreeingDrawers_39 : decode cX3_agreeingDrawers 39 = .ok (.iinc 2 1, 3) := by decide +kernel
theorem dX3_agreeingDrawers_42 : decode cX3_agreeingDrawers 42 = .ok (.goto (-38), 3) := by decide +kernel
theorem dX3_agreeingDrawers_45 : decode cX3_agreeingDrawers 45 = .ok (.iload_n 1, 1) := by decide +kernel
theorem dX3_agreeingDrawers_46 : decode cX3_agreeingDrawers 46 = .ok (.ireturn, 1) := by decide +kernel
set_option maxRecDepth 20000 in
theorem ggX3_laidAll_X3_size : GoodIn wsX3_laidAll wsX3_size := goodIn_r _ [5] (by decide +kernel) (by decide +kernel)
set_option maxRecDepth 20000 in
theorem gX3_laidAll_X3_size : GoodIn wsX3_laidAll (va_wsS RX3 141 yX3_size wsX3_size) := goodIn_app (goodIn_of _ (by decide +kernel)) ggX3_laidAll_X3_size
theorem dX3_laidAll_0 : decode cX3_laidAll 0 = .ok (.iconst 0, 1) := by decide +kernel
theorem dX3_laidAll_1 : decode cX3_laidAll 1 = .ok (.istore_n 1, 1) := by decide +kernel
theorem dX3_laidAll_2 : decode cX3_laidAll 2 = .ok (.iconst 0, 1) := by decide +kernel
theorem dX3_laidAll_3 : decode cX3_laidAll 3 = .ok (.istore_n 2, 1) := by decide +kernel
theorem dX3_laidAll_4 : decode cX3_laidAll 4 = .ok (.iload_n 2, 1) := by decide +kernel
theorem dX3_laidAll_5 : decode cX3_laidAll 5 = .ok (.bipush 9, 2) := by decide +kernel
theorem dX3_laidAll_7 : decode cX3_laidAll 7 = .ok (.if_icmp .ge 21, 3) := by decide +kernel
theorem dX3_laidAll_10 : decode cX3_laidAll 10 = .ok (.iload_n 1, 1) := by decide +kernel
theorem dX3_laidAll_11 : decode cX3_laidAll 11 = .ok (.aload_n 0, 1) := by decide +kernel
theorem dX3_laidAll_12 : decode cX3_laidAll 12 = .ok (.getfield 13, 3) := by decide +kernel
theorem dX3_laidAll_15 : decode cX3_laidAll 15 = .ok (.iload_n 2, 1) := by decide +kernel
theorem dX3_laidAll_16 : decode cX3_laidAll 16 = .ok (.iaload, 1) := by decide +kernel
theorem dX3_laidAll_17 : decode cX3_laidAll 17 = .ok (.invokestatic 141, 3) := by decide +kernel
theorem dX3_laidAll_20 : decode cX3_laidAll 20 = .ok (.iadd, 1) := by decide +kernel
theorem dX3_laidAll_21 : decode cX3_laidAll 21 = .ok (.istore_n 1, 1) := by decide +kernel
theorem dX3_laidAll_22 : decode cX3_laidAll 22 = .ok (.iinc 2 1, 3) := by decide +kernel
theorem dX3_laidAll_25 : decode cX3_laidAll 25 = .ok (.goto (-21), 3) := by decide +kernel
theorem dX3_laidAll_28 : decode cX3_laidAll 28 = .ok (.iload_n 1, 1) := by decide +kernel
theorem dX3_laidAll_29 : decode cX3_laidAll 29 = .ok (.ireturn, 1) := by decide +kernel
set_option maxRecDepth 20000 in
theorem ggX3_howMany_X3_agreeingDrawers : GoodIn wsX3_howMany wsX3_agreeingDrawers := goodIn_r _ [11, 12, 13, 14, 15, 16, 10, 17, 18, 19, 20, 21, 1, 22, 23, 24, 25, 26, 27, 28, 29, 30, 2, 31, 32, 33, 34, 35, 36, 37, 38, 39, 47, 48, 49, 50, 51, 52, 53, 54, 55, 56, 57, 58, 59, 60, 61, 62, 63, 64, 65, 66, 67, 68, 69, 70, 71, 72, 73, 74, 75] (by decide +kernel) (by decide +kernel)
set_option maxRecDepth 20000 in
theorem gX3_howMany_X3_agreeingDrawers : GoodIn wsX3_howMany (wsV RX3 202 RX3 yX3_agreeingDrawers wsX3_agreeingDrawers) := goodIn_app (goodIn_of _ (by decide +kernel)) ggX3_howMany_X3_agreeingDrawers
set_option maxRecDepth 20000 in
theorem ggX3_howMany_X3_laidAll : GoodIn wsX3_howMany wsX3_laidAll := goodIn_r _ [43, 13, 44, 45, 10, 46, 47, 48, 49, 50, 51, 52, 53, 54, 55, 56, 57, 58, 59, 60, 61, 62, 63, 64, 65, 66, 67, 68, 69, 70, 71, 72, 73, 74, 75] (by decide +kernel) (by decide +kernel)
set_option maxRecDepth 20000 in
theorem gX3_howMany_X3_laidAll : GoodIn wsX3_howMany (wsV RX3 205 RX3 yX3_laidAll wsX3_laidAll) := goodIn_app (goodIn_of _ (by decide +kernel)) ggX3_howMany_X3_laidAll
theorem dX3_howMany_0 : decode cX3_howMany 0 = .ok (.iload_n 1, 1) := by decide +kernel
theorem dX3_howMany_1 : decode cX3_howMany 1 = .ok (.tableswitch 87 0 7 #[47, 52, 57, 62, 67, 72, 77, 82], 47) := by decide +kernel
theorem dX3_howMany_48 : decode cX3_howMany 48 = .ok (.aload_n 0, 1) := by decide +kernel
theorem dX3_howMany_49 : decode cX3_howMany 49 = .ok (.invokevirtual 202, 3) := by decide +kernel
theorem dX3_howMany_52 : decode cX3_howMany 52 = .ok (.ireturn, 1) := by decide +kernel
theorem dX3_howMany_53 : decode cX3_howMany 53 = .ok (.aload_n 0, 1) := by decide +kernel
theorem dX3_howMany_54 : decode cX3_howMany 54 = .ok (.getfield 72, 3) := by decide +kernel
theorem dX3_howMany_57 : decode cX3_howMany 57 = .ok (.ireturn, 1) := by decide +kernel
theorem dX3_howMany_58 : decode cX3_howMany 58 = .ok (.aload_n 0, 1) := by decide +kernel
theorem dX3_howMany_59 : decode cX3_howMany 59 = .ok (.getfield 82, 3) := by decide +kernel
theorem dX3_howMany_62 : decode cX3_howMany 62 = .ok (.ireturn, 1) := by decide +kernel
theorem dX3_howMany_63 : decode cX3_howMany 63 = .ok (.aload_n 0, 1) := by decide +kernel
theorem dX3_howMany_64 : decode cX3_howMany 64 = .ok (.invokevirtual 205, 3) := by decide +kernel
theorem dX3_howMany_67 : decode cX3_howMany 67 = .ok (.ireturn, 1) := by decide +kernel
theorem dX3_howMany_68 : decode cX3_howMany 68 = .ok (.aload_n 0, 1) := by decide +kernel
theorem dX3_howMany_69 : decode cX3_howMany 69 = .ok (.getfield 85, 3) := by decide +kernel
theorem dX3_howMany_72 : decode cX3_howMany 72 = .ok (.ireturn, 1) := by decide +kernel
theorem dX3_howMany_73 : decode cX3_howMany 73 = .ok (.aload_n 0, 1) := by decide +kernel
theorem dX3_howMany_74 : decode cX3_howMany 74 = .ok (.getfield 60, 3) := by decide +kernel
theorem dX3_howMany_77 : decode cX3_howMany 77 = .ok (.ireturn, 1) := by decide +kernel
theorem dX3_howMany_78 : decode cX3_howMany 78 = .ok (.aload_n 0, 1) := by decide +kernel
theorem dX3_howMany_79 : decode cX3_howMany 79 = .ok (.getfield 79, 3) := by decide +kernel
theorem dX3_howMany_82 : decode cX3_howMany 82 = .ok (.ireturn, 1) := by decide +kernel
theorem dX3_howMany_83 : decode cX3_howMany 83 = .ok (.aload_n 0, 1) := by decide +kernel
theorem dX3_howMany_84 : decode cX3_howMany 84 = .ok (.getfield 147, 3) := by decide +kernel
theorem dX3_howMany_87 : decode cX3_howMany 87 = .ok (.ireturn, 1) := by decide +kernel
theorem dX3_howMany_88 : decode cX3_howMany 88 = .ok (.bipush (-102), 2) := by decide +kernel
theorem dX3_howMany_90 : decode cX3_howMany 90 = .ok (.ireturn, 1) := by decide +kernel
set_option maxRecDepth 20000 in
theorem ggX3_count_X3_howMany : GoodIn wsX3_count wsX3_howMany := goodIn_r _ [5, 6, 7, 8, 9, 10, 11, 12, 13, 14, 4, 15, 16, 17, 18, 19, 20, 21, 22, 23, 24, 25, 26, 27, 28, 29, 30, 31, 32, 33, 34, 35, 36, 37, 38, 39, 40, 41, 42, 43, 44, 45, 46, 47, 48, 49, 50, 51, 52, 53, 54, 55, 56, 57, 58, 59, 60, 61, 62, 63, 64, 65, 66, 67, 68, 69, 70, 71, 72, 73, 74, 75, 76, 77, 78, 79] (by decide +kernel) (by decide +kernel)
set_option maxRecDepth 20000 in
theorem gX3_count_X3_howMany : GoodIn wsX3_count (wsV RX3 208 RX3 yX3_howMany wsX3_howMany) := goodIn_app (goodIn_of _ (by decide +kernel)) ggX3_count_X3_howMany
theorem dX3_count_0 : decode cX3_count 0 = .ok (.aload_n 0, 1) := by decide +kernel
theorem dX3_count_1 : decode cX3_count 1 = .ok (.iload_n 1, 1) := by decide +kernel
theorem dX3_count_2 : decode cX3_count 2 = .ok (.invokevirtual 208, 3) := by decide +kernel
theorem dX3_count_5 : decode cX3_count 5 = .ok (.ireturn, 1) := by decide +kernel
theorem dX3_mix_0 : decode cX3_mix 0 = .ok (.aload_n 0, 1) := by decide +kernel
theorem dX3_mix_1 : decode cX3_mix 1 = .ok (.ldc2_w 211, 3) := by decide +kernel
theorem dX3_mix_4 : decode cX3_mix 4 = .ok (.aload_n 0, 1) := by decide +kernel
theorem dX3_mix_5 : decode cX3_mix 5 = .ok (.getfield 213, 3) := by decide +kernel
theorem dX3_mix_8 : decode cX3_mix 8 = .ok (.lmul, 1) := by decide +kernel
theorem dX3_mix_9 : decode cX3_mix 9 = .ok (.lload_n 1, 1) := by decide +kernel
theorem dX3_mix_10 : decode cX3_mix 10 = .ok (.ladd, 1) := by decide +kernel
theorem dX3_mix_11 : decode cX3_mix 11 = .ok (.putfield 213, 3) := by decide +kernel
theorem dX3_mix_14 : decode cX3_mix 14 = .ok (.return_, 1) := by decide +kernel
set_option maxRecDepth 20000 in
theorem ggX3_mixDrawer_X3_drawerNow : GoodIn wsX3_mixDrawer wsX3_drawerNow := goodIn_r _ [5, 6, 7, 8, 9, 10, 4, 11, 12, 13, 14, 15, 16, 17, 18, 19, 20, 21, 22, 23, 24, 25, 26, 27, 28, 29, 30, 31, 32, 33, 34, 35, 36, 37, 38, 39, 40, 41, 42, 43, 44, 45, 46, 47, 48, 49, 50, 77, 78, 79, 80, 81, 82, 83, 84, 85, 86, 87, 88, 89, 90, 91, 92, 93, 94, 95, 96, 97, 98, 99, 100, 101, 102, 103, 104, 105] (by decide +kernel) (by decide +kernel)
set_option maxRecDepth 20000 in
theorem gX3_mixDrawer_X3_drawerNow : GoodIn wsX3_mixDrawer (wsV RX3 126 RX3 yX3_drawerNow wsX3_drawerNow) := goodIn_app (goodIn_of _ (by decide +kernel)) ggX3_mixDrawer_X3_drawerNow
set_option maxRecDepth 20000 in
theorem ggX3_mixDrawer_X3_mix : GoodIn wsX3_mixDrawer wsX3_mix := goodIn_r _ [54, 55, 56, 77, 78, 79, 80, 81, 82, 83, 84, 85, 86, 87, 88, 89, 90, 91, 92, 93, 94, 95, 96, 97, 98, 99, 100, 101, 102, 103, 104, 105] (by decide +kernel) (by decide +kernel)
set_option maxRecDepth 20000 in
theorem gX3_mixDrawer_X3_mix : GoodIn wsX3_mixDrawer (wsV RX3 216 RX3 yX3_mix wsX3_mix) := goodIn_app (goodIn_of _ (by decide +kernel)) ggX3_mixDrawer_X3_mix
set_option maxRecDepth 20000 in
theorem ggX3_mixDrawer_X3_sureNow : GoodIn wsX3_mixDrawer wsX3_sureNow := goodIn_r _ [60, 23, 24, 25, 4, 26, 7, 8, 9, 10, 11, 12, 6, 27, 28, 29, 30, 31, 32, 33, 34, 17, 18, 35, 36, 37, 38, 39, 40, 41, 42, 77, 78, 79, 80, 81, 82, 83, 84, 85, 86, 87, 88, 89, 90, 91, 92, 93, 94, 95, 96, 97, 98, 99, 100, 101, 102, 103, 104, 105] (by decide +kernel) (by decide +kernel)
set_option maxRecDepth 20000 in
theorem gX3_mixDrawer_X3_sureNow : GoodIn wsX3_mixDrawer (wsV RX3 138 RX3 yX3_sureNow wsX3_sureNow) := goodIn_app (goodIn_of _ (by decide +kernel)) ggX3_mixDrawer_X3_sureNow
set_option maxRecDepth 20000 in
theorem ggX3_mixDrawer_X3_delaysOf : GoodIn wsX3_mixDrawer wsX3_delaysOf := goodIn_r _ [64, 65, 66, 67, 4, 68, 7, 69, 70, 71, 72, 73, 74, 75, 76, 27, 28, 29, 30, 31, 32, 33, 34, 17, 18, 35, 36, 37, 38, 39, 40, 41, 42, 77, 78, 79, 80, 81, 82, 83, 84, 85, 86, 87, 88, 89, 90, 91, 92, 93, 94, 95, 96, 97, 98, 99, 100, 101, 102, 103, 104, 105] (by decide +kernel) (by decide +kernel)
set_option maxRecDepth 20000 in
theorem gX3_mixDrawer_X3_delaysOf : GoodIn wsX3_mixDrawer (wsV RX3 160 RX3 yX3_delaysOf wsX3_delaysOf) := goodIn_app (goodIn_of _ (by decide +kernel)) ggX3_mixDrawer_X3_delaysOf
theorem dX3_mixDrawer_0 : decode cX3_mixDrawer 0 = .ok (.iconst 0, 1) := by decide +kernel
theorem dX3_mixDrawer_1 : decode cX3_mixDrawer 1 = .ok (.istore_n 2, 1) := by decide +kernel
theorem dX3_mixDrawer_2 : decode cX3_mixDrawer 2 = .ok (.iload_n 2, 1) := by decide +kernel
theorem dX3_mixDrawer_3 : decode cX3_mixDrawer 3 = .ok (.bipush 7, 2) := by decide +kernel
theorem dX3_mixDrawer_5 : decode cX3_mixDrawer 5 = .ok (.if_icmp .ge 20, 3) := by decide +kernel
theorem dX3_mixDrawer_8 : decode cX3_mixDrawer 8 = .ok (.aload_n 0, 1) := by decide +kernel
theorem dX3_mixDrawer_9 : decode cX3_mixDrawer 9 = .ok (.aload_n 0, 1) := by decide +kernel
theorem dX3_mixDrawer_10 : decode cX3_mixDrawer 10 = .ok (.iload_n 1, 1) := by decide +kernel
theorem dX3_mixDrawer_11 : decode cX3_mixDrawer 11 = .ok (.iload_n 2, 1) := by decide +kernel
theorem dX3_mixDrawer_12 : decode cX3_mixDrawer 12 = .ok (.invokevirtual 126, 3) := by decide +kernel
theorem dX3_mixDrawer_15 : decode cX3_mixDrawer 15 = .ok (.i2l, 1) := by decide +kernel
theorem dX3_mixDrawer_16 : decode cX3_mixDrawer 16 = .ok (.invokevirtual 216, 3) := by decide +kernel
theorem dX3_mixDrawer_19 : decode cX3_mixDrawer 19 = .ok (.iinc 2 1, 3) := by decide +kernel
theorem dX3_mixDrawer_22 : decode cX3_mixDrawer 22 = .ok (.goto (-20), 3) := by decide +kernel
theorem dX3_mixDrawer_25 : decode cX3_mixDrawer 25 = .ok (.iconst 0, 1) := by decide +kernel
theorem dX3_mixDrawer_26 : decode cX3_mixDrawer 26 = .ok (.istore_n 2, 1) := by decide +kernel
theorem dX3_mixDrawer_27 : decode cX3_mixDrawer 27 = .ok (.iload_n 2, 1) := by decide +kernel
theorem dX3_mixDrawer_28 : decode cX3_mixDrawer 28 = .ok (.bipush 7, 2) := by decide +kernel
theorem dX3_mixDrawer_30 : decode cX3_mixDrawer 30 = .ok (.if_icmp .ge 20, 3) := by decide +kernel
theorem dX3_mixDrawer_33 : decode cX3_mixDrawer 33 = .ok (.aload_n 0, 1) := by decide +kernel
theorem dX3_mixDrawer_34 : decode cX3_mixDrawer 34 = .ok (.aload_n 0, 1) := by decide +kernel
theorem dX3_mixDrawer_35 : decode cX3_mixDrawer 35 = .ok (.iload_n 1, 1) := by decide +kernel
theorem dX3_mixDrawer_36 : decode cX3_mixDrawer 36 = .ok (.iload_n 2, 1) := by decide +kernel
theorem dX3_mixDrawer_37 : decode cX3_mixDrawer 37 = .ok (.invokevirtual 138, 3) := by decide +kernel
theorem dX3_mixDrawer_40 : decode cX3_mixDrawer 40 = .ok (.i2l, 1) := by decide +kernel
theorem dX3_mixDrawer_41 : decode cX3_mixDrawer 41 = .ok (.invokevirtual 216, 3) := by decide +kernel
theorem dX3_mixDrawer_44 : decode cX3_mixDrawer 44 = .ok (.iinc 2 1, 3) := by decide +kernel
theorem dX3_mixDrawer_47 : decode cX3_mixDrawer 47 = .ok (.goto (-20), 3) := by decide +kernel
theorem dX3_mixDrawer_50 : decode cX3_mixDrawer 50 = .ok (.aload_n 0, 1) := by decide +kernel
theorem dX3_mixDrawer_51 : decode cX3_mixDrawer 51 = .ok (.aload_n 0, 1) := by decide +kernel
theorem dX3_mixDrawer_52 : decode cX3_mixDrawer 52 = .ok (.iload_n 1, 1) := by decide +kernel
theorem dX3_mixDrawer_53 : decode cX3_mixDrawer 53 = .ok (.invokevirtual 160, 3) := by decide +kernel
theorem dX3_mixDrawer_56 : decode cX3_mixDrawer 56 = .ok (.i2l, 1) := by decide +kernel
theorem dX3_mixDrawer_57 : decode cX3_mixDrawer 57 = .ok (.invokevirtual 216, 3) := by decide +kernel
theorem dX3_mixDrawer_60 : decode cX3_mixDrawer 60 = .ok (.return_, 1) := by decide +kernel
set_option maxRecDepth 20000 in
theorem ggX3_digest_X3_mixDrawer : GoodIn wsX3_digest wsX3_mixDrawer := goodIn_r _ [11, 12, 13, 14, 10, 15, 16, 17, 18, 19, 20, 21, 22, 23, 24, 25, 26, 4, 27, 28, 29, 30, 31, 32, 33, 34, 35, 36, 37, 38, 39, 40, 41, 42, 43, 44, 45, 46, 47, 48, 49, 50, 51, 52, 53, 54, 55, 56, 57, 58, 59, 60, 61, 62, 63, 64, 2, 65, 66, 67, 68, 69, 70, 71, 72, 73, 74, 75, 76, 77, 78, 79, 80, 81, 82, 83, 84, 114, 115, 116, 117, 118, 119, 120, 121, 122, 123, 124, 125, 126, 127, 128, 129, 130, 131, 132, 133, 134, 135, 136, 137, 138, 139, 140, 141, 142] (by decide +kernel) (by decide +kernel)
set_option maxRecDepth 20000 in
theorem gX3_digest_X3_mixDrawer : GoodIn wsX3_digest (wsV RX3 222 RX3 yX3_mixDrawer wsX3_mixDrawer) := goodIn_app (goodIn_of _ (by decide +kernel)) ggX3_digest_X3_mixDrawer
set_option maxRecDepth 20000 in
theorem ggX3_digest_X3_personNow : GoodIn wsX3_digest wsX3_personNow := goodIn_r _ [88, 44, 45, 27, 49, 50, 10, 51, 114, 115, 116, 117, 118, 119, 120, 121, 122, 123, 124, 125, 126, 127, 128, 129, 130, 131, 132, 133, 134, 135, 136, 137, 138, 139, 140, 141, 142] (by decide +kernel) (by decide +kernel)
set_option maxRecDepth 20000 in
theorem gX3_digest_X3_personNow : GoodIn wsX3_digest (wsV RX3 135 RX3 yX3_personNow wsX3_personNow) := goodIn_app (goodIn_of _ (by decide +kernel)) ggX3_digest_X3_personNow
set_option maxRecDepth 20000 in
theorem ggX3_digest_X3_mix : GoodIn wsX3_digest wsX3_mix := goodIn_r _ [63, 64, 2, 114, 115, 116, 117, 118, 119, 120, 121, 122, 123, 124, 125, 126, 127, 128, 129, 130, 131, 132, 133, 134, 135, 136, 137, 138, 139, 140, 141, 142] (by decide +kernel) (by decide +kernel)
set_option maxRecDepth 20000 in
theorem gX3_digest_X3_mix : GoodIn wsX3_digest (wsV RX3 216 RX3 yX3_mix wsX3_mix) := goodIn_app (goodIn_of _ (by decide +kernel)) ggX3_digest_X3_mix
set_option maxRecDepth 20000 in
theorem ggX3_digest_X3_whoNow : GoodIn wsX3_digest wsX3_whoNow := goodIn_r _ [92, 44, 45, 27, 18, 19, 20, 10, 21, 22, 16, 73, 74, 75, 76, 17, 77, 78, 79, 80, 81, 82, 83, 84, 36, 37, 38, 39, 40, 41, 42, 43, 4, 46, 47, 48, 49, 50, 51, 114, 115, 116, 117, 118, 119, 120, 121, 122, 123, 124, 125, 126, 127, 128, 129, 130, 131, 132, 133, 134, 135, 136, 137, 138, 139, 140, 141, 142] (by decide +kernel) (by decide +kernel)
set_option maxRecDepth 20000 in
theorem gX3_digest_X3_whoNow : GoodIn wsX3_digest (wsV RX3 163 RX3 yX3_whoNow wsX3_whoNow) := goodIn_app (goodIn_of _ (by decide +kernel)) ggX3_digest_X3_whoNow
set_option maxRecDepth 20000 in
theorem ggX3_digest_X3_howMany : GoodIn wsX3_digest wsX3_howMany := goodIn_r _ [96, 22, 4, 81, 5, 97, 98, 99, 100, 101, 10, 102, 3, 17, 103, 104, 105, 106, 18, 19, 20, 21, 16, 36, 37, 38, 39, 40, 41, 42, 43, 27, 44, 45, 46, 47, 48, 49, 50, 51, 107, 108, 109, 110, 111, 112, 113, 114, 115, 116, 117, 118, 119, 120, 121, 122, 123, 124, 125, 126, 127, 128, 129, 130, 131, 132, 133, 134, 135, 136, 137, 138, 139, 140, 141, 142] (by decide +kernel) (by decide +kernel)
set_option maxRecDepth 20000 in
theorem gX3_digest_X3_howMany : GoodIn wsX3_digest (wsV RX3 208 RX3 yX3_howMany wsX3_howMany) := goodIn_app (goodIn_of _ (by decide +kernel)) ggX3_digest_X3_howMany
theorem dX3_digest_0 : decode cX3_digest 0 = .ok (.aload_n 0, 1) := by decide +kernel
theorem dX3_digest_1 : decode cX3_digest 1 = .ok (.ldc2_w 220, 3) := by decide +kernel
theorem dX3_digest_4 : decode cX3_digest 4 = .ok (.putfield 213, 3) := by decide +kernel
theorem dX3_digest_7 : decode cX3_digest 7 = .ok (.iconst 0, 1) := by decide +kernel
theorem dX3_digest_8 : decode cX3_digest 8 = .ok (.istore_n 1, 1) := by decide +kernel
theorem dX3_digest_9 : decode cX3_digest 9 = .ok (.iload_n 1, 1) := by decide +kernel
theorem dX3_digest_10 : decode cX3_digest 10 = .ok (.bipush 9, 2) := by decide +kernel
theorem dX3_digest_12 : decode cX3_digest 12 = .ok (.if_icmp .ge 21, 3) := by decide +kernel
theorem dX3_digest_15 : decode cX3_digest 15 = .ok (.aload_n 0, 1) := by decide +kernel
theorem dX3_digest_16 : decode cX3_digest 16 = .ok (.getfield 75, 3) := by decide +kernel
theorem dX3_digest_19 : decode cX3_digest 19 = .ok (.ifCond .eq 14, 3) := by decide +kernel
theorem dX3_digest_22 : decode cX3_digest 22 = .ok (.aload_n 0, 1) := by decide +kernel
theorem dX3_digest_23 : decode cX3_digest 23 = .ok (.iload_n 1, 1) := by decide +kernel
theorem dX3_digest_24 : decode cX3_digest 24 = .ok (.invokevirtual 222, 3) := by decide +kernel
theorem dX3_digest_27 : decode cX3_digest 27 = .ok (.iinc 1 1, 3) := by decide +kernel
theorem dX3_digest_30 : decode cX3_digest 30 = .ok (.goto (-21), 3) := by decide +kernel
theorem dX3_digest_33 : decode cX3_digest 33 = .ok (.iconst 0, 1) := by decide +kernel
theorem dX3_digest_34 : decode cX3_digest 34 = .ok (.istore_n 1, 1) := by decide +kernel
theorem dX3_digest_35 : decode cX3_digest 35 = .ok (.iload_n 1, 1) := by decide +kernel
theorem dX3_digest_36 : decode cX3_digest 36 = .ok (.aload_n 0, 1) := by decide +kernel
theorem dX3_digest_37 : decode cX3_digest 37 = .ok (.getfield 82, 3) := by decide +kernel
theorem dX3_digest_40 : decode cX3_digest 40 = .ok (.if_icmp .ge 55, 3) := by decide +kernel
theorem dX3_digest_43 : decode cX3_digest 43 = .ok (.iconst 0, 1) := by decide +kernel
theorem dX3_digest_44 : decode cX3_digest 44 = .ok (.istore_n 2, 1) := by decide +kernel
theorem dX3_digest_45 : decode cX3_digest 45 = .ok (.iload_n 2, 1) := by decide +kernel
theorem dX3_digest_46 : decode cX3_digest 46 = .ok (.iconst 3, 1) := by decide +kernel
theorem dX3_digest_47 : decode cX3_digest 47 = .ok (.if_icmp .ge 20, 3) := by decide +kernel
theorem dX3_digest_50 : decode cX3_digest 50 = .ok (.aload_n 0, 1) := by decide +kernel
theorem dX3_digest_51 : decode cX3_digest 51 = .ok (.aload_n 0, 1) := by decide +kernel
theorem dX3_digest_52 : decode cX3_digest 52 = .ok (.iload_n 1, 1) := by decide +kernel
theorem dX3_digest_53 : decode cX3_digest 53 = .ok (.iload_n 2, 1) := by decide +kernel
theorem dX3_digest_54 : decode cX3_digest 54 = .ok (.invokevirtual 135, 3) := by decide +kernel
theorem dX3_digest_57 : decode cX3_digest 57 = .ok (.i2l, 1) := by decide +kernel
theorem dX3_digest_58 : decode cX3_digest 58 = .ok (.invokevirtual 216, 3) := by decide +kernel
theorem dX3_digest_61 : decode cX3_digest 61 = .ok (.iinc 2 1, 3) := by decide +kernel
theorem dX3_digest_64 : decode cX3_digest 64 = .ok (.goto (-19), 3) := by decide +kernel
theorem dX3_digest_67 : decode cX3_digest 67 = .ok (.aload_n 0, 1) := by decide +kernel
theorem dX3_digest_68 : decode cX3_digest 68 = .ok (.aload_n 0, 1) := by decide +kernel
theorem dX3_digest_69 : decode cX3_digest 69 = .ok (.iload_n 1, 1) := by decide +kernel
theorem dX3_digest_70 : decode cX3_digest 70 = .ok (.iconst 0, 1) := by decide +kernel
theorem dX3_digest_71 : decode cX3_digest 71 = .ok (.invokevirtual 163, 3) := by decide +kernel
theorem dX3_digest_74 : decode cX3_digest 74 = .ok (.i2l, 1) := by decide +kernel
theorem dX3_digest_75 : decode cX3_digest 75 = .ok (.invokevirtual 216, 3) := by decide +kernel
theorem dX3_digest_78 : decode cX3_digest 78 = .ok (.aload_n 0, 1) := by decide +kernel
theorem dX3_digest_79 : decode cX3_digest 79 = .ok (.aload_n 0, 1) := by decide +kernel
theorem dX3_digest_80 : decode cX3_digest 80 = .ok (.iload_n 1, 1) := by decide +kernel
theorem dX3_digest_81 : decode cX3_digest 81 = .ok (.iconst 1, 1) := by decide +kernel
theorem dX3_digest_82 : decode cX3_digest 82 = .ok (.invokevirtual 163, 3) := by decide +kernel
theorem dX3_digest_85 : decode cX3_digest 85 = .ok (.i2l, 1) := by decide +kernel
theorem dX3_digest_86 : decode cX3_digest 86 = .ok (.invokevirtual 216, 3) := by decide +kernel
theorem dX3_digest_89 : decode cX3_digest 89 = .ok (.iinc 1 1, 3) := by decide +kernel
theorem dX3_digest_92 : decode cX3_digest 92 = .ok (.goto (-57), 3) := by decide +kernel
theorem dX3_digest_95 : decode cX3_digest 95 = .ok (.iconst 0, 1) := by decide +kernel
theorem dX3_digest_96 : decode cX3_digest 96 = .ok (.istore_n 1, 1) := by decide +kernel
theorem dX3_digest_97 : decode cX3_digest 97 = .ok (.iload_n 1, 1) := by decide +kernel
theorem dX3_digest_98 : decode cX3_digest 98 = .ok (.aload_n 0, 1) := by decide +kernel
theorem dX3_digest_99 : decode cX3_digest 99 = .ok (.getfield 60, 3) := by decide +kernel
theorem dX3_digest_102 : decode cX3_digest 102 = .ok (.if_icmp .ge 20, 3) := by decide +kernel
theorem dX3_digest_105 : decode cX3_digest 105 = .ok (.aload_n 0, 1) := by decide +kernel
theorem dX3_digest_106 : decode cX3_digest 106 = .ok (.aload_n 0, 1) := by decide +kernel
theorem dX3_digest_107 : decode cX3_digest 107 = .ok (.getfield 34, 3) := by decide +kernel
theorem dX3_digest_110 : decode cX3_digest 110 = .ok (.iload_n 1, 1) := by decide +kernel
theorem dX3_digest_111 : decode cX3_digest 111 = .ok (.baload, 1) := by decide +kernel
theorem dX3_digest_112 : decode cX3_digest 112 = .ok (.i2l, 1) := by decide +kernel
theorem dX3_digest_113 : decode cX3_digest 113 = .ok (.invokevirtual 216, 3) := by decide +kernel
theorem dX3_digest_116 : decode cX3_digest 116 = .ok (.iinc 1 1, 3) := by decide +kernel
theorem dX3_digest_119 : decode cX3_digest 119 = .ok (.goto (-22), 3) := by decide +kernel
theorem dX3_digest_122 : decode cX3_digest 122 = .ok (.iconst 0, 1) := by decide +kernel
theorem dX3_digest_123 : decode cX3_digest 123 = .ok (.istore_n 1, 1) := by decide +kernel
theorem dX3_digest_124 : decode cX3_digest 124 = .ok (.iload_n 1, 1) := by decide +kernel
theorem dX3_digest_125 : decode cX3_digest 125 = .ok (.bipush 8, 2) := by decide +kernel
theorem dX3_digest_127 : decode cX3_digest 127 = .ok (.if_icmp .ge 19, 3) := by decide +kernel
theorem dX3_digest_130 : decode cX3_digest 130 = .ok (.aload_n 0, 1) := by decide +kernel
theorem dX3_digest_131 : decode cX3_digest 131 = .ok (.aload_n 0, 1) := by decide +kernel
theorem dX3_digest_132 : decode cX3_digest 132 = .ok (.iload_n 1, 1) := by decide +kernel
theorem dX3_digest_133 : decode cX3_digest 133 = .ok (.invokevirtual 208, 3) := by decide +kernel
theorem dX3_digest_136 : decode cX3_digest 136 = .ok (.i2l, 1) := by decide +kernel
theorem dX3_digest_137 : decode cX3_digest 137 = .ok (.invokevirtual 216, 3) := by decide +kernel
theorem dX3_digest_140 : decode cX3_digest 140 = .ok (.iinc 1 1, 3) := by decide +kernel
theorem dX3_digest_143 : decode cX3_digest 143 = .ok (.goto (-19), 3) := by decide +kernel
theorem dX3_digest_146 : decode cX3_digest 146 = .ok (.aload_n 0, 1) := by decide +kernel
theorem dX3_digest_147 : decode cX3_digest 147 = .ok (.getfield 213, 3) := by decide +kernel
theorem dX3_digest_150 : decode cX3_digest 150 = .ok (.lreturn, 1) := by decide +kernel
theorem dJ6_bitCount_0f7a4_0 : decode cJ6_bitCount_0f7a4 0 = .ok (.iload_n 0, 1) := by decide +kernel
theorem dJ6_bitCount_0f7a4_1 : decode cJ6_bitCount_0f7a4 1 = .ok (.iload_n 0, 1) := by decide +kernel
theorem dJ6_bitCount_0f7a4_2 : decode cJ6_bitCount_0f7a4 2 = .ok (.iconst 1, 1) := by decide +kernel
theorem dJ6_bitCount_0f7a4_3 : decode cJ6_bitCount_0f7a4 3 = .ok (.iushr, 1) := by decide +kernel
theorem dJ6_bitCount_0f7a4_4 : decode cJ6_bitCount_0f7a4 4 = .ok (.ldc_w 265, 3) := by decide +kernel
theorem dJ6_bitCount_0f7a4_7 : decode cJ6_bitCount_0f7a4 7 = .ok (.iand, 1) := by decide +kernel
theorem dJ6_bitCount_0f7a4_8 : decode cJ6_bitCount_0f7a4 8 = .ok (.isub, 1) := by decide +kernel
theorem dJ6_bitCount_0f7a4_9 : decode cJ6_bitCount_0f7a4 9 = .ok (.istore_n 0, 1) := by decide +kernel
theorem dJ6_bitCount_0f7a4_10 : decode cJ6_bitCount_0f7a4 10 = .ok (.iload_n 0, 1) := by decide +kernel
theorem dJ6_bitCount_0f7a4_11 : decode cJ6_bitCount_0f7a4 11 = .ok (.ldc_w 266, 3) := by decide +kernel
theorem dJ6_bitCount_0f7a4_14 : decode cJ6_bitCount_0f7a4 14 = .ok (.iand, 1) := by decide +kernel
theorem dJ6_bitCount_0f7a4_15 : decode cJ6_bitCount_0f7a4 15 = .ok (.iload_n 0, 1) := by decide +kernel
theorem dJ6_bitCount_0f7a4_16 : decode cJ6_bitCount_0f7a4 16 = .ok (.iconst 2, 1) := by decide +kernel
theorem dJ6_bitCount_0f7a4_17 : decode cJ6_bitCount_0f7a4 17 = .ok (.iushr, 1) := by decide +kernel
theorem dJ6_bitCount_0f7a4_18 : decode cJ6_bitCount_0f7a4 18 = .ok (.ldc_w 266, 3) := by decide +kernel
theorem dJ6_bitCount_0f7a4_21 : decode cJ6_bitCount_0f7a4 21 = .ok (.iand, 1) := by decide +kernel
theorem dJ6_bitCount_0f7a4_22 : decode cJ6_bitCount_0f7a4 22 = .ok (.iadd, 1) := by decide +kernel
theorem dJ6_bitCount_0f7a4_23 : decode cJ6_bitCount_0f7a4 23 = .ok (.istore_n 0, 1) := by decide +kernel
theorem dJ6_bitCount_0f7a4_24 : decode cJ6_bitCount_0f7a4 24 = .ok (.iload_n 0, 1) := by decide +kernel
theorem dJ6_bitCount_0f7a4_25 : decode cJ6_bitCount_0f7a4 25 = .ok (.iload_n 0, 1) := by decide +kernel
theorem dJ6_bitCount_0f7a4_26 : decode cJ6_bitCount_0f7a4 26 = .ok (.iconst 4, 1) := by decide +kernel
theorem dJ6_bitCount_0f7a4_27 : decode cJ6_bitCount_0f7a4 27 = .ok (.iushr, 1) := by decide +kernel
theorem dJ6_bitCount_0f7a4_28 : decode cJ6_bitCount_0f7a4 28 = .ok (.iadd, 1) := by decide +kernel
theorem dJ6_bitCount_0f7a4_29 : decode cJ6_bitCount_0f7a4 29 = .ok (.ldc_w 267, 3) := by decide +kernel
theorem dJ6_bitCount_0f7a4_32 : decode cJ6_bitCount_0f7a4 32 = .ok (.iand, 1) := by decide +kernel
theorem dJ6_bitCount_0f7a4_33 : decode cJ6_bitCount_0f7a4 33 = .ok (.istore_n 0, 1) := by decide +kernel
theorem dJ6_bitCount_0f7a4_34 : decode cJ6_bitCount_0f7a4 34 = .ok (.iload_n 0, 1) := by decide +kernel
theorem dJ6_bitCount_0f7a4_35 : decode cJ6_bitCount_0f7a4 35 = .ok (.iload_n 0, 1) := by decide +kernel
theorem dJ6_bitCount_0f7a4_36 : decode cJ6_bitCount_0f7a4 36 = .ok (.bipush 8, 2) := by decide +kernel
theorem dJ6_bitCount_0f7a4_38 : decode cJ6_bitCount_0f7a4 38 = .ok (.iushr, 1) := by decide +kernel
theorem dJ6_bitCount_0f7a4_39 : decode cJ6_bitCount_0f7a4 39 = .ok (.iadd, 1) := by decide +kernel
theorem dJ6_bitCount_0f7a4_40 : decode cJ6_bitCount_0f7a4 40 = .ok (.istore_n 0, 1) := by decide +kernel
theorem dJ6_bitCount_0f7a4_41 : decode cJ6_bitCount_0f7a4 41 = .ok (.iload_n 0, 1) := by decide +kernel
theorem dJ6_bitCount_0f7a4_42 : decode cJ6_bitCount_0f7a4 42 = .ok (.iload_n 0, 1) := by decide +kernel
theorem dJ6_bitCount_0f7a4_43 : decode cJ6_bitCount_0f7a4 43 = .ok (.bipush 16, 2) := by decide +kernel
theorem dJ6_bitCount_0f7a4_45 : decode cJ6_bitCount_0f7a4 45 = .ok (.iushr, 1) := by decide +kernel
theorem dJ6_bitCount_0f7a4_46 : decode cJ6_bitCount_0f7a4 46 = .ok (.iadd, 1) := by decide +kernel
theorem dJ6_bitCount_0f7a4_47 : decode cJ6_bitCount_0f7a4 47 = .ok (.istore_n 0, 1) := by decide +kernel
theorem dJ6_bitCount_0f7a4_48 : decode cJ6_bitCount_0f7a4 48 = .ok (.iload_n 0, 1) := by decide +kernel
theorem dJ6_bitCount_0f7a4_49 : decode cJ6_bitCount_0f7a4 49 = .ok (.bipush 63, 2) := by decide +kernel
theorem dJ6_bitCount_0f7a4_51 : decode cJ6_bitCount_0f7a4 51 = .ok (.iand, 1) := by decide +kernel
theorem dJ6_bitCount_0f7a4_52 : decode cJ6_bitCount_0f7a4 52 = .ok (.ireturn, 1) := by decide +kernel
set_option maxRecDepth 20000 in
theorem ggL_law_X2_init : GoodIn wsL_law wsX2_init := goodIn_r _ [8, 9, 10, 11, 12, 13, 14, 15, 16, 17, 18, 19, 20, 21, 22, 23, 24, 25, 26, 27, 28, 29, 30, 31, 32, 33, 34, 35, 580, 581, 582, 583, 584, 585, 586, 587, 588, 589, 619, 620, 621, 622, 623, 624, 625, 626, 627, 628, 629, 630, 631, 632, 633, 634] (by decide +kernel) (by decide +kernel)
set_option maxRecDepth 20000 in
theorem gL_law_X2_init : GoodIn wsL_law (wsX2_init) := ggL_law_X2_init
set_option maxRecDepth 20000 in
theorem ggL_law_X3_init : GoodIn wsL_law wsX3_init := goodIn_r _ [38, 39, 10, 11, 12, 40, 41, 42, 43, 44, 45, 46, 47, 48, 49, 50, 51, 52, 53, 54, 55, 590, 591, 592, 593, 594, 595, 596, 597, 598, 599, 600, 601, 602, 603, 604, 605, 606, 607, 608, 609, 610, 611, 612, 613, 614, 615, 616, 617, 618] (by decide +kernel) (by decide +kernel)
set_option maxRecDepth 20000 in
theorem gL_law_X3_init : GoodIn wsL_law (wsX3_init) := ggL_law_X3_init
set_option maxRecDepth 20000 in
theorem ggL_law_X2_letter : GoodIn wsL_law wsX2_letter := goodIn_r _ [59, 60, 13, 580, 581, 582, 583, 584, 585, 586, 587, 588, 589] (by decide +kernel) (by decide +kernel)
set_option maxRecDepth 20000 in
theorem gL_law_X2_letter : GoodIn wsL_law (wsV RL 13 RX2 yX2_letter wsX2_letter) := goodIn_app (goodIn_of _ (by decide +kernel)) ggL_law_X2_letter
set_option maxRecDepth 20000 in
theorem ggL_law_X3_letter : GoodIn wsL_law wsX3_letter := goodIn_r _ [64, 65, 49, 66, 67, 5, 68, 590, 591, 592, 593, 594, 595, 596, 597, 598, 599, 600, 601, 602, 603, 604, 605, 606, 607, 608, 609, 610, 611, 612, 613, 614, 615, 616, 617, 618] (by decide +kernel) (by decide +kernel)
set_option maxRecDepth 20000 in
theorem gL_law_X3_letter : GoodIn wsL_law (wsV RL 17 RX3 yX3_letter wsX3_letter) := goodIn_app (goodIn_of _ (by decide +kernel)) ggL_law_X3_letter
set_option maxRecDepth 20000 in
theorem ggL_law_X2_blank : GoodIn wsL_law wsX2_blank := goodIn_r _ [72, 60, 580, 581, 582, 583, 584, 585, 586, 587, 588, 589] (by decide +kernel) (by decide +kernel)
set_option maxRecDepth 20000 in
theorem gL_law_X2_blank : GoodIn wsL_law (wsV RL 18 RX2 yX2_blank wsX2_blank) := goodIn_app (goodIn_of _ (by decide +kernel)) ggL_law_X2_blank
set_option maxRecDepth 20000 in
theorem ggL_law_X3_blank : GoodIn wsL_law wsX3_blank := goodIn_r _ [76, 65, 590, 591, 592, 593, 594, 595, 596, 597, 598, 599, 600, 601, 602, 603, 604, 605, 606, 607, 608, 609, 610, 611, 612, 613, 614, 615, 616, 617, 618] (by decide +kernel) (by decide +kernel)
set_option maxRecDepth 20000 in
theorem gL_law_X3_blank : GoodIn wsL_law (wsV RL 22 RX3 yX3_blank wsX3_blank) := goodIn_app (goodIn_of _ (by decide +kernel)) ggL_law_X3_blank
set_option maxRecDepth 20000 in
theorem ggL_law_X2_fault : GoodIn wsL_law wsX2_fault := goodIn_r _ [80, 81, 82, 83, 2, 84, 60, 13, 85, 86, 87, 580, 581, 582, 583, 584, 585, 586, 587, 588, 589] (by decide +kernel) (by decide +kernel)
set_option maxRecDepth 20000 in
theorem gL_law_X2_fault : GoodIn wsL_law (wsV RL 23 RX2 yX2_fault wsX2_fault) := goodIn_app (goodIn_of _ (by decide +kernel)) ggL_law_X2_fault
set_option maxRecDepth 20000 in
theorem ggL_law_X3_fault : GoodIn wsL_law wsX3_fault := goodIn_r _ [91, 92, 93, 94, 5, 95, 65, 49, 96, 97, 98, 66, 67, 68, 590, 591, 592, 593, 594, 595, 596, 597, 598, 599, 600, 601, 602, 603, 604, 605, 606, 607, 608, 609, 610, 611, 612, 613, 614, 615, 616, 617, 618] (by decide +kernel) (by decide +kernel)
set_option maxRecDepth 20000 in
theorem gL_law_X3_fault : GoodIn wsL_law (wsV RL 26 RX3 yX3_fault wsX3_fault) := goodIn_app (goodIn_of _ (by decide +kernel)) ggL_law_X3_fault
set_option maxRecDepth 20000 in
theorem ggL_law_X2_chest : GoodIn wsL_law wsX2_chest := goodIn_r _ [102, 60, 14, 13, 18, 103, 104, 105, 81, 82, 83, 2, 84, 85, 86, 87, 106, 107, 108, 109, 110, 111, 17, 112, 113, 114, 30, 115, 116, 117, 118, 119, 31, 32, 580, 581, 582, 583, 584, 585, 586, 587, 588, 589, 619, 620, 621, 622, 623, 624, 625, 626, 627] (by decide +kernel) (by decide +kernel)
set_option maxRecDepth 20000 in
theorem gL_law_X2_chest : GoodIn wsL_law (wsV RL 27 RX2 yX2_chest wsX2_chest) := goodIn_app (goodIn_of _ (by decide +kernel)) ggL_law_X2_chest
set_option maxRecDepth 20000 in
theorem ggL_law_X3_chest : GoodIn wsL_law wsX3_chest := goodIn_r _ [123, 65, 40, 49, 41, 124, 125, 126, 127, 128, 92, 93, 94, 5, 95, 96, 97, 98, 66, 67, 68, 590, 591, 592, 593, 594, 595, 596, 597, 598, 599, 600, 601, 602, 603, 604, 605, 606, 607, 608, 609, 610, 611, 612, 613, 614, 615, 616, 617, 618] (by decide +kernel) (by decide +kernel)
set_option maxRecDepth 20000 in
theorem gL_law_X3_chest : GoodIn wsL_law (wsV RL 30 RX3 yX3_chest wsX3_chest) := goodIn_app (goodIn_of _ (by decide +kernel)) ggL_law_X3_chest
set_option maxRecDepth 20000 in
theorem ggL_law_X2_face : GoodIn wsL_law wsX2_face := goodIn_r _ [132, 103, 18, 133, 580, 581, 582, 583, 584, 585, 586, 587, 588, 589, 619, 620, 621, 622, 623, 624, 625, 626, 627] (by decide +kernel) (by decide +kernel)
set_option maxRecDepth 20000 in
theorem gL_law_X2_face : GoodIn wsL_law (wsV RL 31 RX2 yX2_face wsX2_face) := goodIn_app (goodIn_of _ (by decide +kernel)) ggL_law_X2_face
set_option maxRecDepth 20000 in
theorem ggL_law_X3_face : GoodIn wsL_law wsX3_face := goodIn_r _ [137, 125, 124, 66, 67, 5, 68, 590, 591, 592, 593, 594, 595, 596, 597, 598, 599, 600, 601, 602, 603, 604, 605, 606, 607, 608, 609, 610, 611, 612, 613, 614, 615, 616, 617, 618] (by decide +kernel) (by decide +kernel)
set_option maxRecDepth 20000 in
theorem gL_law_X3_face : GoodIn wsL_law (wsV RL 34 RX3 yX3_face wsX3_face) := goodIn_app (goodIn_of _ (by decide +kernel)) ggL_law_X3_face
set_option maxRecDepth 20000 in
theorem ggL_law_X2_drawer : GoodIn wsL_law wsX2_drawer := goodIn_r _ [141, 14, 18, 142, 143, 144, 145, 2, 146, 103, 147, 148, 149, 150, 133, 151, 152, 153, 17, 154, 114, 28, 155, 156, 157, 158, 159, 160, 161, 162, 23, 163, 164, 165, 166, 167, 168, 169, 22, 170, 171, 172, 173, 174, 175, 176, 177, 178, 179, 180, 181, 182, 183, 184, 185, 186, 187, 188, 189, 190, 191, 192, 193, 194, 195, 196, 197, 198, 199, 200, 201, 202, 203, 204, 205, 206, 207, 208, 209, 210, 211, 212, 213, 214, 215, 216, 217, 218, 580, 581, 582, 583, 584, 585, 586, 587, 588, 589, 619, 620, 621, 622, 623, 624, 625, 626, 627, 628, 629, 630, 631, 632, 633, 634] (by decide +kernel) (by decide +kernel)
set_option maxRecDepth 20000 in
theorem gL_law_X2_drawer : GoodIn wsL_law (wsV RL 35 RX2 yX2_drawer wsX2_drawer) := goodIn_app (goodIn_of _ (by decide +kernel)) ggL_law_X2_drawer
set_option maxRecDepth 20000 in
theorem ggL_law_X3_drawer : GoodIn wsL_law wsX3_drawer := goodIn_r _ [222, 223, 224, 225, 5, 226, 125, 66, 67, 68, 227, 228, 229, 230, 40, 41, 231, 232, 233, 234, 124, 235, 236, 237, 238, 127, 43, 239, 240, 241, 242, 243, 244, 245, 246, 247, 248, 249, 250, 251, 252, 253, 254, 42, 44, 255, 256, 257, 258, 259, 260, 261, 262, 263, 264, 265, 266, 267, 268, 590, 591, 592, 593, 594, 595, 596, 597, 598, 599, 600, 601, 602, 603, 604, 605, 606, 607, 608, 609, 610, 611, 612, 613, 614, 615, 616, 617, 618] (by decide +kernel) (by decide +kernel)
set_option maxRecDepth 20000 in
theorem gL_law_X3_drawer : GoodIn wsL_law (wsV RL 39 RX3 yX3_drawer wsX3_drawer) := goodIn_app (goodIn_of _ (by decide +kernel)) ggL_law_X3_drawer
set_option maxRecDepth 20000 in
theorem ggL_law_X2_person : GoodIn wsL_law wsX2_person := goodIn_r _ [272, 18, 163, 165, 164, 166, 273, 274, 2, 275, 143, 144, 145, 146, 103, 276, 277, 278, 580, 581, 582, 583, 584, 585, 586, 587, 588, 589, 619, 620, 621, 622, 623, 624, 625, 626, 627] (by decide +kernel) (by decide +kernel)
set_option maxRecDepth 20000 in
theorem gL_law_X2_person : GoodIn wsL_law (wsV RL 40 RX2 yX2_person wsX2_person) := goodIn_app (goodIn_of _ (by decide +kernel)) ggL_law_X2_person
set_option maxRecDepth 20000 in
theorem ggL_law_X3_person : GoodIn wsL_law wsX3_person := goodIn_r _ [282, 127, 42, 43, 44, 66, 67, 5, 68, 223, 224, 225, 226, 125, 283, 284, 285, 590, 591, 592, 593, 594, 595, 596, 597, 598, 599, 600, 601, 602, 603, 604, 605, 606, 607, 608, 609, 610, 611, 612, 613, 614, 615, 616, 617, 618] (by decide +kernel) (by decide +kernel)
set_option maxRecDepth 20000 in
theorem gL_law_X3_person : GoodIn wsL_law (wsV RL 44 RX3 yX3_person wsX3_person) := goodIn_app (goodIn_of _ (by decide +kernel)) ggL_law_X3_person
set_option maxRecDepth 20000 in
theorem ggL_law_X2_about : GoodIn wsL_law wsX2_about := goodIn_r _ [289, 18, 165, 166, 164, 290, 291, 292, 2, 293, 163, 294, 179, 180, 295, 213, 214, 296, 181, 182, 580, 581, 582, 583, 584, 585, 586, 587, 588, 589, 619, 620, 621, 622, 623, 624, 625, 626, 627] (by decide +kernel) (by decide +kernel)
set_option maxRecDepth 20000 in
theorem gL_law_X2_about : GoodIn wsL_law (wsV RL 45 RX2 yX2_about wsX2_about) := goodIn_app (goodIn_of _ (by decide +kernel)) ggL_law_X2_about
set_option maxRecDepth 20000 in
theorem ggL_law_X3_about : GoodIn wsL_law wsX3_about := goodIn_r _ [300, 66, 67, 5, 68, 301, 302, 303, 304, 127, 305, 306, 307, 308, 42, 44, 43, 258, 259, 260, 590, 591, 592, 593, 594, 595, 596, 597, 598, 599, 600, 601, 602, 603, 604, 605, 606, 607, 608, 609, 610, 611, 612, 613, 614, 615, 616, 617, 618] (by decide +kernel) (by decide +kernel)
set_option maxRecDepth 20000 in
theorem gL_law_X3_about : GoodIn wsL_law (wsV RL 48 RX3 yX3_about wsX3_about) := goodIn_app (goodIn_of _ (by decide +kernel)) ggL_law_X3_about
set_option maxRecDepth 20000 in
theorem ggL_law_X2_as : GoodIn wsL_law wsX2_as := goodIn_r _ [312, 18, 165, 290, 291, 292, 2, 293, 163, 273, 274, 275, 313, 314, 315, 580, 581, 582, 583, 584, 585, 586, 587, 588, 589, 619, 620, 621, 622, 623, 624, 625, 626, 627] (by decide +kernel) (by decide +kernel)
set_option maxRecDepth 20000 in
theorem gL_law_X2_as : GoodIn wsL_law (wsV RL 49 RX2 yX2_as wsX2_as) := goodIn_app (goodIn_of _ (by decide +kernel)) ggL_law_X2_as
set_option maxRecDepth 20000 in
theorem ggL_law_X3_as : GoodIn wsL_law wsX3_as := goodIn_r _ [319, 42, 301, 302, 303, 5, 304, 127, 66, 67, 68, 590, 591, 592, 593, 594, 595, 596, 597, 598, 599, 600, 601, 602, 603, 604, 605, 606, 607, 608, 609, 610, 611, 612, 613, 614, 615, 616, 617, 618] (by decide +kernel) (by decide +kernel)
set_option maxRecDepth 20000 in
theorem gL_law_X3_as : GoodIn wsL_law (wsV RL 52 RX3 yX3_as wsX3_as) := goodIn_app (goodIn_of _ (by decide +kernel)) ggL_law_X3_as
set_option maxRecDepth 20000 in
theorem ggL_law_X2_move : GoodIn wsL_law wsX2_move := goodIn_r _ [323, 18, 164, 290, 291, 292, 2, 293, 163, 143, 144, 145, 146, 103, 580, 581, 582, 583, 584, 585, 586, 587, 588, 589, 619, 620, 621, 622, 623, 624, 625, 626, 627] (by decide +kernel) (by decide +kernel)
set_option maxRecDepth 20000 in
theorem gL_law_X2_move : GoodIn wsL_law (wsV RL 53 RX2 yX2_move wsX2_move) := goodIn_app (goodIn_of _ (by decide +kernel)) ggL_law_X2_move
set_option maxRecDepth 20000 in
theorem ggL_law_X3_move : GoodIn wsL_law wsX3_move := goodIn_r _ [327, 43, 301, 302, 303, 5, 304, 127, 66, 67, 68, 223, 224, 225, 226, 125, 590, 591, 592, 593, 594, 595, 596, 597, 598, 599, 600, 601, 602, 603, 604, 605, 606, 607, 608, 609, 610, 611, 612, 613, 614, 615, 616, 617, 618] (by decide +kernel) (by decide +kernel)
set_option maxRecDepth 20000 in
theorem gL_law_X3_move : GoodIn wsL_law (wsV RL 56 RX3 yX3_move wsX3_move) := goodIn_app (goodIn_of _ (by decide +kernel)) ggL_law_X3_move
set_option maxRecDepth 20000 in
theorem ggL_law_X2_lay : GoodIn wsL_law wsX2_lay := goodIn_r _ [331, 18, 142, 143, 144, 145, 2, 146, 103, 276, 277, 278, 295, 213, 214, 580, 581, 582, 583, 584, 585, 586, 587, 588, 589, 619, 620, 621, 622, 623, 624, 625, 626, 627] (by decide +kernel) (by decide +kernel)
set_option maxRecDepth 20000 in
theorem gL_law_X2_lay : GoodIn wsL_law (wsV RL 57 RX2 yX2_lay wsX2_lay) := goodIn_app (goodIn_of _ (by decide +kernel)) ggL_law_X2_lay
set_option maxRecDepth 20000 in
theorem ggL_law_X3_lay : GoodIn wsL_law wsX3_lay := goodIn_r _ [335, 41, 223, 224, 225, 5, 226, 125, 66, 67, 68, 283, 284, 285, 590, 591, 592, 593, 594, 595, 596, 597, 598, 599, 600, 601, 602, 603, 604, 605, 606, 607, 608, 609, 610, 611, 612, 613, 614, 615, 616, 617, 618] (by decide +kernel) (by decide +kernel)
set_option maxRecDepth 20000 in
theorem gL_law_X3_lay : GoodIn wsL_law (wsV RL 61 RX3 yX3_lay wsX3_lay) := goodIn_app (goodIn_of _ (by decide +kernel)) ggL_law_X3_lay
set_option maxRecDepth 20000 in
theorem ggL_law_X2_agrees : GoodIn wsL_law wsX2_agrees := goodIn_r _ [339, 143, 144, 145, 2, 146, 103, 159, 160, 161, 162, 23, 18, 142, 163, 164, 165, 166, 147, 148, 149, 150, 133, 14, 167, 168, 169, 22, 170, 171, 172, 173, 174, 175, 176, 177, 178, 179, 180, 181, 182, 340, 191, 192, 193, 580, 581, 582, 583, 584, 585, 586, 587, 588, 589, 619, 620, 621, 622, 623, 624, 625, 626, 627, 628, 629, 630, 631, 632, 633, 634] (by decide +kernel) (by decide +kernel)
set_option maxRecDepth 20000 in
theorem gL_law_X2_agrees : GoodIn wsL_law (wsV RL 62 RX2 yX2_agrees wsX2_agrees) := goodIn_app (goodIn_of _ (by decide +kernel)) ggL_law_X2_agrees
set_option maxRecDepth 20000 in
theorem ggL_law_X3_agrees : GoodIn wsL_law wsX3_agrees := goodIn_r _ [344, 223, 224, 225, 5, 226, 125, 66, 67, 68, 243, 244, 245, 246, 41, 231, 232, 233, 234, 124, 40, 247, 248, 249, 250, 251, 252, 253, 254, 127, 43, 42, 44, 255, 256, 257, 258, 259, 260, 590, 591, 592, 593, 594, 595, 596, 597, 598, 599, 600, 601, 602, 603, 604, 605, 606, 607, 608, 609, 610, 611, 612, 613, 614, 615, 616, 617, 618] (by decide +kernel) (by decide +kernel)
set_option maxRecDepth 20000 in
theorem gL_law_X3_agrees : GoodIn wsL_law (wsV RL 65 RX3 yX3_agrees wsX3_agrees) := goodIn_app (goodIn_of _ (by decide +kernel)) ggL_law_X3_agrees
set_option maxRecDepth 20000 in
theorem ggL_law_X2_sure : GoodIn wsL_law wsX2_sure := goodIn_r _ [348, 143, 144, 145, 2, 146, 103, 276, 277, 278, 155, 156, 157, 158, 159, 160, 161, 162, 23, 18, 142, 163, 164, 165, 166, 147, 148, 149, 150, 133, 14, 167, 168, 169, 22, 170, 171, 172, 173, 174, 175, 176, 177, 178, 179, 180, 181, 182, 183, 184, 185, 186, 187, 188, 189, 190, 191, 192, 193, 194, 195, 196, 197, 349, 350, 351, 352, 213, 214, 580, 581, 582, 583, 584, 585, 586, 587, 588, 589, 619, 620, 621, 622, 623, 624, 625, 626, 627, 628, 629, 630, 631, 632, 633, 634] (by decide +kernel) (by decide +kernel)
set_option maxRecDepth 20000 in
theorem gL_law_X2_sure : GoodIn wsL_law (wsV RL 66 RX2 yX2_sure wsX2_sure) := goodIn_app (goodIn_of _ (by decide +kernel)) ggL_law_X2_sure
set_option maxRecDepth 20000 in
theorem ggL_law_X3_sure : GoodIn wsL_law wsX3_sure := goodIn_r _ [356, 223, 224, 225, 5, 226, 125, 66, 67, 68, 283, 284, 285, 357, 358, 359, 360, 243, 244, 245, 246, 41, 231, 232, 233, 234, 124, 40, 247, 248, 249, 250, 251, 252, 253, 254, 127, 43, 42, 44, 255, 256, 257, 258, 259, 260, 590, 591, 592, 593, 594, 595, 596, 597, 598, 599, 600, 601, 602, 603, 604, 605, 606, 607, 608, 609, 610, 611, 612, 613, 614, 615, 616, 617, 618] (by decide +kernel) (by decide +kernel)
set_option maxRecDepth 20000 in
theorem gL_law_X3_sure : GoodIn wsL_law (wsV RL 69 RX3 yX3_sure wsX3_sure) := goodIn_app (goodIn_of _ (by decide +kernel)) ggL_law_X3_sure
set_option maxRecDepth 20000 in
theorem ggL_law_X2_few : GoodIn wsL_law wsX2_few := goodIn_r _ [364, 365, 143, 144, 145, 2, 146, 103, 159, 160, 161, 162, 23, 18, 142, 163, 164, 165, 166, 147, 148, 149, 150, 133, 14, 167, 168, 169, 22, 170, 171, 172, 173, 174, 175, 176, 177, 178, 179, 180, 181, 182, 366, 367, 368, 369, 370, 203, 204, 205, 206, 207, 208, 183, 184, 185, 186, 187, 188, 189, 190, 191, 192, 193, 194, 195, 196, 197, 371, 372, 373, 374, 580, 581, 582, 583, 584, 585, 586, 587, 588, 589, 619, 620, 621, 622, 623, 624, 625, 626, 627, 628, 629, 630, 631, 632, 633, 634] (by decide +kernel) (by decide +kernel)
set_option maxRecDepth 20000 in
theorem gL_law_X2_few : GoodIn wsL_law (wsV RL 70 RX2 yX2_few wsX2_few) := goodIn_app (goodIn_of _ (by decide +kernel)) ggL_law_X2_few
set_option maxRecDepth 20000 in
theorem ggL_law_X3_few : GoodIn wsL_law wsX3_few := goodIn_r _ [378, 379, 223, 224, 225, 5, 226, 125, 66, 67, 68, 380, 381, 382, 383, 384, 385, 386, 387, 388, 389, 390, 231, 232, 233, 234, 124, 40, 247, 248, 249, 250, 251, 252, 253, 254, 127, 43, 42, 44, 255, 256, 257, 258, 259, 260, 590, 591, 592, 593, 594, 595, 596, 597, 598, 599, 600, 601, 602, 603, 604, 605, 606, 607, 608, 609, 610, 611, 612, 613, 614, 615, 616, 617, 618] (by decide +kernel) (by decide +kernel)
set_option maxRecDepth 20000 in
theorem gL_law_X3_few : GoodIn wsL_law (wsV RL 73 RX3 yX3_few wsX3_few) := goodIn_app (goodIn_of _ (by decide +kernel)) ggL_law_X3_few
set_option maxRecDepth 20000 in
theorem ggL_law_X2_found : GoodIn wsL_law wsX2_found := goodIn_r _ [394, 18, 395, 396, 397, 143, 144, 145, 2, 146, 103, 276, 277, 278, 580, 581, 582, 583, 584, 585, 586, 587, 588, 589, 619, 620, 621, 622, 623, 624, 625, 626, 627] (by decide +kernel) (by decide +kernel)
set_option maxRecDepth 20000 in
theorem gL_law_X2_found : GoodIn wsL_law (wsV RL 74 RX2 yX2_found wsX2_found) := goodIn_app (goodIn_of _ (by decide +kernel)) ggL_law_X2_found
set_option maxRecDepth 20000 in
theorem ggL_law_X3_found : GoodIn wsL_law wsX3_found := goodIn_r _ [401, 128, 45, 46, 47, 223, 224, 225, 5, 226, 125, 66, 67, 68, 283, 284, 285, 590, 591, 592, 593, 594, 595, 596, 597, 598, 599, 600, 601, 602, 603, 604, 605, 606, 607, 608, 609, 610, 611, 612, 613, 614, 615, 616, 617, 618] (by decide +kernel) (by decide +kernel)
set_option maxRecDepth 20000 in
theorem gL_law_X3_found : GoodIn wsL_law (wsV RL 77 RX3 yX3_found wsX3_found) := goodIn_app (goodIn_of _ (by decide +kernel)) ggL_law_X3_found
set_option maxRecDepth 20000 in
theorem ggL_law_X2_forget : GoodIn wsL_law wsX2_forget := goodIn_r _ [405, 18, 395, 406, 116, 117, 17, 118, 119, 31, 32, 580, 581, 582, 583, 584, 585, 586, 587, 588, 589, 619, 620, 621, 622, 623, 624, 625, 626, 627] (by decide +kernel) (by decide +kernel)
set_option maxRecDepth 20000 in
theorem gL_law_X2_forget : GoodIn wsL_law (wsV RL 78 RX2 yX2_forget wsX2_forget) := goodIn_app (goodIn_of _ (by decide +kernel)) ggL_law_X2_forget
set_option maxRecDepth 20000 in
theorem ggL_law_X3_forget : GoodIn wsL_law wsX3_forget := goodIn_r _ [410, 128, 590, 591, 592, 593, 594, 595, 596, 597, 598, 599, 600, 601, 602, 603, 604, 605, 606, 607, 608, 609, 610, 611, 612, 613, 614, 615, 616, 617, 618] (by decide +kernel) (by decide +kernel)
set_option maxRecDepth 20000 in
theorem gL_law_X3_forget : GoodIn wsL_law (wsV RL 81 RX3 yX3_forget wsX3_forget) := goodIn_app (goodIn_of _ (by decide +kernel)) ggL_law_X3_forget
set_option maxRecDepth 20000 in
theorem ggL_law_X2_delays : GoodIn wsL_law wsX2_delays := goodIn_r _ [414, 415, 143, 144, 145, 2, 146, 103, 159, 160, 161, 162, 23, 18, 142, 163, 164, 165, 166, 147, 148, 149, 150, 133, 14, 167, 168, 169, 22, 170, 171, 172, 173, 174, 175, 176, 177, 178, 179, 180, 181, 182, 183, 184, 185, 186, 187, 188, 189, 190, 191, 192, 193, 194, 195, 196, 197, 416, 417, 418, 419, 396, 397, 420, 421, 422, 423, 628, 629, 630, 631, 632, 633, 634, 580, 581, 582, 583, 584, 585, 586, 587, 588, 589, 619, 620, 621, 622, 623, 624, 625, 626, 627] (by decide +kernel) (by decide +kernel)
set_option maxRecDepth 20000 in
theorem gL_law_X2_delays : GoodIn wsL_law (wsV RL 82 RX2 yX2_delays wsX2_delays) := goodIn_app (goodIn_of _ (by decide +kernel)) ggL_law_X2_delays
set_option maxRecDepth 20000 in
theorem ggL_law_X3_delays : GoodIn wsL_law wsX3_delays := goodIn_r _ [427, 223, 224, 225, 5, 226, 125, 66, 67, 68, 428, 429, 430, 431, 432, 433, 434, 435, 41, 436, 437, 438, 439, 128, 45, 46, 47, 247, 248, 249, 250, 251, 252, 253, 254, 127, 43, 42, 44, 255, 256, 257, 258, 259, 260, 590, 591, 592, 593, 594, 595, 596, 597, 598, 599, 600, 601, 602, 603, 604, 605, 606, 607, 608, 609, 610, 611, 612, 613, 614, 615, 616, 617, 618] (by decide +kernel) (by decide +kernel)
set_option maxRecDepth 20000 in
theorem gL_law_X3_delays : GoodIn wsL_law (wsV RL 85 RX3 yX3_delays wsX3_delays) := goodIn_app (goodIn_of _ (by decide +kernel)) ggL_law_X3_delays
set_option maxRecDepth 20000 in
theorem ggL_law_X2_who : GoodIn wsL_law wsX2_who := goodIn_r _ [443, 290, 291, 292, 2, 293, 18, 163, 444, 445, 446, 447, 164, 159, 160, 161, 162, 23, 142, 165, 166, 147, 148, 149, 150, 133, 14, 167, 168, 169, 22, 170, 171, 172, 173, 174, 175, 176, 177, 178, 179, 180, 181, 182, 183, 184, 185, 186, 187, 188, 189, 190, 191, 192, 193, 194, 195, 196, 197, 416, 417, 418, 419, 396, 397, 420, 421, 422, 423, 580, 581, 582, 583, 584, 585, 586, 587, 588, 589, 619, 620, 621, 622, 623, 624, 625, 626, 627, 628, 629, 630, 631, 632, 633, 634] (by decide +kernel) (by decide +kernel)
set_option maxRecDepth 20000 in
theorem gL_law_X2_who : GoodIn wsL_law (wsV RL 86 RX2 yX2_who wsX2_who) := goodIn_app (goodIn_of _ (by decide +kernel)) ggL_law_X2_who
set_option maxRecDepth 20000 in
theorem ggL_law_X3_who : GoodIn wsL_law wsX3_who := goodIn_r _ [451, 301, 302, 303, 5, 304, 127, 66, 67, 68, 452, 453, 454, 455, 42, 44, 43, 231, 232, 233, 234, 124, 40, 432, 433, 434, 435, 41, 436, 437, 438, 439, 128, 45, 46, 47, 247, 248, 249, 250, 251, 252, 253, 254, 255, 256, 257, 258, 259, 260, 590, 591, 592, 593, 594, 595, 596, 597, 598, 599, 600, 601, 602, 603, 604, 605, 606, 607, 608, 609, 610, 611, 612, 613, 614, 615, 616, 617, 618] (by decide +kernel) (by decide +kernel)
set_option maxRecDepth 20000 in
theorem gL_law_X3_who : GoodIn wsL_law (wsV RL 89 RX3 yX3_who wsX3_who) := goodIn_app (goodIn_of _ (by decide +kernel)) ggL_law_X3_who
set_option maxRecDepth 20000 in
theorem ggL_law_X2_weeks : GoodIn wsL_law wsX2_weeks := goodIn_r _ [459, 103, 369, 460, 159, 160, 161, 2, 162, 23, 18, 142, 163, 164, 165, 166, 147, 148, 149, 150, 133, 14, 167, 168, 169, 22, 170, 171, 172, 173, 174, 175, 176, 177, 178, 179, 180, 181, 182, 461, 462, 463, 464, 465, 466, 467, 468, 469, 183, 184, 185, 186, 187, 188, 189, 190, 191, 192, 193, 194, 195, 196, 197, 580, 581, 582, 583, 584, 585, 586, 587, 588, 589, 628, 629, 630, 631, 632, 633, 634, 619, 620, 621, 622, 623, 624, 625, 626, 627] (by decide +kernel) (by decide +kernel)
set_option maxRecDepth 20000 in
theorem gL_law_X2_weeks : GoodIn wsL_law (wsV RL 90 RX2 yX2_weeks wsX2_weeks) := goodIn_app (goodIn_of _ (by decide +kernel)) ggL_law_X2_weeks
set_option maxRecDepth 20000 in
theorem ggL_law_X3_weeks : GoodIn wsL_law wsX3_weeks := goodIn_r _ [473, 125, 66, 67, 5, 68, 474, 475, 476, 477, 478, 479, 480, 481, 482, 483, 484, 485, 486, 487, 488, 489, 490, 231, 232, 233, 234, 124, 40, 247, 248, 249, 250, 251, 252, 253, 254, 127, 43, 42, 44, 255, 256, 257, 258, 259, 260, 590, 591, 592, 593, 594, 595, 596, 597, 598, 599, 600, 601, 602, 603, 604, 605, 606, 607, 608, 609, 610, 611, 612, 613, 614, 615, 616, 617, 618] (by decide +kernel) (by decide +kernel)
set_option maxRecDepth 20000 in
theorem gL_law_X3_weeks : GoodIn wsL_law (wsV RL 93 RX3 yX3_weeks wsX3_weeks) := goodIn_app (goodIn_of _ (by decide +kernel)) ggL_law_X3_weeks
set_option maxRecDepth 20000 in
theorem ggL_law_X2_image : GoodIn wsL_law wsX2_image := goodIn_r _ [494, 103, 19, 18, 104, 163, 495, 496, 497, 17, 498, 113, 114, 119, 27, 28, 29, 30, 31, 32, 580, 581, 582, 583, 584, 585, 586, 587, 588, 589, 619, 620, 621, 622, 623, 624, 625, 626, 627] (by decide +kernel) (by decide +kernel)
set_option maxRecDepth 20000 in
theorem gL_law_X2_image : GoodIn wsL_law (wsV RL 94 RX2 yX2_image wsX2_image) := goodIn_app (goodIn_of _ (by decide +kernel)) ggL_law_X2_image
set_option maxRecDepth 20000 in
theorem ggL_law_X3_image : GoodIn wsL_law wsX3_image := goodIn_r _ [502, 125, 503, 126, 504, 124, 505, 127, 506, 128, 507, 50, 41, 51, 43, 52, 44, 53, 45, 54, 46, 55, 47, 590, 591, 592, 593, 594, 595, 596, 597, 598, 599, 600, 601, 602, 603, 604, 605, 606, 607, 608, 609, 610, 611, 612, 613, 614, 615, 616, 617, 618] (by decide +kernel) (by decide +kernel)
set_option maxRecDepth 20000 in
theorem gL_law_X3_image : GoodIn wsL_law (wsV RL 97 RX3 yX3_image wsX3_image) := goodIn_app (goodIn_of _ (by decide +kernel)) ggL_law_X3_image
set_option maxRecDepth 20000 in
theorem ggL_law_X2_restore : GoodIn wsL_law wsX2_restore := goodIn_r _ [511, 104, 18, 19, 163, 495, 496, 497, 17, 498, 113, 114, 119, 27, 28, 29, 30, 31, 32, 580, 581, 582, 583, 584, 585, 586, 587, 588, 589, 619, 620, 621, 622, 623, 624, 625, 626, 627] (by decide +kernel) (by decide +kernel)
set_option maxRecDepth 20000 in
theorem gL_law_X2_restore : GoodIn wsL_law (wsV RL 98 RX2 yX2_restore wsX2_restore) := goodIn_app (goodIn_of _ (by decide +kernel)) ggL_law_X2_restore
set_option maxRecDepth 20000 in
theorem ggL_law_X3_restore : GoodIn wsL_law wsX3_restore := goodIn_r _ [515, 503, 504, 126, 505, 124, 506, 127, 507, 128, 41, 50, 43, 51, 44, 52, 45, 53, 46, 54, 47, 55, 590, 591, 592, 593, 594, 595, 596, 597, 598, 599, 600, 601, 602, 603, 604, 605, 606, 607, 608, 609, 610, 611, 612, 613, 614, 615, 616, 617, 618] (by decide +kernel) (by decide +kernel)
set_option maxRecDepth 20000 in
theorem gL_law_X3_restore : GoodIn wsL_law (wsV RL 101 RX3 yX3_restore wsX3_restore) := goodIn_app (goodIn_of _ (by decide +kernel)) ggL_law_X3_restore
set_option maxRecDepth 20000 in
theorem ggL_law_X2_count : GoodIn wsL_law wsX2_count := goodIn_r _ [519, 18, 133, 163, 395, 60, 105, 365, 520, 521, 522, 2, 523, 103, 460, 155, 156, 157, 158, 159, 160, 161, 162, 23, 142, 164, 165, 166, 147, 148, 149, 150, 14, 167, 168, 169, 22, 170, 171, 172, 173, 174, 175, 176, 177, 178, 179, 180, 181, 182, 183, 184, 185, 186, 187, 188, 189, 190, 191, 192, 193, 194, 195, 196, 197, 524, 525, 526, 17, 527, 30, 528, 203, 204, 205, 206, 207, 208, 580, 581, 582, 583, 584, 585, 586, 587, 588, 589, 619, 620, 621, 622, 623, 624, 625, 626, 627, 628, 629, 630, 631, 632, 633, 634] (by decide +kernel) (by decide +kernel)
set_option maxRecDepth 20000 in
theorem gL_law_X2_count : GoodIn wsL_law (wsV RL 102 RX2 yX2_count wsX2_count) := goodIn_app (goodIn_of _ (by decide +kernel)) ggL_law_X2_count
set_option maxRecDepth 20000 in
theorem ggL_law_X3_count : GoodIn wsL_law wsX3_count := goodIn_r _ [532, 533, 534, 535, 5, 536, 124, 127, 128, 65, 126, 379, 537, 538, 539, 540, 125, 41, 487, 488, 489, 490, 231, 232, 233, 234, 40, 247, 248, 249, 250, 251, 252, 253, 254, 43, 42, 44, 255, 256, 257, 258, 259, 260, 541, 542, 543, 544, 384, 385, 386, 590, 591, 592, 593, 594, 595, 596, 597, 598, 599, 600, 601, 602, 603, 604, 605, 606, 607, 608, 609, 610, 611, 612, 613, 614, 615, 616, 617, 618] (by decide +kernel) (by decide +kernel)
set_option maxRecDepth 20000 in
theorem gL_law_X3_count : GoodIn wsL_law (wsV RL 105 RX3 yX3_count wsX3_count) := goodIn_app (goodIn_of _ (by decide +kernel)) ggL_law_X3_count
set_option maxRecDepth 20000 in
theorem ggL_law_X2_digest : GoodIn wsL_law wsX2_digest := goodIn_r _ [548, 549, 103, 18, 163, 60, 13, 550, 551, 552, 553, 2, 554, 555, 139, 140, 141, 14, 142, 143, 144, 145, 146, 147, 148, 149, 150, 133, 151, 152, 153, 17, 154, 114, 28, 155, 156, 157, 158, 159, 160, 161, 162, 23, 164, 165, 166, 167, 168, 169, 22, 170, 171, 172, 173, 174, 175, 176, 177, 178, 179, 180, 181, 182, 183, 184, 185, 186, 187, 188, 189, 190, 191, 192, 193, 194, 195, 196, 197, 198, 199, 200, 201, 202, 203, 204, 205, 206, 207, 208, 209, 210, 211, 212, 213, 214, 215, 216, 217, 218, 556, 346, 347, 348, 276, 277, 278, 349, 350, 351, 352, 557, 412, 413, 414, 415, 416, 417, 418, 419, 396, 397, 420, 421, 422, 423, 558, 559, 560, 561, 562, 287, 288, 289, 290, 291, 292, 293, 294, 295, 296, 563, 441, 442, 443, 444, 445, 446, 447, 564, 517, 518, 519, 395, 105, 365, 520, 521, 522, 523, 460, 524, 525, 526, 527, 30, 528, 580, 581, 582, 583, 584, 585, 586, 587, 588, 589, 619, 620, 621, 622, 623, 624, 625, 626, 627, 628, 629, 630, 631, 632, 633, 634] (by decide +kernel) (by decide +kernel)
set_option maxRecDepth 20000 in
theorem gL_law_X2_digest : GoodIn wsL_law (wsV RL 106 RX2 yX2_digest wsX2_digest) := goodIn_app (goodIn_of _ (by decide +kernel)) ggL_law_X2_digest
set_option maxRecDepth 20000 in
theorem ggL_law_X3_digest : GoodIn wsL_law wsX3_digest := goodIn_r _ [568, 569, 570, 125, 127, 65, 49, 571, 572, 573, 5, 574, 227, 228, 229, 230, 40, 41, 231, 232, 233, 234, 124, 235, 236, 237, 238, 43, 239, 240, 241, 242, 243, 244, 245, 246, 247, 248, 249, 250, 251, 252, 253, 254, 42, 44, 255, 256, 257, 258, 259, 260, 261, 262, 263, 264, 265, 266, 267, 268, 575, 576, 577, 578, 579, 357, 358, 359, 360, 428, 429, 430, 431, 432, 433, 434, 435, 436, 437, 438, 439, 128, 45, 46, 47, 305, 306, 307, 308, 452, 453, 454, 455, 533, 534, 535, 536, 126, 379, 537, 538, 539, 540, 487, 488, 489, 490, 541, 542, 543, 544, 384, 385, 386, 590, 591, 592, 593, 594, 595, 596, 597, 598, 599, 600, 601, 602, 603, 604, 605, 606, 607, 608, 609, 610, 611, 612, 613, 614, 615, 616, 617, 618] (by decide +kernel) (by decide +kernel)
set_option maxRecDepth 20000 in
theorem gL_law_X3_digest : GoodIn wsL_law (wsV RL 110 RX3 yX3_digest wsX3_digest) := goodIn_app (goodIn_of _ (by decide +kernel)) ggL_law_X3_digest
theorem dL_law_0 : decode cL_law 0 = .ok (.new 7, 3) := by decide +kernel
theorem dL_law_3 : decode cL_law 3 = .ok (.dup, 1) := by decide +kernel
theorem dL_law_4 : decode cL_law 4 = .ok (.invokespecial 9, 3) := by decide +kernel
theorem dL_law_7 : decode cL_law 7 = .ok (.astore_n 1, 1) := by decide +kernel
theorem dL_law_8 : decode cL_law 8 = .ok (.new 10, 3) := by decide +kernel
theorem dL_law_11 : decode cL_law 11 = .ok (.dup, 1) := by decide +kernel
theorem dL_law_12 : decode cL_law 12 = .ok (.invokespecial 12, 3) := by decide +kernel
theorem dL_law_15 : decode cL_law 15 = .ok (.astore_n 2, 1) := by decide +kernel
theorem dL_law_16 : decode cL_law 16 = .ok (.iconst 0, 1) := by decide +kernel
theorem dL_law_17 : decode cL_law 17 = .ok (.istore_n 3, 1) := by decide +kernel
theorem dL_law_18 : decode cL_law 18 = .ok (.iload_n 3, 1) := by decide +kernel
theorem dL_law_19 : decode cL_law 19 = .ok (.aload_n 0, 1) := by decide +kernel
theorem dL_law_20 : decode cL_law 20 = .ok (.arraylength, 1) := by decide +kernel
theorem dL_law_21 : decode cL_law 21 = .ok (.iconst 4, 1) := by decide +kernel
theorem dL_law_22 : decode cL_law 22 = .ok (.isub, 1) := by decide +kernel
theorem dL_law_23 : decode cL_law 23 = .ok (.if_icmp .gt 785, 3) := by decide +kernel
theorem dL_law_26 : decode cL_law 26 = .ok (.aload_n 0, 1) := by decide +kernel
theorem dL_law_27 : decode cL_law 27 = .ok (.iload_n 3, 1) := by decide +kernel
theorem dL_law_28 : decode cL_law 28 = .ok (.iaload, 1) := by decide +kernel
theorem dL_law_29 : decode cL_law 29 = .ok (.bipush 31, 2) := by decide +kernel
theorem dL_law_31 : decode cL_law 31 = .ok (.iand, 1) := by decide +kernel
theorem dL_law_32 : decode cL_law 32 = .ok (.tableswitch 770 0 22 #[108, 131, 144, 157, 170, 193, 226, 269, 302, 335, 368, 427, 460, 493, 536, 595, 608, 631, 664, 707, 720, 733, 756], 108) := by decide +kernel
theorem dL_law_140 : decode cL_law 140 = .ok (.aload_n 1, 1) := by decide +kernel
theorem dL_law_141 : decode cL_law 141 = .ok (.aload_n 0, 1) := by decide +kernel
theorem dL_law_142 : decode cL_law 142 = .ok (.iload_n 3, 1) := by decide +kernel
theorem dL_law_143 : decode cL_law 143 = .ok (.iconst 1, 1) := by decide +kernel
theorem dL_law_144 : decode cL_law 144 = .ok (.iadd, 1) := by decide +kernel
theorem dL_law_145 : decode cL_law 145 = .ok (.iaload, 1) := by decide +kernel
theorem dL_law_146 : decode cL_law 146 = .ok (.invokevirtual 13, 3) := by decide +kernel
theorem dL_law_149 : decode cL_law 149 = .ok (.aload_n 2, 1) := by decide +kernel
theorem dL_law_150 : decode cL_law 150 = .ok (.aload_n 0, 1) := by decide +kernel
theorem dL_law_151 : decode cL_law 151 = .ok (.iload_n 3, 1) := by decide +kernel
theorem dL_law_152 : decode cL_law 152 = .ok (.iconst 1, 1) := by decide +kernel
theorem dL_law_153 : decode cL_law 153 = .ok (.iadd, 1) := by decide +kernel
theorem dL_law_154 : decode cL_law 154 = .ok (.iaload, 1) := by decide +kernel
theorem dL_law_155 : decode cL_law 155 = .ok (.invokevirtual 17, 3) := by decide +kernel
theorem dL_law_158 : decode cL_law 158 = .ok (.if_icmp .eq 644, 3) := by decide +kernel
theorem dL_law_161 : decode cL_law 161 = .ok (.iconst 0, 1) := by decide +kernel
theorem dL_law_162 : decode cL_law 162 = .ok (.ireturn, 1) := by decide +kernel
theorem dL_law_163 : decode cL_law 163 = .ok (.aload_n 1, 1) := by decide +kernel
theorem dL_law_164 : decode cL_law 164 = .ok (.invokevirtual 18, 3) := by decide +kernel
theorem dL_law_167 : decode cL_law 167 = .ok (.aload_n 2, 1) := by decide +kernel
theorem dL_law_168 : decode cL_law 168 = .ok (.invokevirtual 22, 3) := by decide +kernel
theorem dL_law_171 : decode cL_law 171 = .ok (.if_icmp .eq 631, 3) := by decide +kernel
theorem dL_law_174 : decode cL_law 174 = .ok (.iconst 0, 1) := by decide +kernel
theorem dL_law_175 : decode cL_law 175 = .ok (.ireturn, 1) := by decide +kernel
theorem dL_law_176 : decode cL_law 176 = .ok (.aload_n 1, 1) := by decide +kernel
theorem dL_law_177 : decode cL_law 177 = .ok (.invokevirtual 23, 3) := by decide +kernel
theorem dL_law_180 : decode cL_law 180 = .ok (.aload_n 2, 1) := by decide +kernel
theorem dL_law_181 : decode cL_law 181 = .ok (.invokevirtual 26, 3) := by decide +kernel
theorem dL_law_184 : decode cL_law 184 = .ok (.if_icmp .eq 618, 3) := by decide +kernel
theorem dL_law_187 : decode cL_law 187 = .ok (.iconst 0, 1) := by decide +kernel
theorem dL_law_188 : decode cL_law 188 = .ok (.ireturn, 1) := by decide +kernel
theorem dL_law_189 : decode cL_law 189 = .ok (.aload_n 1, 1) := by decide +kernel
theorem dL_law_190 : decode cL_law 190 = .ok (.invokevirtual 27, 3) := by decide +kernel
theorem dL_law_193 : decode cL_law 193 = .ok (.aload_n 2, 1) := by decide +kernel
theorem dL_law_194 : decode cL_law 194 = .ok (.invokevirtual 30, 3) := by decide +kernel
theorem dL_law_197 : decode cL_law 197 = .ok (.if_icmp .eq 605, 3) := by decide +kernel
theorem dL_law_200 : decode cL_law 200 = .ok (.iconst 0, 1) := by decide +kernel
theorem dL_law_201 : decode cL_law 201 = .ok (.ireturn, 1) := by decide +kernel
theorem dL_law_202 : decode cL_law 202 = .ok (.aload_n 1, 1) := by decide +kernel
theorem dL_law_203 : decode cL_law 203 = .ok (.aload_n 0, 1) := by decide +kernel
theorem dL_law_204 : decode cL_law 204 = .ok (.iload_n 3, 1) := by decide +kernel
theorem dL_law_205 : decode cL_law 205 = .ok (.iconst 1, 1) := by decide +kernel
theorem dL_law_206 : decode cL_law 206 = .ok (.iadd, 1) := by decide +kernel
theorem dL_law_207 : decode cL_law 207 = .ok (.iaload, 1) := by decide +kernel
theorem dL_law_208 : decode cL_law 208 = .ok (.invokevirtual 31, 3) := by decide +kernel
theorem dL_law_211 : decode cL_law 211 = .ok (.aload_n 2, 1) := by decide +kernel
theorem dL_law_212 : decode cL_law 212 = .ok (.aload_n 0, 1) := by decide +kernel
theorem dL_law_213 : decode cL_law 213 = .ok (.iload_n 3, 1) := by decide +kernel
theorem dL_law_214 : decode cL_law 214 = .ok (.iconst 1, 1) := by decide +kernel
theorem dL_law_215 : decode cL_law 215 = .ok (.iadd, 1) := by decide +kernel
theorem dL_law_216 : decode cL_law 216 = .ok (.iaload, 1) := by decide +kernel
theorem dL_law_217 : decode cL_law 217 = .ok (.invokevirtual 34, 3) := by decide +kernel
theorem dL_law_220 : decode cL_law 220 = .ok (.if_icmp .eq 582, 3) := by decide +kernel
theorem dL_law_223 : decode cL_law 223 = .ok (.iconst 0, 1) := by decide +kernel
theorem dL_law_224 : decode cL_law 224 = .ok (.ireturn, 1) := by decide +kernel
theorem dL_law_225 : decode cL_law 225 = .ok (.aload_n 1, 1) := by decide +kernel
theorem dL_law_226 : decode cL_law 226 = .ok (.aload_n 0, 1) := by decide +kernel
theorem dL_law_227 : decode cL_law 227 = .ok (.iload_n 3, 1) := by decide +kernel
theorem dL_law_228 : decode cL_law 228 = .ok (.iconst 1, 1) := by decide +kernel
theorem dL_law_229 : decode cL_law 229 = .ok (.iadd, 1) := by decide +kernel
theorem dL_law_230 : decode cL_law 230 = .ok (.iaload, 1) := by decide +kernel
theorem dL_law_231 : decode cL_law 231 = .ok (.aload_n 0, 1) := by decide +kernel
theorem dL_law_232 : decode cL_law 232 = .ok (.iload_n 3, 1) := by decide +kernel
theorem dL_law_233 : decode cL_law 233 = .ok (.iconst 2, 1) := by decide +kernel
theorem dL_law_234 : decode cL_law 234 = .ok (.iadd, 1) := by decide +kernel
theorem dL_law_235 : decode cL_law 235 = .ok (.iaload, 1) := by decide +kernel
theorem dL_law_236 : decode cL_law 236 = .ok (.invokevirtual 35, 3) := by decide +kernel
theorem dL_law_239 : decode cL_law 239 = .ok (.aload_n 2, 1) := by decide +kernel
theorem dL_law_240 : decode cL_law 240 = .ok (.aload_n 0, 1) := by decide +kernel
theorem dL_law_241 : decode cL_law 241 = .ok (.iload_n 3, 1) := by decide +kernel
theorem dL_law_242 : decode cL_law 242 = .ok (.iconst 1, 1) := by decide +kernel
theorem dL_law_243 : decode cL_law 243 = .ok (.iadd, 1) := by decide +kernel
theorem dL_law_244 : decode cL_law 244 = .ok (.iaload, 1) := by decide +kernel
theorem dL_law_245 : decode cL_law 245 = .ok (.aload_n 0, 1) := by decide +kernel
theorem dL_law_246 : decode cL_law 246 = .ok (.iload_n 3, 1) := by decide +kernel
theorem dL_law_247 : decode cL_law 247 = .ok (.iconst 2, 1) := by decide +kernel
theorem dL_law_248 : decode cL_law 248 = .ok (.iadd, 1) := by decide +kernel
theorem dL_law_249 : decode cL_law 249 = .ok (.iaload, 1) := by decide +kernel
theorem dL_law_250 : decode cL_law 250 = .ok (.invokevirtual 39, 3) := by decide +kernel
theorem dL_law_253 : decode cL_law 253 = .ok (.if_icmp .eq 549, 3) := by decide +kernel
theorem dL_law_256 : decode cL_law 256 = .ok (.iconst 0, 1) := by decide +kernel
theorem dL_law_257 : decode cL_law 257 = .ok (.ireturn, 1) := by decide +kernel
theorem dL_law_258 : decode cL_law 258 = .ok (.aload_n 1, 1) := by decide +kernel
theorem dL_law_259 : decode cL_law 259 = .ok (.aload_n 0, 1) := by decide +kernel
theorem dL_law_260 : decode cL_law 260 = .ok (.iload_n 3, 1) := by decide +kernel
theorem dL_law_261 : decode cL_law 261 = .ok (.iconst 1, 1) := by decide +kernel
theorem dL_law_262 : decode cL_law 262 = .ok (.iadd, 1) := by decide +kernel
theorem dL_law_263 : decode cL_law 263 = .ok (.iaload, 1) := by decide +kernel
theorem dL_law_264 : decode cL_law 264 = .ok (.aload_n 0, 1) := by decide +kernel
theorem dL_law_265 : decode cL_law 265 = .ok (.iload_n 3, 1) := by decide +kernel
theorem dL_law_266 : decode cL_law 266 = .ok (.iconst 2, 1) := by decide +kernel
theorem dL_law_267 : decode cL_law 267 = .ok (.iadd, 1) := by decide +kernel
theorem dL_law_268 : decode cL_law 268 = .ok (.iaload, 1) := by decide +kernel
theorem dL_law_269 : decode cL_law 269 = .ok (.aload_n 0, 1) := by decide +kernel
theorem dL_law_270 : decode cL_law 270 = .ok (.iload_n 3, 1) := by decide +kernel
theorem dL_law_271 : decode cL_law 271 = .ok (.iconst 3, 1) := by decide +kernel
theorem dL_law_272 : decode cL_law 272 = .ok (.iadd, 1) := by decide +kernel
