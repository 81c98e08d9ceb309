theorem dX4_hashOf_6 : decode cX4_hashOf 6 = .ok (.ireturn, 1) := by decide +kernel
theorem dX5_init_0 : decode cX5_init 0 = .ok (.aload_n 0, 1) := by decide +kernel
theorem dX5_init_1 : decode cX5_init 1 = .ok (.invokespecial 1, 3) := by decide +kernel
theorem dX5_init_4 : decode cX5_init 4 = .ok (.aload_n 0, 1) := by decide +kernel
theorem dX5_init_5 : decode cX5_init 5 = .ok (.sipush 128, 3) := by decide +kernel
theorem dX5_init_8 : decode cX5_init 8 = .ok (.newarray .boolean, 2) := by decide +kernel
theorem dX5_init_10 : decode cX5_init 10 = .ok (.putfield 7, 3) := by decide +kernel
theorem dX5_init_13 : decode cX5_init 13 = .ok (.aload_n 0, 1) := by decide +kernel
theorem dX5_init_14 : decode cX5_init 14 = .ok (.bipush 16, 2) := by decide +kernel
theorem dX5_init_16 : decode cX5_init 16 = .ok (.newarray .boolean, 2) := by decide +kernel
theorem dX5_init_18 : decode cX5_init 18 = .ok (.putfield 13, 3) := by decide +kernel
theorem dX5_init_21 : decode cX5_init 21 = .ok (.aload_n 0, 1) := by decide +kernel
theorem dX5_init_22 : decode cX5_init 22 = .ok (.sipush 1024, 3) := by decide +kernel
theorem dX5_init_25 : decode cX5_init 25 = .ok (.newarray .int, 2) := by decide +kernel
theorem dX5_init_27 : decode cX5_init 27 = .ok (.putfield 16, 3) := by decide +kernel
theorem dX5_init_30 : decode cX5_init 30 = .ok (.aload_n 0, 1) := by decide +kernel
theorem dX5_init_31 : decode cX5_init 31 = .ok (.bipush 16, 2) := by decide +kernel
theorem dX5_init_33 : decode cX5_init 33 = .ok (.newarray .int, 2) := by decide +kernel
theorem dX5_init_35 : decode cX5_init 35 = .ok (.putfield 20, 3) := by decide +kernel
theorem dX5_init_38 : decode cX5_init 38 = .ok (.aload_n 0, 1) := by decide +kernel
theorem dX5_init_39 : decode cX5_init 39 = .ok (.bipush 16, 2) := by decide +kernel
theorem dX5_init_41 : decode cX5_init 41 = .ok (.newarray .int, 2) := by decide +kernel
theorem dX5_init_43 : decode cX5_init 43 = .ok (.putfield 23, 3) := by decide +kernel
theorem dX5_init_46 : decode cX5_init 46 = .ok (.aload_n 0, 1) := by decide +kernel
theorem dX5_init_47 : decode cX5_init 47 = .ok (.bipush 16, 2) := by decide +kernel
theorem dX5_init_49 : decode cX5_init 49 = .ok (.newarray .int, 2) := by decide +kernel
theorem dX5_init_51 : decode cX5_init 51 = .ok (.putfield 26, 3) := by decide +kernel
theorem dX5_init_54 : decode cX5_init 54 = .ok (.aload_n 0, 1) := by decide +kernel
theorem dX5_init_55 : decode cX5_init 55 = .ok (.bipush 16, 2) := by decide +kernel
theorem dX5_init_57 : decode cX5_init 57 = .ok (.newarray .int, 2) := by decide +kernel
theorem dX5_init_59 : decode cX5_init 59 = .ok (.putfield 29, 3) := by decide +kernel
theorem dX5_init_62 : decode cX5_init 62 = .ok (.aload_n 0, 1) := by decide +kernel
theorem dX5_init_63 : decode cX5_init 63 = .ok (.bipush 16, 2) := by decide +kernel
theorem dX5_init_65 : decode cX5_init 65 = .ok (.newarray .int, 2) := by decide +kernel
theorem dX5_init_67 : decode cX5_init 67 = .ok (.putfield 32, 3) := by decide +kernel
theorem dX5_init_70 : decode cX5_init 70 = .ok (.aload_n 0, 1) := by decide +kernel
theorem dX5_init_71 : decode cX5_init 71 = .ok (.bipush 16, 2) := by decide +kernel
theorem dX5_init_73 : decode cX5_init 73 = .ok (.newarray .boolean, 2) := by decide +kernel
theorem dX5_init_75 : decode cX5_init 75 = .ok (.putfield 35, 3) := by decide +kernel
theorem dX5_init_78 : decode cX5_init 78 = .ok (.aload_n 0, 1) := by decide +kernel
theorem dX5_init_79 : decode cX5_init 79 = .ok (.sipush 1000, 3) := by decide +kernel
theorem dX5_init_82 : decode cX5_init 82 = .ok (.newarray .int, 2) := by decide +kernel
theorem dX5_init_84 : decode cX5_init 84 = .ok (.putfield 38, 3) := by decide +kernel
theorem dX5_init_87 : decode cX5_init 87 = .ok (.aload_n 0, 1) := by decide +kernel
theorem dX5_init_88 : decode cX5_init 88 = .ok (.sipush 300, 3) := by decide +kernel
theorem dX5_init_91 : decode cX5_init 91 = .ok (.newarray .int, 2) := by decide +kernel
theorem dX5_init_93 : decode cX5_init 93 = .ok (.putfield 41, 3) := by decide +kernel
theorem dX5_init_96 : decode cX5_init 96 = .ok (.aload_n 0, 1) := by decide +kernel
theorem dX5_init_97 : decode cX5_init 97 = .ok (.sipush 300, 3) := by decide +kernel
theorem dX5_init_100 : decode cX5_init 100 = .ok (.newarray .boolean, 2) := by decide +kernel
theorem dX5_init_102 : decode cX5_init 102 = .ok (.putfield 44, 3) := by decide +kernel
theorem dX5_init_105 : decode cX5_init 105 = .ok (.aload_n 0, 1) := by decide +kernel
theorem dX5_init_106 : decode cX5_init 106 = .ok (.sipush 1200, 3) := by decide +kernel
theorem dX5_init_109 : decode cX5_init 109 = .ok (.newarray .int, 2) := by decide +kernel
theorem dX5_init_111 : decode cX5_init 111 = .ok (.putfield 47, 3) := by decide +kernel
theorem dX5_init_114 : decode cX5_init 114 = .ok (.aload_n 0, 1) := by decide +kernel
theorem dX5_init_115 : decode cX5_init 115 = .ok (.sipush 300, 3) := by decide +kernel
theorem dX5_init_118 : decode cX5_init 118 = .ok (.newarray .int, 2) := by decide +kernel
theorem dX5_init_120 : decode cX5_init 120 = .ok (.putfield 50, 3) := by decide +kernel
theorem dX5_init_123 : decode cX5_init 123 = .ok (.aload_n 0, 1) := by decide +kernel
theorem dX5_init_124 : decode cX5_init 124 = .ok (.iconst 1, 1) := by decide +kernel
theorem dX5_init_125 : decode cX5_init 125 = .ok (.putfield 53, 3) := by decide +kernel
theorem dX5_init_128 : decode cX5_init 128 = .ok (.iconst 0, 1) := by decide +kernel
theorem dX5_init_129 : decode cX5_init 129 = .ok (.istore_n 1, 1) := by decide +kernel
theorem dX5_init_130 : decode cX5_init 130 = .ok (.iload_n 1, 1) := by decide +kernel
theorem dX5_init_131 : decode cX5_init 131 = .ok (.sipush 128, 3) := by decide +kernel
theorem dX5_init_134 : decode cX5_init 134 = .ok (.if_icmp .ge 16, 3) := by decide +kernel
theorem dX5_init_137 : decode cX5_init 137 = .ok (.aload_n 0, 1) := by decide +kernel
theorem dX5_init_138 : decode cX5_init 138 = .ok (.getfield 7, 3) := by decide +kernel
theorem dX5_init_141 : decode cX5_init 141 = .ok (.iload_n 1, 1) := by decide +kernel
theorem dX5_init_142 : decode cX5_init 142 = .ok (.iconst 1, 1) := by decide +kernel
theorem dX5_init_143 : decode cX5_init 143 = .ok (.bastore, 1) := by decide +kernel
theorem dX5_init_144 : decode cX5_init 144 = .ok (.iinc 1 1, 3) := by decide +kernel
theorem dX5_init_147 : decode cX5_init 147 = .ok (.goto (-17), 3) := by decide +kernel
theorem dX5_init_150 : decode cX5_init 150 = .ok (.iconst 0, 1) := by decide +kernel
theorem dX5_init_151 : decode cX5_init 151 = .ok (.istore_n 1, 1) := by decide +kernel
theorem dX5_init_152 : decode cX5_init 152 = .ok (.iload_n 1, 1) := by decide +kernel
theorem dX5_init_153 : decode cX5_init 153 = .ok (.sipush 1024, 3) := by decide +kernel
theorem dX5_init_156 : decode cX5_init 156 = .ok (.if_icmp .ge 16, 3) := by decide +kernel
theorem dX5_init_159 : decode cX5_init 159 = .ok (.aload_n 0, 1) := by decide +kernel
theorem dX5_init_160 : decode cX5_init 160 = .ok (.getfield 16, 3) := by decide +kernel
theorem dX5_init_163 : decode cX5_init 163 = .ok (.iload_n 1, 1) := by decide +kernel
theorem dX5_init_164 : decode cX5_init 164 = .ok (.iconst (-1), 1) := by decide +kernel
theorem dX5_init_165 : decode cX5_init 165 = .ok (.iastore, 1) := by decide +kernel
theorem dX5_init_166 : decode cX5_init 166 = .ok (.iinc 1 1, 3) := by decide +kernel
theorem dX5_init_169 : decode cX5_init 169 = .ok (.goto (-17), 3) := by decide +kernel
theorem dX5_init_172 : decode cX5_init 172 = .ok (.iconst 0, 1) := by decide +kernel
theorem dX5_init_173 : decode cX5_init 173 = .ok (.istore_n 1, 1) := by decide +kernel
theorem dX5_init_174 : decode cX5_init 174 = .ok (.iload_n 1, 1) := by decide +kernel
theorem dX5_init_175 : decode cX5_init 175 = .ok (.bipush 16, 2) := by decide +kernel
theorem dX5_init_177 : decode cX5_init 177 = .ok (.if_icmp .ge 16, 3) := by decide +kernel
theorem dX5_init_180 : decode cX5_init 180 = .ok (.aload_n 0, 1) := by decide +kernel
theorem dX5_init_181 : decode cX5_init 181 = .ok (.getfield 32, 3) := by decide +kernel
theorem dX5_init_184 : decode cX5_init 184 = .ok (.iload_n 1, 1) := by decide +kernel
theorem dX5_init_185 : decode cX5_init 185 = .ok (.iconst (-1), 1) := by decide +kernel
theorem dX5_init_186 : decode cX5_init 186 = .ok (.iastore, 1) := by decide +kernel
theorem dX5_init_187 : decode cX5_init 187 = .ok (.iinc 1 1, 3) := by decide +kernel
theorem dX5_init_190 : decode cX5_init 190 = .ok (.goto (-16), 3) := by decide +kernel
theorem dX5_init_193 : decode cX5_init 193 = .ok (.return_, 1) := by decide +kernel
theorem dX5_thrown_0 : decode cX5_thrown 0 = .ok (.aload_n 0, 1) := by decide +kernel
theorem dX5_thrown_1 : decode cX5_thrown 1 = .ok (.getfield 57, 3) := by decide +kernel
theorem dX5_thrown_4 : decode cX5_thrown 4 = .ok (.ireturn, 1) := by decide +kernel
theorem dX5_in_0 : decode cX5_in 0 = .ok (.iload_n 0, 1) := by decide +kernel
theorem dX5_in_1 : decode cX5_in 1 = .ok (.iload_n 1, 1) := by decide +kernel
theorem dX5_in_2 : decode cX5_in 2 = .ok (.if_icmp .lt 12, 3) := by decide +kernel
theorem dX5_in_5 : decode cX5_in 5 = .ok (.iload_n 0, 1) := by decide +kernel
theorem dX5_in_6 : decode cX5_in 6 = .ok (.iload_n 2, 1) := by decide +kernel
theorem dX5_in_7 : decode cX5_in 7 = .ok (.if_icmp .gt 7, 3) := by decide +kernel
theorem dX5_in_10 : decode cX5_in 10 = .ok (.iconst 1, 1) := by decide +kernel
theorem dX5_in_11 : decode cX5_in 11 = .ok (.goto 4, 3) := by decide +kernel
theorem dX5_in_14 : decode cX5_in 14 = .ok (.iconst 0, 1) := by decide +kernel
theorem dX5_in_15 : decode cX5_in 15 = .ok (.ireturn, 1) := by decide +kernel
theorem dX5_asked_0 : decode cX5_asked 0 = .ok (.aload_n 0, 1) := by decide +kernel
theorem dX5_asked_1 : decode cX5_asked 1 = .ok (.iload_n 1, 1) := by decide +kernel
theorem dX5_asked_2 : decode cX5_asked 2 = .ok (.ifCond .eq 7, 3) := by decide +kernel
theorem dX5_asked_5 : decode cX5_asked 5 = .ok (.iconst 0, 1) := by decide +kernel
theorem dX5_asked_6 : decode cX5_asked 6 = .ok (.goto 4, 3) := by decide +kernel
theorem dX5_asked_9 : decode cX5_asked 9 = .ok (.iconst 1, 1) := by decide +kernel
theorem dX5_asked_10 : decode cX5_asked 10 = .ok (.putfield 57, 3) := by decide +kernel
theorem dX5_asked_13 : decode cX5_asked 13 = .ok (.iload_n 1, 1) := by decide +kernel
theorem dX5_asked_14 : decode cX5_asked 14 = .ok (.ireturn, 1) := by decide +kernel
theorem dX5_asked__0 : decode cX5_asked_ 0 = .ok (.aload_n 0, 1) := by decide +kernel
theorem dX5_asked__1 : decode cX5_asked_ 1 = .ok (.iload_n 1, 1) := by decide +kernel
theorem dX5_asked__2 : decode cX5_asked_ 2 = .ok (.ifCond .ne 7, 3) := by decide +kernel
theorem dX5_asked__5 : decode cX5_asked_ 5 = .ok (.iconst 1, 1) := by decide +kernel
theorem dX5_asked__6 : decode cX5_asked_ 6 = .ok (.goto 12, 3) := by decide +kernel
theorem dX5_asked__9 : decode cX5_asked_ 9 = .ok (.iload_n 2, 1) := by decide +kernel
theorem dX5_asked__10 : decode cX5_asked_ 10 = .ok (.ifCond .eq 7, 3) := by decide +kernel
theorem dX5_asked__13 : decode cX5_asked_ 13 = .ok (.iconst 0, 1) := by decide +kernel
theorem dX5_asked__14 : decode cX5_asked_ 14 = .ok (.goto 4, 3) := by decide +kernel
theorem dX5_asked__17 : decode cX5_asked_ 17 = .ok (.iconst 2, 1) := by decide +kernel
theorem dX5_asked__18 : decode cX5_asked_ 18 = .ok (.putfield 57, 3) := by decide +kernel
theorem dX5_asked__21 : decode cX5_asked_ 21 = .ok (.aload_n 0, 1) := by decide +kernel
theorem dX5_asked__22 : decode cX5_asked_ 22 = .ok (.getfield 57, 3) := by decide +kernel
theorem dX5_asked__25 : decode cX5_asked_ 25 = .ok (.ifCond .ne 7, 3) := by decide +kernel
theorem dX5_asked__28 : decode cX5_asked_ 28 = .ok (.iconst 1, 1) := by decide +kernel
theorem dX5_asked__29 : decode cX5_asked_ 29 = .ok (.goto 4, 3) := by decide +kernel
theorem dX5_asked__32 : decode cX5_asked_ 32 = .ok (.iconst 0, 1) := by decide +kernel
theorem dX5_asked__33 : decode cX5_asked_ 33 = .ok (.ireturn, 1) := by decide +kernel
theorem dX5_asked___0 : decode cX5_asked__ 0 = .ok (.aload_n 0, 1) := by decide +kernel
theorem dX5_asked___1 : decode cX5_asked__ 1 = .ok (.iload_n 1, 1) := by decide +kernel
theorem dX5_asked___2 : decode cX5_asked__ 2 = .ok (.ifCond .ne 7, 3) := by decide +kernel
theorem dX5_asked___5 : decode cX5_asked__ 5 = .ok (.iconst 1, 1) := by decide +kernel
theorem dX5_asked___6 : decode cX5_asked__ 6 = .ok (.goto 20, 3) := by decide +kernel
theorem dX5_asked___9 : decode cX5_asked__ 9 = .ok (.iload_n 2, 1) := by decide +kernel
theorem dX5_asked___10 : decode cX5_asked__ 10 = .ok (.ifCond .ne 7, 3) := by decide +kernel
theorem dX5_asked___13 : decode cX5_asked__ 13 = .ok (.iconst 2, 1) := by decide +kernel
theorem dX5_asked___14 : decode cX5_asked__ 14 = .ok (.goto 12, 3) := by decide +kernel
theorem dX5_asked___17 : decode cX5_asked__ 17 = .ok (.iload_n 3, 1) := by decide +kernel
theorem dX5_asked___18 : decode cX5_asked__ 18 = .ok (.ifCond .eq 7, 3) := by decide +kernel
theorem dX5_asked___21 : decode cX5_asked__ 21 = .ok (.iconst 0, 1) := by decide +kernel
theorem dX5_asked___22 : decode cX5_asked__ 22 = .ok (.goto 4, 3) := by decide +kernel
theorem dX5_asked___25 : decode cX5_asked__ 25 = .ok (.iconst 3, 1) := by decide +kernel
theorem dX5_asked___26 : decode cX5_asked__ 26 = .ok (.putfield 57, 3) := by decide +kernel
theorem dX5_asked___29 : decode cX5_asked__ 29 = .ok (.aload_n 0, 1) := by decide +kernel
theorem dX5_asked___30 : decode cX5_asked__ 30 = .ok (.getfield 57, 3) := by decide +kernel
theorem dX5_asked___33 : decode cX5_asked__ 33 = .ok (.ifCond .ne 7, 3) := by decide +kernel
theorem dX5_asked___36 : decode cX5_asked__ 36 = .ok (.iconst 1, 1) := by decide +kernel
theorem dX5_asked___37 : decode cX5_asked__ 37 = .ok (.goto 4, 3) := by decide +kernel
theorem dX5_asked___40 : decode cX5_asked__ 40 = .ok (.iconst 0, 1) := by decide +kernel
theorem dX5_asked___41 : decode cX5_asked__ 41 = .ok (.ireturn, 1) := by decide +kernel
theorem dX5_told_0 : decode cX5_told 0 = .ok (.aload_n 0, 1) := by decide +kernel
theorem dX5_told_1 : decode cX5_told 1 = .ok (.iconst 0, 1) := by decide +kernel
theorem dX5_told_2 : decode cX5_told 2 = .ok (.putfield 57, 3) := by decide +kernel
theorem dX5_told_5 : decode cX5_told 5 = .ok (.iload_n 1, 1) := by decide +kernel
theorem dX5_told_6 : decode cX5_told 6 = .ok (.ireturn, 1) := by decide +kernel
set_option maxRecDepth 20000 in
theorem ggX5_isThere_X5_in : GoodIn wsX5_isThere wsX5_in := goodIn_r _ [5] (by decide +kernel) (by decide +kernel)
set_option maxRecDepth 20000 in
theorem gX5_isThere_X5_in : GoodIn wsX5_isThere (va_wsS RX5 60 yX5_in wsX5_in) := goodIn_app (goodIn_of _ (by decide +kernel)) ggX5_isThere_X5_in
theorem dX5_isThere_0 : decode cX5_isThere 0 = .ok (.iload_n 1, 1) := by decide +kernel
theorem dX5_isThere_1 : decode cX5_isThere 1 = .ok (.iconst 0, 1) := by decide +kernel
theorem dX5_isThere_2 : decode cX5_isThere 2 = .ok (.bipush 15, 2) := by decide +kernel
theorem dX5_isThere_4 : decode cX5_isThere 4 = .ok (.invokestatic 60, 3) := by decide +kernel
theorem dX5_isThere_7 : decode cX5_isThere 7 = .ok (.ifCond .eq 16, 3) := by decide +kernel
theorem dX5_isThere_10 : decode cX5_isThere 10 = .ok (.aload_n 0, 1) := by decide +kernel
theorem dX5_isThere_11 : decode cX5_isThere 11 = .ok (.getfield 13, 3) := by decide +kernel
theorem dX5_isThere_14 : decode cX5_isThere 14 = .ok (.iload_n 1, 1) := by decide +kernel
theorem dX5_isThere_15 : decode cX5_isThere 15 = .ok (.baload, 1) := by decide +kernel
theorem dX5_isThere_16 : decode cX5_isThere 16 = .ok (.ifCond .eq 7, 3) := by decide +kernel
theorem dX5_isThere_19 : decode cX5_isThere 19 = .ok (.iconst 1, 1) := by decide +kernel
theorem dX5_isThere_20 : decode cX5_isThere 20 = .ok (.goto 4, 3) := by decide +kernel
theorem dX5_isThere_23 : decode cX5_isThere 23 = .ok (.iconst 0, 1) := by decide +kernel
theorem dX5_isThere_24 : decode cX5_isThere 24 = .ok (.ireturn, 1) := by decide +kernel
set_option maxRecDepth 20000 in
theorem ggX5_isName_X5_in : GoodIn wsX5_isName wsX5_in := goodIn_r _ [4] (by decide +kernel) (by decide +kernel)
set_option maxRecDepth 20000 in
theorem gX5_isName_X5_in : GoodIn wsX5_isName (va_wsS RX5 60 yX5_in wsX5_in) := goodIn_app (goodIn_of _ (by decide +kernel)) ggX5_isName_X5_in
theorem dX5_isName_0 : decode cX5_isName 0 = .ok (.iload_n 0, 1) := by decide +kernel
theorem dX5_isName_1 : decode cX5_isName 1 = .ok (.iconst 0, 1) := by decide +kernel
theorem dX5_isName_2 : decode cX5_isName 2 = .ok (.sipush 999, 3) := by decide +kernel
theorem dX5_isName_5 : decode cX5_isName 5 = .ok (.invokestatic 60, 3) := by decide +kernel
theorem dX5_isName_8 : decode cX5_isName 8 = .ok (.ireturn, 1) := by decide +kernel
theorem dX5_freeNow_0 : decode cX5_freeNow 0 = .ok (.iconst 0, 1) := by decide +kernel
theorem dX5_freeNow_1 : decode cX5_freeNow 1 = .ok (.istore_n 1, 1) := by decide +kernel
theorem dX5_freeNow_2 : decode cX5_freeNow 2 = .ok (.iconst 0, 1) := by decide +kernel
theorem dX5_freeNow_3 : decode cX5_freeNow 3 = .ok (.istore_n 2, 1) := by decide +kernel
theorem dX5_freeNow_4 : decode cX5_freeNow 4 = .ok (.iload_n 2, 1) := by decide +kernel
theorem dX5_freeNow_5 : decode cX5_freeNow 5 = .ok (.sipush 128, 3) := by decide +kernel
theorem dX5_freeNow_8 : decode cX5_freeNow 8 = .ok (.if_icmp .ge 26, 3) := by decide +kernel
theorem dX5_freeNow_11 : decode cX5_freeNow 11 = .ok (.iload_n 1, 1) := by decide +kernel
theorem dX5_freeNow_12 : decode cX5_freeNow 12 = .ok (.aload_n 0, 1) := by decide +kernel
theorem dX5_freeNow_13 : decode cX5_freeNow 13 = .ok (.getfield 7, 3) := by decide +kernel
theorem dX5_freeNow_16 : decode cX5_freeNow 16 = .ok (.iload_n 2, 1) := by decide +kernel
theorem dX5_freeNow_17 : decode cX5_freeNow 17 = .ok (.baload, 1) := by decide +kernel
theorem dX5_freeNow_18 : decode cX5_freeNow 18 = .ok (.ifCond .eq 7, 3) := by decide +kernel
theorem dX5_freeNow_21 : decode cX5_freeNow 21 = .ok (.iconst 1, 1) := by decide +kernel
theorem dX5_freeNow_22 : decode cX5_freeNow 22 = .ok (.goto 4, 3) := by decide +kernel
theorem dX5_freeNow_25 : decode cX5_freeNow 25 = .ok (.iconst 0, 1) := by decide +kernel
theorem dX5_freeNow_26 : decode cX5_freeNow 26 = .ok (.iadd, 1) := by decide +kernel
theorem dX5_freeNow_27 : decode cX5_freeNow 27 = .ok (.istore_n 1, 1) := by decide +kernel
theorem dX5_freeNow_28 : decode cX5_freeNow 28 = .ok (.iinc 2 1, 3) := by decide +kernel
theorem dX5_freeNow_31 : decode cX5_freeNow 31 = .ok (.goto (-27), 3) := by decide +kernel
theorem dX5_freeNow_34 : decode cX5_freeNow 34 = .ok (.iload_n 1, 1) := by decide +kernel
theorem dX5_freeNow_35 : decode cX5_freeNow 35 = .ok (.ireturn, 1) := by decide +kernel
theorem dX5_reservedNow_0 : decode cX5_reservedNow 0 = .ok (.iconst 0, 1) := by decide +kernel
theorem dX5_reservedNow_1 : decode cX5_reservedNow 1 = .ok (.istore_n 1, 1) := by decide +kernel
theorem dX5_reservedNow_2 : decode cX5_reservedNow 2 = .ok (.iconst 0, 1) := by decide +kernel
theorem dX5_reservedNow_3 : decode cX5_reservedNow 3 = .ok (.istore_n 2, 1) := by decide +kernel
theorem dX5_reservedNow_4 : decode cX5_reservedNow 4 = .ok (.iload_n 2, 1) := by decide +kernel
theorem dX5_reservedNow_5 : decode cX5_reservedNow 5 = .ok (.sipush 1024, 3) := by decide +kernel
theorem dX5_reservedNow_8 : decode cX5_reservedNow 8 = .ok (.if_icmp .ge 28, 3) := by decide +kernel
theorem dX5_reservedNow_11 : decode cX5_reservedNow 11 = .ok (.iload_n 1, 1) := by decide +kernel
theorem dX5_reservedNow_12 : decode cX5_reservedNow 12 = .ok (.aload_n 0, 1) := by decide +kernel
theorem dX5_reservedNow_13 : decode cX5_reservedNow 13 = .ok (.getfield 16, 3) := by decide +kernel
theorem dX5_reservedNow_16 : decode cX5_reservedNow 16 = .ok (.iload_n 2, 1) := by decide +kernel
theorem dX5_reservedNow_17 : decode cX5_reservedNow 17 = .ok (.iaload, 1) := by decide +kernel
theorem dX5_reservedNow_18 : decode cX5_reservedNow 18 = .ok (.bipush (-2), 2) := by decide +kernel
theorem dX5_reservedNow_20 : decode cX5_reservedNow 20 = .ok (.if_icmp .ne 7, 3) := by decide +kernel
theorem dX5_reservedNow_23 : decode cX5_reservedNow 23 = .ok (.iconst 1, 1) := by decide +kernel
theorem dX5_reservedNow_24 : decode cX5_reservedNow 24 = .ok (.goto 4, 3) := by decide +kernel
theorem dX5_reservedNow_27 : decode cX5_reservedNow 27 = .ok (.iconst 0, 1) := by decide +kernel
theorem dX5_reservedNow_28 : decode cX5_reservedNow 28 = .ok (.iadd, 1) := by decide +kernel
theorem dX5_reservedNow_29 : decode cX5_reservedNow 29 = .ok (.istore_n 1, 1) := by decide +kernel
theorem dX5_reservedNow_30 : decode cX5_reservedNow 30 = .ok (.iinc 2 1, 3) := by decide +kernel
theorem dX5_reservedNow_33 : decode cX5_reservedNow 33 = .ok (.goto (-29), 3) := by decide +kernel
theorem dX5_reservedNow_36 : decode cX5_reservedNow 36 = .ok (.iload_n 1, 1) := by decide +kernel
theorem dX5_reservedNow_37 : decode cX5_reservedNow 37 = .ok (.ireturn, 1) := by decide +kernel
theorem dX5_keptNow_0 : decode cX5_keptNow 0 = .ok (.iconst 0, 1) := by decide +kernel
theorem dX5_keptNow_1 : decode cX5_keptNow 1 = .ok (.istore_n 1, 1) := by decide +kernel
theorem dX5_keptNow_2 : decode cX5_keptNow 2 = .ok (.iconst 0, 1) := by decide +kernel
theorem dX5_keptNow_3 : decode cX5_keptNow 3 = .ok (.istore_n 2, 1) := by decide +kernel
theorem dX5_keptNow_4 : decode cX5_keptNow 4 = .ok (.iload_n 2, 1) := by decide +kernel
theorem dX5_keptNow_5 : decode cX5_keptNow 5 = .ok (.bipush 16, 2) := by decide +kernel
theorem dX5_keptNow_7 : decode cX5_keptNow 7 = .ok (.if_icmp .ge 18, 3) := by decide +kernel
theorem dX5_keptNow_10 : decode cX5_keptNow 10 = .ok (.iload_n 1, 1) := by decide +kernel
theorem dX5_keptNow_11 : decode cX5_keptNow 11 = .ok (.aload_n 0, 1) := by decide +kernel
theorem dX5_keptNow_12 : decode cX5_keptNow 12 = .ok (.getfield 26, 3) := by decide +kernel
theorem dX5_keptNow_15 : decode cX5_keptNow 15 = .ok (.iload_n 2, 1) := by decide +kernel
theorem dX5_keptNow_16 : decode cX5_keptNow 16 = .ok (.iaload, 1) := by decide +kernel
theorem dX5_keptNow_17 : decode cX5_keptNow 17 = .ok (.iadd, 1) := by decide +kernel
theorem dX5_keptNow_18 : decode cX5_keptNow 18 = .ok (.istore_n 1, 1) := by decide +kernel
theorem dX5_keptNow_19 : decode cX5_keptNow 19 = .ok (.iinc 2 1, 3) := by decide +kernel
theorem dX5_keptNow_22 : decode cX5_keptNow 22 = .ok (.goto (-18), 3) := by decide +kernel
theorem dX5_keptNow_25 : decode cX5_keptNow 25 = .ok (.iload_n 1, 1) := by decide +kernel
theorem dX5_keptNow_26 : decode cX5_keptNow 26 = .ok (.ireturn, 1) := by decide +kernel
set_option maxRecDepth 20000 in
theorem ggX5_left_X5_freeNow : GoodIn wsX5_left wsX5_freeNow := goodIn_r _ [5, 6, 12, 13, 14, 15, 16, 17, 18, 19, 20, 21, 22, 23, 24, 25, 26, 27, 28, 29] (by decide +kernel) (by decide +kernel)
set_option maxRecDepth 20000 in
theorem gX5_left_X5_freeNow : GoodIn wsX5_left (wsV RX5 64 RX5 yX5_freeNow wsX5_freeNow) := goodIn_app (goodIn_of _ (by decide +kernel)) ggX5_left_X5_freeNow
set_option maxRecDepth 20000 in
theorem ggX5_left_X5_reservedNow : GoodIn wsX5_left wsX5_reservedNow := goodIn_r _ [10, 11, 12, 13, 14, 15, 16, 17, 18, 19, 20, 21, 22, 23, 24, 25, 26, 27, 28, 29] (by decide +kernel) (by decide +kernel)
set_option maxRecDepth 20000 in
theorem gX5_left_X5_reservedNow : GoodIn wsX5_left (wsV RX5 68 RX5 yX5_reservedNow wsX5_reservedNow) := goodIn_app (goodIn_of _ (by decide +kernel)) ggX5_left_X5_reservedNow
theorem dX5_left_0 : decode cX5_left 0 = .ok (.aload_n 0, 1) := by decide +kernel
theorem dX5_left_1 : decode cX5_left 1 = .ok (.invokevirtual 64, 3) := by decide +kernel
theorem dX5_left_4 : decode cX5_left 4 = .ok (.aload_n 0, 1) := by decide +kernel
theorem dX5_left_5 : decode cX5_left 5 = .ok (.invokevirtual 68, 3) := by decide +kernel
theorem dX5_left_8 : decode cX5_left 8 = .ok (.isub, 1) := by decide +kernel
theorem dX5_left_9 : decode cX5_left 9 = .ok (.ireturn, 1) := by decide +kernel
theorem dX5_freesKept_0 : decode cX5_freesKept 0 = .ok (.iconst 0, 1) := by decide +kernel
theorem dX5_freesKept_1 : decode cX5_freesKept 1 = .ok (.istore_n 2, 1) := by decide +kernel
theorem dX5_freesKept_2 : decode cX5_freesKept 2 = .ok (.iload_n 2, 1) := by decide +kernel
theorem dX5_freesKept_3 : decode cX5_freesKept 3 = .ok (.aload_n 0, 1) := by decide +kernel
theorem dX5_freesKept_4 : decode cX5_freesKept 4 = .ok (.getfield 26, 3) := by decide +kernel
theorem dX5_freesKept_7 : decode cX5_freesKept 7 = .ok (.iload_n 1, 1) := by decide +kernel
theorem dX5_freesKept_8 : decode cX5_freesKept 8 = .ok (.iaload, 1) := by decide +kernel
theorem dX5_freesKept_9 : decode cX5_freesKept 9 = .ok (.if_icmp .ge 23, 3) := by decide +kernel
theorem dX5_freesKept_12 : decode cX5_freesKept 12 = .ok (.aload_n 0, 1) := by decide +kernel
theorem dX5_freesKept_13 : decode cX5_freesKept 13 = .ok (.getfield 7, 3) := by decide +kernel
theorem dX5_freesKept_16 : decode cX5_freesKept 16 = .ok (.aload_n 0, 1) := by decide +kernel
theorem dX5_freesKept_17 : decode cX5_freesKept 17 = .ok (.getfield 23, 3) := by decide +kernel
theorem dX5_freesKept_20 : decode cX5_freesKept 20 = .ok (.iload_n 1, 1) := by decide +kernel
theorem dX5_freesKept_21 : decode cX5_freesKept 21 = .ok (.iaload, 1) := by decide +kernel
theorem dX5_freesKept_22 : decode cX5_freesKept 22 = .ok (.iload_n 2, 1) := by decide +kernel
theorem dX5_freesKept_23 : decode cX5_freesKept 23 = .ok (.iadd, 1) := by decide +kernel
theorem dX5_freesKept_24 : decode cX5_freesKept 24 = .ok (.iconst 1, 1) := by decide +kernel
theorem dX5_freesKept_25 : decode cX5_freesKept 25 = .ok (.bastore, 1) := by decide +kernel
theorem dX5_freesKept_26 : decode cX5_freesKept 26 = .ok (.iinc 2 1, 3) := by decide +kernel
theorem dX5_freesKept_29 : decode cX5_freesKept 29 = .ok (.goto (-27), 3) := by decide +kernel
theorem dX5_freesKept_32 : decode cX5_freesKept 32 = .ok (.aload_n 0, 1) := by decide +kernel
theorem dX5_freesKept_33 : decode cX5_freesKept 33 = .ok (.getfield 26, 3) := by decide +kernel
theorem dX5_freesKept_36 : decode cX5_freesKept 36 = .ok (.iload_n 1, 1) := by decide +kernel
theorem dX5_freesKept_37 : decode cX5_freesKept 37 = .ok (.iconst 0, 1) := by decide +kernel
theorem dX5_freesKept_38 : decode cX5_freesKept 38 = .ok (.iastore, 1) := by decide +kernel
theorem dX5_freesKept_39 : decode cX5_freesKept 39 = .ok (.return_, 1) := by decide +kernel
theorem dX5_hash_0 : decode cX5_hash 0 = .ok (.iconst 5, 1) := by decide +kernel
theorem dX5_hash_1 : decode cX5_hash 1 = .ok (.iload_n 0, 1) := by decide +kernel
theorem dX5_hash_2 : decode cX5_hash 2 = .ok (.imul, 1) := by decide +kernel
theorem dX5_hash_3 : decode cX5_hash 3 = .ok (.bipush 16, 2) := by decide +kernel
theorem dX5_hash_5 : decode cX5_hash 5 = .ok (.irem, 1) := by decide +kernel
theorem dX5_hash_6 : decode cX5_hash 6 = .ok (.ireturn, 1) := by decide +kernel
theorem dX5_lastLeaf_0 : decode cX5_lastLeaf 0 = .ok (.aload_n 0, 1) := by decide +kernel
theorem dX5_lastLeaf_1 : decode cX5_lastLeaf 1 = .ok (.getfield 53, 3) := by decide +kernel
theorem dX5_lastLeaf_4 : decode cX5_lastLeaf 4 = .ok (.iconst 1, 1) := by decide +kernel
theorem dX5_lastLeaf_5 : decode cX5_lastLeaf 5 = .ok (.isub, 1) := by decide +kernel
theorem dX5_lastLeaf_6 : decode cX5_lastLeaf 6 = .ok (.istore_n 2, 1) := by decide +kernel
theorem dX5_lastLeaf_7 : decode cX5_lastLeaf 7 = .ok (.aload_n 0, 1) := by decide +kernel
theorem dX5_lastLeaf_8 : decode cX5_lastLeaf 8 = .ok (.getfield 41, 3) := by decide +kernel
theorem dX5_lastLeaf_11 : decode cX5_lastLeaf 11 = .ok (.iload_n 2, 1) := by decide +kernel
theorem dX5_lastLeaf_12 : decode cX5_lastLeaf 12 = .ok (.iaload, 1) := by decide +kernel
theorem dX5_lastLeaf_13 : decode cX5_lastLeaf 13 = .ok (.iload_n 1, 1) := by decide +kernel
theorem dX5_lastLeaf_14 : decode cX5_lastLeaf 14 = .ok (.if_icmp .le 9, 3) := by decide +kernel
theorem dX5_lastLeaf_17 : decode cX5_lastLeaf 17 = .ok (.iinc 2 (-1), 3) := by decide +kernel
theorem dX5_lastLeaf_20 : decode cX5_lastLeaf 20 = .ok (.goto (-13), 3) := by decide +kernel
theorem dX5_lastLeaf_23 : decode cX5_lastLeaf 23 = .ok (.iload_n 2, 1) := by decide +kernel
theorem dX5_lastLeaf_24 : decode cX5_lastLeaf 24 = .ok (.ireturn, 1) := by decide +kernel
set_option maxRecDepth 20000 in
theorem ggX5_isAhead_X5_hash : GoodIn wsX5_isAhead wsX5_hash := goodIn_r _ [4] (by decide +kernel) (by decide +kernel)
set_option maxRecDepth 20000 in
theorem gX5_isAhead_X5_hash : GoodIn wsX5_isAhead (va_wsS RX5 71 yX5_hash wsX5_hash) := goodIn_app (goodIn_of _ (by decide +kernel)) ggX5_isAhead_X5_hash
theorem dX5_isAhead_0 : decode cX5_isAhead 0 = .ok (.iload_n 0, 1) := by decide +kernel
theorem dX5_isAhead_1 : decode cX5_isAhead 1 = .ok (.invokestatic 71, 3) := by decide +kernel
theorem dX5_isAhead_4 : decode cX5_isAhead 4 = .ok (.iload_n 1, 1) := by decide +kernel
theorem dX5_isAhead_5 : decode cX5_isAhead 5 = .ok (.invokestatic 71, 3) := by decide +kernel
theorem dX5_isAhead_8 : decode cX5_isAhead 8 = .ok (.if_icmp .lt 19, 3) := by decide +kernel
theorem dX5_isAhead_11 : decode cX5_isAhead 11 = .ok (.iload_n 0, 1) := by decide +kernel
theorem dX5_isAhead_12 : decode cX5_isAhead 12 = .ok (.invokestatic 71, 3) := by decide +kernel
theorem dX5_isAhead_15 : decode cX5_isAhead 15 = .ok (.iload_n 1, 1) := by decide +kernel
theorem dX5_isAhead_16 : decode cX5_isAhead 16 = .ok (.invokestatic 71, 3) := by decide +kernel
theorem dX5_isAhead_19 : decode cX5_isAhead 19 = .ok (.if_icmp .ne 12, 3) := by decide +kernel
theorem dX5_isAhead_22 : decode cX5_isAhead 22 = .ok (.iload_n 0, 1) := by decide +kernel
theorem dX5_isAhead_23 : decode cX5_isAhead 23 = .ok (.iload_n 1, 1) := by decide +kernel
theorem dX5_isAhead_24 : decode cX5_isAhead 24 = .ok (.if_icmp .ge 7, 3) := by decide +kernel
theorem dX5_isAhead_27 : decode cX5_isAhead 27 = .ok (.iconst 1, 1) := by decide +kernel
theorem dX5_isAhead_28 : decode cX5_isAhead 28 = .ok (.goto 4, 3) := by decide +kernel
theorem dX5_isAhead_31 : decode cX5_isAhead 31 = .ok (.iconst 0, 1) := by decide +kernel
theorem dX5_isAhead_32 : decode cX5_isAhead 32 = .ok (.ireturn, 1) := by decide +kernel
set_option maxRecDepth 20000 in
theorem ggX5_splits_X5_isAhead : GoodIn wsX5_splits wsX5_isAhead := goodIn_r _ [9, 10, 11, 8, 12] (by decide +kernel) (by decide +kernel)
set_option maxRecDepth 20000 in
theorem gX5_splits_X5_isAhead : GoodIn wsX5_splits (va_wsS RX5 75 yX5_isAhead wsX5_isAhead) := goodIn_app (goodIn_of _ (by decide +kernel)) ggX5_splits_X5_isAhead
set_option maxRecDepth 20000 in
theorem ggX5_splits_X5_hash : GoodIn wsX5_splits wsX5_hash := goodIn_r _ [12] (by decide +kernel) (by decide +kernel)
set_option maxRecDepth 20000 in
theorem gX5_splits_X5_hash : GoodIn wsX5_splits (va_wsS RX5 71 yX5_hash wsX5_hash) := goodIn_app (goodIn_of _ (by decide +kernel)) ggX5_splits_X5_hash
theorem dX5_splits_0 : decode cX5_splits 0 = .ok (.aload_n 0, 1) := by decide +kernel
theorem dX5_splits_1 : decode cX5_splits 1 = .ok (.getfield 53, 3) := by decide +kernel
theorem dX5_splits_4 : decode cX5_splits 4 = .ok (.istore_n 2, 1) := by decide +kernel
theorem dX5_splits_5 : decode cX5_splits 5 = .ok (.iload_n 2, 1) := by decide +kernel
theorem dX5_splits_6 : decode cX5_splits 6 = .ok (.iload_n 1, 1) := by decide +kernel
theorem dX5_splits_7 : decode cX5_splits 7 = .ok (.iconst 1, 1) := by decide +kernel
theorem dX5_splits_8 : decode cX5_splits 8 = .ok (.iadd, 1) := by decide +kernel
theorem dX5_splits_9 : decode cX5_splits 9 = .ok (.if_icmp .le 86, 3) := by decide +kernel
theorem dX5_splits_12 : decode cX5_splits 12 = .ok (.aload_n 0, 1) := by decide +kernel
theorem dX5_splits_13 : decode cX5_splits 13 = .ok (.getfield 41, 3) := by decide +kernel
theorem dX5_splits_16 : decode cX5_splits 16 = .ok (.iload_n 2, 1) := by decide +kernel
theorem dX5_splits_17 : decode cX5_splits 17 = .ok (.aload_n 0, 1) := by decide +kernel
theorem dX5_splits_18 : decode cX5_splits 18 = .ok (.getfield 41, 3) := by decide +kernel
theorem dX5_splits_21 : decode cX5_splits 21 = .ok (.iload_n 2, 1) := by decide +kernel
theorem dX5_splits_22 : decode cX5_splits 22 = .ok (.iconst 1, 1) := by decide +kernel
theorem dX5_splits_23 : decode cX5_splits 23 = .ok (.isub, 1) := by decide +kernel
theorem dX5_splits_24 : decode cX5_splits 24 = .ok (.iaload, 1) := by decide +kernel
theorem dX5_splits_25 : decode cX5_splits 25 = .ok (.iastore, 1) := by decide +kernel
theorem dX5_splits_26 : decode cX5_splits 26 = .ok (.aload_n 0, 1) := by decide +kernel
theorem dX5_splits_27 : decode cX5_splits 27 = .ok (.getfield 44, 3) := by decide +kernel
theorem dX5_splits_30 : decode cX5_splits 30 = .ok (.iload_n 2, 1) := by decide +kernel
theorem dX5_splits_31 : decode cX5_splits 31 = .ok (.aload_n 0, 1) := by decide +kernel
theorem dX5_splits_32 : decode cX5_splits 32 = .ok (.getfield 44, 3) := by decide +kernel
theorem dX5_splits_35 : decode cX5_splits 35 = .ok (.iload_n 2, 1) := by decide +kernel
theorem dX5_splits_36 : decode cX5_splits 36 = .ok (.iconst 1, 1) := by decide +kernel
theorem dX5_splits_37 : decode cX5_splits 37 = .ok (.isub, 1) := by decide +kernel
theorem dX5_splits_38 : decode cX5_splits 38 = .ok (.baload, 1) := by decide +kernel
theorem dX5_splits_39 : decode cX5_splits 39 = .ok (.bastore, 1) := by decide +kernel
theorem dX5_splits_40 : decode cX5_splits 40 = .ok (.aload_n 0, 1) := by decide +kernel
theorem dX5_splits_41 : decode cX5_splits 41 = .ok (.getfield 50, 3) := by decide +kernel
theorem dX5_splits_44 : decode cX5_splits 44 = .ok (.iload_n 2, 1) := by decide +kernel
theorem dX5_splits_45 : decode cX5_splits 45 = .ok (.aload_n 0, 1) := by decide +kernel
theorem dX5_splits_46 : decode cX5_splits 46 = .ok (.getfield 50, 3) := by decide +kernel
theorem dX5_splits_49 : decode cX5_splits 49 = .ok (.iload_n 2, 1) := by decide +kernel
theorem dX5_splits_50 : decode cX5_splits 50 = .ok (.iconst 1, 1) := by decide +kernel
theorem dX5_splits_51 : decode cX5_splits 51 = .ok (.isub, 1) := by decide +kernel
theorem dX5_splits_52 : decode cX5_splits 52 = .ok (.iaload, 1) := by decide +kernel
theorem dX5_splits_53 : decode cX5_splits 53 = .ok (.iastore, 1) := by decide +kernel
theorem dX5_splits_54 : decode cX5_splits 54 = .ok (.iconst 0, 1) := by decide +kernel
theorem dX5_splits_55 : decode cX5_splits 55 = .ok (.istore_n 3, 1) := by decide +kernel
theorem dX5_splits_56 : decode cX5_splits 56 = .ok (.iload_n 3, 1) := by decide +kernel
theorem dX5_splits_57 : decode cX5_splits 57 = .ok (.iconst 4, 1) := by decide +kernel
theorem dX5_splits_58 : decode cX5_splits 58 = .ok (.if_icmp .ge 31, 3) := by decide +kernel
theorem dX5_splits_61 : decode cX5_splits 61 = .ok (.aload_n 0, 1) := by decide +kernel
theorem dX5_splits_62 : decode cX5_splits 62 = .ok (.getfield 47, 3) := by decide +kernel
theorem dX5_splits_65 : decode cX5_splits 65 = .ok (.iconst 4, 1) := by decide +kernel
theorem dX5_splits_66 : decode cX5_splits 66 = .ok (.iload_n 2, 1) := by decide +kernel
theorem dX5_splits_67 : decode cX5_splits 67 = .ok (.imul, 1) := by decide +kernel
theorem dX5_splits_68 : decode cX5_splits 68 = .ok (.iload_n 3, 1) := by decide +kernel
theorem dX5_splits_69 : decode cX5_splits 69 = .ok (.iadd, 1) := by decide +kernel
theorem dX5_splits_70 : decode cX5_splits 70 = .ok (.aload_n 0, 1) := by decide +kernel
theorem dX5_splits_71 : decode cX5_splits 71 = .ok (.getfield 47, 3) := by decide +kernel
theorem dX5_splits_74 : decode cX5_splits 74 = .ok (.iconst 4, 1) := by decide +kernel
theorem dX5_splits_75 : decode cX5_splits 75 = .ok (.iload_n 2, 1) := by decide +kernel
theorem dX5_splits_76 : decode cX5_splits 76 = .ok (.iconst 1, 1) := by decide +kernel
theorem dX5_splits_77 : decode cX5_splits 77 = .ok (.isub, 1) := by decide +kernel
theorem dX5_splits_78 : decode cX5_splits 78 = .ok (.imul, 1) := by decide +kernel
theorem dX5_splits_79 : decode cX5_splits 79 = .ok (.iload_n 3, 1) := by decide +kernel
theorem dX5_splits_80 : decode cX5_splits 80 = .ok (.iadd, 1) := by decide +kernel
theorem dX5_splits_81 : decode cX5_splits 81 = .ok (.iaload, 1) := by decide +kernel
theorem dX5_splits_82 : decode cX5_splits 82 = .ok (.iastore, 1) := by decide +kernel
theorem dX5_splits_83 : decode cX5_splits 83 = .ok (.iinc 3 1, 3) := by decide +kernel
theorem dX5_splits_86 : decode cX5_splits 86 = .ok (.goto (-30), 3) := by decide +kernel
theorem dX5_splits_89 : decode cX5_splits 89 = .ok (.iinc 2 (-1), 3) := by decide +kernel
theorem dX5_splits_92 : decode cX5_splits 92 = .ok (.goto (-87), 3) := by decide +kernel
theorem dX5_splits_95 : decode cX5_splits 95 = .ok (.aload_n 0, 1) := by decide +kernel
theorem dX5_splits_96 : decode cX5_splits 96 = .ok (.dup, 1) := by decide +kernel
theorem dX5_splits_97 : decode cX5_splits 97 = .ok (.getfield 53, 3) := by decide +kernel
theorem dX5_splits_100 : decode cX5_splits 100 = .ok (.iconst 1, 1) := by decide +kernel
theorem dX5_splits_101 : decode cX5_splits 101 = .ok (.iadd, 1) := by decide +kernel
theorem dX5_splits_102 : decode cX5_splits 102 = .ok (.putfield 53, 3) := by decide +kernel
theorem dX5_splits_105 : decode cX5_splits 105 = .ok (.iconst 4, 1) := by decide +kernel
theorem dX5_splits_106 : decode cX5_splits 106 = .ok (.iload_n 1, 1) := by decide +kernel
theorem dX5_splits_107 : decode cX5_splits 107 = .ok (.imul, 1) := by decide +kernel
theorem dX5_splits_108 : decode cX5_splits 108 = .ok (.istore_n 2, 1) := by decide +kernel
theorem dX5_splits_109 : decode cX5_splits 109 = .ok (.iconst 0, 1) := by decide +kernel
theorem dX5_splits_110 : decode cX5_splits 110 = .ok (.istore_n 3, 1) := by decide +kernel
theorem dX5_splits_111 : decode cX5_splits 111 = .ok (.iload_n 3, 1) := by decide +kernel
theorem dX5_splits_112 : decode cX5_splits 112 = .ok (.iconst 4, 1) := by decide +kernel
theorem dX5_splits_113 : decode cX5_splits 113 = .ok (.if_icmp .ge 86, 3) := by decide +kernel
theorem dX5_splits_116 : decode cX5_splits 116 = .ok (.iload_n 2, 1) := by decide +kernel
theorem dX5_splits_117 : decode cX5_splits 117 = .ok (.istore 4, 2) := by decide +kernel
theorem dX5_splits_119 : decode cX5_splits 119 = .ok (.iload 4, 2) := by decide +kernel
theorem dX5_splits_121 : decode cX5_splits 121 = .ok (.iload_n 2, 1) := by decide +kernel
theorem dX5_splits_122 : decode cX5_splits 122 = .ok (.iconst 4, 1) := by decide +kernel
theorem dX5_splits_123 : decode cX5_splits 123 = .ok (.iadd, 1) := by decide +kernel
theorem dX5_splits_124 : decode cX5_splits 124 = .ok (.iconst 1, 1) := by decide +kernel
theorem dX5_splits_125 : decode cX5_splits 125 = .ok (.isub, 1) := by decide +kernel
theorem dX5_splits_126 : decode cX5_splits 126 = .ok (.if_icmp .ge 67, 3) := by decide +kernel
theorem dX5_splits_129 : decode cX5_splits 129 = .ok (.aload_n 0, 1) := by decide +kernel
theorem dX5_splits_130 : decode cX5_splits 130 = .ok (.getfield 47, 3) := by decide +kernel
theorem dX5_splits_133 : decode cX5_splits 133 = .ok (.iload 4, 2) := by decide +kernel
theorem dX5_splits_135 : decode cX5_splits 135 = .ok (.iconst 1, 1) := by decide +kernel
theorem dX5_splits_136 : decode cX5_splits 136 = .ok (.iadd, 1) := by decide +kernel
theorem dX5_splits_137 : decode cX5_splits 137 = .ok (.iaload, 1) := by decide +kernel
theorem dX5_splits_138 : decode cX5_splits 138 = .ok (.aload_n 0, 1) := by decide +kernel
theorem dX5_splits_139 : decode cX5_splits 139 = .ok (.getfield 47, 3) := by decide +kernel
theorem dX5_splits_142 : decode cX5_splits 142 = .ok (.iload 4, 2) := by decide +kernel
theorem dX5_splits_144 : decode cX5_splits 144 = .ok (.iaload, 1) := by decide +kernel
theorem dX5_splits_145 : decode cX5_splits 145 = .ok (.invokestatic 75, 3) := by decide +kernel
theorem dX5_splits_148 : decode cX5_splits 148 = .ok (.ifCond .eq 39, 3) := by decide +kernel
theorem dX5_splits_151 : decode cX5_splits 151 = .ok (.aload_n 0, 1) := by decide +kernel
theorem dX5_splits_152 : decode cX5_splits 152 = .ok (.getfield 47, 3) := by decide +kernel
theorem dX5_splits_155 : decode cX5_splits 155 = .ok (.iload 4, 2) := by decide +kernel
theorem dX5_splits_157 : decode cX5_splits 157 = .ok (.iaload, 1) := by decide +kernel
theorem dX5_splits_158 : decode cX5_splits 158 = .ok (.istore 5, 2) := by decide +kernel
theorem dX5_splits_160 : decode cX5_splits 160 = .ok (.aload_n 0, 1) := by decide +kernel
theorem dX5_splits_161 : decode cX5_splits 161 = .ok (.getfield 47, 3) := by decide +kernel
theorem dX5_splits_164 : decode cX5_splits 164 = .ok (.iload 4, 2) := by decide +kernel
theorem dX5_splits_166 : decode cX5_splits 166 = .ok (.aload_n 0, 1) := by decide +kernel
theorem dX5_splits_167 : decode cX5_splits 167 = .ok (.getfield 47, 3) := by decide +kernel
theorem dX5_splits_170 : decode cX5_splits 170 = .ok (.iload 4, 2) := by decide +kernel
theorem dX5_splits_172 : decode cX5_splits 172 = .ok (.iconst 1, 1) := by decide +kernel
theorem dX5_splits_173 : decode cX5_splits 173 = .ok (.iadd, 1) := by decide +kernel
theorem dX5_splits_174 : decode cX5_splits 174 = .ok (.iaload, 1) := by decide +kernel
theorem dX5_splits_175 : decode cX5_splits 175 = .ok (.iastore, 1) := by decide +kernel
theorem dX5_splits_176 : decode cX5_splits 176 = .ok (.aload_n 0, 1) := by decide +kernel
theorem dX5_splits_177 : decode cX5_splits 177 = .ok (.getfield 47, 3) := by decide +kernel
theorem dX5_splits_180 : decode cX5_splits 180 = .ok (.iload 4, 2) := by decide +kernel
theorem dX5_splits_182 : decode cX5_splits 182 = .ok (.iconst 1, 1) := by decide +kernel
theorem dX5_splits_183 : decode cX5_splits 183 = .ok (.iadd, 1) := by decide +kernel
theorem dX5_splits_184 : decode cX5_splits 184 = .ok (.iload 5, 2) := by decide +kernel
theorem dX5_splits_186 : decode cX5_splits 186 = .ok (.iastore, 1) := by decide +kernel
theorem dX5_splits_187 : decode cX5_splits 187 = .ok (.iinc 4 1, 3) := by decide +kernel
theorem dX5_splits_190 : decode cX5_splits 190 = .ok (.goto (-71), 3) := by decide +kernel
theorem dX5_splits_193 : decode cX5_splits 193 = .ok (.iinc 3 1, 3) := by decide +kernel
theorem dX5_splits_196 : decode cX5_splits 196 = .ok (.goto (-85), 3) := by decide +kernel
theorem dX5_splits_199 : decode cX5_splits 199 = .ok (.aload_n 0, 1) := by decide +kernel
theorem dX5_splits_200 : decode cX5_splits 200 = .ok (.getfield 47, 3) := by decide +kernel
theorem dX5_splits_203 : decode cX5_splits 203 = .ok (.iload_n 2, 1) := by decide +kernel
theorem dX5_splits_204 : decode cX5_splits 204 = .ok (.iconst 4, 1) := by decide +kernel
theorem dX5_splits_205 : decode cX5_splits 205 = .ok (.iadd, 1) := by decide +kernel
theorem dX5_splits_206 : decode cX5_splits 206 = .ok (.aload_n 0, 1) := by decide +kernel
theorem dX5_splits_207 : decode cX5_splits 207 = .ok (.getfield 47, 3) := by decide +kernel
theorem dX5_splits_210 : decode cX5_splits 210 = .ok (.iload_n 2, 1) := by decide +kernel
theorem dX5_splits_211 : decode cX5_splits 211 = .ok (.iconst 2, 1) := by decide +kernel
theorem dX5_splits_212 : decode cX5_splits 212 = .ok (.iadd, 1) := by decide +kernel
theorem dX5_splits_213 : decode cX5_splits 213 = .ok (.iaload, 1) := by decide +kernel
theorem dX5_splits_214 : decode cX5_splits 214 = .ok (.iastore, 1) := by decide +kernel
theorem dX5_splits_215 : decode cX5_splits 215 = .ok (.aload_n 0, 1) := by decide +kernel
theorem dX5_splits_216 : decode cX5_splits 216 = .ok (.getfield 47, 3) := by decide +kernel
theorem dX5_splits_219 : decode cX5_splits 219 = .ok (.iload_n 2, 1) := by decide +kernel
theorem dX5_splits_220 : decode cX5_splits 220 = .ok (.iconst 4, 1) := by decide +kernel
theorem dX5_splits_221 : decode cX5_splits 221 = .ok (.iadd, 1) := by decide +kernel
theorem dX5_splits_222 : decode cX5_splits 222 = .ok (.iconst 1, 1) := by decide +kernel
theorem dX5_splits_223 : decode cX5_splits 223 = .ok (.iadd, 1) := by decide +kernel
theorem dX5_splits_224 : decode cX5_splits 224 = .ok (.aload_n 0, 1) := by decide +kernel
theorem dX5_splits_225 : decode cX5_splits 225 = .ok (.getfield 47, 3) := by decide +kernel
theorem dX5_splits_228 : decode cX5_splits 228 = .ok (.iload_n 2, 1) := by decide +kernel
theorem dX5_splits_229 : decode cX5_splits 229 = .ok (.iconst 3, 1) := by decide +kernel
theorem dX5_splits_230 : decode cX5_splits 230 = .ok (.iadd, 1) := by decide +kernel
theorem dX5_splits_231 : decode cX5_splits 231 = .ok (.iaload, 1) := by decide +kernel
theorem dX5_splits_232 : decode cX5_splits 232 = .ok (.iastore, 1) := by decide +kernel
theorem dX5_splits_233 : decode cX5_splits 233 = .ok (.aload_n 0, 1) := by decide +kernel
theorem dX5_splits_234 : decode cX5_splits 234 = .ok (.getfield 50, 3) := by decide +kernel
theorem dX5_splits_237 : decode cX5_splits 237 = .ok (.iload_n 1, 1) := by decide +kernel
theorem dX5_splits_238 : decode cX5_splits 238 = .ok (.iconst 2, 1) := by decide +kernel
theorem dX5_splits_239 : decode cX5_splits 239 = .ok (.iastore, 1) := by decide +kernel
theorem dX5_splits_240 : decode cX5_splits 240 = .ok (.aload_n 0, 1) := by decide +kernel
theorem dX5_splits_241 : decode cX5_splits 241 = .ok (.getfield 50, 3) := by decide +kernel
theorem dX5_splits_244 : decode cX5_splits 244 = .ok (.iload_n 1, 1) := by decide +kernel
theorem dX5_splits_245 : decode cX5_splits 245 = .ok (.iconst 1, 1) := by decide +kernel
theorem dX5_splits_246 : decode cX5_splits 246 = .ok (.iadd, 1) := by decide +kernel
theorem dX5_splits_247 : decode cX5_splits 247 = .ok (.iconst 2, 1) := by decide +kernel
theorem dX5_splits_248 : decode cX5_splits 248 = .ok (.iastore, 1) := by decide +kernel
theorem dX5_splits_249 : decode cX5_splits 249 = .ok (.aload_n 0, 1) := by decide +kernel
theorem dX5_splits_250 : decode cX5_splits 250 = .ok (.getfield 41, 3) := by decide +kernel
theorem dX5_splits_253 : decode cX5_splits 253 = .ok (.iload_n 1, 1) := by decide +kernel
theorem dX5_splits_254 : decode cX5_splits 254 = .ok (.iconst 1, 1) := by decide +kernel
theorem dX5_splits_255 : decode cX5_splits 255 = .ok (.iadd, 1) := by decide +kernel
theorem dX5_splits_256 : decode cX5_splits 256 = .ok (.aload_n 0, 1) := by decide +kernel
theorem dX5_splits_257 : decode cX5_splits 257 = .ok (.getfield 47, 3) := by decide +kernel
theorem dX5_splits_260 : decode cX5_splits 260 = .ok (.iload_n 2, 1) := by decide +kernel
theorem dX5_splits_261 : decode cX5_splits 261 = .ok (.iconst 2, 1) := by decide +kernel
theorem dX5_splits_262 : decode cX5_splits 262 = .ok (.iadd, 1) := by decide +kernel
theorem dX5_splits_263 : decode cX5_splits 263 = .ok (.iaload, 1) := by decide +kernel
theorem dX5_splits_264 : decode cX5_splits 264 = .ok (.invokestatic 71, 3) := by decide +kernel
theorem dX5_splits_267 : decode cX5_splits 267 = .ok (.iastore, 1) := by decide +kernel
theorem dX5_splits_268 : decode cX5_splits 268 = .ok (.aload_n 0, 1) := by decide +kernel
theorem dX5_splits_269 : decode cX5_splits 269 = .ok (.getfield 44, 3) := by decide +kernel
theorem dX5_splits_272 : decode cX5_splits 272 = .ok (.iload_n 1, 1) := by decide +kernel
theorem dX5_splits_273 : decode cX5_splits 273 = .ok (.iconst 1, 1) := by decide +kernel
theorem dX5_splits_274 : decode cX5_splits 274 = .ok (.iadd, 1) := by decide +kernel
theorem dX5_splits_275 : decode cX5_splits 275 = .ok (.aload_n 0, 1) := by decide +kernel
theorem dX5_splits_276 : decode cX5_splits 276 = .ok (.getfield 47, 3) := by decide +kernel
theorem dX5_splits_279 : decode cX5_splits 279 = .ok (.iload_n 2, 1) := by decide +kernel
theorem dX5_splits_280 : decode cX5_splits 280 = .ok (.iconst 1, 1) := by decide +kernel
theorem dX5_splits_281 : decode cX5_splits 281 = .ok (.iadd, 1) := by decide +kernel
theorem dX5_splits_282 : decode cX5_splits 282 = .ok (.iaload, 1) := by decide +kernel
theorem dX5_splits_283 : decode cX5_splits 283 = .ok (.invokestatic 71, 3) := by decide +kernel
theorem dX5_splits_286 : decode cX5_splits 286 = .ok (.aload_n 0, 1) := by decide +kernel
theorem dX5_splits_287 : decode cX5_splits 287 = .ok (.getfield 47, 3) := by decide +kernel
theorem dX5_splits_290 : decode cX5_splits 290 = .ok (.iload_n 2, 1) := by decide +kernel
theorem dX5_splits_291 : decode cX5_splits 291 = .ok (.iconst 2, 1) := by decide +kernel
theorem dX5_splits_292 : decode cX5_splits 292 = .ok (.iadd, 1) := by decide +kernel
theorem dX5_splits_293 : decode cX5_splits 293 = .ok (.iaload, 1) := by decide +kernel
theorem dX5_splits_294 : decode cX5_splits 294 = .ok (.invokestatic 71, 3) := by decide +kernel
theorem dX5_splits_297 : decode cX5_splits 297 = .ok (.if_icmp .ne 7, 3) := by decide +kernel
theorem dX5_splits_300 : decode cX5_splits 300 = .ok (.iconst 1, 1) := by decide +kernel
theorem dX5_splits_301 : decode cX5_splits 301 = .ok (.goto 4, 3) := by decide +kernel
theorem dX5_splits_304 : decode cX5_splits 304 = .ok (.iconst 0, 1) := by decide +kernel
theorem dX5_splits_305 : decode cX5_splits 305 = .ok (.bastore, 1) := by decide +kernel
theorem dX5_splits_306 : decode cX5_splits 306 = .ok (.return_, 1) := by decide +kernel
set_option maxRecDepth 20000 in
theorem ggX5_addsName_X5_hash : GoodIn wsX5_addsName wsX5_hash := goodIn_r _ [6] (by decide +kernel) (by decide +kernel)
set_option maxRecDepth 20000 in
theorem gX5_addsName_X5_hash : GoodIn wsX5_addsName (va_wsS RX5 71 yX5_hash wsX5_hash) := goodIn_app (goodIn_of _ (by decide +kernel)) ggX5_addsName_X5_hash
set_option maxRecDepth 20000 in
theorem ggX5_addsName_X5_lastLeaf : GoodIn wsX5_addsName wsX5_lastLeaf := goodIn_r _ [10, 11, 12, 21, 22, 23, 24, 25, 26, 27, 28, 29, 30, 31, 32, 33, 34, 35, 36, 37, 38] (by decide +kernel) (by decide +kernel)
set_option maxRecDepth 20000 in
theorem gX5_addsName_X5_lastLeaf : GoodIn wsX5_addsName (wsV RX5 79 RX5 yX5_lastLeaf wsX5_lastLeaf) := goodIn_app (goodIn_of _ (by decide +kernel)) ggX5_addsName_X5_lastLeaf
set_option maxRecDepth 20000 in
theorem ggX5_addsName_X5_splits : GoodIn wsX5_addsName wsX5_splits := goodIn_r _ [16, 11, 12, 17, 1, 2, 18, 19, 5, 20, 3, 4, 6, 21, 22, 23, 24, 25, 26, 27, 28, 29, 30, 31, 32, 33, 34, 35, 36, 37, 38] (by decide +kernel) (by decide +kernel)
set_option maxRecDepth 20000 in
theorem gX5_addsName_X5_splits : GoodIn wsX5_addsName (wsV RX5 82 RX5 yX5_splits wsX5_splits) := goodIn_app (goodIn_of _ (by decide +kernel)) ggX5_addsName_X5_splits
theorem dX5_addsName_0 : decode cX5_addsName 0 = .ok (.aload_n 0, 1) := by decide +kernel
theorem dX5_addsName_1 : decode cX5_addsName 1 = .ok (.iload_n 1, 1) := by decide +kernel
theorem dX5_addsName_2 : decode cX5_addsName 2 = .ok (.invokestatic 71, 3) := by decide +kernel
theorem dX5_addsName_5 : decode cX5_addsName 5 = .ok (.invokevirtual 79, 3) := by decide +kernel
theorem dX5_addsName_8 : decode cX5_addsName 8 = .ok (.istore_n 2, 1) := by decide +kernel
theorem dX5_addsName_9 : decode cX5_addsName 9 = .ok (.aload_n 0, 1) := by decide +kernel
theorem dX5_addsName_10 : decode cX5_addsName 10 = .ok (.getfield 50, 3) := by decide +kernel
theorem dX5_addsName_13 : decode cX5_addsName 13 = .ok (.iload_n 2, 1) := by decide +kernel
theorem dX5_addsName_14 : decode cX5_addsName 14 = .ok (.iaload, 1) := by decide +kernel
theorem dX5_addsName_15 : decode cX5_addsName 15 = .ok (.iconst 4, 1) := by decide +kernel
theorem dX5_addsName_16 : decode cX5_addsName 16 = .ok (.if_icmp .ne 17, 3) := by decide +kernel
theorem dX5_addsName_19 : decode cX5_addsName 19 = .ok (.aload_n 0, 1) := by decide +kernel
theorem dX5_addsName_20 : decode cX5_addsName 20 = .ok (.iload_n 2, 1) := by decide +kernel
theorem dX5_addsName_21 : decode cX5_addsName 21 = .ok (.invokevirtual 82, 3) := by decide +kernel
theorem dX5_addsName_24 : decode cX5_addsName 24 = .ok (.aload_n 0, 1) := by decide +kernel
theorem dX5_addsName_25 : decode cX5_addsName 25 = .ok (.iload_n 1, 1) := by decide +kernel
theorem dX5_addsName_26 : decode cX5_addsName 26 = .ok (.invokestatic 71, 3) := by decide +kernel
theorem dX5_addsName_29 : decode cX5_addsName 29 = .ok (.invokevirtual 79, 3) := by decide +kernel
theorem dX5_addsName_32 : decode cX5_addsName 32 = .ok (.istore_n 2, 1) := by decide +kernel
theorem dX5_addsName_33 : decode cX5_addsName 33 = .ok (.aload_n 0, 1) := by decide +kernel
theorem dX5_addsName_34 : decode cX5_addsName 34 = .ok (.getfield 47, 3) := by decide +kernel
theorem dX5_addsName_37 : decode cX5_addsName 37 = .ok (.iconst 4, 1) := by decide +kernel
theorem dX5_addsName_38 : decode cX5_addsName 38 = .ok (.iload_n 2, 1) := by decide +kernel
theorem dX5_addsName_39 : decode cX5_addsName 39 = .ok (.imul, 1) := by decide +kernel
theorem dX5_addsName_40 : decode cX5_addsName 40 = .ok (.aload_n 0, 1) := by decide +kernel
theorem dX5_addsName_41 : decode cX5_addsName 41 = .ok (.getfield 50, 3) := by decide +kernel
theorem dX5_addsName_44 : decode cX5_addsName 44 = .ok (.iload_n 2, 1) := by decide +kernel
theorem dX5_addsName_45 : decode cX5_addsName 45 = .ok (.iaload, 1) := by decide +kernel
theorem dX5_addsName_46 : decode cX5_addsName 46 = .ok (.iadd, 1) := by decide +kernel
theorem dX5_addsName_47 : decode cX5_addsName 47 = .ok (.iload_n 1, 1) := by decide +kernel
theorem dX5_addsName_48 : decode cX5_addsName 48 = .ok (.iastore, 1) := by decide +kernel
theorem dX5_addsName_49 : decode cX5_addsName 49 = .ok (.aload_n 0, 1) := by decide +kernel
theorem dX5_addsName_50 : decode cX5_addsName 50 = .ok (.getfield 50, 3) := by decide +kernel
theorem dX5_addsName_53 : decode cX5_addsName 53 = .ok (.iload_n 2, 1) := by decide +kernel
theorem dX5_addsName_54 : decode cX5_addsName 54 = .ok (.dup2, 1) := by decide +kernel
theorem dX5_addsName_55 : decode cX5_addsName 55 = .ok (.iaload, 1) := by decide +kernel
theorem dX5_addsName_56 : decode cX5_addsName 56 = .ok (.iconst 1, 1) := by decide +kernel
theorem dX5_addsName_57 : decode cX5_addsName 57 = .ok (.iadd, 1) := by decide +kernel
theorem dX5_addsName_58 : decode cX5_addsName 58 = .ok (.iastore, 1) := by decide +kernel
theorem dX5_addsName_59 : decode cX5_addsName 59 = .ok (.return_, 1) := by decide +kernel
theorem dX5_isIn_0 : decode cX5_isIn 0 = .ok (.iconst 0, 1) := by decide +kernel
theorem dX5_isIn_1 : decode cX5_isIn 1 = .ok (.istore_n 3, 1) := by decide +kernel
theorem dX5_isIn_2 : decode cX5_isIn 2 = .ok (.iconst 0, 1) := by decide +kernel
theorem dX5_isIn_3 : decode cX5_isIn 3 = .ok (.istore 4, 2) := by decide +kernel
theorem dX5_isIn_5 : decode cX5_isIn 5 = .ok (.iload 4, 2) := by decide +kernel
theorem dX5_isIn_7 : decode cX5_isIn 7 = .ok (.aload_n 0, 1) := by decide +kernel
theorem dX5_isIn_8 : decode cX5_isIn 8 = .ok (.getfield 50, 3) := by decide +kernel
theorem dX5_isIn_11 : decode cX5_isIn 11 = .ok (.iload_n 1, 1) := by decide +kernel
theorem dX5_isIn_12 : decode cX5_isIn 12 = .ok (.iaload, 1) := by decide +kernel
theorem dX5_isIn_13 : decode cX5_isIn 13 = .ok (.if_icmp .ge 34, 3) := by decide +kernel
theorem dX5_isIn_16 : decode cX5_isIn 16 = .ok (.iload_n 3, 1) := by decide +kernel
theorem dX5_isIn_17 : decode cX5_isIn 17 = .ok (.ifCond .ne 18, 3) := by decide +kernel
theorem dX5_isIn_20 : decode cX5_isIn 20 = .ok (.aload_n 0, 1) := by decide +kernel
theorem dX5_isIn_21 : decode cX5_isIn 21 = .ok (.getfield 47, 3) := by decide +kernel
theorem dX5_isIn_24 : decode cX5_isIn 24 = .ok (.iconst 4, 1) := by decide +kernel
theorem dX5_isIn_25 : decode cX5_isIn 25 = .ok (.iload_n 1, 1) := by decide +kernel
theorem dX5_isIn_26 : decode cX5_isIn 26 = .ok (.imul, 1) := by decide +kernel
theorem dX5_isIn_27 : decode cX5_isIn 27 = .ok (.iload 4, 2) := by decide +kernel
theorem dX5_isIn_29 : decode cX5_isIn 29 = .ok (.iadd, 1) := by decide +kernel
theorem dX5_isIn_30 : decode cX5_isIn 30 = .ok (.iaload, 1) := by decide +kernel
theorem dX5_isIn_31 : decode cX5_isIn 31 = .ok (.iload_n 2, 1) := by decide +kernel
theorem dX5_isIn_32 : decode cX5_isIn 32 = .ok (.if_icmp .ne 7, 3) := by decide +kernel
theorem dX5_isIn_35 : decode cX5_isIn 35 = .ok (.iconst 1, 1) := by decide +kernel
theorem dX5_isIn_36 : decode cX5_isIn 36 = .ok (.goto 4, 3) := by decide +kernel
theorem dX5_isIn_39 : decode cX5_isIn 39 = .ok (.iconst 0, 1) := by decide +kernel
theorem dX5_isIn_40 : decode cX5_isIn 40 = .ok (.istore_n 3, 1) := by decide +kernel
theorem dX5_isIn_41 : decode cX5_isIn 41 = .ok (.iinc 4 1, 3) := by decide +kernel
theorem dX5_isIn_44 : decode cX5_isIn 44 = .ok (.goto (-39), 3) := by decide +kernel
theorem dX5_isIn_47 : decode cX5_isIn 47 = .ok (.iload_n 3, 1) := by decide +kernel
theorem dX5_isIn_48 : decode cX5_isIn 48 = .ok (.ireturn, 1) := by decide +kernel
set_option maxRecDepth 20000 in
theorem ggX5_begins_X5_hash : GoodIn wsX5_begins wsX5_hash := goodIn_r _ [6] (by decide +kernel) (by decide +kernel)
set_option maxRecDepth 20000 in
theorem gX5_begins_X5_hash : GoodIn wsX5_begins (va_wsS RX5 71 yX5_hash wsX5_hash) := goodIn_app (goodIn_of _ (by decide +kernel)) ggX5_begins_X5_hash
set_option maxRecDepth 20000 in
theorem ggX5_begins_X5_lastLeaf : GoodIn wsX5_begins wsX5_lastLeaf := goodIn_r _ [10, 11, 2, 12, 13, 14, 15, 16, 17, 18, 19, 20, 21, 22, 23, 24, 25, 26, 27, 28, 29] (by decide +kernel) (by decide +kernel)
set_option maxRecDepth 20000 in
theorem gX5_begins_X5_lastLeaf : GoodIn wsX5_begins (wsV RX5 79 RX5 yX5_lastLeaf wsX5_lastLeaf) := goodIn_app (goodIn_of _ (by decide +kernel)) ggX5_begins_X5_lastLeaf
theorem dX5_begins_0 : decode cX5_begins 0 = .ok (.aload_n 0, 1) := by decide +kernel
theorem dX5_begins_1 : decode cX5_begins 1 = .ok (.iload_n 1, 1) := by decide +kernel
theorem dX5_begins_2 : decode cX5_begins 2 = .ok (.invokestatic 71, 3) := by decide +kernel
theorem dX5_begins_5 : decode cX5_begins 5 = .ok (.invokevirtual 79, 3) := by decide +kernel
theorem dX5_begins_8 : decode cX5_begins 8 = .ok (.istore_n 2, 1) := by decide +kernel
theorem dX5_begins_9 : decode cX5_begins 9 = .ok (.aload_n 0, 1) := by decide +kernel
theorem dX5_begins_10 : decode cX5_begins 10 = .ok (.getfield 44, 3) := by decide +kernel
theorem dX5_begins_13 : decode cX5_begins 13 = .ok (.iload_n 2, 1) := by decide +kernel
theorem dX5_begins_14 : decode cX5_begins 14 = .ok (.baload, 1) := by decide +kernel
theorem dX5_begins_15 : decode cX5_begins 15 = .ok (.ifCond .eq 22, 3) := by decide +kernel
theorem dX5_begins_18 : decode cX5_begins 18 = .ok (.aload_n 0, 1) := by decide +kernel
theorem dX5_begins_19 : decode cX5_begins 19 = .ok (.getfield 41, 3) := by decide +kernel
theorem dX5_begins_22 : decode cX5_begins 22 = .ok (.iload_n 2, 1) := by decide +kernel
theorem dX5_begins_23 : decode cX5_begins 23 = .ok (.iaload, 1) := by decide +kernel
theorem dX5_begins_24 : decode cX5_begins 24 = .ok (.iload_n 1, 1) := by decide +kernel
theorem dX5_begins_25 : decode cX5_begins 25 = .ok (.invokestatic 71, 3) := by decide +kernel
theorem dX5_begins_28 : decode cX5_begins 28 = .ok (.if_icmp .ne 9, 3) := by decide +kernel
theorem dX5_begins_31 : decode cX5_begins 31 = .ok (.iinc 2 (-1), 3) := by decide +kernel
theorem dX5_begins_34 : decode cX5_begins 34 = .ok (.goto (-25), 3) := by decide +kernel
theorem dX5_begins_37 : decode cX5_begins 37 = .ok (.iload_n 2, 1) := by decide +kernel
theorem dX5_begins_38 : decode cX5_begins 38 = .ok (.ireturn, 1) := by decide +kernel
set_option maxRecDepth 20000 in
theorem ggX5_goesOn_X5_isIn : GoodIn wsX5_goesOn wsX5_isIn := goodIn_r _ [8, 9, 10, 14, 15, 16, 17, 18, 19, 20, 21, 22, 23, 24, 25, 26, 27, 28, 29, 30, 31] (by decide +kernel) (by decide +kernel)
set_option maxRecDepth 20000 in
theorem gX5_goesOn_X5_isIn : GoodIn wsX5_goesOn (wsV RX5 86 RX5 yX5_isIn wsX5_isIn) := goodIn_app (goodIn_of _ (by decide +kernel)) ggX5_goesOn_X5_isIn
set_option maxRecDepth 20000 in
theorem ggX5_goesOn_X5_hash : GoodIn wsX5_goesOn wsX5_hash := goodIn_r _ [13] (by decide +kernel) (by decide +kernel)
set_option maxRecDepth 20000 in
theorem gX5_goesOn_X5_hash : GoodIn wsX5_goesOn (va_wsS RX5 71 yX5_hash wsX5_hash) := goodIn_app (goodIn_of _ (by decide +kernel)) ggX5_goesOn_X5_hash
theorem dX5_goesOn_0 : decode cX5_goesOn 0 = .ok (.aload_n 0, 1) := by decide +kernel
theorem dX5_goesOn_1 : decode cX5_goesOn 1 = .ok (.iload_n 1, 1) := by decide +kernel
theorem dX5_goesOn_2 : decode cX5_goesOn 2 = .ok (.iload_n 2, 1) := by decide +kernel
theorem dX5_goesOn_3 : decode cX5_goesOn 3 = .ok (.invokevirtual 86, 3) := by decide +kernel
theorem dX5_goesOn_6 : decode cX5_goesOn 6 = .ok (.ifCond .ne 43, 3) := by decide +kernel
theorem dX5_goesOn_9 : decode cX5_goesOn 9 = .ok (.iload_n 1, 1) := by decide +kernel
theorem dX5_goesOn_10 : decode cX5_goesOn 10 = .ok (.iconst 1, 1) := by decide +kernel
theorem dX5_goesOn_11 : decode cX5_goesOn 11 = .ok (.iadd, 1) := by decide +kernel
theorem dX5_goesOn_12 : decode cX5_goesOn 12 = .ok (.aload_n 0, 1) := by decide +kernel
theorem dX5_goesOn_13 : decode cX5_goesOn 13 = .ok (.getfield 53, 3) := by decide +kernel
theorem dX5_goesOn_16 : decode cX5_goesOn 16 = .ok (.if_icmp .ge 33, 3) := by decide +kernel
theorem dX5_goesOn_19 : decode cX5_goesOn 19 = .ok (.aload_n 0, 1) := by decide +kernel
theorem dX5_goesOn_20 : decode cX5_goesOn 20 = .ok (.getfield 44, 3) := by decide +kernel
theorem dX5_goesOn_23 : decode cX5_goesOn 23 = .ok (.iload_n 1, 1) := by decide +kernel
theorem dX5_goesOn_24 : decode cX5_goesOn 24 = .ok (.iconst 1, 1) := by decide +kernel
theorem dX5_goesOn_25 : decode cX5_goesOn 25 = .ok (.iadd, 1) := by decide +kernel
theorem dX5_goesOn_26 : decode cX5_goesOn 26 = .ok (.baload, 1) := by decide +kernel
theorem dX5_goesOn_27 : decode cX5_goesOn 27 = .ok (.ifCond .eq 22, 3) := by decide +kernel
theorem dX5_goesOn_30 : decode cX5_goesOn 30 = .ok (.aload_n 0, 1) := by decide +kernel
theorem dX5_goesOn_31 : decode cX5_goesOn 31 = .ok (.getfield 41, 3) := by decide +kernel
theorem dX5_goesOn_34 : decode cX5_goesOn 34 = .ok (.iload_n 1, 1) := by decide +kernel
theorem dX5_goesOn_35 : decode cX5_goesOn 35 = .ok (.iconst 1, 1) := by decide +kernel
theorem dX5_goesOn_36 : decode cX5_goesOn 36 = .ok (.iadd, 1) := by decide +kernel
theorem dX5_goesOn_37 : decode cX5_goesOn 37 = .ok (.iaload, 1) := by decide +kernel
theorem dX5_goesOn_38 : decode cX5_goesOn 38 = .ok (.iload_n 2, 1) := by decide +kernel
theorem dX5_goesOn_39 : decode cX5_goesOn 39 = .ok (.invokestatic 71, 3) := by decide +kernel
theorem dX5_goesOn_42 : decode cX5_goesOn 42 = .ok (.if_icmp .ne 7, 3) := by decide +kernel
theorem dX5_goesOn_45 : decode cX5_goesOn 45 = .ok (.iconst 1, 1) := by decide +kernel
theorem dX5_goesOn_46 : decode cX5_goesOn 46 = .ok (.goto 4, 3) := by decide +kernel
theorem dX5_goesOn_49 : decode cX5_goesOn 49 = .ok (.iconst 0, 1) := by decide +kernel
theorem dX5_goesOn_50 : decode cX5_goesOn 50 = .ok (.ireturn, 1) := by decide +kernel
set_option maxRecDepth 20000 in
theorem ggX5_takesOut_X5_begins : GoodIn wsX5_takesOut wsX5_begins := goodIn_r _ [8, 9, 10, 11, 12, 7, 13, 14, 15, 16, 17, 18, 27, 28, 29, 30, 31, 32, 33, 34, 35, 36, 37, 38, 39, 40, 41, 42, 43, 44] (by decide +kernel) (by decide +kernel)
set_option maxRecDepth 20000 in
theorem gX5_takesOut_X5_begins : GoodIn wsX5_takesOut (wsV RX5 89 RX5 yX5_begins wsX5_begins) := goodIn_app (goodIn_of _ (by decide +kernel)) ggX5_takesOut_X5_begins
set_option maxRecDepth 20000 in
theorem ggX5_takesOut_X5_goesOn : GoodIn wsX5_takesOut wsX5_goesOn := goodIn_r _ [22, 18, 9, 10, 23, 24, 25, 7, 26, 2, 1, 11, 12, 13, 27, 28, 29, 30, 31, 32, 33, 34, 35, 36, 37, 38, 39, 40, 41, 42, 43, 44] (by decide +kernel) (by decide +kernel)
set_option maxRecDepth 20000 in
theorem gX5_takesOut_X5_goesOn : GoodIn wsX5_takesOut (wsV RX5 92 RX5 yX5_goesOn wsX5_goesOn) := goodIn_app (goodIn_of _ (by decide +kernel)) ggX5_takesOut_X5_goesOn
theorem dX5_takesOut_0 : decode cX5_takesOut 0 = .ok (.aload_n 0, 1) := by decide +kernel
theorem dX5_takesOut_1 : decode cX5_takesOut 1 = .ok (.iload_n 1, 1) := by decide +kernel
theorem dX5_takesOut_2 : decode cX5_takesOut 2 = .ok (.invokevirtual 89, 3) := by decide +kernel
theorem dX5_takesOut_5 : decode cX5_takesOut 5 = .ok (.istore_n 2, 1) := by decide +kernel
theorem dX5_takesOut_6 : decode cX5_takesOut 6 = .ok (.aload_n 0, 1) := by decide +kernel
theorem dX5_takesOut_7 : decode cX5_takesOut 7 = .ok (.iload_n 2, 1) := by decide +kernel
theorem dX5_takesOut_8 : decode cX5_takesOut 8 = .ok (.iload_n 1, 1) := by decide +kernel
theorem dX5_takesOut_9 : decode cX5_takesOut 9 = .ok (.invokevirtual 92, 3) := by decide +kernel
theorem dX5_takesOut_12 : decode cX5_takesOut 12 = .ok (.ifCond .eq 9, 3) := by decide +kernel
theorem dX5_takesOut_15 : decode cX5_takesOut 15 = .ok (.iinc 2 1, 3) := by decide +kernel
theorem dX5_takesOut_18 : decode cX5_takesOut 18 = .ok (.goto (-12), 3) := by decide +kernel
theorem dX5_takesOut_21 : decode cX5_takesOut 21 = .ok (.iconst 0, 1) := by decide +kernel
theorem dX5_takesOut_22 : decode cX5_takesOut 22 = .ok (.istore_n 3, 1) := by decide +kernel
theorem dX5_takesOut_23 : decode cX5_takesOut 23 = .ok (.aload_n 0, 1) := by decide +kernel
theorem dX5_takesOut_24 : decode cX5_takesOut 24 = .ok (.getfield 47, 3) := by decide +kernel
theorem dX5_takesOut_27 : decode cX5_takesOut 27 = .ok (.iconst 4, 1) := by decide +kernel
theorem dX5_takesOut_28 : decode cX5_takesOut 28 = .ok (.iload_n 2, 1) := by decide +kernel
theorem dX5_takesOut_29 : decode cX5_takesOut 29 = .ok (.imul, 1) := by decide +kernel
theorem dX5_takesOut_30 : decode cX5_takesOut 30 = .ok (.iload_n 3, 1) := by decide +kernel
theorem dX5_takesOut_31 : decode cX5_takesOut 31 = .ok (.iadd, 1) := by decide +kernel
theorem dX5_takesOut_32 : decode cX5_takesOut 32 = .ok (.iaload, 1) := by decide +kernel
theorem dX5_takesOut_33 : decode cX5_takesOut 33 = .ok (.iload_n 1, 1) := by decide +kernel
theorem dX5_takesOut_34 : decode cX5_takesOut 34 = .ok (.if_icmp .eq 9, 3) := by decide +kernel
theorem dX5_takesOut_37 : decode cX5_takesOut 37 = .ok (.iinc 3 1, 3) := by decide +kernel
theorem dX5_takesOut_40 : decode cX5_takesOut 40 = .ok (.goto (-17), 3) := by decide +kernel
theorem dX5_takesOut_43 : decode cX5_takesOut 43 = .ok (.aload_n 0, 1) := by decide +kernel
theorem dX5_takesOut_44 : decode cX5_takesOut 44 = .ok (.getfield 50, 3) := by decide +kernel
theorem dX5_takesOut_47 : decode cX5_takesOut 47 = .ok (.iload_n 2, 1) := by decide +kernel
theorem dX5_takesOut_48 : decode cX5_takesOut 48 = .ok (.dup2, 1) := by decide +kernel
theorem dX5_takesOut_49 : decode cX5_takesOut 49 = .ok (.iaload, 1) := by decide +kernel
theorem dX5_takesOut_50 : decode cX5_takesOut 50 = .ok (.iconst 1, 1) := by decide +kernel
theorem dX5_takesOut_51 : decode cX5_takesOut 51 = .ok (.isub, 1) := by decide +kernel
theorem dX5_takesOut_52 : decode cX5_takesOut 52 = .ok (.iastore, 1) := by decide +kernel
theorem dX5_takesOut_53 : decode cX5_takesOut 53 = .ok (.aload_n 0, 1) := by decide +kernel
theorem dX5_takesOut_54 : decode cX5_takesOut 54 = .ok (.getfield 47, 3) := by decide +kernel
theorem dX5_takesOut_57 : decode cX5_takesOut 57 = .ok (.iconst 4, 1) := by decide +kernel
theorem dX5_takesOut_58 : decode cX5_takesOut 58 = .ok (.iload_n 2, 1) := by decide +kernel
theorem dX5_takesOut_59 : decode cX5_takesOut 59 = .ok (.imul, 1) := by decide +kernel
theorem dX5_takesOut_60 : decode cX5_takesOut 60 = .ok (.iload_n 3, 1) := by decide +kernel
theorem dX5_takesOut_61 : decode cX5_takesOut 61 = .ok (.iadd, 1) := by decide +kernel
theorem dX5_takesOut_62 : decode cX5_takesOut 62 = .ok (.aload_n 0, 1) := by decide +kernel
theorem dX5_takesOut_63 : decode cX5_takesOut 63 = .ok (.getfield 47, 3) := by decide +kernel
theorem dX5_takesOut_66 : decode cX5_takesOut 66 = .ok (.iconst 4, 1) := by decide +kernel
theorem dX5_takesOut_67 : decode cX5_takesOut 67 = .ok (.iload_n 2, 1) := by decide +kernel
theorem dX5_takesOut_68 : decode cX5_takesOut 68 = .ok (.imul, 1) := by decide +kernel
theorem dX5_takesOut_69 : decode cX5_takesOut 69 = .ok (.aload_n 0, 1) := by decide +kernel
theorem dX5_takesOut_70 : decode cX5_takesOut 70 = .ok (.getfield 50, 3) := by decide +kernel
theorem dX5_takesOut_73 : decode cX5_takesOut 73 = .ok (.iload_n 2, 1) := by decide +kernel
theorem dX5_takesOut_74 : decode cX5_takesOut 74 = .ok (.iaload, 1) := by decide +kernel
theorem dX5_takesOut_75 : decode cX5_takesOut 75 = .ok (.iadd, 1) := by decide +kernel
theorem dX5_takesOut_76 : decode cX5_takesOut 76 = .ok (.iaload, 1) := by decide +kernel
theorem dX5_takesOut_77 : decode cX5_takesOut 77 = .ok (.iastore, 1) := by decide +kernel
theorem dX5_takesOut_78 : decode cX5_takesOut 78 = .ok (.aload_n 0, 1) := by decide +kernel
theorem dX5_takesOut_79 : decode cX5_takesOut 79 = .ok (.getfield 38, 3) := by decide +kernel
theorem dX5_takesOut_82 : decode cX5_takesOut 82 = .ok (.iload_n 1, 1) := by decide +kernel
theorem dX5_takesOut_83 : decode cX5_takesOut 83 = .ok (.iconst 0, 1) := by decide +kernel
theorem dX5_takesOut_84 : decode cX5_takesOut 84 = .ok (.iastore, 1) := by decide +kernel
theorem dX5_takesOut_85 : decode cX5_takesOut 85 = .ok (.return_, 1) := by decide +kernel
set_option maxRecDepth 20000 in
theorem ggX5_crashes_X5_freesKept : GoodIn wsX5_crashes wsX5_freesKept := goodIn_r _ [9, 10, 11, 12, 13, 14, 15, 16, 17, 18, 19, 20, 21, 22, 23, 24, 25, 26, 27, 28, 29, 30] (by decide +kernel) (by decide +kernel)
set_option maxRecDepth 20000 in
theorem gX5_crashes_X5_freesKept : GoodIn wsX5_crashes (wsV RX5 95 RX5 yX5_freesKept wsX5_freesKept) := goodIn_app (goodIn_of _ (by decide +kernel)) ggX5_crashes_X5_freesKept
theorem dX5_crashes_0 : decode cX5_crashes 0 = .ok (.iconst 0, 1) := by decide +kernel
theorem dX5_crashes_1 : decode cX5_crashes 1 = .ok (.istore_n 1, 1) := by decide +kernel
theorem dX5_crashes_2 : decode cX5_crashes 2 = .ok (.iload_n 1, 1) := by decide +kernel
theorem dX5_crashes_3 : decode cX5_crashes 3 = .ok (.sipush 1024, 3) := by decide +kernel
theorem dX5_crashes_6 : decode cX5_crashes 6 = .ok (.if_icmp .ge 36, 3) := by decide +kernel
theorem dX5_crashes_9 : decode cX5_crashes 9 = .ok (.aload_n 0, 1) := by decide +kernel
theorem dX5_crashes_10 : decode cX5_crashes 10 = .ok (.getfield 16, 3) := by decide +kernel
theorem dX5_crashes_13 : decode cX5_crashes 13 = .ok (.iload_n 1, 1) := by decide +kernel
theorem dX5_crashes_14 : decode cX5_crashes 14 = .ok (.aload_n 0, 1) := by decide +kernel
theorem dX5_crashes_15 : decode cX5_crashes 15 = .ok (.getfield 16, 3) := by decide +kernel
theorem dX5_crashes_18 : decode cX5_crashes 18 = .ok (.iload_n 1, 1) := by decide +kernel
theorem dX5_crashes_19 : decode cX5_crashes 19 = .ok (.iaload, 1) := by decide +kernel
theorem dX5_crashes_20 : decode cX5_crashes 20 = .ok (.bipush (-2), 2) := by decide +kernel
theorem dX5_crashes_22 : decode cX5_crashes 22 = .ok (.if_icmp .ne 7, 3) := by decide +kernel
theorem dX5_crashes_25 : decode cX5_crashes 25 = .ok (.iconst (-1), 1) := by decide +kernel
theorem dX5_crashes_26 : decode cX5_crashes 26 = .ok (.goto 9, 3) := by decide +kernel
theorem dX5_crashes_29 : decode cX5_crashes 29 = .ok (.aload_n 0, 1) := by decide +kernel
theorem dX5_crashes_30 : decode cX5_crashes 30 = .ok (.getfield 16, 3) := by decide +kernel
theorem dX5_crashes_33 : decode cX5_crashes 33 = .ok (.iload_n 1, 1) := by decide +kernel
theorem dX5_crashes_34 : decode cX5_crashes 34 = .ok (.iaload, 1) := by decide +kernel
theorem dX5_crashes_35 : decode cX5_crashes 35 = .ok (.iastore, 1) := by decide +kernel
theorem dX5_crashes_36 : decode cX5_crashes 36 = .ok (.iinc 1 1, 3) := by decide +kernel
theorem dX5_crashes_39 : decode cX5_crashes 39 = .ok (.goto (-37), 3) := by decide +kernel
theorem dX5_crashes_42 : decode cX5_crashes 42 = .ok (.iconst 0, 1) := by decide +kernel
theorem dX5_crashes_43 : decode cX5_crashes 43 = .ok (.istore_n 1, 1) := by decide +kernel
theorem dX5_crashes_44 : decode cX5_crashes 44 = .ok (.iload_n 1, 1) := by decide +kernel
theorem dX5_crashes_45 : decode cX5_crashes 45 = .ok (.bipush 16, 2) := by decide +kernel
theorem dX5_crashes_47 : decode cX5_crashes 47 = .ok (.if_icmp .ge 21, 3) := by decide +kernel
theorem dX5_crashes_50 : decode cX5_crashes 50 = .ok (.aload_n 0, 1) := by decide +kernel
theorem dX5_crashes_51 : decode cX5_crashes 51 = .ok (.iload_n 1, 1) := by decide +kernel
theorem dX5_crashes_52 : decode cX5_crashes 52 = .ok (.invokevirtual 95, 3) := by decide +kernel
theorem dX5_crashes_55 : decode cX5_crashes 55 = .ok (.aload_n 0, 1) := by decide +kernel
theorem dX5_crashes_56 : decode cX5_crashes 56 = .ok (.getfield 20, 3) := by decide +kernel
theorem dX5_crashes_59 : decode cX5_crashes 59 = .ok (.iload_n 1, 1) := by decide +kernel
theorem dX5_crashes_60 : decode cX5_crashes 60 = .ok (.iconst 0, 1) := by decide +kernel
theorem dX5_crashes_61 : decode cX5_crashes 61 = .ok (.iastore, 1) := by decide +kernel
theorem dX5_crashes_62 : decode cX5_crashes 62 = .ok (.iinc 1 1, 3) := by decide +kernel
theorem dX5_crashes_65 : decode cX5_crashes 65 = .ok (.goto (-21), 3) := by decide +kernel
theorem dX5_crashes_68 : decode cX5_crashes 68 = .ok (.aload_n 0, 1) := by decide +kernel
theorem dX5_crashes_69 : decode cX5_crashes 69 = .ok (.iconst 1, 1) := by decide +kernel
theorem dX5_crashes_70 : decode cX5_crashes 70 = .ok (.putfield 98, 3) := by decide +kernel
theorem dX5_crashes_73 : decode cX5_crashes 73 = .ok (.aload_n 0, 1) := by decide +kernel
theorem dX5_crashes_74 : decode cX5_crashes 74 = .ok (.iconst 0, 1) := by decide +kernel
theorem dX5_crashes_75 : decode cX5_crashes 75 = .ok (.putfield 102, 3) := by decide +kernel
theorem dX5_crashes_78 : decode cX5_crashes 78 = .ok (.return_, 1) := by decide +kernel
theorem dX5_steps_0 : decode cX5_steps 0 = .ok (.bipush 63, 2) := by decide +kernel
theorem dX5_steps_2 : decode cX5_steps 2 = .ok (.istore_n 3, 1) := by decide +kernel
theorem dX5_steps_3 : decode cX5_steps 3 = .ok (.iload_n 3, 1) := by decide +kernel
theorem dX5_steps_4 : decode cX5_steps 4 = .ok (.iload_n 2, 1) := by decide +kernel
theorem dX5_steps_5 : decode cX5_steps 5 = .ok (.if_icmp .lt 23, 3) := by decide +kernel
theorem dX5_steps_8 : decode cX5_steps 8 = .ok (.aload_n 0, 1) := by decide +kernel
theorem dX5_steps_9 : decode cX5_steps 9 = .ok (.getfield 16, 3) := by decide +kernel
theorem dX5_steps_12 : decode cX5_steps 12 = .ok (.bipush 64, 2) := by decide +kernel
theorem dX5_steps_14 : decode cX5_steps 14 = .ok (.iload_n 1, 1) := by decide +kernel
theorem dX5_steps_15 : decode cX5_steps 15 = .ok (.imul, 1) := by decide +kernel
theorem dX5_steps_16 : decode cX5_steps 16 = .ok (.iload_n 3, 1) := by decide +kernel
theorem dX5_steps_17 : decode cX5_steps 17 = .ok (.iadd, 1) := by decide +kernel
theorem dX5_steps_18 : decode cX5_steps 18 = .ok (.iaload, 1) := by decide +kernel
theorem dX5_steps_19 : decode cX5_steps 19 = .ok (.ifCond .ge 9, 3) := by decide +kernel
theorem dX5_steps_22 : decode cX5_steps 22 = .ok (.iinc 3 (-1), 3) := by decide +kernel
theorem dX5_steps_25 : decode cX5_steps 25 = .ok (.goto (-22), 3) := by decide +kernel
theorem dX5_steps_28 : decode cX5_steps 28 = .ok (.iload_n 3, 1) := by decide +kernel
theorem dX5_steps_29 : decode cX5_steps 29 = .ok (.iload_n 2, 1) := by decide +kernel
theorem dX5_steps_30 : decode cX5_steps 30 = .ok (.if_icmp .ge 5, 3) := by decide +kernel
theorem dX5_steps_33 : decode cX5_steps 33 = .ok (.iconst 0, 1) := by decide +kernel
theorem dX5_steps_34 : decode cX5_steps 34 = .ok (.ireturn, 1) := by decide +kernel
theorem dX5_steps_35 : decode cX5_steps 35 = .ok (.aload_n 0, 1) := by decide +kernel
theorem dX5_steps_36 : decode cX5_steps 36 = .ok (.getfield 16, 3) := by decide +kernel
theorem dX5_steps_39 : decode cX5_steps 39 = .ok (.bipush 64, 2) := by decide +kernel
theorem dX5_steps_41 : decode cX5_steps 41 = .ok (.iload_n 1, 1) := by decide +kernel
theorem dX5_steps_42 : decode cX5_steps 42 = .ok (.imul, 1) := by decide +kernel
theorem dX5_steps_43 : decode cX5_steps 43 = .ok (.iload_n 3, 1) := by decide +kernel
theorem dX5_steps_44 : decode cX5_steps 44 = .ok (.iadd, 1) := by decide +kernel
theorem dX5_steps_45 : decode cX5_steps 45 = .ok (.iaload, 1) := by decide +kernel
theorem dX5_steps_46 : decode cX5_steps 46 = .ok (.istore 4, 2) := by decide +kernel
theorem dX5_steps_48 : decode cX5_steps 48 = .ok (.iconst 0, 1) := by decide +kernel
theorem dX5_steps_49 : decode cX5_steps 49 = .ok (.istore 5, 2) := by decide +kernel
theorem dX5_steps_51 : decode cX5_steps 51 = .ok (.iload 5, 2) := by decide +kernel
theorem dX5_steps_53 : decode cX5_steps 53 = .ok (.iconst 4, 1) := by decide +kernel
theorem dX5_steps_54 : decode cX5_steps 54 = .ok (.if_icmp .ge 73, 3) := by decide +kernel
theorem dX5_steps_57 : decode cX5_steps 57 = .ok (.iload_n 3, 1) := by decide +kernel
theorem dX5_steps_58 : decode cX5_steps 58 = .ok (.iload 5, 2) := by decide +kernel
theorem dX5_steps_60 : decode cX5_steps 60 = .ok (.isub, 1) := by decide +kernel
theorem dX5_steps_61 : decode cX5_steps 61 = .ok (.iload_n 2, 1) := by decide +kernel
theorem dX5_steps_62 : decode cX5_steps 62 = .ok (.if_icmp .lt 65, 3) := by decide +kernel
theorem dX5_steps_65 : decode cX5_steps 65 = .ok (.iload 4, 2) := by decide +kernel
theorem dX5_steps_67 : decode cX5_steps 67 = .ok (.iload 5, 2) := by decide +kernel
theorem dX5_steps_69 : decode cX5_steps 69 = .ok (.isub, 1) := by decide +kernel
theorem dX5_steps_70 : decode cX5_steps 70 = .ok (.ifCond .lt 57, 3) := by decide +kernel
theorem dX5_steps_73 : decode cX5_steps 73 = .ok (.aload_n 0, 1) := by decide +kernel
theorem dX5_steps_74 : decode cX5_steps 74 = .ok (.getfield 16, 3) := by decide +kernel
theorem dX5_steps_77 : decode cX5_steps 77 = .ok (.bipush 64, 2) := by decide +kernel
theorem dX5_steps_79 : decode cX5_steps 79 = .ok (.iload_n 1, 1) := by decide +kernel
theorem dX5_steps_80 : decode cX5_steps 80 = .ok (.imul, 1) := by decide +kernel
theorem dX5_steps_81 : decode cX5_steps 81 = .ok (.iload_n 3, 1) := by decide +kernel
theorem dX5_steps_82 : decode cX5_steps 82 = .ok (.iadd, 1) := by decide +kernel
theorem dX5_steps_83 : decode cX5_steps 83 = .ok (.iload 5, 2) := by decide +kernel
theorem dX5_steps_85 : decode cX5_steps 85 = .ok (.isub, 1) := by decide +kernel
theorem dX5_steps_86 : decode cX5_steps 86 = .ok (.iaload, 1) := by decide +kernel
theorem dX5_steps_87 : decode cX5_steps 87 = .ok (.iload 4, 2) := by decide +kernel
theorem dX5_steps_89 : decode cX5_steps 89 = .ok (.iload 5, 2) := by decide +kernel
theorem dX5_steps_91 : decode cX5_steps 91 = .ok (.isub, 1) := by decide +kernel
theorem dX5_steps_92 : decode cX5_steps 92 = .ok (.if_icmp .ne 35, 3) := by decide +kernel
theorem dX5_steps_95 : decode cX5_steps 95 = .ok (.aload_n 0, 1) := by decide +kernel
theorem dX5_steps_96 : decode cX5_steps 96 = .ok (.getfield 16, 3) := by decide +kernel
theorem dX5_steps_99 : decode cX5_steps 99 = .ok (.bipush 64, 2) := by decide +kernel
theorem dX5_steps_101 : decode cX5_steps 101 = .ok (.iload_n 1, 1) := by decide +kernel
theorem dX5_steps_102 : decode cX5_steps 102 = .ok (.imul, 1) := by decide +kernel
theorem dX5_steps_103 : decode cX5_steps 103 = .ok (.iload_n 3, 1) := by decide +kernel
theorem dX5_steps_104 : decode cX5_steps 104 = .ok (.iadd, 1) := by decide +kernel
theorem dX5_steps_105 : decode cX5_steps 105 = .ok (.iload 5, 2) := by decide +kernel
theorem dX5_steps_107 : decode cX5_steps 107 = .ok (.isub, 1) := by decide +kernel
theorem dX5_steps_108 : decode cX5_steps 108 = .ok (.iconst (-1), 1) := by decide +kernel
theorem dX5_steps_109 : decode cX5_steps 109 = .ok (.iastore, 1) := by decide +kernel
theorem dX5_steps_110 : decode cX5_steps 110 = .ok (.aload_n 0, 1) := by decide +kernel
theorem dX5_steps_111 : decode cX5_steps 111 = .ok (.getfield 7, 3) := by decide +kernel
theorem dX5_steps_114 : decode cX5_steps 114 = .ok (.iload 4, 2) := by decide +kernel
theorem dX5_steps_116 : decode cX5_steps 116 = .ok (.iload 5, 2) := by decide +kernel
theorem dX5_steps_118 : decode cX5_steps 118 = .ok (.isub, 1) := by decide +kernel
theorem dX5_steps_119 : decode cX5_steps 119 = .ok (.iconst 1, 1) := by decide +kernel
theorem dX5_steps_120 : decode cX5_steps 120 = .ok (.bastore, 1) := by decide +kernel
theorem dX5_steps_121 : decode cX5_steps 121 = .ok (.iinc 5 1, 3) := by decide +kernel
theorem dX5_steps_124 : decode cX5_steps 124 = .ok (.goto (-73), 3) := by decide +kernel
theorem dX5_steps_127 : decode cX5_steps 127 = .ok (.iconst 1, 1) := by decide +kernel
theorem dX5_steps_128 : decode cX5_steps 128 = .ok (.ireturn, 1) := by decide +kernel
set_option maxRecDepth 20000 in
theorem ggX5_cuts_X5_freesKept : GoodIn wsX5_cuts wsX5_freesKept := goodIn_r _ [8, 9, 10, 11, 22, 23, 24, 25, 26, 27, 28, 29, 30, 31, 32, 33, 34, 35, 36, 37, 38, 39] (by decide +kernel) (by decide +kernel)
set_option maxRecDepth 20000 in
theorem gX5_cuts_X5_freesKept : GoodIn wsX5_cuts (wsV RX5 95 RX5 yX5_freesKept wsX5_freesKept) := goodIn_app (goodIn_of _ (by decide +kernel)) ggX5_cuts_X5_freesKept
set_option maxRecDepth 20000 in
theorem ggX5_cuts_X5_steps : GoodIn wsX5_cuts wsX5_steps := goodIn_r _ [15, 1, 10, 22, 23, 24, 25, 26, 27, 28, 29, 30, 31, 32, 33, 34, 35, 36, 37, 38, 39] (by decide +kernel) (by decide +kernel)
set_option maxRecDepth 20000 in
theorem gX5_cuts_X5_steps : GoodIn wsX5_cuts (wsV RX5 105 RX5 yX5_steps wsX5_steps) := goodIn_app (goodIn_of _ (by decide +kernel)) ggX5_cuts_X5_steps
set_option maxRecDepth 20000 in
theorem ggX5_cuts_X5_crashes : GoodIn wsX5_cuts wsX5_crashes := goodIn_r _ [19, 1, 20, 21, 2, 4, 5, 6, 7, 8, 9, 10, 11, 22, 23, 24, 25, 26, 27, 28, 29, 30, 31, 32, 33, 34, 35, 36, 37, 38, 39] (by decide +kernel) (by decide +kernel)
set_option maxRecDepth 20000 in
theorem gX5_cuts_X5_crashes : GoodIn wsX5_cuts (wsV RX5 108 RX5 yX5_crashes wsX5_crashes) := goodIn_app (goodIn_of _ (by decide +kernel)) ggX5_cuts_X5_crashes
theorem dX5_cuts_0 : decode cX5_cuts 0 = .ok (.iload_n 2, 1) := by decide +kernel
theorem dX5_cuts_1 : decode cX5_cuts 1 = .ok (.istore_n 3, 1) := by decide +kernel
theorem dX5_cuts_2 : decode cX5_cuts 2 = .ok (.iload_n 3, 1) := by decide +kernel
theorem dX5_cuts_3 : decode cX5_cuts 3 = .ok (.bipush 64, 2) := by decide +kernel
theorem dX5_cuts_5 : decode cX5_cuts 5 = .ok (.if_icmp .ge 51, 3) := by decide +kernel
theorem dX5_cuts_8 : decode cX5_cuts 8 = .ok (.aload_n 0, 1) := by decide +kernel
theorem dX5_cuts_9 : decode cX5_cuts 9 = .ok (.getfield 16, 3) := by decide +kernel
theorem dX5_cuts_12 : decode cX5_cuts 12 = .ok (.bipush 64, 2) := by decide +kernel
theorem dX5_cuts_14 : decode cX5_cuts 14 = .ok (.iload_n 1, 1) := by decide +kernel
theorem dX5_cuts_15 : decode cX5_cuts 15 = .ok (.imul, 1) := by decide +kernel
theorem dX5_cuts_16 : decode cX5_cuts 16 = .ok (.iload_n 3, 1) := by decide +kernel
theorem dX5_cuts_17 : decode cX5_cuts 17 = .ok (.iadd, 1) := by decide +kernel
theorem dX5_cuts_18 : decode cX5_cuts 18 = .ok (.aload_n 0, 1) := by decide +kernel
theorem dX5_cuts_19 : decode cX5_cuts 19 = .ok (.getfield 16, 3) := by decide +kernel
theorem dX5_cuts_22 : decode cX5_cuts 22 = .ok (.bipush 64, 2) := by decide +kernel
theorem dX5_cuts_24 : decode cX5_cuts 24 = .ok (.iload_n 1, 1) := by decide +kernel
theorem dX5_cuts_25 : decode cX5_cuts 25 = .ok (.imul, 1) := by decide +kernel
theorem dX5_cuts_26 : decode cX5_cuts 26 = .ok (.iload_n 3, 1) := by decide +kernel
theorem dX5_cuts_27 : decode cX5_cuts 27 = .ok (.iadd, 1) := by decide +kernel
theorem dX5_cuts_28 : decode cX5_cuts 28 = .ok (.iaload, 1) := by decide +kernel
theorem dX5_cuts_29 : decode cX5_cuts 29 = .ok (.bipush (-2), 2) := by decide +kernel
theorem dX5_cuts_31 : decode cX5_cuts 31 = .ok (.if_icmp .ne 7, 3) := by decide +kernel
theorem dX5_cuts_34 : decode cX5_cuts 34 = .ok (.iconst (-1), 1) := by decide +kernel
theorem dX5_cuts_35 : decode cX5_cuts 35 = .ok (.goto 14, 3) := by decide +kernel
theorem dX5_cuts_38 : decode cX5_cuts 38 = .ok (.aload_n 0, 1) := by decide +kernel
theorem dX5_cuts_39 : decode cX5_cuts 39 = .ok (.getfield 16, 3) := by decide +kernel
theorem dX5_cuts_42 : decode cX5_cuts 42 = .ok (.bipush 64, 2) := by decide +kernel
theorem dX5_cuts_44 : decode cX5_cuts 44 = .ok (.iload_n 1, 1) := by decide +kernel
theorem dX5_cuts_45 : decode cX5_cuts 45 = .ok (.imul, 1) := by decide +kernel
theorem dX5_cuts_46 : decode cX5_cuts 46 = .ok (.iload_n 3, 1) := by decide +kernel
theorem dX5_cuts_47 : decode cX5_cuts 47 = .ok (.iadd, 1) := by decide +kernel
theorem dX5_cuts_48 : decode cX5_cuts 48 = .ok (.iaload, 1) := by decide +kernel
theorem dX5_cuts_49 : decode cX5_cuts 49 = .ok (.iastore, 1) := by decide +kernel
theorem dX5_cuts_50 : decode cX5_cuts 50 = .ok (.iinc 3 1, 3) := by decide +kernel
theorem dX5_cuts_53 : decode cX5_cuts 53 = .ok (.goto (-51), 3) := by decide +kernel
theorem dX5_cuts_56 : decode cX5_cuts 56 = .ok (.aload_n 0, 1) := by decide +kernel
theorem dX5_cuts_57 : decode cX5_cuts 57 = .ok (.iload_n 1, 1) := by decide +kernel
theorem dX5_cuts_58 : decode cX5_cuts 58 = .ok (.invokevirtual 95, 3) := by decide +kernel
theorem dX5_cuts_61 : decode cX5_cuts 61 = .ok (.iconst 0, 1) := by decide +kernel
theorem dX5_cuts_62 : decode cX5_cuts 62 = .ok (.istore_n 3, 1) := by decide +kernel
theorem dX5_cuts_63 : decode cX5_cuts 63 = .ok (.aload_n 0, 1) := by decide +kernel
theorem dX5_cuts_64 : decode cX5_cuts 64 = .ok (.iload_n 1, 1) := by decide +kernel
theorem dX5_cuts_65 : decode cX5_cuts 65 = .ok (.iload_n 2, 1) := by decide +kernel
theorem dX5_cuts_66 : decode cX5_cuts 66 = .ok (.invokevirtual 105, 3) := by decide +kernel
theorem dX5_cuts_69 : decode cX5_cuts 69 = .ok (.ifCond .eq 36, 3) := by decide +kernel
theorem dX5_cuts_72 : decode cX5_cuts 72 = .ok (.iinc 3 1, 3) := by decide +kernel
theorem dX5_cuts_75 : decode cX5_cuts 75 = .ok (.aload_n 0, 1) := by decide +kernel
theorem dX5_cuts_76 : decode cX5_cuts 76 = .ok (.getfield 102, 3) := by decide +kernel
theorem dX5_cuts_79 : decode cX5_cuts 79 = .ok (.ifCond .le (-16), 3) := by decide +kernel
theorem dX5_cuts_82 : decode cX5_cuts 82 = .ok (.aload_n 0, 1) := by decide +kernel
theorem dX5_cuts_83 : decode cX5_cuts 83 = .ok (.dup, 1) := by decide +kernel
theorem dX5_cuts_84 : decode cX5_cuts 84 = .ok (.getfield 102, 3) := by decide +kernel
theorem dX5_cuts_87 : decode cX5_cuts 87 = .ok (.iconst 1, 1) := by decide +kernel
theorem dX5_cuts_88 : decode cX5_cuts 88 = .ok (.isub, 1) := by decide +kernel
theorem dX5_cuts_89 : decode cX5_cuts 89 = .ok (.putfield 102, 3) := by decide +kernel
theorem dX5_cuts_92 : decode cX5_cuts 92 = .ok (.aload_n 0, 1) := by decide +kernel
theorem dX5_cuts_93 : decode cX5_cuts 93 = .ok (.getfield 102, 3) := by decide +kernel
theorem dX5_cuts_96 : decode cX5_cuts 96 = .ok (.ifCond .ne (-33), 3) := by decide +kernel
theorem dX5_cuts_99 : decode cX5_cuts 99 = .ok (.aload_n 0, 1) := by decide +kernel
theorem dX5_cuts_100 : decode cX5_cuts 100 = .ok (.invokevirtual 108, 3) := by decide +kernel
theorem dX5_cuts_103 : decode cX5_cuts 103 = .ok (.iconst (-1), 1) := by decide +kernel
theorem dX5_cuts_104 : decode cX5_cuts 104 = .ok (.ireturn, 1) := by decide +kernel
theorem dX5_cuts_105 : decode cX5_cuts 105 = .ok (.aload_n 0, 1) := by decide +kernel
theorem dX5_cuts_106 : decode cX5_cuts 106 = .ok (.getfield 32, 3) := by decide +kernel
theorem dX5_cuts_109 : decode cX5_cuts 109 = .ok (.iload_n 1, 1) := by decide +kernel
theorem dX5_cuts_110 : decode cX5_cuts 110 = .ok (.iconst (-1), 1) := by decide +kernel
theorem dX5_cuts_111 : decode cX5_cuts 111 = .ok (.iastore, 1) := by decide +kernel
theorem dX5_cuts_112 : decode cX5_cuts 112 = .ok (.iload_n 3, 1) := by decide +kernel
theorem dX5_cuts_113 : decode cX5_cuts 113 = .ok (.ireturn, 1) := by decide +kernel
set_option maxRecDepth 20000 in
theorem ggX5_ends_X5_cuts : GoodIn wsX5_ends wsX5_cuts := goodIn_r _ [7, 8, 9, 10, 11, 12, 13, 6, 14, 15, 16, 17, 18, 19, 20, 21, 22, 23, 24, 25, 26, 27, 28, 29, 30, 31, 32, 33, 34, 35, 36, 37, 38, 39, 40, 41, 42, 43, 44, 45] (by decide +kernel) (by decide +kernel)
set_option maxRecDepth 20000 in
theorem gX5_ends_X5_cuts : GoodIn wsX5_ends (wsV RX5 111 RX5 yX5_cuts wsX5_cuts) := goodIn_app (goodIn_of _ (by decide +kernel)) ggX5_ends_X5_cuts
theorem dX5_ends_0 : decode cX5_ends 0 = .ok (.aload_n 0, 1) := by decide +kernel
theorem dX5_ends_1 : decode cX5_ends 1 = .ok (.iload_n 1, 1) := by decide +kernel
theorem dX5_ends_2 : decode cX5_ends 2 = .ok (.iconst 0, 1) := by decide +kernel
theorem dX5_ends_3 : decode cX5_ends 3 = .ok (.invokevirtual 111, 3) := by decide +kernel
theorem dX5_ends_6 : decode cX5_ends 6 = .ok (.iconst (-1), 1) := by decide +kernel
theorem dX5_ends_7 : decode cX5_ends 7 = .ok (.if_icmp .ne 5, 3) := by decide +kernel
theorem dX5_ends_10 : decode cX5_ends 10 = .ok (.iconst 0, 1) := by decide +kernel
theorem dX5_ends_11 : decode cX5_ends 11 = .ok (.ireturn, 1) := by decide +kernel
theorem dX5_ends_12 : decode cX5_ends 12 = .ok (.aload_n 0, 1) := by decide +kernel
theorem dX5_ends_13 : decode cX5_ends 13 = .ok (.getfield 13, 3) := by decide +kernel
theorem dX5_ends_16 : decode cX5_ends 16 = .ok (.iload_n 1, 1) := by decide +kernel
theorem dX5_ends_17 : decode cX5_ends 17 = .ok (.iconst 0, 1) := by decide +kernel
theorem dX5_ends_18 : decode cX5_ends 18 = .ok (.bastore, 1) := by decide +kernel
theorem dX5_ends_19 : decode cX5_ends 19 = .ok (.aload_n 0, 1) := by decide +kernel
theorem dX5_ends_20 : decode cX5_ends 20 = .ok (.getfield 35, 3) := by decide +kernel
theorem dX5_ends_23 : decode cX5_ends 23 = .ok (.iload_n 1, 1) := by decide +kernel
theorem dX5_ends_24 : decode cX5_ends 24 = .ok (.iconst 0, 1) := by decide +kernel
theorem dX5_ends_25 : decode cX5_ends 25 = .ok (.bastore, 1) := by decide +kernel
theorem dX5_ends_26 : decode cX5_ends 26 = .ok (.iconst 1, 1) := by decide +kernel
theorem dX5_ends_27 : decode cX5_ends 27 = .ok (.ireturn, 1) := by decide +kernel
set_option maxRecDepth 20000 in
theorem ggX5_create_X5_isName : GoodIn wsX5_create wsX5_isName := goodIn_r _ [7, 8, 9, 6, 10] (by decide +kernel) (by decide +kernel)
set_option maxRecDepth 20000 in
theorem gX5_create_X5_isName : GoodIn wsX5_create (va_wsS RX5 115 yX5_isName wsX5_isName) := goodIn_app (goodIn_of _ (by decide +kernel)) ggX5_create_X5_isName
set_option maxRecDepth 20000 in
theorem ggX5_create_X5_asked_ : GoodIn wsX5_create wsX5_asked_ := goodIn_r _ [14, 15, 39, 40, 41, 42, 43, 44, 45, 46, 47, 48, 49, 50, 51, 52, 53, 54, 55, 56] (by decide +kernel) (by decide +kernel)
set_option maxRecDepth 20000 in
theorem gX5_create_X5_asked_ : GoodIn wsX5_create (wsV RX5 119 RX5 yX5_asked_ wsX5_asked_) := goodIn_app (goodIn_of _ (by decide +kernel)) ggX5_create_X5_asked_
set_option maxRecDepth 20000 in
theorem ggX5_create_X5_addsName : GoodIn wsX5_create wsX5_addsName := goodIn_r _ [19, 20, 21, 22, 23, 6, 24, 25, 26, 27, 28, 29, 30, 31, 32, 33, 34, 35, 36, 37, 38, 39, 40, 41, 42, 43, 44, 45, 46, 47, 48, 49, 50, 51, 52, 53, 54, 55, 56] (by decide +kernel) (by decide +kernel)
set_option maxRecDepth 20000 in
theorem gX5_create_X5_addsName : GoodIn wsX5_create (wsV RX5 123 RX5 yX5_addsName wsX5_addsName) := goodIn_app (goodIn_of _ (by decide +kernel)) ggX5_create_X5_addsName
theorem dX5_create_0 : decode cX5_create 0 = .ok (.iload_n 1, 1) := by decide +kernel
theorem dX5_create_1 : decode cX5_create 1 = .ok (.invokestatic 115, 3) := by decide +kernel
theorem dX5_create_4 : decode cX5_create 4 = .ok (.istore_n 2, 1) := by decide +kernel
theorem dX5_create_5 : decode cX5_create 5 = .ok (.iconst 0, 1) := by decide +kernel
theorem dX5_create_6 : decode cX5_create 6 = .ok (.istore_n 3, 1) := by decide +kernel
theorem dX5_create_7 : decode cX5_create 7 = .ok (.iload_n 3, 1) := by decide +kernel
theorem dX5_create_8 : decode cX5_create 8 = .ok (.bipush 16, 2) := by decide +kernel
theorem dX5_create_10 : decode cX5_create 10 = .ok (.if_icmp .ge 18, 3) := by decide +kernel
theorem dX5_create_13 : decode cX5_create 13 = .ok (.aload_n 0, 1) := by decide +kernel
theorem dX5_create_14 : decode cX5_create 14 = .ok (.getfield 13, 3) := by decide +kernel
theorem dX5_create_17 : decode cX5_create 17 = .ok (.iload_n 3, 1) := by decide +kernel
theorem dX5_create_18 : decode cX5_create 18 = .ok (.baload, 1) := by decide +kernel
theorem dX5_create_19 : decode cX5_create 19 = .ok (.ifCond .eq 9, 3) := by decide +kernel
theorem dX5_create_22 : decode cX5_create 22 = .ok (.iinc 3 1, 3) := by decide +kernel
theorem dX5_create_25 : decode cX5_create 25 = .ok (.goto (-18), 3) := by decide +kernel
theorem dX5_create_28 : decode cX5_create 28 = .ok (.aload_n 0, 1) := by decide +kernel
theorem dX5_create_29 : decode cX5_create 29 = .ok (.iload_n 2, 1) := by decide +kernel
theorem dX5_create_30 : decode cX5_create 30 = .ok (.iload_n 2, 1) := by decide +kernel
theorem dX5_create_31 : decode cX5_create 31 = .ok (.ifCond .eq 29, 3) := by decide +kernel
theorem dX5_create_34 : decode cX5_create 34 = .ok (.aload_n 0, 1) := by decide +kernel
theorem dX5_create_35 : decode cX5_create 35 = .ok (.getfield 98, 3) := by decide +kernel
theorem dX5_create_38 : decode cX5_create 38 = .ok (.ifCond .ne 22, 3) := by decide +kernel
theorem dX5_create_41 : decode cX5_create 41 = .ok (.aload_n 0, 1) := by decide +kernel
theorem dX5_create_42 : decode cX5_create 42 = .ok (.getfield 38, 3) := by decide +kernel
theorem dX5_create_45 : decode cX5_create 45 = .ok (.iload_n 1, 1) := by decide +kernel
theorem dX5_create_46 : decode cX5_create 46 = .ok (.iaload, 1) := by decide +kernel
theorem dX5_create_47 : decode cX5_create 47 = .ok (.ifCond .ne 13, 3) := by decide +kernel
theorem dX5_create_50 : decode cX5_create 50 = .ok (.iload_n 3, 1) := by decide +kernel
theorem dX5_create_51 : decode cX5_create 51 = .ok (.bipush 16, 2) := by decide +kernel
theorem dX5_create_53 : decode cX5_create 53 = .ok (.if_icmp .ge 7, 3) := by decide +kernel
theorem dX5_create_56 : decode cX5_create 56 = .ok (.iconst 1, 1) := by decide +kernel
theorem dX5_create_57 : decode cX5_create 57 = .ok (.goto 4, 3) := by decide +kernel
theorem dX5_create_60 : decode cX5_create 60 = .ok (.iconst 0, 1) := by decide +kernel
theorem dX5_create_61 : decode cX5_create 61 = .ok (.invokevirtual 119, 3) := by decide +kernel
theorem dX5_create_64 : decode cX5_create 64 = .ok (.ifCond .ne 5, 3) := by decide +kernel
theorem dX5_create_67 : decode cX5_create 67 = .ok (.iconst 0, 1) := by decide +kernel
theorem dX5_create_68 : decode cX5_create 68 = .ok (.ireturn, 1) := by decide +kernel
theorem dX5_create_69 : decode cX5_create 69 = .ok (.aload_n 0, 1) := by decide +kernel
theorem dX5_create_70 : decode cX5_create 70 = .ok (.getfield 13, 3) := by decide +kernel
theorem dX5_create_73 : decode cX5_create 73 = .ok (.iload_n 3, 1) := by decide +kernel
theorem dX5_create_74 : decode cX5_create 74 = .ok (.iconst 1, 1) := by decide +kernel
theorem dX5_create_75 : decode cX5_create 75 = .ok (.bastore, 1) := by decide +kernel
theorem dX5_create_76 : decode cX5_create 76 = .ok (.aload_n 0, 1) := by decide +kernel
theorem dX5_create_77 : decode cX5_create 77 = .ok (.getfield 38, 3) := by decide +kernel
theorem dX5_create_80 : decode cX5_create 80 = .ok (.iload_n 1, 1) := by decide +kernel
theorem dX5_create_81 : decode cX5_create 81 = .ok (.iload_n 3, 1) := by decide +kernel
theorem dX5_create_82 : decode cX5_create 82 = .ok (.iconst 1, 1) := by decide +kernel
theorem dX5_create_83 : decode cX5_create 83 = .ok (.iadd, 1) := by decide +kernel
theorem dX5_create_84 : decode cX5_create 84 = .ok (.iastore, 1) := by decide +kernel
theorem dX5_create_85 : decode cX5_create 85 = .ok (.aload_n 0, 1) := by decide +kernel
theorem dX5_create_86 : decode cX5_create 86 = .ok (.iload_n 1, 1) := by decide +kernel
theorem dX5_create_87 : decode cX5_create 87 = .ok (.invokevirtual 123, 3) := by decide +kernel
theorem dX5_create_90 : decode cX5_create 90 = .ok (.iload_n 3, 1) := by decide +kernel
theorem dX5_create_91 : decode cX5_create 91 = .ok (.ireturn, 1) := by decide +kernel
set_option maxRecDepth 20000 in
theorem ggX5_open_X5_isName : GoodIn wsX5_open wsX5_isName := goodIn_r _ [7, 8, 9, 6, 10] (by decide +kernel) (by decide +kernel)
set_option maxRecDepth 20000 in
theorem gX5_open_X5_isName : GoodIn wsX5_open (va_wsS RX5 115 yX5_isName wsX5_isName) := goodIn_app (goodIn_of _ (by decide +kernel)) ggX5_open_X5_isName
set_option maxRecDepth 20000 in
theorem ggX5_open_X5_asked_ : GoodIn wsX5_open wsX5_asked_ := goodIn_r _ [14, 15, 16, 17, 18, 19, 20, 21, 22, 23, 24, 25, 26, 27, 28, 29, 30, 31, 32, 33] (by decide +kernel) (by decide +kernel)
set_option maxRecDepth 20000 in
theorem gX5_open_X5_asked_ : GoodIn wsX5_open (wsV RX5 119 RX5 yX5_asked_ wsX5_asked_) := goodIn_app (goodIn_of _ (by decide +kernel)) ggX5_open_X5_asked_
theorem dX5_open_0 : decode cX5_open 0 = .ok (.iload_n 1, 1) := by decide +kernel
theorem dX5_open_1 : decode cX5_open 1 = .ok (.invokestatic 115, 3) := by decide +kernel
theorem dX5_open_4 : decode cX5_open 4 = .ok (.istore_n 2, 1) := by decide +kernel
theorem dX5_open_5 : decode cX5_open 5 = .ok (.aload_n 0, 1) := by decide +kernel
theorem dX5_open_6 : decode cX5_open 6 = .ok (.iload_n 2, 1) := by decide +kernel
theorem dX5_open_7 : decode cX5_open 7 = .ok (.iload_n 2, 1) := by decide +kernel
theorem dX5_open_8 : decode cX5_open 8 = .ok (.ifCond .eq 23, 3) := by decide +kernel
theorem dX5_open_11 : decode cX5_open 11 = .ok (.aload_n 0, 1) := by decide +kernel
theorem dX5_open_12 : decode cX5_open 12 = .ok (.getfield 98, 3) := by decide +kernel
theorem dX5_open_15 : decode cX5_open 15 = .ok (.ifCond .ne 16, 3) := by decide +kernel
theorem dX5_open_18 : decode cX5_open 18 = .ok (.aload_n 0, 1) := by decide +kernel
theorem dX5_open_19 : decode cX5_open 19 = .ok (.getfield 38, 3) := by decide +kernel
theorem dX5_open_22 : decode cX5_open 22 = .ok (.iload_n 1, 1) := by decide +kernel
theorem dX5_open_23 : decode cX5_open 23 = .ok (.iaload, 1) := by decide +kernel
theorem dX5_open_24 : decode cX5_open 24 = .ok (.ifCond .le 7, 3) := by decide +kernel
theorem dX5_open_27 : decode cX5_open 27 = .ok (.iconst 1, 1) := by decide +kernel
theorem dX5_open_28 : decode cX5_open 28 = .ok (.goto 4, 3) := by decide +kernel
theorem dX5_open_31 : decode cX5_open 31 = .ok (.iconst 0, 1) := by decide +kernel
theorem dX5_open_32 : decode cX5_open 32 = .ok (.invokevirtual 119, 3) := by decide +kernel
theorem dX5_open_35 : decode cX5_open 35 = .ok (.ifCond .ne 5, 3) := by decide +kernel
theorem dX5_open_38 : decode cX5_open 38 = .ok (.iconst 0, 1) := by decide +kernel
theorem dX5_open_39 : decode cX5_open 39 = .ok (.ireturn, 1) := by decide +kernel
theorem dX5_open_40 : decode cX5_open 40 = .ok (.aload_n 0, 1) := by decide +kernel
theorem dX5_open_41 : decode cX5_open 41 = .ok (.getfield 20, 3) := by decide +kernel
theorem dX5_open_44 : decode cX5_open 44 = .ok (.aload_n 0, 1) := by decide +kernel
theorem dX5_open_45 : decode cX5_open 45 = .ok (.getfield 38, 3) := by decide +kernel
theorem dX5_open_48 : decode cX5_open 48 = .ok (.iload_n 1, 1) := by decide +kernel
theorem dX5_open_49 : decode cX5_open 49 = .ok (.iaload, 1) := by decide +kernel
theorem dX5_open_50 : decode cX5_open 50 = .ok (.iconst 1, 1) := by decide +kernel
theorem dX5_open_51 : decode cX5_open 51 = .ok (.isub, 1) := by decide +kernel
theorem dX5_open_52 : decode cX5_open 52 = .ok (.dup2, 1) := by decide +kernel
theorem dX5_open_53 : decode cX5_open 53 = .ok (.iaload, 1) := by decide +kernel
theorem dX5_open_54 : decode cX5_open 54 = .ok (.iconst 1, 1) := by decide +kernel
theorem dX5_open_55 : decode cX5_open 55 = .ok (.iadd, 1) := by decide +kernel
theorem dX5_open_56 : decode cX5_open 56 = .ok (.iastore, 1) := by decide +kernel
theorem dX5_open_57 : decode cX5_open 57 = .ok (.aload_n 0, 1) := by decide +kernel
theorem dX5_open_58 : decode cX5_open 58 = .ok (.getfield 38, 3) := by decide +kernel
theorem dX5_open_61 : decode cX5_open 61 = .ok (.iload_n 1, 1) := by decide +kernel
theorem dX5_open_62 : decode cX5_open 62 = .ok (.iaload, 1) := by decide +kernel
theorem dX5_open_63 : decode cX5_open 63 = .ok (.iconst 1, 1) := by decide +kernel
theorem dX5_open_64 : decode cX5_open 64 = .ok (.isub, 1) := by decide +kernel
theorem dX5_open_65 : decode cX5_open 65 = .ok (.ireturn, 1) := by decide +kernel
set_option maxRecDepth 20000 in
theorem ggX5_close_X5_isThere : GoodIn wsX5_close wsX5_isThere := goodIn_r _ [8, 9, 10, 11, 7, 12, 44, 45, 46, 47, 48, 49, 50, 51, 52, 53, 54, 55, 56, 57, 58, 59, 60, 61] (by decide +kernel) (by decide +kernel)
set_option maxRecDepth 20000 in
theorem gX5_close_X5_isThere : GoodIn wsX5_close (wsV RX5 126 RX5 yX5_isThere wsX5_isThere) := goodIn_app (goodIn_of _ (by decide +kernel)) ggX5_close_X5_isThere
set_option maxRecDepth 20000 in
theorem ggX5_close_X5_asked_ : GoodIn wsX5_close wsX5_asked_ := goodIn_r _ [16, 17, 44, 45, 46, 47, 48, 49, 50, 51, 52, 53, 54, 55, 56, 57, 58, 59, 60, 61] (by decide +kernel) (by decide +kernel)
set_option maxRecDepth 20000 in
theorem gX5_close_X5_asked_ : GoodIn wsX5_close (wsV RX5 119 RX5 yX5_asked_ wsX5_asked_) := goodIn_app (goodIn_of _ (by decide +kernel)) ggX5_close_X5_asked_
set_option maxRecDepth 20000 in
theorem ggX5_close_X5_ends : GoodIn wsX5_close wsX5_ends := goodIn_r _ [21, 9, 3, 22, 23, 24, 7, 25, 26, 27, 28, 29, 30, 31, 32, 33, 34, 35, 36, 37, 38, 39, 40, 41, 42, 43, 2, 1, 44, 45, 46, 47, 48, 49, 50, 51, 52, 53, 54, 55, 56, 57, 58, 59, 60, 61] (by decide +kernel) (by decide +kernel)
set_option maxRecDepth 20000 in
theorem gX5_close_X5_ends : GoodIn wsX5_close (wsV RX5 129 RX5 yX5_ends wsX5_ends) := goodIn_app (goodIn_of _ (by decide +kernel)) ggX5_close_X5_ends
theorem dX5_close_0 : decode cX5_close 0 = .ok (.aload_n 0, 1) := by decide +kernel
theorem dX5_close_1 : decode cX5_close 1 = .ok (.iload_n 1, 1) := by decide +kernel
theorem dX5_close_2 : decode cX5_close 2 = .ok (.invokevirtual 126, 3) := by decide +kernel
theorem dX5_close_5 : decode cX5_close 5 = .ok (.istore_n 2, 1) := by decide +kernel
theorem dX5_close_6 : decode cX5_close 6 = .ok (.aload_n 0, 1) := by decide +kernel
theorem dX5_close_7 : decode cX5_close 7 = .ok (.iload_n 2, 1) := by decide +kernel
theorem dX5_close_8 : decode cX5_close 8 = .ok (.iload_n 2, 1) := by decide +kernel
theorem dX5_close_9 : decode cX5_close 9 = .ok (.ifCond .eq 23, 3) := by decide +kernel
theorem dX5_close_12 : decode cX5_close 12 = .ok (.aload_n 0, 1) := by decide +kernel
theorem dX5_close_13 : decode cX5_close 13 = .ok (.getfield 98, 3) := by decide +kernel
theorem dX5_close_16 : decode cX5_close 16 = .ok (.ifCond .ne 16, 3) := by decide +kernel
theorem dX5_close_19 : decode cX5_close 19 = .ok (.aload_n 0, 1) := by decide +kernel
theorem dX5_close_20 : decode cX5_close 20 = .ok (.getfield 20, 3) := by decide +kernel
theorem dX5_close_23 : decode cX5_close 23 = .ok (.iload_n 1, 1) := by decide +kernel
theorem dX5_close_24 : decode cX5_close 24 = .ok (.iaload, 1) := by decide +kernel
theorem dX5_close_25 : decode cX5_close 25 = .ok (.ifCond .le 7, 3) := by decide +kernel
theorem dX5_close_28 : decode cX5_close 28 = .ok (.iconst 1, 1) := by decide +kernel
theorem dX5_close_29 : decode cX5_close 29 = .ok (.goto 4, 3) := by decide +kernel
theorem dX5_close_32 : decode cX5_close 32 = .ok (.iconst 0, 1) := by decide +kernel
theorem dX5_close_33 : decode cX5_close 33 = .ok (.invokevirtual 119, 3) := by decide +kernel
theorem dX5_close_36 : decode cX5_close 36 = .ok (.ifCond .ne 5, 3) := by decide +kernel
theorem dX5_close_39 : decode cX5_close 39 = .ok (.iconst 0, 1) := by decide +kernel
theorem dX5_close_40 : decode cX5_close 40 = .ok (.ireturn, 1) := by decide +kernel
theorem dX5_close_41 : decode cX5_close 41 = .ok (.aload_n 0, 1) := by decide +kernel
theorem dX5_close_42 : decode cX5_close 42 = .ok (.getfield 20, 3) := by decide +kernel
theorem dX5_close_45 : decode cX5_close 45 = .ok (.iload_n 1, 1) := by decide +kernel
theorem dX5_close_46 : decode cX5_close 46 = .ok (.dup2, 1) := by decide +kernel
theorem dX5_close_47 : decode cX5_close 47 = .ok (.iaload, 1) := by decide +kernel
theorem dX5_close_48 : decode cX5_close 48 = .ok (.iconst 1, 1) := by decide +kernel
theorem dX5_close_49 : decode cX5_close 49 = .ok (.isub, 1) := by decide +kernel
theorem dX5_close_50 : decode cX5_close 50 = .ok (.iastore, 1) := by decide +kernel
theorem dX5_close_51 : decode cX5_close 51 = .ok (.aload_n 0, 1) := by decide +kernel
theorem dX5_close_52 : decode cX5_close 52 = .ok (.getfield 20, 3) := by decide +kernel
theorem dX5_close_55 : decode cX5_close 55 = .ok (.iload_n 1, 1) := by decide +kernel
theorem dX5_close_56 : decode cX5_close 56 = .ok (.iaload, 1) := by decide +kernel
theorem dX5_close_57 : decode cX5_close 57 = .ok (.ifCond .ne 22, 3) := by decide +kernel
theorem dX5_close_60 : decode cX5_close 60 = .ok (.aload_n 0, 1) := by decide +kernel
theorem dX5_close_61 : decode cX5_close 61 = .ok (.getfield 35, 3) := by decide +kernel
theorem dX5_close_64 : decode cX5_close 64 = .ok (.iload_n 1, 1) := by decide +kernel
theorem dX5_close_65 : decode cX5_close 65 = .ok (.baload, 1) := by decide +kernel
theorem dX5_close_66 : decode cX5_close 66 = .ok (.ifCond .eq 13, 3) := by decide +kernel
theorem dX5_close_69 : decode cX5_close 69 = .ok (.aload_n 0, 1) := by decide +kernel
theorem dX5_close_70 : decode cX5_close 70 = .ok (.iload_n 1, 1) := by decide +kernel
theorem dX5_close_71 : decode cX5_close 71 = .ok (.invokevirtual 129, 3) := by decide +kernel
theorem dX5_close_74 : decode cX5_close 74 = .ok (.ifCond .ne 5, 3) := by decide +kernel
theorem dX5_close_77 : decode cX5_close 77 = .ok (.iconst (-1), 1) := by decide +kernel
theorem dX5_close_78 : decode cX5_close 78 = .ok (.ireturn, 1) := by decide +kernel
theorem dX5_close_79 : decode cX5_close 79 = .ok (.aload_n 0, 1) := by decide +kernel
theorem dX5_close_80 : decode cX5_close 80 = .ok (.getfield 20, 3) := by decide +kernel
theorem dX5_close_83 : decode cX5_close 83 = .ok (.iload_n 1, 1) := by decide +kernel
theorem dX5_close_84 : decode cX5_close 84 = .ok (.iaload, 1) := by decide +kernel
theorem dX5_close_85 : decode cX5_close 85 = .ok (.ireturn, 1) := by decide +kernel
set_option maxRecDepth 20000 in
theorem ggX5_delete_X5_isName : GoodIn wsX5_delete wsX5_isName := goodIn_r _ [8, 9, 10, 7, 11] (by decide +kernel) (by decide +kernel)
set_option maxRecDepth 20000 in
theorem gX5_delete_X5_isName : GoodIn wsX5_delete (va_wsS RX5 115 yX5_isName wsX5_isName) := goodIn_app (goodIn_of _ (by decide +kernel)) ggX5_delete_X5_isName
set_option maxRecDepth 20000 in
theorem ggX5_delete_X5_asked_ : GoodIn wsX5_delete wsX5_asked_ := goodIn_r _ [15, 16, 72, 73, 74, 75, 76, 77, 78, 79, 80, 81, 82, 83, 84, 85, 86, 87, 88, 89] (by decide +kernel) (by decide +kernel)
set_option maxRecDepth 20000 in
theorem gX5_delete_X5_asked_ : GoodIn wsX5_delete (wsV RX5 119 RX5 yX5_asked_ wsX5_asked_) := goodIn_app (goodIn_of _ (by decide +kernel)) ggX5_delete_X5_asked_
set_option maxRecDepth 20000 in
theorem ggX5_delete_X5_takesOut : GoodIn wsX5_delete wsX5_takesOut := goodIn_r _ [20, 21, 22, 2, 23, 24, 25, 7, 26, 27, 28, 29, 30, 31, 32, 33, 34, 35, 36, 37, 38, 39, 40, 41, 42, 43, 44, 72, 73, 74, 75, 76, 77, 78, 79, 80, 81, 82, 83, 84, 85, 86, 87, 88, 89] (by decide +kernel) (by decide +kernel)
set_option maxRecDepth 20000 in
theorem gX5_delete_X5_takesOut : GoodIn wsX5_delete (wsV RX5 132 RX5 yX5_takesOut wsX5_takesOut) := goodIn_app (goodIn_of _ (by decide +kernel)) ggX5_delete_X5_takesOut
set_option maxRecDepth 20000 in
theorem ggX5_delete_X5_ends : GoodIn wsX5_delete wsX5_ends := goodIn_r _ [48, 49, 3, 50, 51, 52, 7, 53, 54, 55, 56, 57, 58, 59, 60, 61, 62, 63, 64, 65, 66, 67, 68, 69, 70, 71, 4, 1, 72, 73, 74, 75, 76, 77, 78, 79, 80, 81, 82, 83, 84, 85, 86, 87, 88, 89] (by decide +kernel) (by decide +kernel)
set_option maxRecDepth 20000 in
theorem gX5_delete_X5_ends : GoodIn wsX5_delete (wsV RX5 129 RX5 yX5_ends wsX5_ends) := goodIn_app (goodIn_of _ (by decide +kernel)) ggX5_delete_X5_ends
theorem dX5_delete_0 : decode cX5_delete 0 = .ok (.iload_n 1, 1) := by decide +kernel
theorem dX5_delete_1 : decode cX5_delete 1 = .ok (.invokestatic 115, 3) := by decide +kernel
theorem dX5_delete_4 : decode cX5_delete 4 = .ok (.istore_n 2, 1) := by decide +kernel
theorem dX5_delete_5 : decode cX5_delete 5 = .ok (.aload_n 0, 1) := by decide +kernel
theorem dX5_delete_6 : decode cX5_delete 6 = .ok (.iload_n 2, 1) := by decide +kernel
theorem dX5_delete_7 : decode cX5_delete 7 = .ok (.iload_n 2, 1) := by decide +kernel
theorem dX5_delete_8 : decode cX5_delete 8 = .ok (.ifCond .eq 23, 3) := by decide +kernel
theorem dX5_delete_11 : decode cX5_delete 11 = .ok (.aload_n 0, 1) := by decide +kernel
theorem dX5_delete_12 : decode cX5_delete 12 = .ok (.getfield 98, 3) := by decide +kernel
theorem dX5_delete_15 : decode cX5_delete 15 = .ok (.ifCond .ne 16, 3) := by decide +kernel
theorem dX5_delete_18 : decode cX5_delete 18 = .ok (.aload_n 0, 1) := by decide +kernel
theorem dX5_delete_19 : decode cX5_delete 19 = .ok (.getfield 38, 3) := by decide +kernel
theorem dX5_delete_22 : decode cX5_delete 22 = .ok (.iload_n 1, 1) := by decide +kernel
theorem dX5_delete_23 : decode cX5_delete 23 = .ok (.iaload, 1) := by decide +kernel
theorem dX5_delete_24 : decode cX5_delete 24 = .ok (.ifCond .le 7, 3) := by decide +kernel
theorem dX5_delete_27 : decode cX5_delete 27 = .ok (.iconst 1, 1) := by decide +kernel
theorem dX5_delete_28 : decode cX5_delete 28 = .ok (.goto 4, 3) := by decide +kernel
theorem dX5_delete_31 : decode cX5_delete 31 = .ok (.iconst 0, 1) := by decide +kernel
theorem dX5_delete_32 : decode cX5_delete 32 = .ok (.invokevirtual 119, 3) := by decide +kernel
theorem dX5_delete_35 : decode cX5_delete 35 = .ok (.ifCond .ne 5, 3) := by decide +kernel
theorem dX5_delete_38 : decode cX5_delete 38 = .ok (.iconst 0, 1) := by decide +kernel
theorem dX5_delete_39 : decode cX5_delete 39 = .ok (.ireturn, 1) := by decide +kernel
theorem dX5_delete_40 : decode cX5_delete 40 = .ok (.aload_n 0, 1) := by decide +kernel
theorem dX5_delete_41 : decode cX5_delete 41 = .ok (.getfield 38, 3) := by decide +kernel
theorem dX5_delete_44 : decode cX5_delete 44 = .ok (.iload_n 1, 1) := by decide +kernel
theorem dX5_delete_45 : decode cX5_delete 45 = .ok (.iaload, 1) := by decide +kernel
theorem dX5_delete_46 : decode cX5_delete 46 = .ok (.iconst 1, 1) := by decide +kernel
theorem dX5_delete_47 : decode cX5_delete 47 = .ok (.isub, 1) := by decide +kernel
theorem dX5_delete_48 : decode cX5_delete 48 = .ok (.istore_n 3, 1) := by decide +kernel
theorem dX5_delete_49 : decode cX5_delete 49 = .ok (.aload_n 0, 1) := by decide +kernel
theorem dX5_delete_50 : decode cX5_delete 50 = .ok (.iload_n 1, 1) := by decide +kernel
theorem dX5_delete_51 : decode cX5_delete 51 = .ok (.invokevirtual 132, 3) := by decide +kernel
theorem dX5_delete_54 : decode cX5_delete 54 = .ok (.aload_n 0, 1) := by decide +kernel
theorem dX5_delete_55 : decode cX5_delete 55 = .ok (.getfield 35, 3) := by decide +kernel
theorem dX5_delete_58 : decode cX5_delete 58 = .ok (.iload_n 3, 1) := by decide +kernel
theorem dX5_delete_59 : decode cX5_delete 59 = .ok (.iconst 1, 1) := by decide +kernel
theorem dX5_delete_60 : decode cX5_delete 60 = .ok (.bastore, 1) := by decide +kernel
theorem dX5_delete_61 : decode cX5_delete 61 = .ok (.aload_n 0, 1) := by decide +kernel
theorem dX5_delete_62 : decode cX5_delete 62 = .ok (.getfield 20, 3) := by decide +kernel
theorem dX5_delete_65 : decode cX5_delete 65 = .ok (.iload_n 3, 1) := by decide +kernel
theorem dX5_delete_66 : decode cX5_delete 66 = .ok (.iaload, 1) := by decide +kernel
theorem dX5_delete_67 : decode cX5_delete 67 = .ok (.ifCond .ne 15, 3) := by decide +kernel
theorem dX5_delete_70 : decode cX5_delete 70 = .ok (.aload_n 0, 1) := by decide +kernel
theorem dX5_delete_71 : decode cX5_delete 71 = .ok (.iload_n 3, 1) := by decide +kernel
theorem dX5_delete_72 : decode cX5_delete 72 = .ok (.invokevirtual 129, 3) := by decide +kernel
theorem dX5_delete_75 : decode cX5_delete 75 = .ok (.ifCond .ne 7, 3) := by decide +kernel
theorem dX5_delete_78 : decode cX5_delete 78 = .ok (.iconst (-1), 1) := by decide +kernel
theorem dX5_delete_79 : decode cX5_delete 79 = .ok (.goto 4, 3) := by decide +kernel
theorem dX5_delete_82 : decode cX5_delete 82 = .ok (.iload_n 3, 1) := by decide +kernel
theorem dX5_delete_83 : decode cX5_delete 83 = .ok (.ireturn, 1) := by decide +kernel
set_option maxRecDepth 20000 in
theorem ggX5_write_X5_isThere : GoodIn wsX5_write wsX5_isThere := goodIn_r _ [7, 8, 9, 10, 6, 11, 40, 41, 42, 43, 44, 45, 46, 47, 48, 49, 50, 51, 52, 53, 54, 55, 56, 57] (by decide +kernel) (by decide +kernel)
set_option maxRecDepth 20000 in
theorem gX5_write_X5_isThere : GoodIn wsX5_write (wsV RX5 126 RX5 yX5_isThere wsX5_isThere) := goodIn_app (goodIn_of _ (by decide +kernel)) ggX5_write_X5_isThere
set_option maxRecDepth 20000 in
theorem ggX5_write_X5_in : GoodIn wsX5_write wsX5_in := goodIn_r _ [11] (by decide +kernel) (by decide +kernel)
set_option maxRecDepth 20000 in
theorem gX5_write_X5_in : GoodIn wsX5_write (va_wsS RX5 60 yX5_in wsX5_in) := goodIn_app (goodIn_of _ (by decide +kernel)) ggX5_write_X5_in
set_option maxRecDepth 20000 in
theorem ggX5_write_X5_left : GoodIn wsX5_write wsX5_left := goodIn_r _ [15, 16, 17, 18, 6, 19, 20, 21, 22, 23, 24, 1, 40, 41, 42, 43, 44, 45, 46, 47, 48, 49, 50, 51, 52, 53, 54, 55, 56, 57] (by decide +kernel) (by decide +kernel)
set_option maxRecDepth 20000 in
theorem gX5_write_X5_left : GoodIn wsX5_write (wsV RX5 135 RX5 yX5_left wsX5_left) := goodIn_app (goodIn_of _ (by decide +kernel)) ggX5_write_X5_left
set_option maxRecDepth 20000 in
theorem ggX5_write_X5_keptNow : GoodIn wsX5_write wsX5_keptNow := goodIn_r _ [28, 29, 40, 41, 42, 43, 44, 45, 46, 47, 48, 49, 50, 51, 52, 53, 54, 55, 56, 57] (by decide +kernel) (by decide +kernel)
set_option maxRecDepth 20000 in
theorem gX5_write_X5_keptNow : GoodIn wsX5_write (wsV RX5 138 RX5 yX5_keptNow wsX5_keptNow) := goodIn_app (goodIn_of _ (by decide +kernel)) ggX5_write_X5_keptNow
set_option maxRecDepth 20000 in
theorem ggX5_write_X5_asked__ : GoodIn wsX5_write wsX5_asked__ := goodIn_r _ [33, 34, 40, 41, 42, 43, 44, 45, 46, 47, 48, 49, 50, 51, 52, 53, 54, 55, 56, 57] (by decide +kernel) (by decide +kernel)
set_option maxRecDepth 20000 in
theorem gX5_write_X5_asked__ : GoodIn wsX5_write (wsV RX5 141 RX5 yX5_asked__ wsX5_asked__) := goodIn_app (goodIn_of _ (by decide +kernel)) ggX5_write_X5_asked__
set_option maxRecDepth 20000 in
theorem ggX5_write_X5_freesKept : GoodIn wsX5_write wsX5_freesKept := goodIn_r _ [38, 29, 20, 39, 40, 41, 42, 43, 44, 45, 46, 47, 48, 49, 50, 51, 52, 53, 54, 55, 56, 57] (by decide +kernel) (by decide +kernel)
set_option maxRecDepth 20000 in
theorem gX5_write_X5_freesKept : GoodIn wsX5_write (wsV RX5 95 RX5 yX5_freesKept wsX5_freesKept) := goodIn_app (goodIn_of _ (by decide +kernel)) ggX5_write_X5_freesKept
theorem dX5_write_0 : decode cX5_write 0 = .ok (.aload_n 0, 1) := by decide +kernel
theorem dX5_write_1 : decode cX5_write 1 = .ok (.iload_n 1, 1) := by decide +kernel
theorem dX5_write_2 : decode cX5_write 2 = .ok (.invokevirtual 126, 3) := by decide +kernel
theorem dX5_write_5 : decode cX5_write 5 = .ok (.istore 4, 2) := by decide +kernel
theorem dX5_write_7 : decode cX5_write 7 = .ok (.iload_n 2, 1) := by decide +kernel
theorem dX5_write_8 : decode cX5_write 8 = .ok (.iconst 0, 1) := by decide +kernel
theorem dX5_write_9 : decode cX5_write 9 = .ok (.bipush 63, 2) := by decide +kernel
theorem dX5_write_11 : decode cX5_write 11 = .ok (.invokestatic 60, 3) := by decide +kernel
theorem dX5_write_14 : decode cX5_write 14 = .ok (.ifCond .eq 19, 3) := by decide +kernel
theorem dX5_write_17 : decode cX5_write 17 = .ok (.iload_n 3, 1) := by decide +kernel
theorem dX5_write_18 : decode cX5_write 18 = .ok (.iconst 1, 1) := by decide +kernel
theorem dX5_write_19 : decode cX5_write 19 = .ok (.bipush 64, 2) := by decide +kernel
theorem dX5_write_21 : decode cX5_write 21 = .ok (.iload_n 2, 1) := by decide +kernel
theorem dX5_write_22 : decode cX5_write 22 = .ok (.isub, 1) := by decide +kernel
theorem dX5_write_23 : decode cX5_write 23 = .ok (.invokestatic 60, 3) := by decide +kernel
theorem dX5_write_26 : decode cX5_write 26 = .ok (.ifCond .eq 7, 3) := by decide +kernel
theorem dX5_write_29 : decode cX5_write 29 = .ok (.iconst 1, 1) := by decide +kernel
theorem dX5_write_30 : decode cX5_write 30 = .ok (.goto 4, 3) := by decide +kernel
theorem dX5_write_33 : decode cX5_write 33 = .ok (.iconst 0, 1) := by decide +kernel
theorem dX5_write_34 : decode cX5_write 34 = .ok (.istore 5, 2) := by decide +kernel
theorem dX5_write_36 : decode cX5_write 36 = .ok (.iconst 0, 1) := by decide +kernel
theorem dX5_write_37 : decode cX5_write 37 = .ok (.istore 6, 2) := by decide +kernel
theorem dX5_write_39 : decode cX5_write 39 = .ok (.iload_n 2, 1) := by decide +kernel
theorem dX5_write_40 : decode cX5_write 40 = .ok (.istore 7, 2) := by decide +kernel
theorem dX5_write_42 : decode cX5_write 42 = .ok (.iload 4, 2) := by decide +kernel
theorem dX5_write_44 : decode cX5_write 44 = .ok (.ifCond .eq 48, 3) := by decide +kernel
theorem dX5_write_47 : decode cX5_write 47 = .ok (.iload 5, 2) := by decide +kernel
theorem dX5_write_49 : decode cX5_write 49 = .ok (.ifCond .eq 43, 3) := by decide +kernel
theorem dX5_write_52 : decode cX5_write 52 = .ok (.iload 7, 2) := by decide +kernel
theorem dX5_write_54 : decode cX5_write 54 = .ok (.iload_n 2, 1) := by decide +kernel
theorem dX5_write_55 : decode cX5_write 55 = .ok (.iload_n 3, 1) := by decide +kernel
theorem dX5_write_56 : decode cX5_write 56 = .ok (.iadd, 1) := by decide +kernel
theorem dX5_write_57 : decode cX5_write 57 = .ok (.if_icmp .ge 35, 3) := by decide +kernel
theorem dX5_write_60 : decode cX5_write 60 = .ok (.iload 6, 2) := by decide +kernel
theorem dX5_write_62 : decode cX5_write 62 = .ok (.aload_n 0, 1) := by decide +kernel
theorem dX5_write_63 : decode cX5_write 63 = .ok (.getfield 16, 3) := by decide +kernel
theorem dX5_write_66 : decode cX5_write 66 = .ok (.bipush 64, 2) := by decide +kernel
theorem dX5_write_68 : decode cX5_write 68 = .ok (.iload_n 1, 1) := by decide +kernel
theorem dX5_write_69 : decode cX5_write 69 = .ok (.imul, 1) := by decide +kernel
theorem dX5_write_70 : decode cX5_write 70 = .ok (.iload 7, 2) := by decide +kernel
