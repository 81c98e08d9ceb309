theorem dX5_write_72 : decode cX5_write 72 = .ok (.iadd, 1) := by decide +kernel
theorem dX5_write_73 : decode cX5_write 73 = .ok (.iaload, 1) := by decide +kernel
theorem dX5_write_74 : decode cX5_write 74 = .ok (.iconst (-1), 1) := by decide +kernel
theorem dX5_write_75 : decode cX5_write 75 = .ok (.if_icmp .ne 7, 3) := by decide +kernel
theorem dX5_write_78 : decode cX5_write 78 = .ok (.iconst 1, 1) := by decide +kernel
theorem dX5_write_79 : decode cX5_write 79 = .ok (.goto 4, 3) := by decide +kernel
theorem dX5_write_82 : decode cX5_write 82 = .ok (.iconst 0, 1) := by decide +kernel
theorem dX5_write_83 : decode cX5_write 83 = .ok (.iadd, 1) := by decide +kernel
theorem dX5_write_84 : decode cX5_write 84 = .ok (.istore 6, 2) := by decide +kernel
theorem dX5_write_86 : decode cX5_write 86 = .ok (.iinc 7 1, 3) := by decide +kernel
theorem dX5_write_89 : decode cX5_write 89 = .ok (.goto (-47), 3) := by decide +kernel
theorem dX5_write_92 : decode cX5_write 92 = .ok (.aload_n 0, 1) := by decide +kernel
theorem dX5_write_93 : decode cX5_write 93 = .ok (.iload 4, 2) := by decide +kernel
theorem dX5_write_95 : decode cX5_write 95 = .ok (.iload 5, 2) := by decide +kernel
theorem dX5_write_97 : decode cX5_write 97 = .ok (.aload_n 0, 1) := by decide +kernel
theorem dX5_write_98 : decode cX5_write 98 = .ok (.getfield 98, 3) := by decide +kernel
theorem dX5_write_101 : decode cX5_write 101 = .ok (.ifCond .ne 21, 3) := by decide +kernel
theorem dX5_write_104 : decode cX5_write 104 = .ok (.aload_n 0, 1) := by decide +kernel
theorem dX5_write_105 : decode cX5_write 105 = .ok (.invokevirtual 135, 3) := by decide +kernel
theorem dX5_write_108 : decode cX5_write 108 = .ok (.aload_n 0, 1) := by decide +kernel
theorem dX5_write_109 : decode cX5_write 109 = .ok (.invokevirtual 138, 3) := by decide +kernel
theorem dX5_write_112 : decode cX5_write 112 = .ok (.iadd, 1) := by decide +kernel
theorem dX5_write_113 : decode cX5_write 113 = .ok (.iload 6, 2) := by decide +kernel
theorem dX5_write_115 : decode cX5_write 115 = .ok (.if_icmp .lt 7, 3) := by decide +kernel
theorem dX5_write_118 : decode cX5_write 118 = .ok (.iconst 1, 1) := by decide +kernel
theorem dX5_write_119 : decode cX5_write 119 = .ok (.goto 4, 3) := by decide +kernel
theorem dX5_write_122 : decode cX5_write 122 = .ok (.iconst 0, 1) := by decide +kernel
theorem dX5_write_123 : decode cX5_write 123 = .ok (.invokevirtual 141, 3) := by decide +kernel
theorem dX5_write_126 : decode cX5_write 126 = .ok (.ifCond .ne 5, 3) := by decide +kernel
theorem dX5_write_129 : decode cX5_write 129 = .ok (.iconst 0, 1) := by decide +kernel
theorem dX5_write_130 : decode cX5_write 130 = .ok (.ireturn, 1) := by decide +kernel
theorem dX5_write_131 : decode cX5_write 131 = .ok (.aload_n 0, 1) := by decide +kernel
theorem dX5_write_132 : decode cX5_write 132 = .ok (.invokevirtual 135, 3) := by decide +kernel
theorem dX5_write_135 : decode cX5_write 135 = .ok (.iload 6, 2) := by decide +kernel
theorem dX5_write_137 : decode cX5_write 137 = .ok (.if_icmp .ge 25, 3) := by decide +kernel
theorem dX5_write_140 : decode cX5_write 140 = .ok (.iconst 0, 1) := by decide +kernel
theorem dX5_write_141 : decode cX5_write 141 = .ok (.istore 7, 2) := by decide +kernel
theorem dX5_write_143 : decode cX5_write 143 = .ok (.iload 7, 2) := by decide +kernel
theorem dX5_write_145 : decode cX5_write 145 = .ok (.bipush 16, 2) := by decide +kernel
theorem dX5_write_147 : decode cX5_write 147 = .ok (.if_icmp .ge 15, 3) := by decide +kernel
theorem dX5_write_150 : decode cX5_write 150 = .ok (.aload_n 0, 1) := by decide +kernel
theorem dX5_write_151 : decode cX5_write 151 = .ok (.iload 7, 2) := by decide +kernel
theorem dX5_write_153 : decode cX5_write 153 = .ok (.invokevirtual 95, 3) := by decide +kernel
theorem dX5_write_156 : decode cX5_write 156 = .ok (.iinc 7 1, 3) := by decide +kernel
theorem dX5_write_159 : decode cX5_write 159 = .ok (.goto (-16), 3) := by decide +kernel
theorem dX5_write_162 : decode cX5_write 162 = .ok (.iload_n 2, 1) := by decide +kernel
theorem dX5_write_163 : decode cX5_write 163 = .ok (.istore 7, 2) := by decide +kernel
theorem dX5_write_165 : decode cX5_write 165 = .ok (.iload 7, 2) := by decide +kernel
theorem dX5_write_167 : decode cX5_write 167 = .ok (.iload_n 2, 1) := by decide +kernel
theorem dX5_write_168 : decode cX5_write 168 = .ok (.iload_n 3, 1) := by decide +kernel
theorem dX5_write_169 : decode cX5_write 169 = .ok (.iadd, 1) := by decide +kernel
theorem dX5_write_170 : decode cX5_write 170 = .ok (.if_icmp .ge 54, 3) := by decide +kernel
theorem dX5_write_173 : decode cX5_write 173 = .ok (.aload_n 0, 1) := by decide +kernel
theorem dX5_write_174 : decode cX5_write 174 = .ok (.getfield 16, 3) := by decide +kernel
theorem dX5_write_177 : decode cX5_write 177 = .ok (.bipush 64, 2) := by decide +kernel
theorem dX5_write_179 : decode cX5_write 179 = .ok (.iload_n 1, 1) := by decide +kernel
theorem dX5_write_180 : decode cX5_write 180 = .ok (.imul, 1) := by decide +kernel
theorem dX5_write_181 : decode cX5_write 181 = .ok (.iload 7, 2) := by decide +kernel
theorem dX5_write_183 : decode cX5_write 183 = .ok (.iadd, 1) := by decide +kernel
theorem dX5_write_184 : decode cX5_write 184 = .ok (.aload_n 0, 1) := by decide +kernel
theorem dX5_write_185 : decode cX5_write 185 = .ok (.getfield 16, 3) := by decide +kernel
theorem dX5_write_188 : decode cX5_write 188 = .ok (.bipush 64, 2) := by decide +kernel
theorem dX5_write_190 : decode cX5_write 190 = .ok (.iload_n 1, 1) := by decide +kernel
theorem dX5_write_191 : decode cX5_write 191 = .ok (.imul, 1) := by decide +kernel
theorem dX5_write_192 : decode cX5_write 192 = .ok (.iload 7, 2) := by decide +kernel
theorem dX5_write_194 : decode cX5_write 194 = .ok (.iadd, 1) := by decide +kernel
theorem dX5_write_195 : decode cX5_write 195 = .ok (.iaload, 1) := by decide +kernel
theorem dX5_write_196 : decode cX5_write 196 = .ok (.iconst (-1), 1) := by decide +kernel
theorem dX5_write_197 : decode cX5_write 197 = .ok (.if_icmp .ne 8, 3) := by decide +kernel
theorem dX5_write_200 : decode cX5_write 200 = .ok (.bipush (-2), 2) := by decide +kernel
theorem dX5_write_202 : decode cX5_write 202 = .ok (.goto 15, 3) := by decide +kernel
theorem dX5_write_205 : decode cX5_write 205 = .ok (.aload_n 0, 1) := by decide +kernel
theorem dX5_write_206 : decode cX5_write 206 = .ok (.getfield 16, 3) := by decide +kernel
theorem dX5_write_209 : decode cX5_write 209 = .ok (.bipush 64, 2) := by decide +kernel
theorem dX5_write_211 : decode cX5_write 211 = .ok (.iload_n 1, 1) := by decide +kernel
theorem dX5_write_212 : decode cX5_write 212 = .ok (.imul, 1) := by decide +kernel
theorem dX5_write_213 : decode cX5_write 213 = .ok (.iload 7, 2) := by decide +kernel
theorem dX5_write_215 : decode cX5_write 215 = .ok (.iadd, 1) := by decide +kernel
theorem dX5_write_216 : decode cX5_write 216 = .ok (.iaload, 1) := by decide +kernel
theorem dX5_write_217 : decode cX5_write 217 = .ok (.iastore, 1) := by decide +kernel
theorem dX5_write_218 : decode cX5_write 218 = .ok (.iinc 7 1, 3) := by decide +kernel
theorem dX5_write_221 : decode cX5_write 221 = .ok (.goto (-56), 3) := by decide +kernel
theorem dX5_write_224 : decode cX5_write 224 = .ok (.iload 6, 2) := by decide +kernel
theorem dX5_write_226 : decode cX5_write 226 = .ok (.ireturn, 1) := by decide +kernel
theorem dX5_areFree_0 : decode cX5_areFree 0 = .ok (.iload_n 1, 1) := by decide +kernel
theorem dX5_areFree_1 : decode cX5_areFree 1 = .ok (.bipush 32, 2) := by decide +kernel
theorem dX5_areFree_3 : decode cX5_areFree 3 = .ok (.idiv, 1) := by decide +kernel
theorem dX5_areFree_4 : decode cX5_areFree 4 = .ok (.iload_n 1, 1) := by decide +kernel
theorem dX5_areFree_5 : decode cX5_areFree 5 = .ok (.iload_n 2, 1) := by decide +kernel
theorem dX5_areFree_6 : decode cX5_areFree 6 = .ok (.iadd, 1) := by decide +kernel
theorem dX5_areFree_7 : decode cX5_areFree 7 = .ok (.iconst 1, 1) := by decide +kernel
theorem dX5_areFree_8 : decode cX5_areFree 8 = .ok (.isub, 1) := by decide +kernel
theorem dX5_areFree_9 : decode cX5_areFree 9 = .ok (.bipush 32, 2) := by decide +kernel
theorem dX5_areFree_11 : decode cX5_areFree 11 = .ok (.idiv, 1) := by decide +kernel
theorem dX5_areFree_12 : decode cX5_areFree 12 = .ok (.if_icmp .ne 7, 3) := by decide +kernel
theorem dX5_areFree_15 : decode cX5_areFree 15 = .ok (.iconst 1, 1) := by decide +kernel
theorem dX5_areFree_16 : decode cX5_areFree 16 = .ok (.goto 4, 3) := by decide +kernel
theorem dX5_areFree_19 : decode cX5_areFree 19 = .ok (.iconst 0, 1) := by decide +kernel
theorem dX5_areFree_20 : decode cX5_areFree 20 = .ok (.istore_n 3, 1) := by decide +kernel
theorem dX5_areFree_21 : decode cX5_areFree 21 = .ok (.iload_n 1, 1) := by decide +kernel
theorem dX5_areFree_22 : decode cX5_areFree 22 = .ok (.istore 4, 2) := by decide +kernel
theorem dX5_areFree_24 : decode cX5_areFree 24 = .ok (.iload_n 3, 1) := by decide +kernel
theorem dX5_areFree_25 : decode cX5_areFree 25 = .ok (.ifCond .eq 25, 3) := by decide +kernel
theorem dX5_areFree_28 : decode cX5_areFree 28 = .ok (.iload 4, 2) := by decide +kernel
theorem dX5_areFree_30 : decode cX5_areFree 30 = .ok (.iload_n 1, 1) := by decide +kernel
theorem dX5_areFree_31 : decode cX5_areFree 31 = .ok (.iload_n 2, 1) := by decide +kernel
theorem dX5_areFree_32 : decode cX5_areFree 32 = .ok (.iadd, 1) := by decide +kernel
theorem dX5_areFree_33 : decode cX5_areFree 33 = .ok (.if_icmp .ge 17, 3) := by decide +kernel
theorem dX5_areFree_36 : decode cX5_areFree 36 = .ok (.aload_n 0, 1) := by decide +kernel
theorem dX5_areFree_37 : decode cX5_areFree 37 = .ok (.getfield 7, 3) := by decide +kernel
theorem dX5_areFree_40 : decode cX5_areFree 40 = .ok (.iload 4, 2) := by decide +kernel
theorem dX5_areFree_42 : decode cX5_areFree 42 = .ok (.baload, 1) := by decide +kernel
theorem dX5_areFree_43 : decode cX5_areFree 43 = .ok (.istore_n 3, 1) := by decide +kernel
theorem dX5_areFree_44 : decode cX5_areFree 44 = .ok (.iinc 4 1, 3) := by decide +kernel
theorem dX5_areFree_47 : decode cX5_areFree 47 = .ok (.goto (-23), 3) := by decide +kernel
theorem dX5_areFree_50 : decode cX5_areFree 50 = .ok (.iload_n 3, 1) := by decide +kernel
theorem dX5_areFree_51 : decode cX5_areFree 51 = .ok (.ireturn, 1) := by decide +kernel
set_option maxRecDepth 20000 in
theorem ggX5_finds_X5_areFree : GoodIn wsX5_finds wsX5_areFree := goodIn_r _ [5, 6, 7, 8, 9, 10, 11, 12, 13, 14, 15, 16, 17, 18, 19, 20, 21, 22, 23, 24] (by decide +kernel) (by decide +kernel)
set_option maxRecDepth 20000 in
theorem gX5_finds_X5_areFree : GoodIn wsX5_finds (wsV RX5 144 RX5 yX5_areFree wsX5_areFree) := goodIn_app (goodIn_of _ (by decide +kernel)) ggX5_finds_X5_areFree
theorem dX5_finds_0 : decode cX5_finds 0 = .ok (.aload_n 0, 1) := by decide +kernel
theorem dX5_finds_1 : decode cX5_finds 1 = .ok (.iload_n 1, 1) := by decide +kernel
theorem dX5_finds_2 : decode cX5_finds 2 = .ok (.iload_n 2, 1) := by decide +kernel
theorem dX5_finds_3 : decode cX5_finds 3 = .ok (.invokevirtual 144, 3) := by decide +kernel
theorem dX5_finds_6 : decode cX5_finds 6 = .ok (.ifCond .eq 5, 3) := by decide +kernel
theorem dX5_finds_9 : decode cX5_finds 9 = .ok (.iload_n 1, 1) := by decide +kernel
theorem dX5_finds_10 : decode cX5_finds 10 = .ok (.ireturn, 1) := by decide +kernel
theorem dX5_finds_11 : decode cX5_finds 11 = .ok (.iconst 0, 1) := by decide +kernel
theorem dX5_finds_12 : decode cX5_finds 12 = .ok (.istore_n 3, 1) := by decide +kernel
theorem dX5_finds_13 : decode cX5_finds 13 = .ok (.iload_n 3, 1) := by decide +kernel
theorem dX5_finds_14 : decode cX5_finds 14 = .ok (.iconst 4, 1) := by decide +kernel
theorem dX5_finds_15 : decode cX5_finds 15 = .ok (.if_icmp .ge 61, 3) := by decide +kernel
theorem dX5_finds_18 : decode cX5_finds 18 = .ok (.iload_n 1, 1) := by decide +kernel
theorem dX5_finds_19 : decode cX5_finds 19 = .ok (.bipush 32, 2) := by decide +kernel
theorem dX5_finds_21 : decode cX5_finds 21 = .ok (.idiv, 1) := by decide +kernel
theorem dX5_finds_22 : decode cX5_finds 22 = .ok (.iload_n 3, 1) := by decide +kernel
theorem dX5_finds_23 : decode cX5_finds 23 = .ok (.iadd, 1) := by decide +kernel
theorem dX5_finds_24 : decode cX5_finds 24 = .ok (.iconst 4, 1) := by decide +kernel
theorem dX5_finds_25 : decode cX5_finds 25 = .ok (.irem, 1) := by decide +kernel
theorem dX5_finds_26 : decode cX5_finds 26 = .ok (.istore 4, 2) := by decide +kernel
theorem dX5_finds_28 : decode cX5_finds 28 = .ok (.bipush 32, 2) := by decide +kernel
theorem dX5_finds_30 : decode cX5_finds 30 = .ok (.iload 4, 2) := by decide +kernel
theorem dX5_finds_32 : decode cX5_finds 32 = .ok (.imul, 1) := by decide +kernel
theorem dX5_finds_33 : decode cX5_finds 33 = .ok (.istore 5, 2) := by decide +kernel
theorem dX5_finds_35 : decode cX5_finds 35 = .ok (.iload 5, 2) := by decide +kernel
theorem dX5_finds_37 : decode cX5_finds 37 = .ok (.bipush 32, 2) := by decide +kernel
theorem dX5_finds_39 : decode cX5_finds 39 = .ok (.iload 4, 2) := by decide +kernel
theorem dX5_finds_41 : decode cX5_finds 41 = .ok (.imul, 1) := by decide +kernel
theorem dX5_finds_42 : decode cX5_finds 42 = .ok (.bipush 32, 2) := by decide +kernel
theorem dX5_finds_44 : decode cX5_finds 44 = .ok (.iadd, 1) := by decide +kernel
theorem dX5_finds_45 : decode cX5_finds 45 = .ok (.if_icmp .ge 25, 3) := by decide +kernel
theorem dX5_finds_48 : decode cX5_finds 48 = .ok (.aload_n 0, 1) := by decide +kernel
theorem dX5_finds_49 : decode cX5_finds 49 = .ok (.iload 5, 2) := by decide +kernel
theorem dX5_finds_51 : decode cX5_finds 51 = .ok (.iload_n 2, 1) := by decide +kernel
theorem dX5_finds_52 : decode cX5_finds 52 = .ok (.invokevirtual 144, 3) := by decide +kernel
theorem dX5_finds_55 : decode cX5_finds 55 = .ok (.ifCond .eq 6, 3) := by decide +kernel
theorem dX5_finds_58 : decode cX5_finds 58 = .ok (.iload 5, 2) := by decide +kernel
theorem dX5_finds_60 : decode cX5_finds 60 = .ok (.ireturn, 1) := by decide +kernel
theorem dX5_finds_61 : decode cX5_finds 61 = .ok (.iload 5, 2) := by decide +kernel
theorem dX5_finds_63 : decode cX5_finds 63 = .ok (.iload_n 2, 1) := by decide +kernel
theorem dX5_finds_64 : decode cX5_finds 64 = .ok (.iadd, 1) := by decide +kernel
theorem dX5_finds_65 : decode cX5_finds 65 = .ok (.istore 5, 2) := by decide +kernel
theorem dX5_finds_67 : decode cX5_finds 67 = .ok (.goto (-32), 3) := by decide +kernel
theorem dX5_finds_70 : decode cX5_finds 70 = .ok (.iinc 3 1, 3) := by decide +kernel
theorem dX5_finds_73 : decode cX5_finds 73 = .ok (.goto (-60), 3) := by decide +kernel
theorem dX5_finds_76 : decode cX5_finds 76 = .ok (.iconst (-1), 1) := by decide +kernel
theorem dX5_finds_77 : decode cX5_finds 77 = .ok (.ireturn, 1) := by decide +kernel
set_option maxRecDepth 20000 in
theorem ggX5_maps_X5_left : GoodIn wsX5_maps wsX5_left := goodIn_r _ [10, 11, 12, 13, 9, 14, 5, 15, 16, 17, 18, 3, 31, 32, 33, 34, 35, 36, 37, 38, 39, 40, 41, 42, 43, 44, 45, 46, 47, 48] (by decide +kernel) (by decide +kernel)
set_option maxRecDepth 20000 in
theorem gX5_maps_X5_left : GoodIn wsX5_maps (wsV RX5 135 RX5 yX5_left wsX5_left) := goodIn_app (goodIn_of _ (by decide +kernel)) ggX5_maps_X5_left
set_option maxRecDepth 20000 in
theorem ggX5_maps_X5_finds : GoodIn wsX5_maps wsX5_finds := goodIn_r _ [22, 23, 24, 25, 9, 26, 5, 31, 32, 33, 34, 35, 36, 37, 38, 39, 40, 41, 42, 43, 44, 45, 46, 47, 48] (by decide +kernel) (by decide +kernel)
set_option maxRecDepth 20000 in
theorem gX5_maps_X5_finds : GoodIn wsX5_maps (wsV RX5 147 RX5 yX5_finds wsX5_finds) := goodIn_app (goodIn_of _ (by decide +kernel)) ggX5_maps_X5_finds
set_option maxRecDepth 20000 in
theorem ggX5_maps_X5_freesKept : GoodIn wsX5_maps wsX5_freesKept := goodIn_r _ [30, 1, 5, 4, 31, 32, 33, 34, 35, 36, 37, 38, 39, 40, 41, 42, 43, 44, 45, 46, 47, 48] (by decide +kernel) (by decide +kernel)
set_option maxRecDepth 20000 in
theorem gX5_maps_X5_freesKept : GoodIn wsX5_maps (wsV RX5 95 RX5 yX5_freesKept wsX5_freesKept) := goodIn_app (goodIn_of _ (by decide +kernel)) ggX5_maps_X5_freesKept
theorem dX5_maps_0 : decode cX5_maps 0 = .ok (.bipush 64, 2) := by decide +kernel
theorem dX5_maps_2 : decode cX5_maps 2 = .ok (.iload_n 1, 1) := by decide +kernel
theorem dX5_maps_3 : decode cX5_maps 3 = .ok (.imul, 1) := by decide +kernel
theorem dX5_maps_4 : decode cX5_maps 4 = .ok (.iload_n 2, 1) := by decide +kernel
theorem dX5_maps_5 : decode cX5_maps 5 = .ok (.iadd, 1) := by decide +kernel
theorem dX5_maps_6 : decode cX5_maps 6 = .ok (.istore 4, 2) := by decide +kernel
theorem dX5_maps_8 : decode cX5_maps 8 = .ok (.aload_n 0, 1) := by decide +kernel
theorem dX5_maps_9 : decode cX5_maps 9 = .ok (.getfield 26, 3) := by decide +kernel
theorem dX5_maps_12 : decode cX5_maps 12 = .ok (.iload_n 1, 1) := by decide +kernel
theorem dX5_maps_13 : decode cX5_maps 13 = .ok (.iaload, 1) := by decide +kernel
theorem dX5_maps_14 : decode cX5_maps 14 = .ok (.ifCond .le 106, 3) := by decide +kernel
theorem dX5_maps_17 : decode cX5_maps 17 = .ok (.aload_n 0, 1) := by decide +kernel
theorem dX5_maps_18 : decode cX5_maps 18 = .ok (.getfield 29, 3) := by decide +kernel
theorem dX5_maps_21 : decode cX5_maps 21 = .ok (.iload_n 1, 1) := by decide +kernel
theorem dX5_maps_22 : decode cX5_maps 22 = .ok (.iaload, 1) := by decide +kernel
theorem dX5_maps_23 : decode cX5_maps 23 = .ok (.iload_n 2, 1) := by decide +kernel
theorem dX5_maps_24 : decode cX5_maps 24 = .ok (.if_icmp .ne 96, 3) := by decide +kernel
theorem dX5_maps_27 : decode cX5_maps 27 = .ok (.aload_n 0, 1) := by decide +kernel
theorem dX5_maps_28 : decode cX5_maps 28 = .ok (.getfield 26, 3) := by decide +kernel
theorem dX5_maps_31 : decode cX5_maps 31 = .ok (.iload_n 1, 1) := by decide +kernel
theorem dX5_maps_32 : decode cX5_maps 32 = .ok (.iaload, 1) := by decide +kernel
theorem dX5_maps_33 : decode cX5_maps 33 = .ok (.iload_n 3, 1) := by decide +kernel
theorem dX5_maps_34 : decode cX5_maps 34 = .ok (.if_icmp .ge 12, 3) := by decide +kernel
theorem dX5_maps_37 : decode cX5_maps 37 = .ok (.aload_n 0, 1) := by decide +kernel
theorem dX5_maps_38 : decode cX5_maps 38 = .ok (.getfield 26, 3) := by decide +kernel
theorem dX5_maps_41 : decode cX5_maps 41 = .ok (.iload_n 1, 1) := by decide +kernel
theorem dX5_maps_42 : decode cX5_maps 42 = .ok (.iaload, 1) := by decide +kernel
theorem dX5_maps_43 : decode cX5_maps 43 = .ok (.goto 4, 3) := by decide +kernel
theorem dX5_maps_46 : decode cX5_maps 46 = .ok (.iload_n 3, 1) := by decide +kernel
theorem dX5_maps_47 : decode cX5_maps 47 = .ok (.istore 5, 2) := by decide +kernel
theorem dX5_maps_49 : decode cX5_maps 49 = .ok (.iconst 0, 1) := by decide +kernel
theorem dX5_maps_50 : decode cX5_maps 50 = .ok (.istore 6, 2) := by decide +kernel
theorem dX5_maps_52 : decode cX5_maps 52 = .ok (.iload 6, 2) := by decide +kernel
theorem dX5_maps_54 : decode cX5_maps 54 = .ok (.iload 5, 2) := by decide +kernel
theorem dX5_maps_56 : decode cX5_maps 56 = .ok (.if_icmp .ge 28, 3) := by decide +kernel
theorem dX5_maps_59 : decode cX5_maps 59 = .ok (.aload_n 0, 1) := by decide +kernel
theorem dX5_maps_60 : decode cX5_maps 60 = .ok (.getfield 16, 3) := by decide +kernel
theorem dX5_maps_63 : decode cX5_maps 63 = .ok (.iload 4, 2) := by decide +kernel
theorem dX5_maps_65 : decode cX5_maps 65 = .ok (.iload 6, 2) := by decide +kernel
theorem dX5_maps_67 : decode cX5_maps 67 = .ok (.iadd, 1) := by decide +kernel
theorem dX5_maps_68 : decode cX5_maps 68 = .ok (.aload_n 0, 1) := by decide +kernel
theorem dX5_maps_69 : decode cX5_maps 69 = .ok (.getfield 23, 3) := by decide +kernel
theorem dX5_maps_72 : decode cX5_maps 72 = .ok (.iload_n 1, 1) := by decide +kernel
theorem dX5_maps_73 : decode cX5_maps 73 = .ok (.iaload, 1) := by decide +kernel
theorem dX5_maps_74 : decode cX5_maps 74 = .ok (.iload 6, 2) := by decide +kernel
theorem dX5_maps_76 : decode cX5_maps 76 = .ok (.iadd, 1) := by decide +kernel
theorem dX5_maps_77 : decode cX5_maps 77 = .ok (.iastore, 1) := by decide +kernel
theorem dX5_maps_78 : decode cX5_maps 78 = .ok (.iinc 6 1, 3) := by decide +kernel
theorem dX5_maps_81 : decode cX5_maps 81 = .ok (.goto (-29), 3) := by decide +kernel
theorem dX5_maps_84 : decode cX5_maps 84 = .ok (.aload_n 0, 1) := by decide +kernel
theorem dX5_maps_85 : decode cX5_maps 85 = .ok (.getfield 23, 3) := by decide +kernel
theorem dX5_maps_88 : decode cX5_maps 88 = .ok (.iload_n 1, 1) := by decide +kernel
theorem dX5_maps_89 : decode cX5_maps 89 = .ok (.dup2, 1) := by decide +kernel
theorem dX5_maps_90 : decode cX5_maps 90 = .ok (.iaload, 1) := by decide +kernel
theorem dX5_maps_91 : decode cX5_maps 91 = .ok (.iload 5, 2) := by decide +kernel
theorem dX5_maps_93 : decode cX5_maps 93 = .ok (.iadd, 1) := by decide +kernel
theorem dX5_maps_94 : decode cX5_maps 94 = .ok (.iastore, 1) := by decide +kernel
theorem dX5_maps_95 : decode cX5_maps 95 = .ok (.aload_n 0, 1) := by decide +kernel
theorem dX5_maps_96 : decode cX5_maps 96 = .ok (.getfield 29, 3) := by decide +kernel
theorem dX5_maps_99 : decode cX5_maps 99 = .ok (.iload_n 1, 1) := by decide +kernel
theorem dX5_maps_100 : decode cX5_maps 100 = .ok (.dup2, 1) := by decide +kernel
theorem dX5_maps_101 : decode cX5_maps 101 = .ok (.iaload, 1) := by decide +kernel
theorem dX5_maps_102 : decode cX5_maps 102 = .ok (.iload 5, 2) := by decide +kernel
theorem dX5_maps_104 : decode cX5_maps 104 = .ok (.iadd, 1) := by decide +kernel
theorem dX5_maps_105 : decode cX5_maps 105 = .ok (.iastore, 1) := by decide +kernel
theorem dX5_maps_106 : decode cX5_maps 106 = .ok (.aload_n 0, 1) := by decide +kernel
theorem dX5_maps_107 : decode cX5_maps 107 = .ok (.getfield 26, 3) := by decide +kernel
theorem dX5_maps_110 : decode cX5_maps 110 = .ok (.iload_n 1, 1) := by decide +kernel
theorem dX5_maps_111 : decode cX5_maps 111 = .ok (.dup2, 1) := by decide +kernel
theorem dX5_maps_112 : decode cX5_maps 112 = .ok (.iaload, 1) := by decide +kernel
theorem dX5_maps_113 : decode cX5_maps 113 = .ok (.iload 5, 2) := by decide +kernel
theorem dX5_maps_115 : decode cX5_maps 115 = .ok (.isub, 1) := by decide +kernel
theorem dX5_maps_116 : decode cX5_maps 116 = .ok (.iastore, 1) := by decide +kernel
theorem dX5_maps_117 : decode cX5_maps 117 = .ok (.iload 5, 2) := by decide +kernel
theorem dX5_maps_119 : decode cX5_maps 119 = .ok (.ireturn, 1) := by decide +kernel
theorem dX5_maps_120 : decode cX5_maps 120 = .ok (.iload_n 2, 1) := by decide +kernel
theorem dX5_maps_121 : decode cX5_maps 121 = .ok (.ifCond .le 29, 3) := by decide +kernel
theorem dX5_maps_124 : decode cX5_maps 124 = .ok (.aload_n 0, 1) := by decide +kernel
theorem dX5_maps_125 : decode cX5_maps 125 = .ok (.getfield 16, 3) := by decide +kernel
theorem dX5_maps_128 : decode cX5_maps 128 = .ok (.iload 4, 2) := by decide +kernel
theorem dX5_maps_130 : decode cX5_maps 130 = .ok (.iconst 1, 1) := by decide +kernel
theorem dX5_maps_131 : decode cX5_maps 131 = .ok (.isub, 1) := by decide +kernel
theorem dX5_maps_132 : decode cX5_maps 132 = .ok (.iaload, 1) := by decide +kernel
theorem dX5_maps_133 : decode cX5_maps 133 = .ok (.ifCond .lt 17, 3) := by decide +kernel
theorem dX5_maps_136 : decode cX5_maps 136 = .ok (.aload_n 0, 1) := by decide +kernel
theorem dX5_maps_137 : decode cX5_maps 137 = .ok (.getfield 16, 3) := by decide +kernel
theorem dX5_maps_140 : decode cX5_maps 140 = .ok (.iload 4, 2) := by decide +kernel
theorem dX5_maps_142 : decode cX5_maps 142 = .ok (.iconst 1, 1) := by decide +kernel
theorem dX5_maps_143 : decode cX5_maps 143 = .ok (.isub, 1) := by decide +kernel
theorem dX5_maps_144 : decode cX5_maps 144 = .ok (.iaload, 1) := by decide +kernel
theorem dX5_maps_145 : decode cX5_maps 145 = .ok (.iconst 1, 1) := by decide +kernel
theorem dX5_maps_146 : decode cX5_maps 146 = .ok (.iadd, 1) := by decide +kernel
theorem dX5_maps_147 : decode cX5_maps 147 = .ok (.goto 6, 3) := by decide +kernel
theorem dX5_maps_150 : decode cX5_maps 150 = .ok (.sipush 128, 3) := by decide +kernel
theorem dX5_maps_153 : decode cX5_maps 153 = .ok (.istore 5, 2) := by decide +kernel
theorem dX5_maps_155 : decode cX5_maps 155 = .ok (.iload 5, 2) := by decide +kernel
theorem dX5_maps_157 : decode cX5_maps 157 = .ok (.sipush 128, 3) := by decide +kernel
theorem dX5_maps_160 : decode cX5_maps 160 = .ok (.if_icmp .ne 12, 3) := by decide +kernel
theorem dX5_maps_163 : decode cX5_maps 163 = .ok (.bipush 32, 2) := by decide +kernel
theorem dX5_maps_165 : decode cX5_maps 165 = .ok (.iload_n 1, 1) := by decide +kernel
theorem dX5_maps_166 : decode cX5_maps 166 = .ok (.iconst 4, 1) := by decide +kernel
theorem dX5_maps_167 : decode cX5_maps 167 = .ok (.irem, 1) := by decide +kernel
theorem dX5_maps_168 : decode cX5_maps 168 = .ok (.imul, 1) := by decide +kernel
theorem dX5_maps_169 : decode cX5_maps 169 = .ok (.goto 5, 3) := by decide +kernel
theorem dX5_maps_172 : decode cX5_maps 172 = .ok (.iload 5, 2) := by decide +kernel
theorem dX5_maps_174 : decode cX5_maps 174 = .ok (.istore 5, 2) := by decide +kernel
theorem dX5_maps_176 : decode cX5_maps 176 = .ok (.iconst 1, 1) := by decide +kernel
theorem dX5_maps_177 : decode cX5_maps 177 = .ok (.istore 6, 2) := by decide +kernel
theorem dX5_maps_179 : decode cX5_maps 179 = .ok (.iload 6, 2) := by decide +kernel
theorem dX5_maps_181 : decode cX5_maps 181 = .ok (.iload_n 3, 1) := by decide +kernel
theorem dX5_maps_182 : decode cX5_maps 182 = .ok (.if_icmp .ge 19, 3) := by decide +kernel
theorem dX5_maps_185 : decode cX5_maps 185 = .ok (.iload 6, 2) := by decide +kernel
theorem dX5_maps_187 : decode cX5_maps 187 = .ok (.bipush 16, 2) := by decide +kernel
theorem dX5_maps_189 : decode cX5_maps 189 = .ok (.if_icmp .ge 12, 3) := by decide +kernel
theorem dX5_maps_192 : decode cX5_maps 192 = .ok (.iload 6, 2) := by decide +kernel
theorem dX5_maps_194 : decode cX5_maps 194 = .ok (.iconst 2, 1) := by decide +kernel
theorem dX5_maps_195 : decode cX5_maps 195 = .ok (.imul, 1) := by decide +kernel
theorem dX5_maps_196 : decode cX5_maps 196 = .ok (.istore 6, 2) := by decide +kernel
theorem dX5_maps_198 : decode cX5_maps 198 = .ok (.goto (-19), 3) := by decide +kernel
theorem dX5_maps_201 : decode cX5_maps 201 = .ok (.iload 6, 2) := by decide +kernel
theorem dX5_maps_203 : decode cX5_maps 203 = .ok (.iload_n 3, 1) := by decide +kernel
theorem dX5_maps_204 : decode cX5_maps 204 = .ok (.if_icmp .le 20, 3) := by decide +kernel
theorem dX5_maps_207 : decode cX5_maps 207 = .ok (.iload 6, 2) := by decide +kernel
theorem dX5_maps_209 : decode cX5_maps 209 = .ok (.iload_n 3, 1) := by decide +kernel
theorem dX5_maps_210 : decode cX5_maps 210 = .ok (.isub, 1) := by decide +kernel
theorem dX5_maps_211 : decode cX5_maps 211 = .ok (.aload_n 0, 1) := by decide +kernel
theorem dX5_maps_212 : decode cX5_maps 212 = .ok (.invokevirtual 135, 3) := by decide +kernel
theorem dX5_maps_215 : decode cX5_maps 215 = .ok (.if_icmp .le 9, 3) := by decide +kernel
theorem dX5_maps_218 : decode cX5_maps 218 = .ok (.iload 6, 2) := by decide +kernel
theorem dX5_maps_220 : decode cX5_maps 220 = .ok (.iconst 2, 1) := by decide +kernel
theorem dX5_maps_221 : decode cX5_maps 221 = .ok (.idiv, 1) := by decide +kernel
theorem dX5_maps_222 : decode cX5_maps 222 = .ok (.istore 6, 2) := by decide +kernel
theorem dX5_maps_224 : decode cX5_maps 224 = .ok (.aload_n 0, 1) := by decide +kernel
theorem dX5_maps_225 : decode cX5_maps 225 = .ok (.iload 5, 2) := by decide +kernel
theorem dX5_maps_227 : decode cX5_maps 227 = .ok (.iload 6, 2) := by decide +kernel
theorem dX5_maps_229 : decode cX5_maps 229 = .ok (.invokevirtual 147, 3) := by decide +kernel
theorem dX5_maps_232 : decode cX5_maps 232 = .ok (.istore 7, 2) := by decide +kernel
theorem dX5_maps_234 : decode cX5_maps 234 = .ok (.iload 7, 2) := by decide +kernel
theorem dX5_maps_236 : decode cX5_maps 236 = .ok (.iconst (-1), 1) := by decide +kernel
theorem dX5_maps_237 : decode cX5_maps 237 = .ok (.if_icmp .ne 22, 3) := by decide +kernel
theorem dX5_maps_240 : decode cX5_maps 240 = .ok (.iload 6, 2) := by decide +kernel
theorem dX5_maps_242 : decode cX5_maps 242 = .ok (.iconst 2, 1) := by decide +kernel
theorem dX5_maps_243 : decode cX5_maps 243 = .ok (.idiv, 1) := by decide +kernel
theorem dX5_maps_244 : decode cX5_maps 244 = .ok (.istore 6, 2) := by decide +kernel
theorem dX5_maps_246 : decode cX5_maps 246 = .ok (.aload_n 0, 1) := by decide +kernel
theorem dX5_maps_247 : decode cX5_maps 247 = .ok (.iload 5, 2) := by decide +kernel
theorem dX5_maps_249 : decode cX5_maps 249 = .ok (.iload 6, 2) := by decide +kernel
theorem dX5_maps_251 : decode cX5_maps 251 = .ok (.invokevirtual 147, 3) := by decide +kernel
theorem dX5_maps_254 : decode cX5_maps 254 = .ok (.istore 7, 2) := by decide +kernel
theorem dX5_maps_256 : decode cX5_maps 256 = .ok (.goto (-22), 3) := by decide +kernel
theorem dX5_maps_259 : decode cX5_maps 259 = .ok (.iload 6, 2) := by decide +kernel
theorem dX5_maps_261 : decode cX5_maps 261 = .ok (.iload_n 3, 1) := by decide +kernel
theorem dX5_maps_262 : decode cX5_maps 262 = .ok (.if_icmp .ge 8, 3) := by decide +kernel
theorem dX5_maps_265 : decode cX5_maps 265 = .ok (.iload 6, 2) := by decide +kernel
theorem dX5_maps_267 : decode cX5_maps 267 = .ok (.goto 4, 3) := by decide +kernel
theorem dX5_maps_270 : decode cX5_maps 270 = .ok (.iload_n 3, 1) := by decide +kernel
theorem dX5_maps_271 : decode cX5_maps 271 = .ok (.istore 8, 2) := by decide +kernel
theorem dX5_maps_273 : decode cX5_maps 273 = .ok (.iconst 0, 1) := by decide +kernel
theorem dX5_maps_274 : decode cX5_maps 274 = .ok (.istore 9, 2) := by decide +kernel
theorem dX5_maps_276 : decode cX5_maps 276 = .ok (.iload 9, 2) := by decide +kernel
theorem dX5_maps_278 : decode cX5_maps 278 = .ok (.iload 6, 2) := by decide +kernel
theorem dX5_maps_280 : decode cX5_maps 280 = .ok (.if_icmp .ge 42, 3) := by decide +kernel
theorem dX5_maps_283 : decode cX5_maps 283 = .ok (.aload_n 0, 1) := by decide +kernel
theorem dX5_maps_284 : decode cX5_maps 284 = .ok (.getfield 7, 3) := by decide +kernel
theorem dX5_maps_287 : decode cX5_maps 287 = .ok (.iload 7, 2) := by decide +kernel
theorem dX5_maps_289 : decode cX5_maps 289 = .ok (.iload 9, 2) := by decide +kernel
theorem dX5_maps_291 : decode cX5_maps 291 = .ok (.iadd, 1) := by decide +kernel
theorem dX5_maps_292 : decode cX5_maps 292 = .ok (.iconst 0, 1) := by decide +kernel
theorem dX5_maps_293 : decode cX5_maps 293 = .ok (.bastore, 1) := by decide +kernel
theorem dX5_maps_294 : decode cX5_maps 294 = .ok (.iload 9, 2) := by decide +kernel
theorem dX5_maps_296 : decode cX5_maps 296 = .ok (.iload 8, 2) := by decide +kernel
theorem dX5_maps_298 : decode cX5_maps 298 = .ok (.if_icmp .ge 18, 3) := by decide +kernel
theorem dX5_maps_301 : decode cX5_maps 301 = .ok (.aload_n 0, 1) := by decide +kernel
theorem dX5_maps_302 : decode cX5_maps 302 = .ok (.getfield 16, 3) := by decide +kernel
theorem dX5_maps_305 : decode cX5_maps 305 = .ok (.iload 4, 2) := by decide +kernel
theorem dX5_maps_307 : decode cX5_maps 307 = .ok (.iload 9, 2) := by decide +kernel
theorem dX5_maps_309 : decode cX5_maps 309 = .ok (.iadd, 1) := by decide +kernel
theorem dX5_maps_310 : decode cX5_maps 310 = .ok (.iload 7, 2) := by decide +kernel
theorem dX5_maps_312 : decode cX5_maps 312 = .ok (.iload 9, 2) := by decide +kernel
theorem dX5_maps_314 : decode cX5_maps 314 = .ok (.iadd, 1) := by decide +kernel
theorem dX5_maps_315 : decode cX5_maps 315 = .ok (.iastore, 1) := by decide +kernel
theorem dX5_maps_316 : decode cX5_maps 316 = .ok (.iinc 9 1, 3) := by decide +kernel
theorem dX5_maps_319 : decode cX5_maps 319 = .ok (.goto (-43), 3) := by decide +kernel
theorem dX5_maps_322 : decode cX5_maps 322 = .ok (.iload 6, 2) := by decide +kernel
theorem dX5_maps_324 : decode cX5_maps 324 = .ok (.iload 8, 2) := by decide +kernel
theorem dX5_maps_326 : decode cX5_maps 326 = .ok (.if_icmp .le 40, 3) := by decide +kernel
theorem dX5_maps_329 : decode cX5_maps 329 = .ok (.aload_n 0, 1) := by decide +kernel
theorem dX5_maps_330 : decode cX5_maps 330 = .ok (.iload_n 1, 1) := by decide +kernel
theorem dX5_maps_331 : decode cX5_maps 331 = .ok (.invokevirtual 95, 3) := by decide +kernel
theorem dX5_maps_334 : decode cX5_maps 334 = .ok (.aload_n 0, 1) := by decide +kernel
theorem dX5_maps_335 : decode cX5_maps 335 = .ok (.getfield 23, 3) := by decide +kernel
theorem dX5_maps_338 : decode cX5_maps 338 = .ok (.iload_n 1, 1) := by decide +kernel
theorem dX5_maps_339 : decode cX5_maps 339 = .ok (.iload 7, 2) := by decide +kernel
theorem dX5_maps_341 : decode cX5_maps 341 = .ok (.iload 8, 2) := by decide +kernel
theorem dX5_maps_343 : decode cX5_maps 343 = .ok (.iadd, 1) := by decide +kernel
theorem dX5_maps_344 : decode cX5_maps 344 = .ok (.iastore, 1) := by decide +kernel
theorem dX5_maps_345 : decode cX5_maps 345 = .ok (.aload_n 0, 1) := by decide +kernel
theorem dX5_maps_346 : decode cX5_maps 346 = .ok (.getfield 26, 3) := by decide +kernel
theorem dX5_maps_349 : decode cX5_maps 349 = .ok (.iload_n 1, 1) := by decide +kernel
theorem dX5_maps_350 : decode cX5_maps 350 = .ok (.iload 6, 2) := by decide +kernel
theorem dX5_maps_352 : decode cX5_maps 352 = .ok (.iload 8, 2) := by decide +kernel
theorem dX5_maps_354 : decode cX5_maps 354 = .ok (.isub, 1) := by decide +kernel
theorem dX5_maps_355 : decode cX5_maps 355 = .ok (.iastore, 1) := by decide +kernel
theorem dX5_maps_356 : decode cX5_maps 356 = .ok (.aload_n 0, 1) := by decide +kernel
theorem dX5_maps_357 : decode cX5_maps 357 = .ok (.getfield 29, 3) := by decide +kernel
theorem dX5_maps_360 : decode cX5_maps 360 = .ok (.iload_n 1, 1) := by decide +kernel
theorem dX5_maps_361 : decode cX5_maps 361 = .ok (.iload_n 2, 1) := by decide +kernel
theorem dX5_maps_362 : decode cX5_maps 362 = .ok (.iload 8, 2) := by decide +kernel
theorem dX5_maps_364 : decode cX5_maps 364 = .ok (.iadd, 1) := by decide +kernel
theorem dX5_maps_365 : decode cX5_maps 365 = .ok (.iastore, 1) := by decide +kernel
theorem dX5_maps_366 : decode cX5_maps 366 = .ok (.iload 8, 2) := by decide +kernel
theorem dX5_maps_368 : decode cX5_maps 368 = .ok (.ireturn, 1) := by decide +kernel
set_option maxRecDepth 20000 in
theorem ggX5_flush_X5_isThere : GoodIn wsX5_flush wsX5_isThere := goodIn_r _ [7, 8, 9, 10, 6, 11, 49, 50, 51, 52, 53, 54, 55, 56, 57, 58, 59, 60, 61, 62, 63, 64, 65, 66] (by decide +kernel) (by decide +kernel)
set_option maxRecDepth 20000 in
theorem gX5_flush_X5_isThere : GoodIn wsX5_flush (wsV RX5 126 RX5 yX5_isThere wsX5_isThere) := goodIn_app (goodIn_of _ (by decide +kernel)) ggX5_flush_X5_isThere
set_option maxRecDepth 20000 in
theorem ggX5_flush_X5_asked_ : GoodIn wsX5_flush wsX5_asked_ := goodIn_r _ [15, 16, 49, 50, 51, 52, 53, 54, 55, 56, 57, 58, 59, 60, 61, 62, 63, 64, 65, 66] (by decide +kernel) (by decide +kernel)
set_option maxRecDepth 20000 in
theorem gX5_flush_X5_asked_ : GoodIn wsX5_flush (wsV RX5 119 RX5 yX5_asked_ wsX5_asked_) := goodIn_app (goodIn_of _ (by decide +kernel)) ggX5_flush_X5_asked_
set_option maxRecDepth 20000 in
theorem ggX5_flush_X5_maps : GoodIn wsX5_flush wsX5_maps := goodIn_r _ [20, 21, 22, 2, 23, 24, 25, 26, 27, 6, 28, 29, 30, 31, 32, 33, 34, 35, 36, 37, 38, 39, 40, 41, 42, 43, 44, 45, 46, 47, 48, 49, 50, 51, 52, 53, 54, 55, 56, 57, 58, 59, 60, 61, 62, 63, 64, 65, 66] (by decide +kernel) (by decide +kernel)
set_option maxRecDepth 20000 in
theorem gX5_flush_X5_maps : GoodIn wsX5_flush (wsV RX5 150 RX5 yX5_maps wsX5_maps) := goodIn_app (goodIn_of _ (by decide +kernel)) ggX5_flush_X5_maps
theorem dX5_flush_0 : decode cX5_flush 0 = .ok (.aload_n 0, 1) := by decide +kernel
theorem dX5_flush_1 : decode cX5_flush 1 = .ok (.iload_n 1, 1) := by decide +kernel
theorem dX5_flush_2 : decode cX5_flush 2 = .ok (.invokevirtual 126, 3) := by decide +kernel
theorem dX5_flush_5 : decode cX5_flush 5 = .ok (.istore_n 2, 1) := by decide +kernel
theorem dX5_flush_6 : decode cX5_flush 6 = .ok (.aload_n 0, 1) := by decide +kernel
theorem dX5_flush_7 : decode cX5_flush 7 = .ok (.iload_n 2, 1) := by decide +kernel
theorem dX5_flush_8 : decode cX5_flush 8 = .ok (.aload_n 0, 1) := by decide +kernel
theorem dX5_flush_9 : decode cX5_flush 9 = .ok (.getfield 98, 3) := by decide +kernel
theorem dX5_flush_12 : decode cX5_flush 12 = .ok (.ifCond .ne 7, 3) := by decide +kernel
theorem dX5_flush_15 : decode cX5_flush 15 = .ok (.iconst 1, 1) := by decide +kernel
theorem dX5_flush_16 : decode cX5_flush 16 = .ok (.goto 4, 3) := by decide +kernel
theorem dX5_flush_19 : decode cX5_flush 19 = .ok (.iconst 0, 1) := by decide +kernel
theorem dX5_flush_20 : decode cX5_flush 20 = .ok (.invokevirtual 119, 3) := by decide +kernel
theorem dX5_flush_23 : decode cX5_flush 23 = .ok (.ifCond .ne 5, 3) := by decide +kernel
theorem dX5_flush_26 : decode cX5_flush 26 = .ok (.iconst 0, 1) := by decide +kernel
theorem dX5_flush_27 : decode cX5_flush 27 = .ok (.ireturn, 1) := by decide +kernel
theorem dX5_flush_28 : decode cX5_flush 28 = .ok (.iconst 0, 1) := by decide +kernel
theorem dX5_flush_29 : decode cX5_flush 29 = .ok (.istore_n 3, 1) := by decide +kernel
theorem dX5_flush_30 : decode cX5_flush 30 = .ok (.iconst 0, 1) := by decide +kernel
theorem dX5_flush_31 : decode cX5_flush 31 = .ok (.istore 4, 2) := by decide +kernel
theorem dX5_flush_33 : decode cX5_flush 33 = .ok (.iload 4, 2) := by decide +kernel
theorem dX5_flush_35 : decode cX5_flush 35 = .ok (.bipush 64, 2) := by decide +kernel
theorem dX5_flush_37 : decode cX5_flush 37 = .ok (.if_icmp .ge 88, 3) := by decide +kernel
theorem dX5_flush_40 : decode cX5_flush 40 = .ok (.iload 4, 2) := by decide +kernel
theorem dX5_flush_42 : decode cX5_flush 42 = .ok (.istore 5, 2) := by decide +kernel
theorem dX5_flush_44 : decode cX5_flush 44 = .ok (.iload 5, 2) := by decide +kernel
theorem dX5_flush_46 : decode cX5_flush 46 = .ok (.bipush 64, 2) := by decide +kernel
theorem dX5_flush_48 : decode cX5_flush 48 = .ok (.if_icmp .ge 26, 3) := by decide +kernel
theorem dX5_flush_51 : decode cX5_flush 51 = .ok (.aload_n 0, 1) := by decide +kernel
theorem dX5_flush_52 : decode cX5_flush 52 = .ok (.getfield 16, 3) := by decide +kernel
theorem dX5_flush_55 : decode cX5_flush 55 = .ok (.bipush 64, 2) := by decide +kernel
theorem dX5_flush_57 : decode cX5_flush 57 = .ok (.iload_n 1, 1) := by decide +kernel
theorem dX5_flush_58 : decode cX5_flush 58 = .ok (.imul, 1) := by decide +kernel
theorem dX5_flush_59 : decode cX5_flush 59 = .ok (.iload 5, 2) := by decide +kernel
theorem dX5_flush_61 : decode cX5_flush 61 = .ok (.iadd, 1) := by decide +kernel
theorem dX5_flush_62 : decode cX5_flush 62 = .ok (.iaload, 1) := by decide +kernel
theorem dX5_flush_63 : decode cX5_flush 63 = .ok (.bipush (-2), 2) := by decide +kernel
theorem dX5_flush_65 : decode cX5_flush 65 = .ok (.if_icmp .ne 9, 3) := by decide +kernel
theorem dX5_flush_68 : decode cX5_flush 68 = .ok (.iinc 5 1, 3) := by decide +kernel
theorem dX5_flush_71 : decode cX5_flush 71 = .ok (.goto (-27), 3) := by decide +kernel
theorem dX5_flush_74 : decode cX5_flush 74 = .ok (.iload 5, 2) := by decide +kernel
theorem dX5_flush_76 : decode cX5_flush 76 = .ok (.iload 4, 2) := by decide +kernel
theorem dX5_flush_78 : decode cX5_flush 78 = .ok (.if_icmp .le 18, 3) := by decide +kernel
theorem dX5_flush_81 : decode cX5_flush 81 = .ok (.aload_n 0, 1) := by decide +kernel
theorem dX5_flush_82 : decode cX5_flush 82 = .ok (.iload_n 1, 1) := by decide +kernel
theorem dX5_flush_83 : decode cX5_flush 83 = .ok (.iload 4, 2) := by decide +kernel
theorem dX5_flush_85 : decode cX5_flush 85 = .ok (.iload 5, 2) := by decide +kernel
theorem dX5_flush_87 : decode cX5_flush 87 = .ok (.iload 4, 2) := by decide +kernel
theorem dX5_flush_89 : decode cX5_flush 89 = .ok (.isub, 1) := by decide +kernel
theorem dX5_flush_90 : decode cX5_flush 90 = .ok (.invokevirtual 150, 3) := by decide +kernel
theorem dX5_flush_93 : decode cX5_flush 93 = .ok (.goto 4, 3) := by decide +kernel
theorem dX5_flush_96 : decode cX5_flush 96 = .ok (.iconst 0, 1) := by decide +kernel
theorem dX5_flush_97 : decode cX5_flush 97 = .ok (.istore 6, 2) := by decide +kernel
theorem dX5_flush_99 : decode cX5_flush 99 = .ok (.iload_n 3, 1) := by decide +kernel
theorem dX5_flush_100 : decode cX5_flush 100 = .ok (.iload 6, 2) := by decide +kernel
theorem dX5_flush_102 : decode cX5_flush 102 = .ok (.iadd, 1) := by decide +kernel
theorem dX5_flush_103 : decode cX5_flush 103 = .ok (.istore_n 3, 1) := by decide +kernel
theorem dX5_flush_104 : decode cX5_flush 104 = .ok (.iload 4, 2) := by decide +kernel
theorem dX5_flush_106 : decode cX5_flush 106 = .ok (.iload 5, 2) := by decide +kernel
theorem dX5_flush_108 : decode cX5_flush 108 = .ok (.iload 4, 2) := by decide +kernel
theorem dX5_flush_110 : decode cX5_flush 110 = .ok (.if_icmp .le 8, 3) := by decide +kernel
theorem dX5_flush_113 : decode cX5_flush 113 = .ok (.iload 6, 2) := by decide +kernel
theorem dX5_flush_115 : decode cX5_flush 115 = .ok (.goto 4, 3) := by decide +kernel
theorem dX5_flush_118 : decode cX5_flush 118 = .ok (.iconst 1, 1) := by decide +kernel
theorem dX5_flush_119 : decode cX5_flush 119 = .ok (.iadd, 1) := by decide +kernel
theorem dX5_flush_120 : decode cX5_flush 120 = .ok (.istore 4, 2) := by decide +kernel
theorem dX5_flush_122 : decode cX5_flush 122 = .ok (.goto (-89), 3) := by decide +kernel
theorem dX5_flush_125 : decode cX5_flush 125 = .ok (.iload_n 3, 1) := by decide +kernel
theorem dX5_flush_126 : decode cX5_flush 126 = .ok (.ireturn, 1) := by decide +kernel
set_option maxRecDepth 20000 in
theorem ggX5_cut_X5_isThere : GoodIn wsX5_cut wsX5_isThere := goodIn_r _ [7, 8, 9, 10, 6, 11, 39, 40, 41, 42, 43, 44, 45, 46, 47, 48, 49, 50, 51, 52, 53, 54, 55, 56] (by decide +kernel) (by decide +kernel)
set_option maxRecDepth 20000 in
theorem gX5_cut_X5_isThere : GoodIn wsX5_cut (wsV RX5 126 RX5 yX5_isThere wsX5_isThere) := goodIn_app (goodIn_of _ (by decide +kernel)) ggX5_cut_X5_isThere
set_option maxRecDepth 20000 in
theorem ggX5_cut_X5_in : GoodIn wsX5_cut wsX5_in := goodIn_r _ [11] (by decide +kernel) (by decide +kernel)
set_option maxRecDepth 20000 in
theorem gX5_cut_X5_in : GoodIn wsX5_cut (va_wsS RX5 60 yX5_in wsX5_in) := goodIn_app (goodIn_of _ (by decide +kernel)) ggX5_cut_X5_in
set_option maxRecDepth 20000 in
theorem ggX5_cut_X5_asked__ : GoodIn wsX5_cut wsX5_asked__ := goodIn_r _ [15, 16, 39, 40, 41, 42, 43, 44, 45, 46, 47, 48, 49, 50, 51, 52, 53, 54, 55, 56] (by decide +kernel) (by decide +kernel)
set_option maxRecDepth 20000 in
theorem gX5_cut_X5_asked__ : GoodIn wsX5_cut (wsV RX5 141 RX5 yX5_asked__ wsX5_asked__) := goodIn_app (goodIn_of _ (by decide +kernel)) ggX5_cut_X5_asked__
set_option maxRecDepth 20000 in
theorem ggX5_cut_X5_cuts : GoodIn wsX5_cut wsX5_cuts := goodIn_r _ [20, 21, 22, 2, 23, 24, 25, 6, 26, 27, 28, 29, 30, 31, 32, 33, 34, 35, 36, 37, 38, 1, 39, 40, 41, 42, 43, 44, 45, 46, 47, 48, 49, 50, 51, 52, 53, 54, 55, 56] (by decide +kernel) (by decide +kernel)
set_option maxRecDepth 20000 in
theorem gX5_cut_X5_cuts : GoodIn wsX5_cut (wsV RX5 111 RX5 yX5_cuts wsX5_cuts) := goodIn_app (goodIn_of _ (by decide +kernel)) ggX5_cut_X5_cuts
theorem dX5_cut_0 : decode cX5_cut 0 = .ok (.aload_n 0, 1) := by decide +kernel
theorem dX5_cut_1 : decode cX5_cut 1 = .ok (.iload_n 1, 1) := by decide +kernel
theorem dX5_cut_2 : decode cX5_cut 2 = .ok (.invokevirtual 126, 3) := by decide +kernel
theorem dX5_cut_5 : decode cX5_cut 5 = .ok (.istore_n 3, 1) := by decide +kernel
theorem dX5_cut_6 : decode cX5_cut 6 = .ok (.aload_n 0, 1) := by decide +kernel
theorem dX5_cut_7 : decode cX5_cut 7 = .ok (.iload_n 3, 1) := by decide +kernel
theorem dX5_cut_8 : decode cX5_cut 8 = .ok (.iload_n 2, 1) := by decide +kernel
theorem dX5_cut_9 : decode cX5_cut 9 = .ok (.iconst 0, 1) := by decide +kernel
theorem dX5_cut_10 : decode cX5_cut 10 = .ok (.bipush 64, 2) := by decide +kernel
theorem dX5_cut_12 : decode cX5_cut 12 = .ok (.invokestatic 60, 3) := by decide +kernel
theorem dX5_cut_15 : decode cX5_cut 15 = .ok (.aload_n 0, 1) := by decide +kernel
theorem dX5_cut_16 : decode cX5_cut 16 = .ok (.getfield 98, 3) := by decide +kernel
theorem dX5_cut_19 : decode cX5_cut 19 = .ok (.ifCond .ne 7, 3) := by decide +kernel
theorem dX5_cut_22 : decode cX5_cut 22 = .ok (.iconst 1, 1) := by decide +kernel
theorem dX5_cut_23 : decode cX5_cut 23 = .ok (.goto 4, 3) := by decide +kernel
theorem dX5_cut_26 : decode cX5_cut 26 = .ok (.iconst 0, 1) := by decide +kernel
theorem dX5_cut_27 : decode cX5_cut 27 = .ok (.invokevirtual 141, 3) := by decide +kernel
theorem dX5_cut_30 : decode cX5_cut 30 = .ok (.ifCond .ne 5, 3) := by decide +kernel
theorem dX5_cut_33 : decode cX5_cut 33 = .ok (.iconst 0, 1) := by decide +kernel
theorem dX5_cut_34 : decode cX5_cut 34 = .ok (.ireturn, 1) := by decide +kernel
theorem dX5_cut_35 : decode cX5_cut 35 = .ok (.aload_n 0, 1) := by decide +kernel
theorem dX5_cut_36 : decode cX5_cut 36 = .ok (.getfield 32, 3) := by decide +kernel
theorem dX5_cut_39 : decode cX5_cut 39 = .ok (.iload_n 1, 1) := by decide +kernel
theorem dX5_cut_40 : decode cX5_cut 40 = .ok (.iload_n 2, 1) := by decide +kernel
theorem dX5_cut_41 : decode cX5_cut 41 = .ok (.iastore, 1) := by decide +kernel
theorem dX5_cut_42 : decode cX5_cut 42 = .ok (.aload_n 0, 1) := by decide +kernel
theorem dX5_cut_43 : decode cX5_cut 43 = .ok (.iload_n 1, 1) := by decide +kernel
theorem dX5_cut_44 : decode cX5_cut 44 = .ok (.iload_n 2, 1) := by decide +kernel
theorem dX5_cut_45 : decode cX5_cut 45 = .ok (.invokevirtual 111, 3) := by decide +kernel
theorem dX5_cut_48 : decode cX5_cut 48 = .ok (.ireturn, 1) := by decide +kernel
set_option maxRecDepth 20000 in
theorem ggX5_crashBehind_X5_in : GoodIn wsX5_crashBehind wsX5_in := goodIn_r _ [6] (by decide +kernel) (by decide +kernel)
set_option maxRecDepth 20000 in
theorem gX5_crashBehind_X5_in : GoodIn wsX5_crashBehind (va_wsS RX5 60 yX5_in wsX5_in) := goodIn_app (goodIn_of _ (by decide +kernel)) ggX5_crashBehind_X5_in
set_option maxRecDepth 20000 in
theorem ggX5_crashBehind_X5_asked_ : GoodIn wsX5_crashBehind wsX5_asked_ := goodIn_r _ [10, 11, 12, 13, 14, 15, 16, 17, 18, 19, 20, 21, 22, 23, 24, 25, 26, 27, 28, 29] (by decide +kernel) (by decide +kernel)
set_option maxRecDepth 20000 in
theorem gX5_crashBehind_X5_asked_ : GoodIn wsX5_crashBehind (wsV RX5 119 RX5 yX5_asked_ wsX5_asked_) := goodIn_app (goodIn_of _ (by decide +kernel)) ggX5_crashBehind_X5_asked_
theorem dX5_crashBehind_0 : decode cX5_crashBehind 0 = .ok (.aload_n 0, 1) := by decide +kernel
theorem dX5_crashBehind_1 : decode cX5_crashBehind 1 = .ok (.iload_n 1, 1) := by decide +kernel
theorem dX5_crashBehind_2 : decode cX5_crashBehind 2 = .ok (.iconst (-1), 1) := by decide +kernel
theorem dX5_crashBehind_3 : decode cX5_crashBehind 3 = .ok (.if_icmp .eq 13, 3) := by decide +kernel
theorem dX5_crashBehind_6 : decode cX5_crashBehind 6 = .ok (.iload_n 1, 1) := by decide +kernel
theorem dX5_crashBehind_7 : decode cX5_crashBehind 7 = .ok (.iconst 1, 1) := by decide +kernel
theorem dX5_crashBehind_8 : decode cX5_crashBehind 8 = .ok (.bipush 50, 2) := by decide +kernel
theorem dX5_crashBehind_10 : decode cX5_crashBehind 10 = .ok (.invokestatic 60, 3) := by decide +kernel
theorem dX5_crashBehind_13 : decode cX5_crashBehind 13 = .ok (.ifCond .eq 7, 3) := by decide +kernel
theorem dX5_crashBehind_16 : decode cX5_crashBehind 16 = .ok (.iconst 1, 1) := by decide +kernel
theorem dX5_crashBehind_17 : decode cX5_crashBehind 17 = .ok (.goto 4, 3) := by decide +kernel
theorem dX5_crashBehind_20 : decode cX5_crashBehind 20 = .ok (.iconst 0, 1) := by decide +kernel
theorem dX5_crashBehind_21 : decode cX5_crashBehind 21 = .ok (.aload_n 0, 1) := by decide +kernel
theorem dX5_crashBehind_22 : decode cX5_crashBehind 22 = .ok (.getfield 98, 3) := by decide +kernel
theorem dX5_crashBehind_25 : decode cX5_crashBehind 25 = .ok (.ifCond .ne 7, 3) := by decide +kernel
theorem dX5_crashBehind_28 : decode cX5_crashBehind 28 = .ok (.iconst 1, 1) := by decide +kernel
theorem dX5_crashBehind_29 : decode cX5_crashBehind 29 = .ok (.goto 4, 3) := by decide +kernel
theorem dX5_crashBehind_32 : decode cX5_crashBehind 32 = .ok (.iconst 0, 1) := by decide +kernel
theorem dX5_crashBehind_33 : decode cX5_crashBehind 33 = .ok (.invokevirtual 119, 3) := by decide +kernel
theorem dX5_crashBehind_36 : decode cX5_crashBehind 36 = .ok (.ifCond .eq 17, 3) := by decide +kernel
theorem dX5_crashBehind_39 : decode cX5_crashBehind 39 = .ok (.aload_n 0, 1) := by decide +kernel
theorem dX5_crashBehind_40 : decode cX5_crashBehind 40 = .ok (.iload_n 1, 1) := by decide +kernel
theorem dX5_crashBehind_41 : decode cX5_crashBehind 41 = .ok (.iconst (-1), 1) := by decide +kernel
theorem dX5_crashBehind_42 : decode cX5_crashBehind 42 = .ok (.if_icmp .ne 7, 3) := by decide +kernel
theorem dX5_crashBehind_45 : decode cX5_crashBehind 45 = .ok (.iconst 0, 1) := by decide +kernel
theorem dX5_crashBehind_46 : decode cX5_crashBehind 46 = .ok (.goto 4, 3) := by decide +kernel
theorem dX5_crashBehind_49 : decode cX5_crashBehind 49 = .ok (.iload_n 1, 1) := by decide +kernel
theorem dX5_crashBehind_50 : decode cX5_crashBehind 50 = .ok (.putfield 102, 3) := by decide +kernel
theorem dX5_crashBehind_53 : decode cX5_crashBehind 53 = .ok (.return_, 1) := by decide +kernel
set_option maxRecDepth 20000 in
theorem ggX5_crash_X5_asked : GoodIn wsX5_crash wsX5_asked := goodIn_r _ [6, 7, 22, 23, 24, 25, 26, 27, 28, 29, 30, 31, 32, 33, 34, 35, 36, 37, 38, 39] (by decide +kernel) (by decide +kernel)
set_option maxRecDepth 20000 in
theorem gX5_crash_X5_asked : GoodIn wsX5_crash (wsV RX5 154 RX5 yX5_asked wsX5_asked) := goodIn_app (goodIn_of _ (by decide +kernel)) ggX5_crash_X5_asked
set_option maxRecDepth 20000 in
theorem ggX5_crash_X5_crashes : GoodIn wsX5_crash wsX5_crashes := goodIn_r _ [11, 12, 13, 1, 14, 15, 16, 17, 5, 18, 19, 20, 21, 22, 23, 24, 25, 26, 27, 28, 29, 30, 31, 32, 33, 34, 35, 36, 37, 38, 39] (by decide +kernel) (by decide +kernel)
set_option maxRecDepth 20000 in
theorem gX5_crash_X5_crashes : GoodIn wsX5_crash (wsV RX5 108 RX5 yX5_crashes wsX5_crashes) := goodIn_app (goodIn_of _ (by decide +kernel)) ggX5_crash_X5_crashes
theorem dX5_crash_0 : decode cX5_crash 0 = .ok (.aload_n 0, 1) := by decide +kernel
theorem dX5_crash_1 : decode cX5_crash 1 = .ok (.aload_n 0, 1) := by decide +kernel
theorem dX5_crash_2 : decode cX5_crash 2 = .ok (.getfield 98, 3) := by decide +kernel
theorem dX5_crash_5 : decode cX5_crash 5 = .ok (.ifCond .ne 7, 3) := by decide +kernel
theorem dX5_crash_8 : decode cX5_crash 8 = .ok (.iconst 1, 1) := by decide +kernel
theorem dX5_crash_9 : decode cX5_crash 9 = .ok (.goto 4, 3) := by decide +kernel
theorem dX5_crash_12 : decode cX5_crash 12 = .ok (.iconst 0, 1) := by decide +kernel
theorem dX5_crash_13 : decode cX5_crash 13 = .ok (.invokevirtual 154, 3) := by decide +kernel
theorem dX5_crash_16 : decode cX5_crash 16 = .ok (.ifCond .eq 7, 3) := by decide +kernel
theorem dX5_crash_19 : decode cX5_crash 19 = .ok (.aload_n 0, 1) := by decide +kernel
theorem dX5_crash_20 : decode cX5_crash 20 = .ok (.invokevirtual 108, 3) := by decide +kernel
theorem dX5_crash_23 : decode cX5_crash 23 = .ok (.return_, 1) := by decide +kernel
set_option maxRecDepth 20000 in
theorem ggX5_start_X5_asked : GoodIn wsX5_start wsX5_asked := goodIn_r _ [8, 9, 37, 38, 39, 40, 41, 42, 43, 44, 45, 46, 47, 48, 49, 50, 51, 52, 53, 54] (by decide +kernel) (by decide +kernel)
set_option maxRecDepth 20000 in
theorem gX5_start_X5_asked : GoodIn wsX5_start (wsV RX5 154 RX5 yX5_asked wsX5_asked) := goodIn_app (goodIn_of _ (by decide +kernel)) ggX5_start_X5_asked
set_option maxRecDepth 20000 in
theorem ggX5_start_X5_ends : GoodIn wsX5_start wsX5_ends := goodIn_r _ [13, 14, 2, 15, 16, 17, 7, 18, 19, 20, 3, 21, 22, 23, 24, 25, 26, 27, 28, 29, 30, 31, 32, 33, 34, 35, 36, 1, 37, 38, 39, 40, 41, 42, 43, 44, 45, 46, 47, 48, 49, 50, 51, 52, 53, 54] (by decide +kernel) (by decide +kernel)
set_option maxRecDepth 20000 in
theorem gX5_start_X5_ends : GoodIn wsX5_start (wsV RX5 129 RX5 yX5_ends wsX5_ends) := goodIn_app (goodIn_of _ (by decide +kernel)) ggX5_start_X5_ends
set_option maxRecDepth 20000 in
theorem ggX5_start_X5_cuts : GoodIn wsX5_start wsX5_cuts := goodIn_r _ [18, 19, 20, 3, 21, 22, 23, 7, 24, 25, 26, 27, 28, 29, 30, 31, 32, 33, 34, 35, 36, 1, 37, 38, 39, 40, 41, 42, 43, 44, 45, 46, 47, 48, 49, 50, 51, 52, 53, 54] (by decide +kernel) (by decide +kernel)
set_option maxRecDepth 20000 in
theorem gX5_start_X5_cuts : GoodIn wsX5_start (wsV RX5 111 RX5 yX5_cuts wsX5_cuts) := goodIn_app (goodIn_of _ (by decide +kernel)) ggX5_start_X5_cuts
theorem dX5_start_0 : decode cX5_start 0 = .ok (.aload_n 0, 1) := by decide +kernel
theorem dX5_start_1 : decode cX5_start 1 = .ok (.aload_n 0, 1) := by decide +kernel
theorem dX5_start_2 : decode cX5_start 2 = .ok (.getfield 98, 3) := by decide +kernel
theorem dX5_start_5 : decode cX5_start 5 = .ok (.invokevirtual 154, 3) := by decide +kernel
theorem dX5_start_8 : decode cX5_start 8 = .ok (.ifCond .ne 5, 3) := by decide +kernel
theorem dX5_start_11 : decode cX5_start 11 = .ok (.iconst 0, 1) := by decide +kernel
theorem dX5_start_12 : decode cX5_start 12 = .ok (.ireturn, 1) := by decide +kernel
theorem dX5_start_13 : decode cX5_start 13 = .ok (.aload_n 0, 1) := by decide +kernel
theorem dX5_start_14 : decode cX5_start 14 = .ok (.iconst 0, 1) := by decide +kernel
theorem dX5_start_15 : decode cX5_start 15 = .ok (.putfield 98, 3) := by decide +kernel
theorem dX5_start_18 : decode cX5_start 18 = .ok (.iconst 0, 1) := by decide +kernel
theorem dX5_start_19 : decode cX5_start 19 = .ok (.istore_n 1, 1) := by decide +kernel
theorem dX5_start_20 : decode cX5_start 20 = .ok (.iconst 0, 1) := by decide +kernel
theorem dX5_start_21 : decode cX5_start 21 = .ok (.istore_n 2, 1) := by decide +kernel
theorem dX5_start_22 : decode cX5_start 22 = .ok (.iload_n 2, 1) := by decide +kernel
theorem dX5_start_23 : decode cX5_start 23 = .ok (.bipush 16, 2) := by decide +kernel
theorem dX5_start_25 : decode cX5_start 25 = .ok (.if_icmp .ge 76, 3) := by decide +kernel
theorem dX5_start_28 : decode cX5_start 28 = .ok (.iload_n 1, 1) := by decide +kernel
theorem dX5_start_29 : decode cX5_start 29 = .ok (.aload_n 0, 1) := by decide +kernel
theorem dX5_start_30 : decode cX5_start 30 = .ok (.getfield 35, 3) := by decide +kernel
theorem dX5_start_33 : decode cX5_start 33 = .ok (.iload_n 2, 1) := by decide +kernel
theorem dX5_start_34 : decode cX5_start 34 = .ok (.baload, 1) := by decide +kernel
theorem dX5_start_35 : decode cX5_start 35 = .ok (.ifCond .ne 13, 3) := by decide +kernel
theorem dX5_start_38 : decode cX5_start 38 = .ok (.aload_n 0, 1) := by decide +kernel
theorem dX5_start_39 : decode cX5_start 39 = .ok (.getfield 32, 3) := by decide +kernel
theorem dX5_start_42 : decode cX5_start 42 = .ok (.iload_n 2, 1) := by decide +kernel
theorem dX5_start_43 : decode cX5_start 43 = .ok (.iaload, 1) := by decide +kernel
theorem dX5_start_44 : decode cX5_start 44 = .ok (.iconst (-1), 1) := by decide +kernel
theorem dX5_start_45 : decode cX5_start 45 = .ok (.if_icmp .eq 7, 3) := by decide +kernel
theorem dX5_start_48 : decode cX5_start 48 = .ok (.iconst 1, 1) := by decide +kernel
theorem dX5_start_49 : decode cX5_start 49 = .ok (.goto 4, 3) := by decide +kernel
theorem dX5_start_52 : decode cX5_start 52 = .ok (.iconst 0, 1) := by decide +kernel
theorem dX5_start_53 : decode cX5_start 53 = .ok (.iadd, 1) := by decide +kernel
theorem dX5_start_54 : decode cX5_start 54 = .ok (.istore_n 1, 1) := by decide +kernel
theorem dX5_start_55 : decode cX5_start 55 = .ok (.aload_n 0, 1) := by decide +kernel
theorem dX5_start_56 : decode cX5_start 56 = .ok (.getfield 35, 3) := by decide +kernel
theorem dX5_start_59 : decode cX5_start 59 = .ok (.iload_n 2, 1) := by decide +kernel
theorem dX5_start_60 : decode cX5_start 60 = .ok (.baload, 1) := by decide +kernel
theorem dX5_start_61 : decode cX5_start 61 = .ok (.ifCond .eq 12, 3) := by decide +kernel
theorem dX5_start_64 : decode cX5_start 64 = .ok (.aload_n 0, 1) := by decide +kernel
theorem dX5_start_65 : decode cX5_start 65 = .ok (.iload_n 2, 1) := by decide +kernel
theorem dX5_start_66 : decode cX5_start 66 = .ok (.invokevirtual 129, 3) := by decide +kernel
theorem dX5_start_69 : decode cX5_start 69 = .ok (.pop, 1) := by decide +kernel
theorem dX5_start_70 : decode cX5_start 70 = .ok (.goto 25, 3) := by decide +kernel
theorem dX5_start_73 : decode cX5_start 73 = .ok (.aload_n 0, 1) := by decide +kernel
theorem dX5_start_74 : decode cX5_start 74 = .ok (.getfield 32, 3) := by decide +kernel
theorem dX5_start_77 : decode cX5_start 77 = .ok (.iload_n 2, 1) := by decide +kernel
theorem dX5_start_78 : decode cX5_start 78 = .ok (.iaload, 1) := by decide +kernel
theorem dX5_start_79 : decode cX5_start 79 = .ok (.iconst (-1), 1) := by decide +kernel
theorem dX5_start_80 : decode cX5_start 80 = .ok (.if_icmp .eq 15, 3) := by decide +kernel
theorem dX5_start_83 : decode cX5_start 83 = .ok (.aload_n 0, 1) := by decide +kernel
theorem dX5_start_84 : decode cX5_start 84 = .ok (.iload_n 2, 1) := by decide +kernel
theorem dX5_start_85 : decode cX5_start 85 = .ok (.aload_n 0, 1) := by decide +kernel
theorem dX5_start_86 : decode cX5_start 86 = .ok (.getfield 32, 3) := by decide +kernel
theorem dX5_start_89 : decode cX5_start 89 = .ok (.iload_n 2, 1) := by decide +kernel
theorem dX5_start_90 : decode cX5_start 90 = .ok (.iaload, 1) := by decide +kernel
theorem dX5_start_91 : decode cX5_start 91 = .ok (.invokevirtual 111, 3) := by decide +kernel
theorem dX5_start_94 : decode cX5_start 94 = .ok (.pop, 1) := by decide +kernel
theorem dX5_start_95 : decode cX5_start 95 = .ok (.iinc 2 1, 3) := by decide +kernel
theorem dX5_start_98 : decode cX5_start 98 = .ok (.goto (-76), 3) := by decide +kernel
theorem dX5_start_101 : decode cX5_start 101 = .ok (.iload_n 1, 1) := by decide +kernel
theorem dX5_start_102 : decode cX5_start 102 = .ok (.ireturn, 1) := by decide +kernel
theorem dX5_isDown_0 : decode cX5_isDown 0 = .ok (.aload_n 0, 1) := by decide +kernel
theorem dX5_isDown_1 : decode cX5_isDown 1 = .ok (.iconst 0, 1) := by decide +kernel
theorem dX5_isDown_2 : decode cX5_isDown 2 = .ok (.putfield 57, 3) := by decide +kernel
theorem dX5_isDown_5 : decode cX5_isDown 5 = .ok (.aload_n 0, 1) := by decide +kernel
theorem dX5_isDown_6 : decode cX5_isDown 6 = .ok (.getfield 98, 3) := by decide +kernel
theorem dX5_isDown_9 : decode cX5_isDown 9 = .ok (.ireturn, 1) := by decide +kernel
set_option maxRecDepth 20000 in
theorem ggX5_files_X5_told : GoodIn wsX5_files wsX5_told := goodIn_r _ [6, 7, 8, 9, 10, 11, 12, 13, 14, 15, 16, 17, 18, 19, 20, 21, 22, 23, 24, 25] (by decide +kernel) (by decide +kernel)
set_option maxRecDepth 20000 in
theorem gX5_files_X5_told : GoodIn wsX5_files (wsV RX5 157 RX5 yX5_told wsX5_told) := goodIn_app (goodIn_of _ (by decide +kernel)) ggX5_files_X5_told
theorem dX5_files_0 : decode cX5_files 0 = .ok (.iconst 0, 1) := by decide +kernel
theorem dX5_files_1 : decode cX5_files 1 = .ok (.istore_n 1, 1) := by decide +kernel
theorem dX5_files_2 : decode cX5_files 2 = .ok (.iconst 0, 1) := by decide +kernel
theorem dX5_files_3 : decode cX5_files 3 = .ok (.istore_n 2, 1) := by decide +kernel
theorem dX5_files_4 : decode cX5_files 4 = .ok (.iload_n 2, 1) := by decide +kernel
theorem dX5_files_5 : decode cX5_files 5 = .ok (.bipush 16, 2) := by decide +kernel
theorem dX5_files_7 : decode cX5_files 7 = .ok (.if_icmp .ge 26, 3) := by decide +kernel
theorem dX5_files_10 : decode cX5_files 10 = .ok (.iload_n 1, 1) := by decide +kernel
theorem dX5_files_11 : decode cX5_files 11 = .ok (.aload_n 0, 1) := by decide +kernel
theorem dX5_files_12 : decode cX5_files 12 = .ok (.getfield 13, 3) := by decide +kernel
theorem dX5_files_15 : decode cX5_files 15 = .ok (.iload_n 2, 1) := by decide +kernel
theorem dX5_files_16 : decode cX5_files 16 = .ok (.baload, 1) := by decide +kernel
theorem dX5_files_17 : decode cX5_files 17 = .ok (.ifCond .eq 7, 3) := by decide +kernel
theorem dX5_files_20 : decode cX5_files 20 = .ok (.iconst 1, 1) := by decide +kernel
theorem dX5_files_21 : decode cX5_files 21 = .ok (.goto 4, 3) := by decide +kernel
theorem dX5_files_24 : decode cX5_files 24 = .ok (.iconst 0, 1) := by decide +kernel
theorem dX5_files_25 : decode cX5_files 25 = .ok (.iadd, 1) := by decide +kernel
theorem dX5_files_26 : decode cX5_files 26 = .ok (.istore_n 1, 1) := by decide +kernel
theorem dX5_files_27 : decode cX5_files 27 = .ok (.iinc 2 1, 3) := by decide +kernel
theorem dX5_files_30 : decode cX5_files 30 = .ok (.goto (-26), 3) := by decide +kernel
theorem dX5_files_33 : decode cX5_files 33 = .ok (.aload_n 0, 1) := by decide +kernel
theorem dX5_files_34 : decode cX5_files 34 = .ok (.iload_n 1, 1) := by decide +kernel
theorem dX5_files_35 : decode cX5_files 35 = .ok (.invokevirtual 157, 3) := by decide +kernel
theorem dX5_files_38 : decode cX5_files 38 = .ok (.ireturn, 1) := by decide +kernel
set_option maxRecDepth 20000 in
theorem ggX5_listed_X5_told : GoodIn wsX5_listed wsX5_told := goodIn_r _ [7, 8, 9, 10, 11, 12, 13, 14, 15, 16, 17, 18, 19, 20, 21, 22, 23, 24, 25, 26] (by decide +kernel) (by decide +kernel)
set_option maxRecDepth 20000 in
theorem gX5_listed_X5_told : GoodIn wsX5_listed (wsV RX5 157 RX5 yX5_told wsX5_told) := goodIn_app (goodIn_of _ (by decide +kernel)) ggX5_listed_X5_told
theorem dX5_listed_0 : decode cX5_listed 0 = .ok (.iconst 0, 1) := by decide +kernel
theorem dX5_listed_1 : decode cX5_listed 1 = .ok (.istore_n 1, 1) := by decide +kernel
theorem dX5_listed_2 : decode cX5_listed 2 = .ok (.iconst 0, 1) := by decide +kernel
theorem dX5_listed_3 : decode cX5_listed 3 = .ok (.istore_n 2, 1) := by decide +kernel
theorem dX5_listed_4 : decode cX5_listed 4 = .ok (.iload_n 2, 1) := by decide +kernel
theorem dX5_listed_5 : decode cX5_listed 5 = .ok (.bipush 16, 2) := by decide +kernel
theorem dX5_listed_7 : decode cX5_listed 7 = .ok (.if_icmp .ge 36, 3) := by decide +kernel
theorem dX5_listed_10 : decode cX5_listed 10 = .ok (.iload_n 1, 1) := by decide +kernel
theorem dX5_listed_11 : decode cX5_listed 11 = .ok (.aload_n 0, 1) := by decide +kernel
theorem dX5_listed_12 : decode cX5_listed 12 = .ok (.getfield 35, 3) := by decide +kernel
theorem dX5_listed_15 : decode cX5_listed 15 = .ok (.iload_n 2, 1) := by decide +kernel
theorem dX5_listed_16 : decode cX5_listed 16 = .ok (.baload, 1) := by decide +kernel
theorem dX5_listed_17 : decode cX5_listed 17 = .ok (.ifCond .ne 13, 3) := by decide +kernel
theorem dX5_listed_20 : decode cX5_listed 20 = .ok (.aload_n 0, 1) := by decide +kernel
theorem dX5_listed_21 : decode cX5_listed 21 = .ok (.getfield 32, 3) := by decide +kernel
theorem dX5_listed_24 : decode cX5_listed 24 = .ok (.iload_n 2, 1) := by decide +kernel
theorem dX5_listed_25 : decode cX5_listed 25 = .ok (.iaload, 1) := by decide +kernel
theorem dX5_listed_26 : decode cX5_listed 26 = .ok (.iconst (-1), 1) := by decide +kernel
theorem dX5_listed_27 : decode cX5_listed 27 = .ok (.if_icmp .eq 7, 3) := by decide +kernel
theorem dX5_listed_30 : decode cX5_listed 30 = .ok (.iconst 1, 1) := by decide +kernel
theorem dX5_listed_31 : decode cX5_listed 31 = .ok (.goto 4, 3) := by decide +kernel
theorem dX5_listed_34 : decode cX5_listed 34 = .ok (.iconst 0, 1) := by decide +kernel
theorem dX5_listed_35 : decode cX5_listed 35 = .ok (.iadd, 1) := by decide +kernel
theorem dX5_listed_36 : decode cX5_listed 36 = .ok (.istore_n 1, 1) := by decide +kernel
theorem dX5_listed_37 : decode cX5_listed 37 = .ok (.iinc 2 1, 3) := by decide +kernel
theorem dX5_listed_40 : decode cX5_listed 40 = .ok (.goto (-36), 3) := by decide +kernel
theorem dX5_listed_43 : decode cX5_listed 43 = .ok (.aload_n 0, 1) := by decide +kernel
theorem dX5_listed_44 : decode cX5_listed 44 = .ok (.iload_n 1, 1) := by decide +kernel
theorem dX5_listed_45 : decode cX5_listed 45 = .ok (.invokevirtual 157, 3) := by decide +kernel
theorem dX5_listed_48 : decode cX5_listed 48 = .ok (.ireturn, 1) := by decide +kernel
set_option maxRecDepth 20000 in
theorem ggX5_opens_X5_isThere : GoodIn wsX5_opens wsX5_isThere := goodIn_r _ [6, 7, 8, 9, 5, 10, 16, 17, 18, 19, 20, 21, 22, 23, 24, 25, 26, 27, 28, 29, 30, 31, 32, 33] (by decide +kernel) (by decide +kernel)
set_option maxRecDepth 20000 in
theorem gX5_opens_X5_isThere : GoodIn wsX5_opens (wsV RX5 126 RX5 yX5_isThere wsX5_isThere) := goodIn_app (goodIn_of _ (by decide +kernel)) ggX5_opens_X5_isThere
set_option maxRecDepth 20000 in
theorem ggX5_opens_X5_asked : GoodIn wsX5_opens wsX5_asked := goodIn_r _ [14, 15, 16, 17, 18, 19, 20, 21, 22, 23, 24, 25, 26, 27, 28, 29, 30, 31, 32, 33] (by decide +kernel) (by decide +kernel)
set_option maxRecDepth 20000 in
theorem gX5_opens_X5_asked : GoodIn wsX5_opens (wsV RX5 154 RX5 yX5_asked wsX5_asked) := goodIn_app (goodIn_of _ (by decide +kernel)) ggX5_opens_X5_asked
theorem dX5_opens_0 : decode cX5_opens 0 = .ok (.aload_n 0, 1) := by decide +kernel
theorem dX5_opens_1 : decode cX5_opens 1 = .ok (.aload_n 0, 1) := by decide +kernel
theorem dX5_opens_2 : decode cX5_opens 2 = .ok (.iload_n 1, 1) := by decide +kernel
theorem dX5_opens_3 : decode cX5_opens 3 = .ok (.invokevirtual 126, 3) := by decide +kernel
theorem dX5_opens_6 : decode cX5_opens 6 = .ok (.invokevirtual 154, 3) := by decide +kernel
theorem dX5_opens_9 : decode cX5_opens 9 = .ok (.ifCond .eq 12, 3) := by decide +kernel
theorem dX5_opens_12 : decode cX5_opens 12 = .ok (.aload_n 0, 1) := by decide +kernel
theorem dX5_opens_13 : decode cX5_opens 13 = .ok (.getfield 20, 3) := by decide +kernel
theorem dX5_opens_16 : decode cX5_opens 16 = .ok (.iload_n 1, 1) := by decide +kernel
theorem dX5_opens_17 : decode cX5_opens 17 = .ok (.iaload, 1) := by decide +kernel
theorem dX5_opens_18 : decode cX5_opens 18 = .ok (.goto 4, 3) := by decide +kernel
theorem dX5_opens_21 : decode cX5_opens 21 = .ok (.iconst 0, 1) := by decide +kernel
theorem dX5_opens_22 : decode cX5_opens 22 = .ok (.ireturn, 1) := by decide +kernel
set_option maxRecDepth 20000 in
theorem ggX5_free_X5_freeNow : GoodIn wsX5_free wsX5_freeNow := goodIn_r _ [5, 6, 12, 13, 14, 15, 16, 17, 18, 19, 20, 21, 22, 23, 24, 25, 26, 27, 28, 29] (by decide +kernel) (by decide +kernel)
set_option maxRecDepth 20000 in
theorem gX5_free_X5_freeNow : GoodIn wsX5_free (wsV RX5 64 RX5 yX5_freeNow wsX5_freeNow) := goodIn_app (goodIn_of _ (by decide +kernel)) ggX5_free_X5_freeNow
set_option maxRecDepth 20000 in
theorem ggX5_free_X5_told : GoodIn wsX5_free wsX5_told := goodIn_r _ [10, 11, 12, 13, 14, 15, 16, 17, 18, 19, 20, 21, 22, 23, 24, 25, 26, 27, 28, 29] (by decide +kernel) (by decide +kernel)
set_option maxRecDepth 20000 in
theorem gX5_free_X5_told : GoodIn wsX5_free (wsV RX5 157 RX5 yX5_told wsX5_told) := goodIn_app (goodIn_of _ (by decide +kernel)) ggX5_free_X5_told
theorem dX5_free_0 : decode cX5_free 0 = .ok (.aload_n 0, 1) := by decide +kernel
theorem dX5_free_1 : decode cX5_free 1 = .ok (.aload_n 0, 1) := by decide +kernel
theorem dX5_free_2 : decode cX5_free 2 = .ok (.invokevirtual 64, 3) := by decide +kernel
theorem dX5_free_5 : decode cX5_free 5 = .ok (.invokevirtual 157, 3) := by decide +kernel
theorem dX5_free_8 : decode cX5_free 8 = .ok (.ireturn, 1) := by decide +kernel
set_option maxRecDepth 20000 in
theorem ggX5_freeByFiles_X5_keptNow : GoodIn wsX5_freeByFiles wsX5_keptNow := goodIn_r _ [6, 7, 13, 14, 15, 16, 17, 18, 19, 20, 21, 22, 23, 24, 25, 26, 27, 28, 29, 30] (by decide +kernel) (by decide +kernel)
set_option maxRecDepth 20000 in
theorem gX5_freeByFiles_X5_keptNow : GoodIn wsX5_freeByFiles (wsV RX5 138 RX5 yX5_keptNow wsX5_keptNow) := goodIn_app (goodIn_of _ (by decide +kernel)) ggX5_freeByFiles_X5_keptNow
set_option maxRecDepth 20000 in
theorem ggX5_freeByFiles_X5_told : GoodIn wsX5_freeByFiles wsX5_told := goodIn_r _ [11, 12, 13, 14, 15, 16, 17, 18, 19, 20, 21, 22, 23, 24, 25, 26, 27, 28, 29, 30] (by decide +kernel) (by decide +kernel)
set_option maxRecDepth 20000 in
theorem gX5_freeByFiles_X5_told : GoodIn wsX5_freeByFiles (wsV RX5 157 RX5 yX5_told wsX5_told) := goodIn_app (goodIn_of _ (by decide +kernel)) ggX5_freeByFiles_X5_told
theorem dX5_freeByFiles_0 : decode cX5_freeByFiles 0 = .ok (.sipush 128, 3) := by decide +kernel
theorem dX5_freeByFiles_3 : decode cX5_freeByFiles 3 = .ok (.aload_n 0, 1) := by decide +kernel
theorem dX5_freeByFiles_4 : decode cX5_freeByFiles 4 = .ok (.invokevirtual 138, 3) := by decide +kernel
theorem dX5_freeByFiles_7 : decode cX5_freeByFiles 7 = .ok (.isub, 1) := by decide +kernel
theorem dX5_freeByFiles_8 : decode cX5_freeByFiles 8 = .ok (.istore_n 1, 1) := by decide +kernel
theorem dX5_freeByFiles_9 : decode cX5_freeByFiles 9 = .ok (.iconst 0, 1) := by decide +kernel
theorem dX5_freeByFiles_10 : decode cX5_freeByFiles 10 = .ok (.istore_n 2, 1) := by decide +kernel
theorem dX5_freeByFiles_11 : decode cX5_freeByFiles 11 = .ok (.iload_n 2, 1) := by decide +kernel
theorem dX5_freeByFiles_12 : decode cX5_freeByFiles 12 = .ok (.sipush 1024, 3) := by decide +kernel
theorem dX5_freeByFiles_15 : decode cX5_freeByFiles 15 = .ok (.if_icmp .ge 26, 3) := by decide +kernel
theorem dX5_freeByFiles_18 : decode cX5_freeByFiles 18 = .ok (.iload_n 1, 1) := by decide +kernel
theorem dX5_freeByFiles_19 : decode cX5_freeByFiles 19 = .ok (.aload_n 0, 1) := by decide +kernel
theorem dX5_freeByFiles_20 : decode cX5_freeByFiles 20 = .ok (.getfield 16, 3) := by decide +kernel
theorem dX5_freeByFiles_23 : decode cX5_freeByFiles 23 = .ok (.iload_n 2, 1) := by decide +kernel
theorem dX5_freeByFiles_24 : decode cX5_freeByFiles 24 = .ok (.iaload, 1) := by decide +kernel
theorem dX5_freeByFiles_25 : decode cX5_freeByFiles 25 = .ok (.ifCond .lt 7, 3) := by decide +kernel
theorem dX5_freeByFiles_28 : decode cX5_freeByFiles 28 = .ok (.iconst 1, 1) := by decide +kernel
theorem dX5_freeByFiles_29 : decode cX5_freeByFiles 29 = .ok (.goto 4, 3) := by decide +kernel
theorem dX5_freeByFiles_32 : decode cX5_freeByFiles 32 = .ok (.iconst 0, 1) := by decide +kernel
theorem dX5_freeByFiles_33 : decode cX5_freeByFiles 33 = .ok (.isub, 1) := by decide +kernel
theorem dX5_freeByFiles_34 : decode cX5_freeByFiles 34 = .ok (.istore_n 1, 1) := by decide +kernel
theorem dX5_freeByFiles_35 : decode cX5_freeByFiles 35 = .ok (.iinc 2 1, 3) := by decide +kernel
theorem dX5_freeByFiles_38 : decode cX5_freeByFiles 38 = .ok (.goto (-27), 3) := by decide +kernel
theorem dX5_freeByFiles_41 : decode cX5_freeByFiles 41 = .ok (.aload_n 0, 1) := by decide +kernel
theorem dX5_freeByFiles_42 : decode cX5_freeByFiles 42 = .ok (.iload_n 1, 1) := by decide +kernel
theorem dX5_freeByFiles_43 : decode cX5_freeByFiles 43 = .ok (.invokevirtual 157, 3) := by decide +kernel
theorem dX5_freeByFiles_46 : decode cX5_freeByFiles 46 = .ok (.ireturn, 1) := by decide +kernel
set_option maxRecDepth 20000 in
theorem ggX5_reserved_X5_reservedNow : GoodIn wsX5_reserved wsX5_reservedNow := goodIn_r _ [5, 6, 12, 13, 14, 15, 16, 17, 18, 19, 20, 21, 22, 23, 24, 25, 26, 27, 28, 29] (by decide +kernel) (by decide +kernel)
set_option maxRecDepth 20000 in
theorem gX5_reserved_X5_reservedNow : GoodIn wsX5_reserved (wsV RX5 68 RX5 yX5_reservedNow wsX5_reservedNow) := goodIn_app (goodIn_of _ (by decide +kernel)) ggX5_reserved_X5_reservedNow
set_option maxRecDepth 20000 in
theorem ggX5_reserved_X5_told : GoodIn wsX5_reserved wsX5_told := goodIn_r _ [10, 11, 12, 13, 14, 15, 16, 17, 18, 19, 20, 21, 22, 23, 24, 25, 26, 27, 28, 29] (by decide +kernel) (by decide +kernel)
set_option maxRecDepth 20000 in
theorem gX5_reserved_X5_told : GoodIn wsX5_reserved (wsV RX5 157 RX5 yX5_told wsX5_told) := goodIn_app (goodIn_of _ (by decide +kernel)) ggX5_reserved_X5_told
theorem dX5_reserved_0 : decode cX5_reserved 0 = .ok (.aload_n 0, 1) := by decide +kernel
theorem dX5_reserved_1 : decode cX5_reserved 1 = .ok (.aload_n 0, 1) := by decide +kernel
theorem dX5_reserved_2 : decode cX5_reserved 2 = .ok (.invokevirtual 68, 3) := by decide +kernel
theorem dX5_reserved_5 : decode cX5_reserved 5 = .ok (.invokevirtual 157, 3) := by decide +kernel
theorem dX5_reserved_8 : decode cX5_reserved 8 = .ok (.ireturn, 1) := by decide +kernel
set_option maxRecDepth 20000 in
theorem ggX5_kept_X5_keptNow : GoodIn wsX5_kept wsX5_keptNow := goodIn_r _ [5, 6, 12, 13, 14, 15, 16, 17, 18, 19, 20, 21, 22, 23, 24, 25, 26, 27, 28, 29] (by decide +kernel) (by decide +kernel)
set_option maxRecDepth 20000 in
theorem gX5_kept_X5_keptNow : GoodIn wsX5_kept (wsV RX5 138 RX5 yX5_keptNow wsX5_keptNow) := goodIn_app (goodIn_of _ (by decide +kernel)) ggX5_kept_X5_keptNow
set_option maxRecDepth 20000 in
theorem ggX5_kept_X5_told : GoodIn wsX5_kept wsX5_told := goodIn_r _ [10, 11, 12, 13, 14, 15, 16, 17, 18, 19, 20, 21, 22, 23, 24, 25, 26, 27, 28, 29] (by decide +kernel) (by decide +kernel)
set_option maxRecDepth 20000 in
theorem gX5_kept_X5_told : GoodIn wsX5_kept (wsV RX5 157 RX5 yX5_told wsX5_told) := goodIn_app (goodIn_of _ (by decide +kernel)) ggX5_kept_X5_told
theorem dX5_kept_0 : decode cX5_kept 0 = .ok (.aload_n 0, 1) := by decide +kernel
theorem dX5_kept_1 : decode cX5_kept 1 = .ok (.aload_n 0, 1) := by decide +kernel
theorem dX5_kept_2 : decode cX5_kept 2 = .ok (.invokevirtual 138, 3) := by decide +kernel
theorem dX5_kept_5 : decode cX5_kept 5 = .ok (.invokevirtual 157, 3) := by decide +kernel
theorem dX5_kept_8 : decode cX5_kept 8 = .ok (.ireturn, 1) := by decide +kernel
set_option maxRecDepth 20000 in
theorem ggX5_pieces_X5_in : GoodIn wsX5_pieces wsX5_in := goodIn_r _ [4] (by decide +kernel) (by decide +kernel)
set_option maxRecDepth 20000 in
theorem gX5_pieces_X5_in : GoodIn wsX5_pieces (va_wsS RX5 60 yX5_in wsX5_in) := goodIn_app (goodIn_of _ (by decide +kernel)) ggX5_pieces_X5_in
set_option maxRecDepth 20000 in
theorem ggX5_pieces_X5_asked_ : GoodIn wsX5_pieces wsX5_asked_ := goodIn_r _ [8, 9, 15, 16, 17, 18, 19, 20, 21, 22, 23, 24, 25, 26, 27, 28, 29, 30, 31, 32] (by decide +kernel) (by decide +kernel)
set_option maxRecDepth 20000 in
theorem gX5_pieces_X5_asked_ : GoodIn wsX5_pieces (wsV RX5 119 RX5 yX5_asked_ wsX5_asked_) := goodIn_app (goodIn_of _ (by decide +kernel)) ggX5_pieces_X5_asked_
set_option maxRecDepth 20000 in
theorem ggX5_pieces_X5_areFree : GoodIn wsX5_pieces wsX5_areFree := goodIn_r _ [13, 14, 15, 16, 17, 18, 19, 20, 21, 22, 23, 24, 25, 26, 27, 28, 29, 30, 31, 32] (by decide +kernel) (by decide +kernel)
set_option maxRecDepth 20000 in
theorem gX5_pieces_X5_areFree : GoodIn wsX5_pieces (wsV RX5 144 RX5 yX5_areFree wsX5_areFree) := goodIn_app (goodIn_of _ (by decide +kernel)) ggX5_pieces_X5_areFree
theorem dX5_pieces_0 : decode cX5_pieces 0 = .ok (.iconst 0, 1) := by decide +kernel
theorem dX5_pieces_1 : decode cX5_pieces 1 = .ok (.istore_n 3, 1) := by decide +kernel
theorem dX5_pieces_2 : decode cX5_pieces 2 = .ok (.aload_n 0, 1) := by decide +kernel
theorem dX5_pieces_3 : decode cX5_pieces 3 = .ok (.iload_n 1, 1) := by decide +kernel
theorem dX5_pieces_4 : decode cX5_pieces 4 = .ok (.iconst 0, 1) := by decide +kernel
theorem dX5_pieces_5 : decode cX5_pieces 5 = .ok (.iconst 3, 1) := by decide +kernel
theorem dX5_pieces_6 : decode cX5_pieces 6 = .ok (.invokestatic 60, 3) := by decide +kernel
theorem dX5_pieces_9 : decode cX5_pieces 9 = .ok (.iload_n 2, 1) := by decide +kernel
theorem dX5_pieces_10 : decode cX5_pieces 10 = .ok (.iconst 0, 1) := by decide +kernel
theorem dX5_pieces_11 : decode cX5_pieces 11 = .ok (.iconst 5, 1) := by decide +kernel
theorem dX5_pieces_12 : decode cX5_pieces 12 = .ok (.invokestatic 60, 3) := by decide +kernel
theorem dX5_pieces_15 : decode cX5_pieces 15 = .ok (.invokevirtual 119, 3) := by decide +kernel
theorem dX5_pieces_18 : decode cX5_pieces 18 = .ok (.istore 4, 2) := by decide +kernel
theorem dX5_pieces_20 : decode cX5_pieces 20 = .ok (.iconst 0, 1) := by decide +kernel
theorem dX5_pieces_21 : decode cX5_pieces 21 = .ok (.istore 5, 2) := by decide +kernel
theorem dX5_pieces_23 : decode cX5_pieces 23 = .ok (.iload 4, 2) := by decide +kernel
theorem dX5_pieces_25 : decode cX5_pieces 25 = .ok (.ifCond .eq 46, 3) := by decide +kernel
theorem dX5_pieces_28 : decode cX5_pieces 28 = .ok (.iload 5, 2) := by decide +kernel
theorem dX5_pieces_30 : decode cX5_pieces 30 = .ok (.bipush 32, 2) := by decide +kernel
theorem dX5_pieces_32 : decode cX5_pieces 32 = .ok (.if_icmp .ge 39, 3) := by decide +kernel
theorem dX5_pieces_35 : decode cX5_pieces 35 = .ok (.iload_n 3, 1) := by decide +kernel
theorem dX5_pieces_36 : decode cX5_pieces 36 = .ok (.aload_n 0, 1) := by decide +kernel
theorem dX5_pieces_37 : decode cX5_pieces 37 = .ok (.bipush 32, 2) := by decide +kernel
theorem dX5_pieces_39 : decode cX5_pieces 39 = .ok (.iload_n 1, 1) := by decide +kernel
theorem dX5_pieces_40 : decode cX5_pieces 40 = .ok (.imul, 1) := by decide +kernel
theorem dX5_pieces_41 : decode cX5_pieces 41 = .ok (.iload 5, 2) := by decide +kernel
theorem dX5_pieces_43 : decode cX5_pieces 43 = .ok (.iadd, 1) := by decide +kernel
theorem dX5_pieces_44 : decode cX5_pieces 44 = .ok (.iconst 1, 1) := by decide +kernel
theorem dX5_pieces_45 : decode cX5_pieces 45 = .ok (.iload_n 2, 1) := by decide +kernel
theorem dX5_pieces_46 : decode cX5_pieces 46 = .ok (.ishl, 1) := by decide +kernel
theorem dX5_pieces_47 : decode cX5_pieces 47 = .ok (.invokevirtual 144, 3) := by decide +kernel
theorem dX5_pieces_50 : decode cX5_pieces 50 = .ok (.ifCond .eq 7, 3) := by decide +kernel
theorem dX5_pieces_53 : decode cX5_pieces 53 = .ok (.iconst 1, 1) := by decide +kernel
theorem dX5_pieces_54 : decode cX5_pieces 54 = .ok (.goto 4, 3) := by decide +kernel
theorem dX5_pieces_57 : decode cX5_pieces 57 = .ok (.iconst 0, 1) := by decide +kernel
theorem dX5_pieces_58 : decode cX5_pieces 58 = .ok (.iadd, 1) := by decide +kernel
theorem dX5_pieces_59 : decode cX5_pieces 59 = .ok (.istore_n 3, 1) := by decide +kernel
theorem dX5_pieces_60 : decode cX5_pieces 60 = .ok (.iload 5, 2) := by decide +kernel
theorem dX5_pieces_62 : decode cX5_pieces 62 = .ok (.iconst 1, 1) := by decide +kernel
theorem dX5_pieces_63 : decode cX5_pieces 63 = .ok (.iload_n 2, 1) := by decide +kernel
theorem dX5_pieces_64 : decode cX5_pieces 64 = .ok (.ishl, 1) := by decide +kernel
theorem dX5_pieces_65 : decode cX5_pieces 65 = .ok (.iadd, 1) := by decide +kernel
theorem dX5_pieces_66 : decode cX5_pieces 66 = .ok (.istore 5, 2) := by decide +kernel
theorem dX5_pieces_68 : decode cX5_pieces 68 = .ok (.goto (-45), 3) := by decide +kernel
theorem dX5_pieces_71 : decode cX5_pieces 71 = .ok (.iload_n 3, 1) := by decide +kernel
theorem dX5_pieces_72 : decode cX5_pieces 72 = .ok (.ireturn, 1) := by decide +kernel
set_option maxRecDepth 20000 in
theorem ggX5_isFree_X5_in : GoodIn wsX5_isFree wsX5_in := goodIn_r _ [5] (by decide +kernel) (by decide +kernel)
set_option maxRecDepth 20000 in
theorem gX5_isFree_X5_in : GoodIn wsX5_isFree (va_wsS RX5 60 yX5_in wsX5_in) := goodIn_app (goodIn_of _ (by decide +kernel)) ggX5_isFree_X5_in
set_option maxRecDepth 20000 in
theorem ggX5_isFree_X5_asked : GoodIn wsX5_isFree wsX5_asked := goodIn_r _ [9, 10, 11, 12, 13, 14, 15, 16, 17, 18, 19, 20, 21, 22, 23, 24, 25, 26, 27, 28] (by decide +kernel) (by decide +kernel)
set_option maxRecDepth 20000 in
theorem gX5_isFree_X5_asked : GoodIn wsX5_isFree (wsV RX5 154 RX5 yX5_asked wsX5_asked) := goodIn_app (goodIn_of _ (by decide +kernel)) ggX5_isFree_X5_asked
theorem dX5_isFree_0 : decode cX5_isFree 0 = .ok (.aload_n 0, 1) := by decide +kernel
theorem dX5_isFree_1 : decode cX5_isFree 1 = .ok (.iload_n 1, 1) := by decide +kernel
theorem dX5_isFree_2 : decode cX5_isFree 2 = .ok (.iconst 0, 1) := by decide +kernel
theorem dX5_isFree_3 : decode cX5_isFree 3 = .ok (.bipush 127, 2) := by decide +kernel
theorem dX5_isFree_5 : decode cX5_isFree 5 = .ok (.invokestatic 60, 3) := by decide +kernel
theorem dX5_isFree_8 : decode cX5_isFree 8 = .ok (.invokevirtual 154, 3) := by decide +kernel
theorem dX5_isFree_11 : decode cX5_isFree 11 = .ok (.ifCond .eq 16, 3) := by decide +kernel
theorem dX5_isFree_14 : decode cX5_isFree 14 = .ok (.aload_n 0, 1) := by decide +kernel
theorem dX5_isFree_15 : decode cX5_isFree 15 = .ok (.getfield 7, 3) := by decide +kernel
theorem dX5_isFree_18 : decode cX5_isFree 18 = .ok (.iload_n 1, 1) := by decide +kernel
theorem dX5_isFree_19 : decode cX5_isFree 19 = .ok (.baload, 1) := by decide +kernel
theorem dX5_isFree_20 : decode cX5_isFree 20 = .ok (.ifCond .eq 7, 3) := by decide +kernel
theorem dX5_isFree_23 : decode cX5_isFree 23 = .ok (.iconst 1, 1) := by decide +kernel
theorem dX5_isFree_24 : decode cX5_isFree 24 = .ok (.goto 4, 3) := by decide +kernel
theorem dX5_isFree_27 : decode cX5_isFree 27 = .ok (.iconst 0, 1) := by decide +kernel
theorem dX5_isFree_28 : decode cX5_isFree 28 = .ok (.ireturn, 1) := by decide +kernel
set_option maxRecDepth 20000 in
theorem ggX5_blockAt_X5_isThere : GoodIn wsX5_blockAt wsX5_isThere := goodIn_r _ [6, 7, 8, 9, 5, 10, 16, 17, 18, 19, 20, 21, 22, 23, 24, 25, 26, 27, 28, 29, 30, 31, 32, 33] (by decide +kernel) (by decide +kernel)
set_option maxRecDepth 20000 in
theorem gX5_blockAt_X5_isThere : GoodIn wsX5_blockAt (wsV RX5 126 RX5 yX5_isThere wsX5_isThere) := goodIn_app (goodIn_of _ (by decide +kernel)) ggX5_blockAt_X5_isThere
set_option maxRecDepth 20000 in
theorem ggX5_blockAt_X5_in : GoodIn wsX5_blockAt wsX5_in := goodIn_r _ [10] (by decide +kernel) (by decide +kernel)
set_option maxRecDepth 20000 in
theorem gX5_blockAt_X5_in : GoodIn wsX5_blockAt (va_wsS RX5 60 yX5_in wsX5_in) := goodIn_app (goodIn_of _ (by decide +kernel)) ggX5_blockAt_X5_in
set_option maxRecDepth 20000 in
theorem ggX5_blockAt_X5_asked_ : GoodIn wsX5_blockAt wsX5_asked_ := goodIn_r _ [14, 15, 16, 17, 18, 19, 20, 21, 22, 23, 24, 25, 26, 27, 28, 29, 30, 31, 32, 33] (by decide +kernel) (by decide +kernel)
set_option maxRecDepth 20000 in
theorem gX5_blockAt_X5_asked_ : GoodIn wsX5_blockAt (wsV RX5 119 RX5 yX5_asked_ wsX5_asked_) := goodIn_app (goodIn_of _ (by decide +kernel)) ggX5_blockAt_X5_asked_
theorem dX5_blockAt_0 : decode cX5_blockAt 0 = .ok (.aload_n 0, 1) := by decide +kernel
theorem dX5_blockAt_1 : decode cX5_blockAt 1 = .ok (.aload_n 0, 1) := by decide +kernel
theorem dX5_blockAt_2 : decode cX5_blockAt 2 = .ok (.iload_n 1, 1) := by decide +kernel
theorem dX5_blockAt_3 : decode cX5_blockAt 3 = .ok (.invokevirtual 126, 3) := by decide +kernel
theorem dX5_blockAt_6 : decode cX5_blockAt 6 = .ok (.iload_n 2, 1) := by decide +kernel
theorem dX5_blockAt_7 : decode cX5_blockAt 7 = .ok (.iconst 0, 1) := by decide +kernel
theorem dX5_blockAt_8 : decode cX5_blockAt 8 = .ok (.bipush 63, 2) := by decide +kernel
theorem dX5_blockAt_10 : decode cX5_blockAt 10 = .ok (.invokestatic 60, 3) := by decide +kernel
theorem dX5_blockAt_13 : decode cX5_blockAt 13 = .ok (.invokevirtual 119, 3) := by decide +kernel
theorem dX5_blockAt_16 : decode cX5_blockAt 16 = .ok (.ifCond .eq 17, 3) := by decide +kernel
theorem dX5_blockAt_19 : decode cX5_blockAt 19 = .ok (.aload_n 0, 1) := by decide +kernel
theorem dX5_blockAt_20 : decode cX5_blockAt 20 = .ok (.getfield 16, 3) := by decide +kernel
theorem dX5_blockAt_23 : decode cX5_blockAt 23 = .ok (.bipush 64, 2) := by decide +kernel
theorem dX5_blockAt_25 : decode cX5_blockAt 25 = .ok (.iload_n 1, 1) := by decide +kernel
theorem dX5_blockAt_26 : decode cX5_blockAt 26 = .ok (.imul, 1) := by decide +kernel
theorem dX5_blockAt_27 : decode cX5_blockAt 27 = .ok (.iload_n 2, 1) := by decide +kernel
theorem dX5_blockAt_28 : decode cX5_blockAt 28 = .ok (.iadd, 1) := by decide +kernel
theorem dX5_blockAt_29 : decode cX5_blockAt 29 = .ok (.iaload, 1) := by decide +kernel
theorem dX5_blockAt_30 : decode cX5_blockAt 30 = .ok (.goto 4, 3) := by decide +kernel
theorem dX5_blockAt_33 : decode cX5_blockAt 33 = .ok (.iconst 0, 1) := by decide +kernel
theorem dX5_blockAt_34 : decode cX5_blockAt 34 = .ok (.ireturn, 1) := by decide +kernel
theorem dX5_isBegin_0 : decode cX5_isBegin 0 = .ok (.bipush 64, 2) := by decide +kernel
theorem dX5_isBegin_2 : decode cX5_isBegin 2 = .ok (.iload_n 1, 1) := by decide +kernel
theorem dX5_isBegin_3 : decode cX5_isBegin 3 = .ok (.imul, 1) := by decide +kernel
theorem dX5_isBegin_4 : decode cX5_isBegin 4 = .ok (.iload_n 2, 1) := by decide +kernel
theorem dX5_isBegin_5 : decode cX5_isBegin 5 = .ok (.iadd, 1) := by decide +kernel
theorem dX5_isBegin_6 : decode cX5_isBegin 6 = .ok (.istore_n 3, 1) := by decide +kernel
theorem dX5_isBegin_7 : decode cX5_isBegin 7 = .ok (.aload_n 0, 1) := by decide +kernel
theorem dX5_isBegin_8 : decode cX5_isBegin 8 = .ok (.getfield 16, 3) := by decide +kernel
theorem dX5_isBegin_11 : decode cX5_isBegin 11 = .ok (.iload_n 3, 1) := by decide +kernel
theorem dX5_isBegin_12 : decode cX5_isBegin 12 = .ok (.iaload, 1) := by decide +kernel
theorem dX5_isBegin_13 : decode cX5_isBegin 13 = .ok (.ifCond .lt 41, 3) := by decide +kernel
theorem dX5_isBegin_16 : decode cX5_isBegin 16 = .ok (.iload_n 2, 1) := by decide +kernel
theorem dX5_isBegin_17 : decode cX5_isBegin 17 = .ok (.ifCond .eq 33, 3) := by decide +kernel
theorem dX5_isBegin_20 : decode cX5_isBegin 20 = .ok (.aload_n 0, 1) := by decide +kernel
theorem dX5_isBegin_21 : decode cX5_isBegin 21 = .ok (.getfield 16, 3) := by decide +kernel
theorem dX5_isBegin_24 : decode cX5_isBegin 24 = .ok (.iload_n 3, 1) := by decide +kernel
theorem dX5_isBegin_25 : decode cX5_isBegin 25 = .ok (.iconst 1, 1) := by decide +kernel
theorem dX5_isBegin_26 : decode cX5_isBegin 26 = .ok (.isub, 1) := by decide +kernel
theorem dX5_isBegin_27 : decode cX5_isBegin 27 = .ok (.iaload, 1) := by decide +kernel
theorem dX5_isBegin_28 : decode cX5_isBegin 28 = .ok (.ifCond .lt 22, 3) := by decide +kernel
theorem dX5_isBegin_31 : decode cX5_isBegin 31 = .ok (.aload_n 0, 1) := by decide +kernel
theorem dX5_isBegin_32 : decode cX5_isBegin 32 = .ok (.getfield 16, 3) := by decide +kernel
theorem dX5_isBegin_35 : decode cX5_isBegin 35 = .ok (.iload_n 3, 1) := by decide +kernel
theorem dX5_isBegin_36 : decode cX5_isBegin 36 = .ok (.iconst 1, 1) := by decide +kernel
theorem dX5_isBegin_37 : decode cX5_isBegin 37 = .ok (.isub, 1) := by decide +kernel
theorem dX5_isBegin_38 : decode cX5_isBegin 38 = .ok (.iaload, 1) := by decide +kernel
theorem dX5_isBegin_39 : decode cX5_isBegin 39 = .ok (.iconst 1, 1) := by decide +kernel
theorem dX5_isBegin_40 : decode cX5_isBegin 40 = .ok (.iadd, 1) := by decide +kernel
theorem dX5_isBegin_41 : decode cX5_isBegin 41 = .ok (.aload_n 0, 1) := by decide +kernel
theorem dX5_isBegin_42 : decode cX5_isBegin 42 = .ok (.getfield 16, 3) := by decide +kernel
theorem dX5_isBegin_45 : decode cX5_isBegin 45 = .ok (.iload_n 3, 1) := by decide +kernel
theorem dX5_isBegin_46 : decode cX5_isBegin 46 = .ok (.iaload, 1) := by decide +kernel
theorem dX5_isBegin_47 : decode cX5_isBegin 47 = .ok (.if_icmp .eq 7, 3) := by decide +kernel
theorem dX5_isBegin_50 : decode cX5_isBegin 50 = .ok (.iconst 1, 1) := by decide +kernel
theorem dX5_isBegin_51 : decode cX5_isBegin 51 = .ok (.goto 4, 3) := by decide +kernel
theorem dX5_isBegin_54 : decode cX5_isBegin 54 = .ok (.iconst 0, 1) := by decide +kernel
theorem dX5_isBegin_55 : decode cX5_isBegin 55 = .ok (.ireturn, 1) := by decide +kernel
set_option maxRecDepth 20000 in
theorem ggX5_extentsOf_X5_isBegin : GoodIn wsX5_extentsOf wsX5_isBegin := goodIn_r _ [5, 6, 7, 8, 9, 10, 11, 12, 13, 14, 15, 16, 17, 18, 19, 20, 21, 22, 23, 24] (by decide +kernel) (by decide +kernel)
set_option maxRecDepth 20000 in
theorem gX5_extentsOf_X5_isBegin : GoodIn wsX5_extentsOf (wsV RX5 160 RX5 yX5_isBegin wsX5_isBegin) := goodIn_app (goodIn_of _ (by decide +kernel)) ggX5_extentsOf_X5_isBegin
theorem dX5_extentsOf_0 : decode cX5_extentsOf 0 = .ok (.iconst 0, 1) := by decide +kernel
theorem dX5_extentsOf_1 : decode cX5_extentsOf 1 = .ok (.istore_n 2, 1) := by decide +kernel
theorem dX5_extentsOf_2 : decode cX5_extentsOf 2 = .ok (.iconst 0, 1) := by decide +kernel
theorem dX5_extentsOf_3 : decode cX5_extentsOf 3 = .ok (.istore_n 3, 1) := by decide +kernel
theorem dX5_extentsOf_4 : decode cX5_extentsOf 4 = .ok (.iload_n 3, 1) := by decide +kernel
theorem dX5_extentsOf_5 : decode cX5_extentsOf 5 = .ok (.bipush 64, 2) := by decide +kernel
theorem dX5_extentsOf_7 : decode cX5_extentsOf 7 = .ok (.if_icmp .ge 26, 3) := by decide +kernel
theorem dX5_extentsOf_10 : decode cX5_extentsOf 10 = .ok (.iload_n 2, 1) := by decide +kernel
theorem dX5_extentsOf_11 : decode cX5_extentsOf 11 = .ok (.aload_n 0, 1) := by decide +kernel
theorem dX5_extentsOf_12 : decode cX5_extentsOf 12 = .ok (.iload_n 1, 1) := by decide +kernel
theorem dX5_extentsOf_13 : decode cX5_extentsOf 13 = .ok (.iload_n 3, 1) := by decide +kernel
theorem dX5_extentsOf_14 : decode cX5_extentsOf 14 = .ok (.invokevirtual 160, 3) := by decide +kernel
theorem dX5_extentsOf_17 : decode cX5_extentsOf 17 = .ok (.ifCond .eq 7, 3) := by decide +kernel
theorem dX5_extentsOf_20 : decode cX5_extentsOf 20 = .ok (.iconst 1, 1) := by decide +kernel
theorem dX5_extentsOf_21 : decode cX5_extentsOf 21 = .ok (.goto 4, 3) := by decide +kernel
theorem dX5_extentsOf_24 : decode cX5_extentsOf 24 = .ok (.iconst 0, 1) := by decide +kernel
theorem dX5_extentsOf_25 : decode cX5_extentsOf 25 = .ok (.iadd, 1) := by decide +kernel
theorem dX5_extentsOf_26 : decode cX5_extentsOf 26 = .ok (.istore_n 2, 1) := by decide +kernel
theorem dX5_extentsOf_27 : decode cX5_extentsOf 27 = .ok (.iinc 3 1, 3) := by decide +kernel
theorem dX5_extentsOf_30 : decode cX5_extentsOf 30 = .ok (.goto (-26), 3) := by decide +kernel
theorem dX5_extentsOf_33 : decode cX5_extentsOf 33 = .ok (.iload_n 2, 1) := by decide +kernel
theorem dX5_extentsOf_34 : decode cX5_extentsOf 34 = .ok (.ireturn, 1) := by decide +kernel
set_option maxRecDepth 20000 in
theorem ggX5_extents_X5_isThere : GoodIn wsX5_extents wsX5_isThere := goodIn_r _ [5, 6, 7, 8, 4, 9, 24, 25, 26, 27, 28, 29, 30, 31, 32, 33, 34, 35, 36, 37, 38, 39, 40, 41] (by decide +kernel) (by decide +kernel)
set_option maxRecDepth 20000 in
theorem gX5_extents_X5_isThere : GoodIn wsX5_extents (wsV RX5 126 RX5 yX5_isThere wsX5_isThere) := goodIn_app (goodIn_of _ (by decide +kernel)) ggX5_extents_X5_isThere
set_option maxRecDepth 20000 in
theorem ggX5_extents_X5_asked : GoodIn wsX5_extents wsX5_asked := goodIn_r _ [13, 14, 24, 25, 26, 27, 28, 29, 30, 31, 32, 33, 34, 35, 36, 37, 38, 39, 40, 41] (by decide +kernel) (by decide +kernel)
set_option maxRecDepth 20000 in
theorem gX5_extents_X5_asked : GoodIn wsX5_extents (wsV RX5 154 RX5 yX5_asked wsX5_asked) := goodIn_app (goodIn_of _ (by decide +kernel)) ggX5_extents_X5_asked
set_option maxRecDepth 20000 in
theorem ggX5_extents_X5_extentsOf : GoodIn wsX5_extents wsX5_extentsOf := goodIn_r _ [18, 19, 20, 21, 4, 22, 23, 24, 25, 26, 27, 28, 29, 30, 31, 32, 33, 34, 35, 36, 37, 38, 39, 40, 41] (by decide +kernel) (by decide +kernel)
set_option maxRecDepth 20000 in
theorem gX5_extents_X5_extentsOf : GoodIn wsX5_extents (wsV RX5 163 RX5 yX5_extentsOf wsX5_extentsOf) := goodIn_app (goodIn_of _ (by decide +kernel)) ggX5_extents_X5_extentsOf
theorem dX5_extents_0 : decode cX5_extents 0 = .ok (.aload_n 0, 1) := by decide +kernel
theorem dX5_extents_1 : decode cX5_extents 1 = .ok (.aload_n 0, 1) := by decide +kernel
theorem dX5_extents_2 : decode cX5_extents 2 = .ok (.iload_n 1, 1) := by decide +kernel
theorem dX5_extents_3 : decode cX5_extents 3 = .ok (.invokevirtual 126, 3) := by decide +kernel
theorem dX5_extents_6 : decode cX5_extents 6 = .ok (.invokevirtual 154, 3) := by decide +kernel
theorem dX5_extents_9 : decode cX5_extents 9 = .ok (.ifCond .eq 11, 3) := by decide +kernel
theorem dX5_extents_12 : decode cX5_extents 12 = .ok (.aload_n 0, 1) := by decide +kernel
theorem dX5_extents_13 : decode cX5_extents 13 = .ok (.iload_n 1, 1) := by decide +kernel
theorem dX5_extents_14 : decode cX5_extents 14 = .ok (.invokevirtual 163, 3) := by decide +kernel
theorem dX5_extents_17 : decode cX5_extents 17 = .ok (.goto 4, 3) := by decide +kernel
theorem dX5_extents_20 : decode cX5_extents 20 = .ok (.iconst 0, 1) := by decide +kernel
theorem dX5_extents_21 : decode cX5_extents 21 = .ok (.ireturn, 1) := by decide +kernel
set_option maxRecDepth 20000 in
theorem ggX5_extent_X5_isThere : GoodIn wsX5_extent wsX5_isThere := goodIn_r _ [6, 7, 8, 9, 5, 10, 24, 25, 26, 27, 28, 29, 30, 31, 32, 33, 34, 35, 36, 37, 38, 39, 40, 41] (by decide +kernel) (by decide +kernel)
set_option maxRecDepth 20000 in
theorem gX5_extent_X5_isThere : GoodIn wsX5_extent (wsV RX5 126 RX5 yX5_isThere wsX5_isThere) := goodIn_app (goodIn_of _ (by decide +kernel)) ggX5_extent_X5_isThere
set_option maxRecDepth 20000 in
theorem ggX5_extent_X5_extentsOf : GoodIn wsX5_extent wsX5_extentsOf := goodIn_r _ [14, 15, 16, 17, 5, 18, 1, 24, 25, 26, 27, 28, 29, 30, 31, 32, 33, 34, 35, 36, 37, 38, 39, 40, 41] (by decide +kernel) (by decide +kernel)
set_option maxRecDepth 20000 in
theorem gX5_extent_X5_extentsOf : GoodIn wsX5_extent (wsV RX5 163 RX5 yX5_extentsOf wsX5_extentsOf) := goodIn_app (goodIn_of _ (by decide +kernel)) ggX5_extent_X5_extentsOf
set_option maxRecDepth 20000 in
theorem ggX5_extent_X5_in : GoodIn wsX5_extent wsX5_in := goodIn_r _ [10] (by decide +kernel) (by decide +kernel)
set_option maxRecDepth 20000 in
theorem gX5_extent_X5_in : GoodIn wsX5_extent (va_wsS RX5 60 yX5_in wsX5_in) := goodIn_app (goodIn_of _ (by decide +kernel)) ggX5_extent_X5_in
set_option maxRecDepth 20000 in
theorem ggX5_extent_X5_asked : GoodIn wsX5_extent wsX5_asked := goodIn_r _ [22, 23, 24, 25, 26, 27, 28, 29, 30, 31, 32, 33, 34, 35, 36, 37, 38, 39, 40, 41] (by decide +kernel) (by decide +kernel)
set_option maxRecDepth 20000 in
theorem gX5_extent_X5_asked : GoodIn wsX5_extent (wsV RX5 154 RX5 yX5_asked wsX5_asked) := goodIn_app (goodIn_of _ (by decide +kernel)) ggX5_extent_X5_asked
set_option maxRecDepth 20000 in
theorem ggX5_extent_X5_isBegin : GoodIn wsX5_extent wsX5_isBegin := goodIn_r _ [18, 1, 24, 25, 26, 27, 28, 29, 30, 31, 32, 33, 34, 35, 36, 37, 38, 39, 40, 41] (by decide +kernel) (by decide +kernel)
set_option maxRecDepth 20000 in
theorem gX5_extent_X5_isBegin : GoodIn wsX5_extent (wsV RX5 160 RX5 yX5_isBegin wsX5_isBegin) := goodIn_app (goodIn_of _ (by decide +kernel)) ggX5_extent_X5_isBegin
theorem dX5_extent_0 : decode cX5_extent 0 = .ok (.aload_n 0, 1) := by decide +kernel
theorem dX5_extent_1 : decode cX5_extent 1 = .ok (.iload_n 1, 1) := by decide +kernel
theorem dX5_extent_2 : decode cX5_extent 2 = .ok (.invokevirtual 126, 3) := by decide +kernel
theorem dX5_extent_5 : decode cX5_extent 5 = .ok (.istore_n 3, 1) := by decide +kernel
theorem dX5_extent_6 : decode cX5_extent 6 = .ok (.aload_n 0, 1) := by decide +kernel
theorem dX5_extent_7 : decode cX5_extent 7 = .ok (.iload_n 3, 1) := by decide +kernel
theorem dX5_extent_8 : decode cX5_extent 8 = .ok (.ifCond .eq 22, 3) := by decide +kernel
theorem dX5_extent_11 : decode cX5_extent 11 = .ok (.iload_n 2, 1) := by decide +kernel
theorem dX5_extent_12 : decode cX5_extent 12 = .ok (.iconst 0, 1) := by decide +kernel
theorem dX5_extent_13 : decode cX5_extent 13 = .ok (.aload_n 0, 1) := by decide +kernel
theorem dX5_extent_14 : decode cX5_extent 14 = .ok (.iload_n 1, 1) := by decide +kernel
theorem dX5_extent_15 : decode cX5_extent 15 = .ok (.invokevirtual 163, 3) := by decide +kernel
theorem dX5_extent_18 : decode cX5_extent 18 = .ok (.iconst 1, 1) := by decide +kernel
theorem dX5_extent_19 : decode cX5_extent 19 = .ok (.isub, 1) := by decide +kernel
theorem dX5_extent_20 : decode cX5_extent 20 = .ok (.invokestatic 60, 3) := by decide +kernel
theorem dX5_extent_23 : decode cX5_extent 23 = .ok (.ifCond .eq 7, 3) := by decide +kernel
theorem dX5_extent_26 : decode cX5_extent 26 = .ok (.iconst 1, 1) := by decide +kernel
theorem dX5_extent_27 : decode cX5_extent 27 = .ok (.goto 4, 3) := by decide +kernel
theorem dX5_extent_30 : decode cX5_extent 30 = .ok (.iconst 0, 1) := by decide +kernel
theorem dX5_extent_31 : decode cX5_extent 31 = .ok (.invokevirtual 154, 3) := by decide +kernel
theorem dX5_extent_34 : decode cX5_extent 34 = .ok (.ifCond .ne 5, 3) := by decide +kernel
theorem dX5_extent_37 : decode cX5_extent 37 = .ok (.iconst 0, 1) := by decide +kernel
theorem dX5_extent_38 : decode cX5_extent 38 = .ok (.ireturn, 1) := by decide +kernel
theorem dX5_extent_39 : decode cX5_extent 39 = .ok (.iconst (-1), 1) := by decide +kernel
theorem dX5_extent_40 : decode cX5_extent 40 = .ok (.istore 4, 2) := by decide +kernel
theorem dX5_extent_42 : decode cX5_extent 42 = .ok (.iconst (-1), 1) := by decide +kernel
theorem dX5_extent_43 : decode cX5_extent 43 = .ok (.istore 5, 2) := by decide +kernel
theorem dX5_extent_45 : decode cX5_extent 45 = .ok (.iload 5, 2) := by decide +kernel
theorem dX5_extent_47 : decode cX5_extent 47 = .ok (.iload_n 2, 1) := by decide +kernel
theorem dX5_extent_48 : decode cX5_extent 48 = .ok (.if_icmp .ge 29, 3) := by decide +kernel
theorem dX5_extent_51 : decode cX5_extent 51 = .ok (.iinc 4 1, 3) := by decide +kernel
theorem dX5_extent_54 : decode cX5_extent 54 = .ok (.iload 5, 2) := by decide +kernel
theorem dX5_extent_56 : decode cX5_extent 56 = .ok (.aload_n 0, 1) := by decide +kernel
theorem dX5_extent_57 : decode cX5_extent 57 = .ok (.iload_n 1, 1) := by decide +kernel
theorem dX5_extent_58 : decode cX5_extent 58 = .ok (.iload 4, 2) := by decide +kernel
theorem dX5_extent_60 : decode cX5_extent 60 = .ok (.invokevirtual 160, 3) := by decide +kernel
theorem dX5_extent_63 : decode cX5_extent 63 = .ok (.ifCond .eq 7, 3) := by decide +kernel
theorem dX5_extent_66 : decode cX5_extent 66 = .ok (.iconst 1, 1) := by decide +kernel
theorem dX5_extent_67 : decode cX5_extent 67 = .ok (.goto 4, 3) := by decide +kernel
theorem dX5_extent_70 : decode cX5_extent 70 = .ok (.iconst 0, 1) := by decide +kernel
theorem dX5_extent_71 : decode cX5_extent 71 = .ok (.iadd, 1) := by decide +kernel
theorem dX5_extent_72 : decode cX5_extent 72 = .ok (.istore 5, 2) := by decide +kernel
theorem dX5_extent_74 : decode cX5_extent 74 = .ok (.goto (-29), 3) := by decide +kernel
theorem dX5_extent_77 : decode cX5_extent 77 = .ok (.iconst 1, 1) := by decide +kernel
theorem dX5_extent_78 : decode cX5_extent 78 = .ok (.istore 5, 2) := by decide +kernel
theorem dX5_extent_80 : decode cX5_extent 80 = .ok (.iload 4, 2) := by decide +kernel
theorem dX5_extent_82 : decode cX5_extent 82 = .ok (.iload 5, 2) := by decide +kernel
theorem dX5_extent_84 : decode cX5_extent 84 = .ok (.iadd, 1) := by decide +kernel
theorem dX5_extent_85 : decode cX5_extent 85 = .ok (.bipush 64, 2) := by decide +kernel
theorem dX5_extent_87 : decode cX5_extent 87 = .ok (.if_icmp .ge 40, 3) := by decide +kernel
theorem dX5_extent_90 : decode cX5_extent 90 = .ok (.aload_n 0, 1) := by decide +kernel
theorem dX5_extent_91 : decode cX5_extent 91 = .ok (.getfield 16, 3) := by decide +kernel
theorem dX5_extent_94 : decode cX5_extent 94 = .ok (.bipush 64, 2) := by decide +kernel
theorem dX5_extent_96 : decode cX5_extent 96 = .ok (.iload_n 1, 1) := by decide +kernel
theorem dX5_extent_97 : decode cX5_extent 97 = .ok (.imul, 1) := by decide +kernel
theorem dX5_extent_98 : decode cX5_extent 98 = .ok (.iload 4, 2) := by decide +kernel
theorem dX5_extent_100 : decode cX5_extent 100 = .ok (.iadd, 1) := by decide +kernel
theorem dX5_extent_101 : decode cX5_extent 101 = .ok (.iload 5, 2) := by decide +kernel
theorem dX5_extent_103 : decode cX5_extent 103 = .ok (.iadd, 1) := by decide +kernel
theorem dX5_extent_104 : decode cX5_extent 104 = .ok (.iaload, 1) := by decide +kernel
theorem dX5_extent_105 : decode cX5_extent 105 = .ok (.ifCond .lt 22, 3) := by decide +kernel
theorem dX5_extent_108 : decode cX5_extent 108 = .ok (.aload_n 0, 1) := by decide +kernel
theorem dX5_extent_109 : decode cX5_extent 109 = .ok (.iload_n 1, 1) := by decide +kernel
theorem dX5_extent_110 : decode cX5_extent 110 = .ok (.iload 4, 2) := by decide +kernel
theorem dX5_extent_112 : decode cX5_extent 112 = .ok (.iload 5, 2) := by decide +kernel
theorem dX5_extent_114 : decode cX5_extent 114 = .ok (.iadd, 1) := by decide +kernel
theorem dX5_extent_115 : decode cX5_extent 115 = .ok (.invokevirtual 160, 3) := by decide +kernel
theorem dX5_extent_118 : decode cX5_extent 118 = .ok (.ifCond .ne 9, 3) := by decide +kernel
theorem dX5_extent_121 : decode cX5_extent 121 = .ok (.iinc 5 1, 3) := by decide +kernel
theorem dX5_extent_124 : decode cX5_extent 124 = .ok (.goto (-44), 3) := by decide +kernel
theorem dX5_extent_127 : decode cX5_extent 127 = .ok (.sipush 10000, 3) := by decide +kernel
theorem dX5_extent_130 : decode cX5_extent 130 = .ok (.iload 4, 2) := by decide +kernel
theorem dX5_extent_132 : decode cX5_extent 132 = .ok (.imul, 1) := by decide +kernel
theorem dX5_extent_133 : decode cX5_extent 133 = .ok (.bipush 100, 2) := by decide +kernel
theorem dX5_extent_135 : decode cX5_extent 135 = .ok (.iload 5, 2) := by decide +kernel
theorem dX5_extent_137 : decode cX5_extent 137 = .ok (.imul, 1) := by decide +kernel
theorem dX5_extent_138 : decode cX5_extent 138 = .ok (.iadd, 1) := by decide +kernel
theorem dX5_extent_139 : decode cX5_extent 139 = .ok (.aload_n 0, 1) := by decide +kernel
theorem dX5_extent_140 : decode cX5_extent 140 = .ok (.getfield 16, 3) := by decide +kernel
theorem dX5_extent_143 : decode cX5_extent 143 = .ok (.bipush 64, 2) := by decide +kernel
theorem dX5_extent_145 : decode cX5_extent 145 = .ok (.iload_n 1, 1) := by decide +kernel
theorem dX5_extent_146 : decode cX5_extent 146 = .ok (.imul, 1) := by decide +kernel
theorem dX5_extent_147 : decode cX5_extent 147 = .ok (.iload 4, 2) := by decide +kernel
theorem dX5_extent_149 : decode cX5_extent 149 = .ok (.iadd, 1) := by decide +kernel
theorem dX5_extent_150 : decode cX5_extent 150 = .ok (.iaload, 1) := by decide +kernel
theorem dX5_extent_151 : decode cX5_extent 151 = .ok (.bipush 100, 2) := by decide +kernel
theorem dX5_extent_153 : decode cX5_extent 153 = .ok (.irem, 1) := by decide +kernel
theorem dX5_extent_154 : decode cX5_extent 154 = .ok (.iadd, 1) := by decide +kernel
theorem dX5_extent_155 : decode cX5_extent 155 = .ok (.ireturn, 1) := by decide +kernel
set_option maxRecDepth 20000 in
theorem ggX5_average_X5_isThere : GoodIn wsX5_average wsX5_isThere := goodIn_r _ [6, 7, 8, 9, 5, 10, 24, 25, 26, 27, 28, 29, 30, 31, 32, 33, 34, 35, 36, 37, 38, 39, 40, 41] (by decide +kernel) (by decide +kernel)
set_option maxRecDepth 20000 in
theorem gX5_average_X5_isThere : GoodIn wsX5_average (wsV RX5 126 RX5 yX5_isThere wsX5_isThere) := goodIn_app (goodIn_of _ (by decide +kernel)) ggX5_average_X5_isThere
set_option maxRecDepth 20000 in
theorem ggX5_average_X5_asked : GoodIn wsX5_average wsX5_asked := goodIn_r _ [14, 15, 24, 25, 26, 27, 28, 29, 30, 31, 32, 33, 34, 35, 36, 37, 38, 39, 40, 41] (by decide +kernel) (by decide +kernel)
set_option maxRecDepth 20000 in
theorem gX5_average_X5_asked : GoodIn wsX5_average (wsV RX5 154 RX5 yX5_asked wsX5_asked) := goodIn_app (goodIn_of _ (by decide +kernel)) ggX5_average_X5_asked
set_option maxRecDepth 20000 in
theorem ggX5_average_X5_extentsOf : GoodIn wsX5_average wsX5_extentsOf := goodIn_r _ [19, 20, 21, 22, 5, 23, 1, 24, 25, 26, 27, 28, 29, 30, 31, 32, 33, 34, 35, 36, 37, 38, 39, 40, 41] (by decide +kernel) (by decide +kernel)
set_option maxRecDepth 20000 in
theorem gX5_average_X5_extentsOf : GoodIn wsX5_average (wsV RX5 163 RX5 yX5_extentsOf wsX5_extentsOf) := goodIn_app (goodIn_of _ (by decide +kernel)) ggX5_average_X5_extentsOf
theorem dX5_average_0 : decode cX5_average 0 = .ok (.aload_n 0, 1) := by decide +kernel
theorem dX5_average_1 : decode cX5_average 1 = .ok (.aload_n 0, 1) := by decide +kernel
theorem dX5_average_2 : decode cX5_average 2 = .ok (.iload_n 1, 1) := by decide +kernel
theorem dX5_average_3 : decode cX5_average 3 = .ok (.invokevirtual 126, 3) := by decide +kernel
theorem dX5_average_6 : decode cX5_average 6 = .ok (.invokevirtual 154, 3) := by decide +kernel
theorem dX5_average_9 : decode cX5_average 9 = .ok (.ifCond .ne 5, 3) := by decide +kernel
theorem dX5_average_12 : decode cX5_average 12 = .ok (.fconst 0, 1) := by decide +kernel
theorem dX5_average_13 : decode cX5_average 13 = .ok (.freturn, 1) := by decide +kernel
theorem dX5_average_14 : decode cX5_average 14 = .ok (.iconst 0, 1) := by decide +kernel
theorem dX5_average_15 : decode cX5_average 15 = .ok (.istore_n 2, 1) := by decide +kernel
theorem dX5_average_16 : decode cX5_average 16 = .ok (.iconst 0, 1) := by decide +kernel
theorem dX5_average_17 : decode cX5_average 17 = .ok (.istore_n 3, 1) := by decide +kernel
theorem dX5_average_18 : decode cX5_average 18 = .ok (.iload_n 3, 1) := by decide +kernel
theorem dX5_average_19 : decode cX5_average 19 = .ok (.bipush 64, 2) := by decide +kernel
theorem dX5_average_21 : decode cX5_average 21 = .ok (.if_icmp .ge 31, 3) := by decide +kernel
theorem dX5_average_24 : decode cX5_average 24 = .ok (.iload_n 2, 1) := by decide +kernel
theorem dX5_average_25 : decode cX5_average 25 = .ok (.aload_n 0, 1) := by decide +kernel
theorem dX5_average_26 : decode cX5_average 26 = .ok (.getfield 16, 3) := by decide +kernel
theorem dX5_average_29 : decode cX5_average 29 = .ok (.bipush 64, 2) := by decide +kernel
theorem dX5_average_31 : decode cX5_average 31 = .ok (.iload_n 1, 1) := by decide +kernel
theorem dX5_average_32 : decode cX5_average 32 = .ok (.imul, 1) := by decide +kernel
theorem dX5_average_33 : decode cX5_average 33 = .ok (.iload_n 3, 1) := by decide +kernel
theorem dX5_average_34 : decode cX5_average 34 = .ok (.iadd, 1) := by decide +kernel
theorem dX5_average_35 : decode cX5_average 35 = .ok (.iaload, 1) := by decide +kernel
theorem dX5_average_36 : decode cX5_average 36 = .ok (.ifCond .lt 7, 3) := by decide +kernel
theorem dX5_average_39 : decode cX5_average 39 = .ok (.iconst 1, 1) := by decide +kernel
theorem dX5_average_40 : decode cX5_average 40 = .ok (.goto 4, 3) := by decide +kernel
theorem dX5_average_43 : decode cX5_average 43 = .ok (.iconst 0, 1) := by decide +kernel
theorem dX5_average_44 : decode cX5_average 44 = .ok (.iadd, 1) := by decide +kernel
theorem dX5_average_45 : decode cX5_average 45 = .ok (.istore_n 2, 1) := by decide +kernel
theorem dX5_average_46 : decode cX5_average 46 = .ok (.iinc 3 1, 3) := by decide +kernel
theorem dX5_average_49 : decode cX5_average 49 = .ok (.goto (-31), 3) := by decide +kernel
theorem dX5_average_52 : decode cX5_average 52 = .ok (.aload_n 0, 1) := by decide +kernel
theorem dX5_average_53 : decode cX5_average 53 = .ok (.iload_n 1, 1) := by decide +kernel
theorem dX5_average_54 : decode cX5_average 54 = .ok (.invokevirtual 163, 3) := by decide +kernel
theorem dX5_average_57 : decode cX5_average 57 = .ok (.istore_n 3, 1) := by decide +kernel
theorem dX5_average_58 : decode cX5_average 58 = .ok (.iload_n 3, 1) := by decide +kernel
theorem dX5_average_59 : decode cX5_average 59 = .ok (.ifCond .ne 7, 3) := by decide +kernel
theorem dX5_average_62 : decode cX5_average 62 = .ok (.fconst 0, 1) := by decide +kernel
theorem dX5_average_63 : decode cX5_average 63 = .ok (.goto 8, 3) := by decide +kernel
theorem dX5_average_66 : decode cX5_average 66 = .ok (.iload_n 2, 1) := by decide +kernel
theorem dX5_average_67 : decode cX5_average 67 = .ok (.i2f, 1) := by decide +kernel
theorem dX5_average_68 : decode cX5_average 68 = .ok (.iload_n 3, 1) := by decide +kernel
theorem dX5_average_69 : decode cX5_average 69 = .ok (.i2f, 1) := by decide +kernel
theorem dX5_average_70 : decode cX5_average 70 = .ok (.fdiv, 1) := by decide +kernel
theorem dX5_average_71 : decode cX5_average 71 = .ok (.freturn, 1) := by decide +kernel
set_option maxRecDepth 20000 in
theorem ggX5_fileOf_X5_isName : GoodIn wsX5_fileOf wsX5_isName := goodIn_r _ [5, 6, 7, 4, 8] (by decide +kernel) (by decide +kernel)
set_option maxRecDepth 20000 in
theorem gX5_fileOf_X5_isName : GoodIn wsX5_fileOf (va_wsS RX5 115 yX5_isName wsX5_isName) := goodIn_app (goodIn_of _ (by decide +kernel)) ggX5_fileOf_X5_isName
set_option maxRecDepth 20000 in
theorem ggX5_fileOf_X5_asked : GoodIn wsX5_fileOf wsX5_asked := goodIn_r _ [12, 13, 14, 15, 16, 17, 18, 19, 20, 21, 22, 23, 24, 25, 26, 27, 28, 29, 30, 31] (by decide +kernel) (by decide +kernel)
set_option maxRecDepth 20000 in
theorem gX5_fileOf_X5_asked : GoodIn wsX5_fileOf (wsV RX5 154 RX5 yX5_asked wsX5_asked) := goodIn_app (goodIn_of _ (by decide +kernel)) ggX5_fileOf_X5_asked
theorem dX5_fileOf_0 : decode cX5_fileOf 0 = .ok (.aload_n 0, 1) := by decide +kernel
theorem dX5_fileOf_1 : decode cX5_fileOf 1 = .ok (.iload_n 1, 1) := by decide +kernel
theorem dX5_fileOf_2 : decode cX5_fileOf 2 = .ok (.invokestatic 115, 3) := by decide +kernel
theorem dX5_fileOf_5 : decode cX5_fileOf 5 = .ok (.invokevirtual 154, 3) := by decide +kernel
theorem dX5_fileOf_8 : decode cX5_fileOf 8 = .ok (.ifCond .eq 14, 3) := by decide +kernel
theorem dX5_fileOf_11 : decode cX5_fileOf 11 = .ok (.aload_n 0, 1) := by decide +kernel
theorem dX5_fileOf_12 : decode cX5_fileOf 12 = .ok (.getfield 38, 3) := by decide +kernel
theorem dX5_fileOf_15 : decode cX5_fileOf 15 = .ok (.iload_n 1, 1) := by decide +kernel
theorem dX5_fileOf_16 : decode cX5_fileOf 16 = .ok (.iaload, 1) := by decide +kernel
theorem dX5_fileOf_17 : decode cX5_fileOf 17 = .ok (.iconst 1, 1) := by decide +kernel
theorem dX5_fileOf_18 : decode cX5_fileOf 18 = .ok (.isub, 1) := by decide +kernel
theorem dX5_fileOf_19 : decode cX5_fileOf 19 = .ok (.goto 4, 3) := by decide +kernel
theorem dX5_fileOf_22 : decode cX5_fileOf 22 = .ok (.iconst 0, 1) := by decide +kernel
theorem dX5_fileOf_23 : decode cX5_fileOf 23 = .ok (.ireturn, 1) := by decide +kernel
set_option maxRecDepth 20000 in
theorem ggX5_leaves_X5_told : GoodIn wsX5_leaves wsX5_told := goodIn_r _ [6, 7, 8, 9, 10, 11, 12, 13, 14, 15, 16, 17, 18, 19, 20, 21, 22, 23, 24, 25] (by decide +kernel) (by decide +kernel)
set_option maxRecDepth 20000 in
theorem gX5_leaves_X5_told : GoodIn wsX5_leaves (wsV RX5 157 RX5 yX5_told wsX5_told) := goodIn_app (goodIn_of _ (by decide +kernel)) ggX5_leaves_X5_told
theorem dX5_leaves_0 : decode cX5_leaves 0 = .ok (.aload_n 0, 1) := by decide +kernel
theorem dX5_leaves_1 : decode cX5_leaves 1 = .ok (.aload_n 0, 1) := by decide +kernel
theorem dX5_leaves_2 : decode cX5_leaves 2 = .ok (.getfield 53, 3) := by decide +kernel
theorem dX5_leaves_5 : decode cX5_leaves 5 = .ok (.invokevirtual 157, 3) := by decide +kernel
theorem dX5_leaves_8 : decode cX5_leaves 8 = .ok (.ireturn, 1) := by decide +kernel
set_option maxRecDepth 20000 in
theorem ggX5_looks_X5_isName : GoodIn wsX5_looks wsX5_isName := goodIn_r _ [4, 5, 6, 3, 7] (by decide +kernel) (by decide +kernel)
set_option maxRecDepth 20000 in
theorem gX5_looks_X5_isName : GoodIn wsX5_looks (va_wsS RX5 115 yX5_isName wsX5_isName) := goodIn_app (goodIn_of _ (by decide +kernel)) ggX5_looks_X5_isName
set_option maxRecDepth 20000 in
theorem ggX5_looks_X5_asked : GoodIn wsX5_looks wsX5_asked := goodIn_r _ [11, 12, 37, 38, 39, 40, 41, 42, 43, 44, 45, 46, 47, 48, 49, 50, 51, 52, 53, 54] (by decide +kernel) (by decide +kernel)
set_option maxRecDepth 20000 in
theorem gX5_looks_X5_asked : GoodIn wsX5_looks (wsV RX5 154 RX5 yX5_asked wsX5_asked) := goodIn_app (goodIn_of _ (by decide +kernel)) ggX5_looks_X5_asked
set_option maxRecDepth 20000 in
theorem ggX5_looks_X5_begins : GoodIn wsX5_looks wsX5_begins := goodIn_r _ [16, 17, 18, 19, 20, 3, 21, 22, 23, 24, 25, 26, 37, 38, 39, 40, 41, 42, 43, 44, 45, 46, 47, 48, 49, 50, 51, 52, 53, 54] (by decide +kernel) (by decide +kernel)
set_option maxRecDepth 20000 in
theorem gX5_looks_X5_begins : GoodIn wsX5_looks (wsV RX5 89 RX5 yX5_begins wsX5_begins) := goodIn_app (goodIn_of _ (by decide +kernel)) ggX5_looks_X5_begins
set_option maxRecDepth 20000 in
theorem ggX5_looks_X5_goesOn : GoodIn wsX5_looks wsX5_goesOn := goodIn_r _ [30, 26, 17, 18, 31, 32, 33, 3, 34, 35, 36, 19, 20, 21, 37, 38, 39, 40, 41, 42, 43, 44, 45, 46, 47, 48, 49, 50, 51, 52, 53, 54] (by decide +kernel) (by decide +kernel)
set_option maxRecDepth 20000 in
theorem gX5_looks_X5_goesOn : GoodIn wsX5_looks (wsV RX5 92 RX5 yX5_goesOn wsX5_goesOn) := goodIn_app (goodIn_of _ (by decide +kernel)) ggX5_looks_X5_goesOn
theorem dX5_looks_0 : decode cX5_looks 0 = .ok (.aload_n 0, 1) := by decide +kernel
theorem dX5_looks_1 : decode cX5_looks 1 = .ok (.iload_n 1, 1) := by decide +kernel
theorem dX5_looks_2 : decode cX5_looks 2 = .ok (.invokestatic 115, 3) := by decide +kernel
theorem dX5_looks_5 : decode cX5_looks 5 = .ok (.invokevirtual 154, 3) := by decide +kernel
theorem dX5_looks_8 : decode cX5_looks 8 = .ok (.ifCond .ne 5, 3) := by decide +kernel
theorem dX5_looks_11 : decode cX5_looks 11 = .ok (.iconst 0, 1) := by decide +kernel
theorem dX5_looks_12 : decode cX5_looks 12 = .ok (.ireturn, 1) := by decide +kernel
theorem dX5_looks_13 : decode cX5_looks 13 = .ok (.iconst 1, 1) := by decide +kernel
theorem dX5_looks_14 : decode cX5_looks 14 = .ok (.istore_n 2, 1) := by decide +kernel
theorem dX5_looks_15 : decode cX5_looks 15 = .ok (.aload_n 0, 1) := by decide +kernel
theorem dX5_looks_16 : decode cX5_looks 16 = .ok (.iload_n 1, 1) := by decide +kernel
theorem dX5_looks_17 : decode cX5_looks 17 = .ok (.invokevirtual 89, 3) := by decide +kernel
theorem dX5_looks_20 : decode cX5_looks 20 = .ok (.istore_n 3, 1) := by decide +kernel
theorem dX5_looks_21 : decode cX5_looks 21 = .ok (.aload_n 0, 1) := by decide +kernel
theorem dX5_looks_22 : decode cX5_looks 22 = .ok (.iload_n 3, 1) := by decide +kernel
theorem dX5_looks_23 : decode cX5_looks 23 = .ok (.iload_n 1, 1) := by decide +kernel
theorem dX5_looks_24 : decode cX5_looks 24 = .ok (.invokevirtual 92, 3) := by decide +kernel
theorem dX5_looks_27 : decode cX5_looks 27 = .ok (.ifCond .eq 12, 3) := by decide +kernel
theorem dX5_looks_30 : decode cX5_looks 30 = .ok (.iinc 2 1, 3) := by decide +kernel
theorem dX5_looks_33 : decode cX5_looks 33 = .ok (.iinc 3 1, 3) := by decide +kernel
theorem dX5_looks_36 : decode cX5_looks 36 = .ok (.goto (-15), 3) := by decide +kernel
theorem dX5_looks_39 : decode cX5_looks 39 = .ok (.iload_n 2, 1) := by decide +kernel
